/-! the law's helpers that catch what the class throws: their contracts, and the rows of the law that call them -/
section ZHP
variable {l : Launch} {dC : Nat → ClassId} {dI : Nat → Nat → Nat} {dA : Nat → ClassId} {sp : Nat → Nat} {xs : ZXs} {A : Nat → Prop}
def zx_px2 (dA : Nat → ClassId) (sp : Nat → Nat) (A : Nat → Prop) (kh : ERt) (ρ : List Int32) (ad : List Nat) : ZXS → Prop := zx_px dA sp A (fun w g => kh (some (eC 1)) w g) ρ ad
/-- behind the catch: astore, 1, ireturn -/
theorem zx_tail {p : Program} {e : Env} {R : Room} {s : State} {m : MethodId} {args : Array Value} {below : List Frame} {meth : Method} {c : Code} {bh : ByteArray} {nL pc n1 : Nat} {la : Array Slot} {lv : List (Nat × Value)} {q9 : Addr} {H1 : Heap} {locs1 : List Loc} {u : ZXS} {kh : ERt} {ρ : List Int32} {ad : List Nat}
    (hx : p.tables.exec = Jvm.exec) (hb : c.code = bh) (hr : meth.sig.returnType = some .int) (hlocks : meth.locks = false) (hl : lv_has la nL lv)
    (hast : ∀ Q : State → Prop, (∀ la' : Array Slot, W p l e R s m args below meth c H1 locs1 1 6 Q (F0 m n1 la' [])) → W p l e R s m args below meth c H1 locs1 1 6 Q (F0 m pc la [.ref q9]))
    (b15 : decode bh n1 = .ok (.iconst 1, 1)) (b16 : decode bh (n1 + 1) = .ok (.ireturn, 1))
    (hpx : zx_px2 dA sp A kh ρ ad u) (hP : va_P (dC, dI) vwCl u.2.2.2 H1) (hS1 : va_S A s.heap H1 locs1) : W p l e R s m args below meth c H1 locs1 1 6 (MQ below (ze_Qc dC dI dA sp A kh ρ ad) args s 1 6 A) (F0 m pc la [.ref q9]) := by
  refine hast _ (fun la' => ?_)
  refine lv_iconst hx hb b15 (v := 1) rfl ?_
  refine W.zret hx hb hr rfl (fun t ht hw => ?_) hS1.2.2 b16 hlocks
  exact ⟨⟨some (eC 1), u.1, u.2.1, u.2.2.1, u.2.2.2, some (.int 1), hpx.1, hpx.2.1, hpx.2.2.1, hpx.2.2.2.1, hpx.2.2.2.2.1, by rw [ht]; exact hP, hpx.2.2.2.2.2, (show Value.int 1 = .int (nI 1) from congrArg Value.int (by decide +kernel)), rfl⟩, hS1.F ht⟩


/-- behind the call: the answer is put into the cell ko, 0 answered -/
noncomputable def zx_jp : EJp := fun _ _ => false
abbrev zx_e (pc : Nat) : ECE := (Jvm.ClassFile.Instr.nop, pc, 0, 0, 0, [])
noncomputable def zx_fin (kh : ERt) : EKn := fun _ _ st w g nc ns => zl_0 st (zcd (Nat.beq nc 1) (zcd (Nat.beq ns 6) (kh (some (eC 0)) w g) false) false)
noncomputable def zx_kl (pc : Nat) (kh : ERt) : EKn := fun _ ls st w g nc ns => zo_last [zx_e (Nat.add pc 1)] 0 0 0 [] zx_jp (zx_fin kh) zx_no zS_no 1 6 ls st w g nc ns
noncomputable def zx_ri (pc ko : Nat) (kh : ERt) : ERt := fun r w g => match r with
  | some (.inl u) => zo_i2l [zx_e (Nat.add pc 1)] 0 0 0 [] zx_jp (zx_kl (Nat.add pc 1) kh) zx_no zS_no 1 6 [] [.inl u, eC 0, eR ko] w g 1 6
  | _ => false
noncomputable def zx_rl (pc ko : Nat) (kh : ERt) : ERt := fun r w g => match r with
  | some (.inr (.inl (.inr u))) => zx_kl pc kh [] [] [.inr (.inl (.inr u)), eC 0, eR ko] w g 1 6
  | _ => false
abbrev ZXR : Type := ZXS × EV
def zx_pi (dA : Nat → ClassId) (sp : Nat → Nat) (A : Nat → Prop) (kr : ERt) (ρ : List Int32) (ad : List Nat) : Int32 → ZXR → Prop := fun r u => kr (some u.2) u.1.1 u.1.2.1 = true ∧ ρ <+: u.1.2.2.1 ∧ ad <+: u.1.2.2.2.map (·.1) ∧ ze_G u.1.2.1 u.1.2.2.1 ∧ ze_W dA sp u.1.2.2.1 u.1.1 u.1.2.2.2 ∧ va_D A u.1.2.2.2 ∧ ze_V sp u.1.2.2.1 (u.1.2.2.2.map (·.1)) u.2 (.int r)
def zx_pl (dA : Nat → ClassId) (sp : Nat → Nat) (A : Nat → Prop) (kr : ERt) (ρ : List Int32) (ad : List Nat) : Int64 → ZXR → Prop := fun r u => kr (some u.2) u.1.1 u.1.2.1 = true ∧ ρ <+: u.1.2.2.1 ∧ ad <+: u.1.2.2.2.map (·.1) ∧ ze_G u.1.2.1 u.1.2.2.1 ∧ ze_W dA sp u.1.2.2.1 u.1.1 u.1.2.2.2 ∧ va_D A u.1.2.2.2 ∧ ze_V sp u.1.2.2.1 (u.1.2.2.2.map (·.1)) u.2 (.long r)
def zx_bu (dC : Nat → ClassId) (dI : Nat → Nat → Nat) : ZXR → State → Prop := fun u t => va_P (dC, dI) vwCl u.1.2.2.2 t.heap
theorem zx_mono {p : Program} {e : Env} {R : Room} {s : State} {m : MethodId} {args : Array Value} {below : List Frame} {meth : Method} {c : Code} {H : Heap} {locs : List Loc} {cells slots mc ms : Nat} {g : JFrame} {rest : List Value} {Qa Qb : State → Outcome → State → Prop} {XC : String → State → State → Prop} {free : Addr → Prop} (h : ∀ st o t, Qa st o t → Qb st o t) (hr : vx_Run p l e R s m args below meth c H locs cells slots mc ms g rest Qa XC free) : vx_Run p l e R s m args below meth c H locs cells slots mc ms g rest Qb XC free := by
  intro T hT X
  rcases hr T hT X with ⟨v, st₀, t, T', L, a, b, c1, d, e1, f, g1⟩ | h9
  · exact Or.inl ⟨v, st₀, t, T', L, a, b, c1, d, e1, h _ _ _ f, g1⟩
  · exact Or.inr h9
theorem zx_ri_of {pc ko : Nat} {kh : ERt} : ∀ r w g, zx_ri pc ko kh r w g = true → ∃ u : Nat ⊕ Nat, r = some (.inl u) := by
  intro r w g h
  unfold zx_ri at h
  split at h
  · exact ⟨_, rfl⟩
  · cases h
theorem zx_rl_of {pc ko : Nat} {kh : ERt} : ∀ r w g, zx_rl pc ko kh r w g = true → ∃ u : Nat ⊕ Nat, r = some (.inr (.inl (.inr u))) := by
  intro r w g h
  unfold zx_rl at h
  split at h
  · exact ⟨_, rfl⟩
  · cases h
theorem zx_Qi {kr : ERt} {ρ : List Int32} {ad : List Nat} {a : Array Value} (hk : ∀ r w g, kr r w g = true → ∃ u : Nat ⊕ Nat, r = some (.inl u)) {st : State} {o : Outcome} {t : State} (h : ze_Qc dC dI dA sp A kr ρ ad a st o t) : va_Qi (zx_pi dA sp A kr ρ ad) (zx_bu dC dI) A a st o t := by
  obtain ⟨⟨r, w', g', ρ', ws', v, k1, k2, k3, k4, k5, k6, k7, k8, k9⟩, hF⟩ := h
  obtain ⟨u, rfl⟩ := hk _ _ _ k1
  cases v with
  | none => exact absurd k8 (fun q => q)
  | some x =>
    obtain ⟨z, ez⟩ := ze_intV (show ze_V sp ρ' (ws'.map (·.1)) (.inl u) x from k8)
    subst ez
    exact ⟨⟨z, ((w', g', ρ', ws'), .inl u), k9, ⟨k1, k2, k3, k4, k5, k7, k8⟩, k6⟩, hF⟩
theorem zx_Ql {kr : ERt} {ρ : List Int32} {ad : List Nat} {a : Array Value} (hk : ∀ r w g, kr r w g = true → ∃ u : Nat ⊕ Nat, r = some (.inr (.inl (.inr u)))) {st : State} {o : Outcome} {t : State} (h : ze_Qc dC dI dA sp A kr ρ ad a st o t) : va_Ql (zx_pl dA sp A kr ρ ad) (zx_bu dC dI) A a st o t := by
  obtain ⟨⟨r, w', g', ρ', ws', v, k1, k2, k3, k4, k5, k6, k7, k8, k9⟩, hF⟩ := h
  obtain ⟨u, rfl⟩ := hk _ _ _ k1
  cases v with
  | none => exact absurd k8 (fun q => q)
  | some x =>
    obtain ⟨z, ez⟩ := ze_longV (show ze_V sp ρ' (ws'.map (·.1)) (.inr (.inl (.inr u))) x from k8)
    subst ez
    exact ⟨⟨z, ((w', g', ρ', ws'), .inr (.inl (.inr u))), k9, ⟨k1, k2, k3, k4, k5, k7, k8⟩, k6⟩, hF⟩
section ZHB
variable {p : Program} {e : Env} {R : Room} {s : State} {m : MethodId} {args : Array Value} {below : List Frame} {meth : Method} {c : Code} {bh : ByteArray} {nL pc n1 ko o9 : Nat} {off : Int} {la : Array Slot} {lv : List (Nat × Value)} {H1 : Heap} {locs1 : List Loc} {u : ZXR} {kh : ERt} {ρ : List Int32} {ad : List Nat}
theorem zx_fin_ok (hx : p.tables.exec = Jvm.exec) (hb : c.code = bh) (hr : meth.sig.returnType = some .int) (hlocks : meth.locks = false) (d10 : decode bh pc = .ok (.goto off, 3)) (ht : (pc : Int) + off = (n1 : Int)) (d11 : decode bh n1 = .ok (.iconst 0, 1)) (d12 : decode bh (n1 + 1) = .ok (.ireturn, 1)) : ze_KK p l e R s m args below meth c (MQ below (ze_Qc dC dI dA sp A kh ρ ad) args s 1 6 A) (ρ, ad) dC dI dA sp xs A nL (fun cs => ∃ r, cs = zx_e pc :: r) (zx_fin kh) := by
  intro cs ls st w g nc ns h pc9 hat ρ1 ws1 H2 locs2 la2 vs2 hH2
  obtain ⟨⟨r, rfl⟩, e9, r9, hcs, hpc⟩ := hat
  obtain ⟨rfl, rfl⟩ := List.cons.inj hcs
  have hpc : pc = pc9 := hpc
  subst hpc
  cases st with
  | cons a t => cases h
  | nil =>
    obtain ⟨h1, h⟩ := ze_condf (show zcd (Nat.beq nc 1) (zcd (Nat.beq ns 6) (kh (some (eC 0)) w g) false) false = true from h)
    obtain ⟨h2, h⟩ := ze_condf h
    have b1 := ze_beq h1
    have b2 := ze_beq h2
    subst b1; subst b2
    have b4 : vs2 = [] := hH2.2.2.2.2.2.2.2.nil
    subst b4
    refine lv_goto hx hb d10 ht ?_
    refine lv_iconst hx hb d11 (v := 0) rfl ?_
    exact W.zret hx hb hr rfl (fun t ht hw => ze_Qc_of (r := some (eC 0)) (v := some (.int 0)) hH2 hH2.2.1.2.1 hH2.2.1.2.2 h (show Value.int 0 = .int (nI 0) from congrArg Value.int (by decide +kernel)) ht) hH2.2.2.2.2.2.1.2.2 d12 hlocks
theorem zx_backl (hx : p.tables.exec = Jvm.exec) (hb : c.code = bh) (hr : meth.sig.returnType = some .int) (hlocks : meth.locks = false) (hl : lv_has la nL lv) (hKs : ze_K dC dI dA s) (d9 : decode bh pc = .ok (.lastore, 1)) (d10 : decode bh (pc + 1) = .ok (.goto off, 3)) (ht : ((pc + 1 : Nat) : Int) + off = (n1 : Int)) (d11 : decode bh n1 = .ok (.iconst 0, 1)) (d12 : decode bh (n1 + 1) = .ok (.ireturn, 1))
    (hX : ze_Z xs ρ) (V9 : ze_V sp ρ ad (eR ko) (.ref o9)) {r : Int64} (hpo : zx_pl dA sp A (zx_rl pc ko kh) ρ ad r u) (hP : va_P (dC, dI) vwCl u.1.2.2.2 H1) (hS1 : va_S A s.heap H1 locs1) : W p l e R s m args below meth c H1 locs1 1 6 (MQ below (ze_Qc dC dI dA sp A kh ρ ad) args s 1 6 A) (F0 m pc la [.long r, .int 0, .ref o9]) := by
  obtain ⟨⟨w', g', ρ', ws'⟩, v⟩ := u
  obtain ⟨hk, hρ, had, hG, hW, hD, hV⟩ := hpo
  obtain ⟨u9, hv9⟩ := zx_rl_of _ _ _ hk
  have hv9 : v = .inr (.inl (.inr u9)) := Option.some.inj hv9
  subst hv9
  have hH : ze_H (ρ, ad) dC dI dA sp xs A s nL [] [.inr (.inl (.inr u9)), eC 0, eR ko] w' g' ρ' ws' H1 locs1 la [.long r, .int 0, .ref o9] := ⟨hG, ⟨hX.mono hρ, hρ, had⟩, hW, hP, hD, hS1, ⟨lv, hl, fun i v h => by cases h⟩, ⟨hV, (show Value.int 0 = .int (nI 0) from congrArg Value.int (by decide +kernel)), V9.mono hρ had, trivial⟩⟩
  exact zs_last hx hb hKs ze_a5 d9 (zx_fin_ok hx hb hr hlocks d10 ht d11 d12) (pc := pc) ⟨⟨[], rfl⟩, _, _, rfl, rfl⟩ (show zo_last [zx_e (Nat.add pc 1)] 0 0 0 [] zx_jp (zx_fin kh) zx_no zS_no 1 6 [] [.inr (.inl (.inr u9)), eC 0, eR ko] w' g' 1 6 = true from hk) hH
theorem zx_backi (hx : p.tables.exec = Jvm.exec) (hb : c.code = bh) (hr : meth.sig.returnType = some .int) (hlocks : meth.locks = false) (hl : lv_has la nL lv) (hKs : ze_K dC dI dA s) (d8 : decode bh pc = .ok (.i2l, 1)) (d9 : decode bh (pc + 1) = .ok (.lastore, 1)) (d10 : decode bh (pc + 1 + 1) = .ok (.goto off, 3)) (ht : ((pc + 1 + 1 : Nat) : Int) + off = (n1 : Int)) (d11 : decode bh n1 = .ok (.iconst 0, 1)) (d12 : decode bh (n1 + 1) = .ok (.ireturn, 1))
    (hX : ze_Z xs ρ) (V9 : ze_V sp ρ ad (eR ko) (.ref o9)) {r : Int32} (hpo : zx_pi dA sp A (zx_ri pc ko kh) ρ ad r u) (hP : va_P (dC, dI) vwCl u.1.2.2.2 H1) (hS1 : va_S A s.heap H1 locs1) : W p l e R s m args below meth c H1 locs1 1 6 (MQ below (ze_Qc dC dI dA sp A kh ρ ad) args s 1 6 A) (F0 m pc la [.int r, .int 0, .ref o9]) := by
  obtain ⟨⟨w', g', ρ', ws'⟩, v⟩ := u
  obtain ⟨hk, hρ, had, hG, hW, hD, hV⟩ := hpo
  obtain ⟨u9, hv9⟩ := zx_ri_of _ _ _ hk
  have hv9 : v = .inl u9 := Option.some.inj hv9
  subst hv9
  have hH : ze_H (ρ, ad) dC dI dA sp xs A s nL [] [.inl u9, eC 0, eR ko] w' g' ρ' ws' H1 locs1 la [.int r, .int 0, .ref o9] := ⟨hG, ⟨hX.mono hρ, hρ, had⟩, hW, hP, hD, hS1, ⟨lv, hl, fun i v h => by cases h⟩, ⟨hV, (show Value.int 0 = .int (nI 0) from congrArg Value.int (by decide +kernel)), V9.mono hρ had, trivial⟩⟩
  refine zs_i2l (pc := pc) (pc2 := pc + 1) (nx := [zx_e (Nat.add pc 1)]) (V := fun cs => ∃ r, cs = zx_e (pc + 1) :: r) (kk := zx_kl (Nat.add pc 1) kh) (jp := zx_jp) (k := zx_no) (cal := zS_no) (mc := 1) (ms := 6) (ca := 0) (cb := 0) (cd := 0) (tl := []) ?_ ⟨⟨[], rfl⟩, _, _, rfl, rfl⟩ (show zo_i2l [zx_e (Nat.add pc 1)] 0 0 0 [] zx_jp (zx_kl (Nat.add pc 1) kh) zx_no zS_no 1 6 [] [.inl u9, eC 0, eR ko] w' g' 1 6 = true from hk) hH (fun x rest k9 => lv_i2l hx hb d8 rfl k9)
  intro cs ls st w g nc ns h pc9 hat ρ1 ws1 H2 locs2 la2 vs2 hH2
  obtain ⟨⟨r, rfl⟩, e9, r9, hcs, hpc⟩ := hat
  obtain ⟨rfl, rfl⟩ := List.cons.inj hcs
  have hpc : pc + 1 = pc9 := hpc
  subst hpc
  exact zs_last hx hb hKs ze_a5 d9 (zx_fin_ok hx hb hr hlocks d10 ht d11 d12) (pc := pc + 1) ⟨⟨[], rfl⟩, _, _, rfl, rfl⟩ (show zo_last [zx_e (Nat.add (pc + 1) 1)] 0 0 0 [] zx_jp (zx_fin kh) zx_no zS_no 1 6 ls st w g nc ns = true from h) hH2
end ZHB

theorem zx_law (hl : l.stackTraces = false) {cal : ECal} {n d : Nat} {w : EW} {g : EG} {kh : ERt} {kx ko : Nat} {u1 u2 : Nat ⊕ Nat} (hd : 5 ≤ d) (hcal : ze_CalA l dC dI dA sp xs A cal d) (hrc : ze_rc w 12 [eR kx, .inl u1, .inl u2] = true) (h : zx_run (zp_X11_law, 3, 0, 0) cal 20 n (zx_ri 8 ko kh) [eR kx, .inl u1, .inl u2] w g (fun w g => kh (some (eC 1)) w g) = true)
    {ρ : List Int32} {ws : va_W} {avs : List Value} (hG : ze_G g ρ) (hX : ze_Z xs ρ) (hW : ze_W dA sp ρ w ws) (hL : ze_L sp ρ (ws.map (·.1)) [eR kx, .inl u1, .inl u2, eR ko] avs) :
    Met l yL_law (.codeWith yL_law cL_law 5 (some .int) [(0, 10, 13, 13)] :: zb_T) (ze_rm (d + 2) 1 6) (va_Pc avs (zx_Pc dC dI dA sp xs A ws)) (ze_Qc dC dI dA sp A kh ρ (ws.map (·.1))) 1 6 A := by
  obtain ⟨y1, r1, q1, V1, L1⟩ := hL.cons
  obtain ⟨y2, r2, q2, V2, L2⟩ := L1.cons
  obtain ⟨y3, r3, q3, V3, L3⟩ := L2.cons
  obtain ⟨y9, r9, q9, V9, L9⟩ := L3.cons
  have q10 := L9.nil
  subst q10; subst q9; subst q3; subst q2; subst q1
  obtain ⟨a, ha, rfl⟩ := id V1
  obtain ⟨o9, -, rfl⟩ := id V9
  have hi2 : ∃ x : Int32, y2 = .int x := by
    rcases u1 with z | z
    · exact ⟨_, V2⟩
    · obtain ⟨x, -, hx⟩ := id V2
      exact ⟨x, hx⟩
  obtain ⟨x2, rfl⟩ := hi2
  have hi3 : ∃ x : Int32, y3 = .int x := by
    rcases u2 with z | z
    · exact ⟨_, V3⟩
    · obtain ⟨x, -, hx⟩ := id V3
      exact ⟨x, hx⟩
  obtain ⟨x3, rfl⟩ := hi3
  rw [ze_rc_eq] at hrc
  have hrc : ze_g w kx (fun e => Nat.beq e.1 11) = true := hrc
  obtain ⟨cl, g1, g2⟩ := ze_g_spec hrc
  obtain ⟨a2, en, ex, hw, hC⟩ := hW.ref g1 V1
  cases ex
  have e11 := ze_beq g2
  obtain ⟨fs, ef, -⟩ := hC.obj (by rw [e11]; decide)
  rw [e11] at ef
  subst ef
  have hM := zx_met (l := l) (dC := dC) (dI := dI) (dA := dA) (sp := sp) (xs := xs) (A := A) hl (y := 131) (q := (yX11_law, cX11_law, 3, some .int, 11, 0, 0)) rfl (m9 := (zp_X11_law, 3, 0, 0)) rfl rfl rfl (pn := 20) (by decide +kernel) (by decide +kernel) (by decide +kernel) (by decide +kernel) hd hcal h hG hX hW (avs := [.ref a, .int x2, .int x3]) ⟨V1, V2, V3, trivial⟩
  refine va_MetW (cc := cL_law) (maxL := 5) (ret := some .int) (hh := [(0, 10, 13, 13)]) (by decide) rfl ?_
  intro p e s m args below meth c s₁ B hml hP
  obtain ⟨rfl, ⟨hP1, hP2, hP3, hP4, hP5⟩, hZ⟩ := hP
  have hts0 := atoms_spec (ws := Cond.codeWith yL_law cL_law 5 (some .int) [(0, 10, 13, 13)] :: zb_T) B.pre
  have hts : ∀ w ∈ zb_T, w.before ([Value.ref a, .int x2, .int x3, .ref o9] : List Value).toArray s = true := fun w hw => hts0 w (List.mem_cons_of_mem _ hw)
  have hown : s.vm.findClass RL = some m.cls := findClass_of_methodNamed B.named
  have htab := vx_table (x := yL_law) B (hts0 _ List.mem_cons_self)
  rw [lg_entry_eq]
  have hl2 := lv_entry ([Value.ref a, .int x2, .int x3, .ref o9] : List Value) (n := 5) (by show 4 ≤ 5; decide)
  generalize ((lg_sl ([Value.ref a, .int x2, .int x3, .ref o9] : List Value) ++ List.replicate (5 - (lg_sl ([Value.ref a, .int x2, .int x3, .ref o9] : List Value)).length) Slot.unset).toArray) = la at hl2
  have hl3 : lv_has la 5 [(0, .ref a), (1, .int x2), (2, .int x3), (3, .ref o9)] := hl2
  refine lv_aload_n B.exec B.bytes (k := 3) (i := 3) (x := o9) (by decide +kernel) rfl (lv_at hl3 3 rfl) ?_
  refine lv_iconst B.exec B.bytes (n := 0) (v := 0) (by decide +kernel) rfl ?_
  refine lv_aload_n B.exec B.bytes (k := 0) (i := 0) (x := a) (by decide +kernel) rfl (lv_at hl3 0 rfl) ?_
  refine lv_iload_n B.exec B.bytes (k := 1) (i := 1) (x := x2) (by decide +kernel) rfl (lv_at hl3 1 rfl) ?_
  refine lv_iload_n B.exec B.bytes (k := 2) (i := 2) (x := x3) (by decide +kernel) rfl (lv_at hl3 2 rfl) ?_
  have hrm := ze_room (R := (headSpec (Cond.codeWith yL_law cL_law 5 (some .int) [(0, 10, 13, 13)] :: zb_T) (ze_rm (d + 2) 1 6)).room) (cy := 1) (sy := 6) (yL := 3) (d := d + 1) ⟨Nat.le_refl _, Nat.le_refl _⟩ (by decide)
  have hPv : PreV s s.heap RX11 a (va_Pc [.ref a, .int x2, .int x3] (zx_Pc dC dI dA sp xs A ws)) [.int x2, .int x3] := ⟨zx_blind, va_recv hP2.k0 hP1 (ci := 11) rfl hw, fun U hU hWm => ⟨rfl, ⟨by rw [hU]; exact hP1, hP2.warm hWm, hP3, fun q hq => hP4 q (by rw [← hU]; exact hq), by rw [hU]; exact hP5.1.moved hWm.alike, by rw [hU]; exact hP5.2.1, hP5.2.2.1, hP5.2.2.2.1, hP5.2.2.2.2.1, hP5.2.2.2.2.2.at (locs := []) (by rw [hU]; exact va_S.rf) hWm⟩, hZ.at (locs := []) (by rw [hU]; exact va_S.rf) hWm⟩⟩
  have hrun := zx_mono (fun st o t hq => zx_Qi zx_ri_of hq) (vx_runV (e := e) (below := below) (H := s.heap) (locs := []) (cells := 0) (slots := 0) (meth := meth) (As := [.int x2, .int x3]) (rest := [.int 0, .ref o9]) (C := RX11) (g := F0 m 5 la ([.int x3, .int x2] ++ [.ref a, .int 0, .ref o9])) ⟨B.exec, B.bytes, hml, hown, hts⟩ hM (cwV 2 hts (zg_in ?_) rfl rfl rfl ⟨rfl, by decide, by decide, by decide +kernel⟩ hrm) hPv rfl rfl hl3.1 rfl (by show 2 * 0 + (1 + (1 + 0)) ≤ 8; decide) (show decode cL_law 5 = .ok (.invokevirtual 7, 3) by decide +kernel) ⟨Nat.le_refl _, Nat.le_refl _⟩)
  · refine vx_calli hrun va_S.rf (fun q _ hq => hq) (fun q hq => hq) (fun q _ hq => hq) ?_ ?_
    · intro E ce q9 u t H1 locs1 ht hal hpx hbx hsz hkeep hS1 hce hcv hcl
      obtain ⟨rfl, hP9⟩ := hbx
      refine zx_catch (own := RL) (name := zx_E) hown ⟨0, 10, 13, 13⟩ [] htab (by decide) (by decide) (hts _ (zb_in (zc_5 (List.mem_of_getElem? (i := 223) rfl)) rfl)) (va_Nw.use rfl (hZ.2.2 _ zx_w5)) hce hcv hcl ?_
      exact zx_tail (kh := kh) B.exec B.bytes B.returns B.notSynchronized hl3 (fun Q k9 => lv_astore B.exec B.bytes (i := 4) (by decide +kernel) hl3 (by decide) rfl (fun la' _ => k9 la')) (by decide +kernel) (by decide +kernel) hpx (by rw [← ht]; exact hP9) hS1
    · intro r u t H1 locs1 ht hal hpo hbu hsz hkeep hS1
      exact zx_backi (kh := kh) B.exec B.bytes B.returns B.notSynchronized hl3 hP2 (off := 7) (n1 := 17) (by decide +kernel) (by decide +kernel) (by decide +kernel) rfl (by decide +kernel) (by decide +kernel) hX V9 hpo (by rw [← ht]; exact hbu) hS1
  · intro w' hw'
    rcases List.mem_append.mp hw' with h9 | h9
    · simp only [List.mem_cons, List.not_mem_nil, or_false] at h9
      rcases h9 with rfl | rfl | rfl | rfl
      · exact zb_in (zc_5 (List.mem_of_getElem? (i := 224) rfl)) rfl
      · exact zb_in (zc_5 (List.mem_of_getElem? (i := 225) rfl)) rfl
      · exact zb_in (zc_5 (List.mem_of_getElem? (i := 226) rfl)) rfl
      · exact zb_in (zc_1 (List.mem_of_getElem? (i := 1) rfl)) rfl
    · exact zg_code (zb_in (zc_5 (List.mem_of_getElem? (i := 227) rfl)) rfl) w' h9

theorem zx_bit (hl : l.stackTraces = false) {cal : ECal} {n d : Nat} {w : EW} {g : EG} {kh : ERt} {kx ko : Nat} {u1 u2 : Nat ⊕ Nat} (hd : 5 ≤ d) (hcal : ze_CalA l dC dI dA sp xs A cal d) (hrc : ze_rc w 12 [eR kx, .inl u1, .inl u2] = true) (h : zx_run (zp_X11_bit, 3, 0, 0) cal 12 n (zx_ri 8 ko kh) [eR kx, .inl u1, .inl u2] w g (fun w g => kh (some (eC 1)) w g) = true)
    {ρ : List Int32} {ws : va_W} {avs : List Value} (hG : ze_G g ρ) (hX : ze_Z xs ρ) (hW : ze_W dA sp ρ w ws) (hL : ze_L sp ρ (ws.map (·.1)) [eR kx, .inl u1, .inl u2, eR ko] avs) :
    Met l yL_bit (.codeWith yL_bit cL_bit 5 (some .int) [(0, 10, 13, 13)] :: zb_T) (ze_rm (d + 2) 1 6) (va_Pc avs (zx_Pc dC dI dA sp xs A ws)) (ze_Qc dC dI dA sp A kh ρ (ws.map (·.1))) 1 6 A := by
  obtain ⟨y1, r1, q1, V1, L1⟩ := hL.cons
  obtain ⟨y2, r2, q2, V2, L2⟩ := L1.cons
  obtain ⟨y3, r3, q3, V3, L3⟩ := L2.cons
  obtain ⟨y9, r9, q9, V9, L9⟩ := L3.cons
  have q10 := L9.nil
  subst q10; subst q9; subst q3; subst q2; subst q1
  obtain ⟨a, ha, rfl⟩ := id V1
  obtain ⟨o9, -, rfl⟩ := id V9
  have hi2 : ∃ x : Int32, y2 = .int x := by
    rcases u1 with z | z
    · exact ⟨_, V2⟩
    · obtain ⟨x, -, hx⟩ := id V2
      exact ⟨x, hx⟩
  obtain ⟨x2, rfl⟩ := hi2
  have hi3 : ∃ x : Int32, y3 = .int x := by
    rcases u2 with z | z
    · exact ⟨_, V3⟩
    · obtain ⟨x, -, hx⟩ := id V3
      exact ⟨x, hx⟩
  obtain ⟨x3, rfl⟩ := hi3
  rw [ze_rc_eq] at hrc
  have hrc : ze_g w kx (fun e => Nat.beq e.1 11) = true := hrc
  obtain ⟨cl, g1, g2⟩ := ze_g_spec hrc
  obtain ⟨a2, en, ex, hw, hC⟩ := hW.ref g1 V1
  cases ex
  have e11 := ze_beq g2
  obtain ⟨fs, ef, -⟩ := hC.obj (by rw [e11]; decide)
  rw [e11] at ef
  subst ef
  have hM := zx_met (l := l) (dC := dC) (dI := dI) (dA := dA) (sp := sp) (xs := xs) (A := A) hl (y := 132) (q := (yX11_bit, cX11_bit, 3, some .int, 11, 0, 0)) rfl (m9 := (zp_X11_bit, 3, 0, 0)) rfl rfl rfl (pn := 12) (by decide +kernel) (by decide +kernel) (by decide +kernel) (by decide +kernel) hd hcal h hG hX hW (avs := [.ref a, .int x2, .int x3]) ⟨V1, V2, V3, trivial⟩
  refine va_MetW (cc := cL_bit) (maxL := 5) (ret := some .int) (hh := [(0, 10, 13, 13)]) (by decide) rfl ?_
  intro p e s m args below meth c s₁ B hml hP
  obtain ⟨rfl, ⟨hP1, hP2, hP3, hP4, hP5⟩, hZ⟩ := hP
  have hts0 := atoms_spec (ws := Cond.codeWith yL_bit cL_bit 5 (some .int) [(0, 10, 13, 13)] :: zb_T) B.pre
  have hts : ∀ w ∈ zb_T, w.before ([Value.ref a, .int x2, .int x3, .ref o9] : List Value).toArray s = true := fun w hw => hts0 w (List.mem_cons_of_mem _ hw)
  have hown : s.vm.findClass RL = some m.cls := findClass_of_methodNamed B.named
  have htab := vx_table (x := yL_bit) B (hts0 _ List.mem_cons_self)
  rw [lg_entry_eq]
  have hl2 := lv_entry ([Value.ref a, .int x2, .int x3, .ref o9] : List Value) (n := 5) (by show 4 ≤ 5; decide)
  generalize ((lg_sl ([Value.ref a, .int x2, .int x3, .ref o9] : List Value) ++ List.replicate (5 - (lg_sl ([Value.ref a, .int x2, .int x3, .ref o9] : List Value)).length) Slot.unset).toArray) = la at hl2
  have hl3 : lv_has la 5 [(0, .ref a), (1, .int x2), (2, .int x3), (3, .ref o9)] := hl2
  refine lv_aload_n B.exec B.bytes (k := 3) (i := 3) (x := o9) (by decide +kernel) rfl (lv_at hl3 3 rfl) ?_
  refine lv_iconst B.exec B.bytes (n := 0) (v := 0) (by decide +kernel) rfl ?_
  refine lv_aload_n B.exec B.bytes (k := 0) (i := 0) (x := a) (by decide +kernel) rfl (lv_at hl3 0 rfl) ?_
  refine lv_iload_n B.exec B.bytes (k := 1) (i := 1) (x := x2) (by decide +kernel) rfl (lv_at hl3 1 rfl) ?_
  refine lv_iload_n B.exec B.bytes (k := 2) (i := 2) (x := x3) (by decide +kernel) rfl (lv_at hl3 2 rfl) ?_
  have hrm := ze_room (R := (headSpec (Cond.codeWith yL_bit cL_bit 5 (some .int) [(0, 10, 13, 13)] :: zb_T) (ze_rm (d + 2) 1 6)).room) (cy := 1) (sy := 6) (yL := 3) (d := d + 1) ⟨Nat.le_refl _, Nat.le_refl _⟩ (by decide)
  have hPv : PreV s s.heap RX11 a (va_Pc [.ref a, .int x2, .int x3] (zx_Pc dC dI dA sp xs A ws)) [.int x2, .int x3] := ⟨zx_blind, va_recv hP2.k0 hP1 (ci := 11) rfl hw, fun U hU hWm => ⟨rfl, ⟨by rw [hU]; exact hP1, hP2.warm hWm, hP3, fun q hq => hP4 q (by rw [← hU]; exact hq), by rw [hU]; exact hP5.1.moved hWm.alike, by rw [hU]; exact hP5.2.1, hP5.2.2.1, hP5.2.2.2.1, hP5.2.2.2.2.1, hP5.2.2.2.2.2.at (locs := []) (by rw [hU]; exact va_S.rf) hWm⟩, hZ.at (locs := []) (by rw [hU]; exact va_S.rf) hWm⟩⟩
  have hrun := zx_mono (fun st o t hq => zx_Qi zx_ri_of hq) (vx_runV (e := e) (below := below) (H := s.heap) (locs := []) (cells := 0) (slots := 0) (meth := meth) (As := [.int x2, .int x3]) (rest := [.int 0, .ref o9]) (C := RX11) (g := F0 m 5 la ([.int x3, .int x2] ++ [.ref a, .int 0, .ref o9])) ⟨B.exec, B.bytes, hml, hown, hts⟩ hM (cwV 2 hts (zg_in ?_) rfl rfl rfl ⟨rfl, by decide, by decide, by decide +kernel⟩ hrm) hPv rfl rfl hl3.1 rfl (by show 2 * 0 + (1 + (1 + 0)) ≤ 8; decide) (show decode cL_bit 5 = .ok (.invokevirtual 15, 3) by decide +kernel) ⟨Nat.le_refl _, Nat.le_refl _⟩)
  · refine vx_calli hrun va_S.rf (fun q _ hq => hq) (fun q hq => hq) (fun q _ hq => hq) ?_ ?_
    · intro E ce q9 u t H1 locs1 ht hal hpx hbx hsz hkeep hS1 hce hcv hcl
      obtain ⟨rfl, hP9⟩ := hbx
      refine zx_catch (own := RL) (name := zx_E) hown ⟨0, 10, 13, 13⟩ [] htab (by decide) (by decide) (hts _ (zb_in (zc_5 (List.mem_of_getElem? (i := 223) rfl)) rfl)) (va_Nw.use rfl (hZ.2.2 _ zx_w5)) hce hcv hcl ?_
      exact zx_tail (kh := kh) B.exec B.bytes B.returns B.notSynchronized hl3 (fun Q k9 => lv_astore B.exec B.bytes (i := 4) (by decide +kernel) hl3 (by decide) rfl (fun la' _ => k9 la')) (by decide +kernel) (by decide +kernel) hpx (by rw [← ht]; exact hP9) hS1
    · intro r u t H1 locs1 ht hal hpo hbu hsz hkeep hS1
      exact zx_backi (kh := kh) B.exec B.bytes B.returns B.notSynchronized hl3 hP2 (off := 7) (n1 := 17) (by decide +kernel) (by decide +kernel) (by decide +kernel) rfl (by decide +kernel) (by decide +kernel) hX V9 hpo (by rw [← ht]; exact hbu) hS1
  · intro w' hw'
    rcases List.mem_append.mp hw' with h9 | h9
    · simp only [List.mem_cons, List.not_mem_nil, or_false] at h9
      rcases h9 with rfl | rfl | rfl | rfl
      · exact zb_in (zc_6 (List.mem_of_getElem? (i := 57) rfl)) rfl
      · exact zb_in (zc_6 (List.mem_of_getElem? (i := 58) rfl)) rfl
      · exact zb_in (zc_6 (List.mem_of_getElem? (i := 59) rfl)) rfl
      · exact zb_in (zc_1 (List.mem_of_getElem? (i := 1) rfl)) rfl
    · exact zg_code (zb_in (zc_6 (List.mem_of_getElem? (i := 60) rfl)) rfl) w' h9

theorem zx_one (hl : l.stackTraces = false) {cal : ECal} {n d : Nat} {w : EW} {g : EG} {kh : ERt} {kx ko : Nat} {u1 u2 : Nat ⊕ Nat} (hd : 5 ≤ d) (hcal : ze_CalA l dC dI dA sp xs A cal d) (hrc : ze_rc w 12 [eR kx, .inl u1, .inl u2] = true) (h : zx_run (zp_X11_one, 3, 0, 0) cal 20 n (zx_ri 8 ko kh) [eR kx, .inl u1, .inl u2] w g (fun w g => kh (some (eC 1)) w g) = true)
    {ρ : List Int32} {ws : va_W} {avs : List Value} (hG : ze_G g ρ) (hX : ze_Z xs ρ) (hW : ze_W dA sp ρ w ws) (hL : ze_L sp ρ (ws.map (·.1)) [eR kx, .inl u1, .inl u2, eR ko] avs) :
    Met l yL_one (.codeWith yL_one cL_one 5 (some .int) [(0, 10, 13, 13)] :: zb_T) (ze_rm (d + 2) 1 6) (va_Pc avs (zx_Pc dC dI dA sp xs A ws)) (ze_Qc dC dI dA sp A kh ρ (ws.map (·.1))) 1 6 A := by
  obtain ⟨y1, r1, q1, V1, L1⟩ := hL.cons
  obtain ⟨y2, r2, q2, V2, L2⟩ := L1.cons
  obtain ⟨y3, r3, q3, V3, L3⟩ := L2.cons
  obtain ⟨y9, r9, q9, V9, L9⟩ := L3.cons
  have q10 := L9.nil
  subst q10; subst q9; subst q3; subst q2; subst q1
  obtain ⟨a, ha, rfl⟩ := id V1
  obtain ⟨o9, -, rfl⟩ := id V9
  have hi2 : ∃ x : Int32, y2 = .int x := by
    rcases u1 with z | z
    · exact ⟨_, V2⟩
    · obtain ⟨x, -, hx⟩ := id V2
      exact ⟨x, hx⟩
  obtain ⟨x2, rfl⟩ := hi2
  have hi3 : ∃ x : Int32, y3 = .int x := by
    rcases u2 with z | z
    · exact ⟨_, V3⟩
    · obtain ⟨x, -, hx⟩ := id V3
      exact ⟨x, hx⟩
  obtain ⟨x3, rfl⟩ := hi3
  rw [ze_rc_eq] at hrc
  have hrc : ze_g w kx (fun e => Nat.beq e.1 11) = true := hrc
  obtain ⟨cl, g1, g2⟩ := ze_g_spec hrc
  obtain ⟨a2, en, ex, hw, hC⟩ := hW.ref g1 V1
  cases ex
  have e11 := ze_beq g2
  obtain ⟨fs, ef, -⟩ := hC.obj (by rw [e11]; decide)
  rw [e11] at ef
  subst ef
  have hM := zx_met (l := l) (dC := dC) (dI := dI) (dA := dA) (sp := sp) (xs := xs) (A := A) hl (y := 133) (q := (yX11_one, cX11_one, 3, some .int, 11, 0, 0)) rfl (m9 := (zp_X11_one, 3, 0, 0)) rfl rfl rfl (pn := 20) (by decide +kernel) (by decide +kernel) (by decide +kernel) (by decide +kernel) hd hcal h hG hX hW (avs := [.ref a, .int x2, .int x3]) ⟨V1, V2, V3, trivial⟩
  refine va_MetW (cc := cL_one) (maxL := 5) (ret := some .int) (hh := [(0, 10, 13, 13)]) (by decide) rfl ?_
  intro p e s m args below meth c s₁ B hml hP
  obtain ⟨rfl, ⟨hP1, hP2, hP3, hP4, hP5⟩, hZ⟩ := hP
  have hts0 := atoms_spec (ws := Cond.codeWith yL_one cL_one 5 (some .int) [(0, 10, 13, 13)] :: zb_T) B.pre
  have hts : ∀ w ∈ zb_T, w.before ([Value.ref a, .int x2, .int x3, .ref o9] : List Value).toArray s = true := fun w hw => hts0 w (List.mem_cons_of_mem _ hw)
  have hown : s.vm.findClass RL = some m.cls := findClass_of_methodNamed B.named
  have htab := vx_table (x := yL_one) B (hts0 _ List.mem_cons_self)
  rw [lg_entry_eq]
  have hl2 := lv_entry ([Value.ref a, .int x2, .int x3, .ref o9] : List Value) (n := 5) (by show 4 ≤ 5; decide)
  generalize ((lg_sl ([Value.ref a, .int x2, .int x3, .ref o9] : List Value) ++ List.replicate (5 - (lg_sl ([Value.ref a, .int x2, .int x3, .ref o9] : List Value)).length) Slot.unset).toArray) = la at hl2
  have hl3 : lv_has la 5 [(0, .ref a), (1, .int x2), (2, .int x3), (3, .ref o9)] := hl2
  refine lv_aload_n B.exec B.bytes (k := 3) (i := 3) (x := o9) (by decide +kernel) rfl (lv_at hl3 3 rfl) ?_
  refine lv_iconst B.exec B.bytes (n := 0) (v := 0) (by decide +kernel) rfl ?_
  refine lv_aload_n B.exec B.bytes (k := 0) (i := 0) (x := a) (by decide +kernel) rfl (lv_at hl3 0 rfl) ?_
  refine lv_iload_n B.exec B.bytes (k := 1) (i := 1) (x := x2) (by decide +kernel) rfl (lv_at hl3 1 rfl) ?_
  refine lv_iload_n B.exec B.bytes (k := 2) (i := 2) (x := x3) (by decide +kernel) rfl (lv_at hl3 2 rfl) ?_
  have hrm := ze_room (R := (headSpec (Cond.codeWith yL_one cL_one 5 (some .int) [(0, 10, 13, 13)] :: zb_T) (ze_rm (d + 2) 1 6)).room) (cy := 1) (sy := 6) (yL := 3) (d := d + 1) ⟨Nat.le_refl _, Nat.le_refl _⟩ (by decide)
  have hPv : PreV s s.heap RX11 a (va_Pc [.ref a, .int x2, .int x3] (zx_Pc dC dI dA sp xs A ws)) [.int x2, .int x3] := ⟨zx_blind, va_recv hP2.k0 hP1 (ci := 11) rfl hw, fun U hU hWm => ⟨rfl, ⟨by rw [hU]; exact hP1, hP2.warm hWm, hP3, fun q hq => hP4 q (by rw [← hU]; exact hq), by rw [hU]; exact hP5.1.moved hWm.alike, by rw [hU]; exact hP5.2.1, hP5.2.2.1, hP5.2.2.2.1, hP5.2.2.2.2.1, hP5.2.2.2.2.2.at (locs := []) (by rw [hU]; exact va_S.rf) hWm⟩, hZ.at (locs := []) (by rw [hU]; exact va_S.rf) hWm⟩⟩
  have hrun := zx_mono (fun st o t hq => zx_Qi zx_ri_of hq) (vx_runV (e := e) (below := below) (H := s.heap) (locs := []) (cells := 0) (slots := 0) (meth := meth) (As := [.int x2, .int x3]) (rest := [.int 0, .ref o9]) (C := RX11) (g := F0 m 5 la ([.int x3, .int x2] ++ [.ref a, .int 0, .ref o9])) ⟨B.exec, B.bytes, hml, hown, hts⟩ hM (cwV 2 hts (zg_in ?_) rfl rfl rfl ⟨rfl, by decide, by decide, by decide +kernel⟩ hrm) hPv rfl rfl hl3.1 rfl (by show 2 * 0 + (1 + (1 + 0)) ≤ 8; decide) (show decode cL_one 5 = .ok (.invokevirtual 18, 3) by decide +kernel) ⟨Nat.le_refl _, Nat.le_refl _⟩)
  · refine vx_calli hrun va_S.rf (fun q _ hq => hq) (fun q hq => hq) (fun q _ hq => hq) ?_ ?_
    · intro E ce q9 u t H1 locs1 ht hal hpx hbx hsz hkeep hS1 hce hcv hcl
      obtain ⟨rfl, hP9⟩ := hbx
      refine zx_catch (own := RL) (name := zx_E) hown ⟨0, 10, 13, 13⟩ [] htab (by decide) (by decide) (hts _ (zb_in (zc_5 (List.mem_of_getElem? (i := 223) rfl)) rfl)) (va_Nw.use rfl (hZ.2.2 _ zx_w5)) hce hcv hcl ?_
      exact zx_tail (kh := kh) B.exec B.bytes B.returns B.notSynchronized hl3 (fun Q k9 => lv_astore B.exec B.bytes (i := 4) (by decide +kernel) hl3 (by decide) rfl (fun la' _ => k9 la')) (by decide +kernel) (by decide +kernel) hpx (by rw [← ht]; exact hP9) hS1
    · intro r u t H1 locs1 ht hal hpo hbu hsz hkeep hS1
      exact zx_backi (kh := kh) B.exec B.bytes B.returns B.notSynchronized hl3 hP2 (off := 7) (n1 := 17) (by decide +kernel) (by decide +kernel) (by decide +kernel) rfl (by decide +kernel) (by decide +kernel) hX V9 hpo (by rw [← ht]; exact hbu) hS1
  · intro w' hw'
    rcases List.mem_append.mp hw' with h9 | h9
    · simp only [List.mem_cons, List.not_mem_nil, or_false] at h9
      rcases h9 with rfl | rfl | rfl | rfl
      · exact zb_in (zc_6 (List.mem_of_getElem? (i := 64) rfl)) rfl
      · exact zb_in (zc_6 (List.mem_of_getElem? (i := 65) rfl)) rfl
      · exact zb_in (zc_6 (List.mem_of_getElem? (i := 66) rfl)) rfl
      · exact zb_in (zc_1 (List.mem_of_getElem? (i := 1) rfl)) rfl
    · exact zg_code (zb_in (zc_6 (List.mem_of_getElem? (i := 67) rfl)) rfl) w' h9

theorem zx_row (hl : l.stackTraces = false) {cal : ECal} {n d : Nat} {w : EW} {g : EG} {kh : ERt} {kx ko : Nat} {u1 : Nat ⊕ Nat} (hd : 5 ≤ d) (hcal : ze_CalA l dC dI dA sp xs A cal d) (hrc : ze_rc w 12 [eR kx, .inl u1] = true) (h : zx_run (zp_X11_row, 2, 0, 0) cal 17 n (zx_rl 7 ko kh) [eR kx, .inl u1] w g (fun w g => kh (some (eC 1)) w g) = true)
    {ρ : List Int32} {ws : va_W} {avs : List Value} (hG : ze_G g ρ) (hX : ze_Z xs ρ) (hW : ze_W dA sp ρ w ws) (hL : ze_L sp ρ (ws.map (·.1)) [eR kx, .inl u1, eR ko] avs) :
    Met l yL_row (.codeWith yL_row cL_row 4 (some .int) [(0, 8, 11, 13)] :: zb_T) (ze_rm (d + 2) 1 6) (va_Pc avs (zx_Pc dC dI dA sp xs A ws)) (ze_Qc dC dI dA sp A kh ρ (ws.map (·.1))) 1 6 A := by
  obtain ⟨y1, r1, q1, V1, L1⟩ := hL.cons
  obtain ⟨y2, r2, q2, V2, L2⟩ := L1.cons
  obtain ⟨y9, r9, q9, V9, L9⟩ := L2.cons
  have q10 := L9.nil
  subst q10; subst q9; subst q2; subst q1
  obtain ⟨a, ha, rfl⟩ := id V1
  obtain ⟨o9, -, rfl⟩ := id V9
  have hi2 : ∃ x : Int32, y2 = .int x := by
    rcases u1 with z | z
    · exact ⟨_, V2⟩
    · obtain ⟨x, -, hx⟩ := id V2
      exact ⟨x, hx⟩
  obtain ⟨x2, rfl⟩ := hi2
  rw [ze_rc_eq] at hrc
  have hrc : ze_g w kx (fun e => Nat.beq e.1 11) = true := hrc
  obtain ⟨cl, g1, g2⟩ := ze_g_spec hrc
  obtain ⟨a2, en, ex, hw, hC⟩ := hW.ref g1 V1
  cases ex
  have e11 := ze_beq g2
  obtain ⟨fs, ef, -⟩ := hC.obj (by rw [e11]; decide)
  rw [e11] at ef
  subst ef
  have hM := zx_met (l := l) (dC := dC) (dI := dI) (dA := dA) (sp := sp) (xs := xs) (A := A) hl (y := 179) (q := (yX11_row, cX11_row, 2, some .long, 11, 0, 0)) rfl (m9 := (zp_X11_row, 2, 0, 0)) rfl rfl rfl (pn := 17) (by decide +kernel) (by decide +kernel) (by decide +kernel) (by decide +kernel) hd hcal h hG hX hW (avs := [.ref a, .int x2]) ⟨V1, V2, trivial⟩
  refine va_MetW (cc := cL_row) (maxL := 4) (ret := some .int) (hh := [(0, 8, 11, 13)]) (by decide) rfl ?_
  intro p e s m args below meth c s₁ B hml hP
  obtain ⟨rfl, ⟨hP1, hP2, hP3, hP4, hP5⟩, hZ⟩ := hP
  have hts0 := atoms_spec (ws := Cond.codeWith yL_row cL_row 4 (some .int) [(0, 8, 11, 13)] :: zb_T) B.pre
  have hts : ∀ w ∈ zb_T, w.before ([Value.ref a, .int x2, .ref o9] : List Value).toArray s = true := fun w hw => hts0 w (List.mem_cons_of_mem _ hw)
  have hown : s.vm.findClass RL = some m.cls := findClass_of_methodNamed B.named
  have htab := vx_table (x := yL_row) B (hts0 _ List.mem_cons_self)
  rw [lg_entry_eq]
  have hl2 := lv_entry ([Value.ref a, .int x2, .ref o9] : List Value) (n := 4) (by show 3 ≤ 4; decide)
  generalize ((lg_sl ([Value.ref a, .int x2, .ref o9] : List Value) ++ List.replicate (4 - (lg_sl ([Value.ref a, .int x2, .ref o9] : List Value)).length) Slot.unset).toArray) = la at hl2
  have hl3 : lv_has la 4 [(0, .ref a), (1, .int x2), (2, .ref o9)] := hl2
  refine lv_aload_n B.exec B.bytes (k := 2) (i := 2) (x := o9) (by decide +kernel) rfl (lv_at hl3 2 rfl) ?_
  refine lv_iconst B.exec B.bytes (n := 0) (v := 0) (by decide +kernel) rfl ?_
  refine lv_aload_n B.exec B.bytes (k := 0) (i := 0) (x := a) (by decide +kernel) rfl (lv_at hl3 0 rfl) ?_
  refine lv_iload_n B.exec B.bytes (k := 1) (i := 1) (x := x2) (by decide +kernel) rfl (lv_at hl3 1 rfl) ?_
  have hrm := ze_room (R := (headSpec (Cond.codeWith yL_row cL_row 4 (some .int) [(0, 8, 11, 13)] :: zb_T) (ze_rm (d + 2) 1 6)).room) (cy := 1) (sy := 6) (yL := 2) (d := d + 1) ⟨Nat.le_refl _, Nat.le_refl _⟩ (by decide)
  have hPv : PreV s s.heap RX11 a (va_Pc [.ref a, .int x2] (zx_Pc dC dI dA sp xs A ws)) [.int x2] := ⟨zx_blind, va_recv hP2.k0 hP1 (ci := 11) rfl hw, fun U hU hWm => ⟨rfl, ⟨by rw [hU]; exact hP1, hP2.warm hWm, hP3, fun q hq => hP4 q (by rw [← hU]; exact hq), by rw [hU]; exact hP5.1.moved hWm.alike, by rw [hU]; exact hP5.2.1, hP5.2.2.1, hP5.2.2.2.1, hP5.2.2.2.2.1, hP5.2.2.2.2.2.at (locs := []) (by rw [hU]; exact va_S.rf) hWm⟩, hZ.at (locs := []) (by rw [hU]; exact va_S.rf) hWm⟩⟩
  have hrun := zx_mono (fun st o t hq => zx_Ql zx_rl_of hq) (vx_runV (e := e) (below := below) (H := s.heap) (locs := []) (cells := 0) (slots := 0) (meth := meth) (As := [.int x2]) (rest := [.int 0, .ref o9]) (C := RX11) (g := F0 m 4 la ([.int x2] ++ [.ref a, .int 0, .ref o9])) ⟨B.exec, B.bytes, hml, hown, hts⟩ hM (cwV 1 hts (zg_in ?_) rfl rfl rfl ⟨rfl, by decide, by decide, by decide +kernel⟩ hrm) hPv rfl rfl hl3.1 rfl (by show 2 * 0 + (1 + (1 + 0)) ≤ 8; decide) (show decode cL_row 4 = .ok (.invokevirtual 21, 3) by decide +kernel) ⟨Nat.le_refl _, Nat.le_refl _⟩)
  · refine vx_calll hrun va_S.rf (fun q _ hq => hq) (fun q hq => hq) (fun q _ hq => hq) ?_ ?_
    · intro E ce q9 u t H1 locs1 ht hal hpx hbx hsz hkeep hS1 hce hcv hcl
      obtain ⟨rfl, hP9⟩ := hbx
      refine zx_catch (own := RL) (name := zx_E) hown ⟨0, 8, 11, 13⟩ [] htab (by decide) (by decide) (hts _ (zb_in (zc_5 (List.mem_of_getElem? (i := 223) rfl)) rfl)) (va_Nw.use rfl (hZ.2.2 _ zx_w5)) hce hcv hcl ?_
      exact zx_tail (kh := kh) B.exec B.bytes B.returns B.notSynchronized hl3 (fun Q k9 => lv_astore_n B.exec B.bytes (k := 3) (i := 3) (by decide +kernel) rfl hl3 (by decide) rfl (fun la' _ => k9 la')) (by decide +kernel) (by decide +kernel) hpx (by rw [← ht]; exact hP9) hS1
    · intro r u t H1 locs1 ht hal hpo hbu hsz hkeep hS1
      exact zx_backl (kh := kh) B.exec B.bytes B.returns B.notSynchronized hl3 hP2 (off := 6) (n1 := 14) (by decide +kernel) (by decide +kernel) rfl (by decide +kernel) (by decide +kernel) hX V9 hpo (by rw [← ht]; exact hbu) hS1
  · intro w' hw'
    rcases List.mem_append.mp hw' with h9 | h9
    · simp only [List.mem_cons, List.not_mem_nil, or_false] at h9
      rcases h9 with rfl | rfl | rfl | rfl
      · exact zb_in (zc_6 (List.mem_of_getElem? (i := 75) rfl)) rfl
      · exact zb_in (zc_6 (List.mem_of_getElem? (i := 76) rfl)) rfl
      · exact zb_in (zc_6 (List.mem_of_getElem? (i := 77) rfl)) rfl
      · exact zb_in (zc_1 (List.mem_of_getElem? (i := 1) rfl)) rfl
    · exact zg_code (zb_in (zc_6 (List.mem_of_getElem? (i := 78) rfl)) rfl) w' h9

end ZHP
