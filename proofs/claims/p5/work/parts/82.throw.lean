/-! a thrown object is caught by the first row of the method's own table (the row's class cold or warm) -/
section ZXC
variable {p : Program} {l : Launch} {e : Env} {R : Room} {s : State} {m : MethodId} {args : Array Value} {below : List Frame} {meth : Method} {c : Code} {H : Heap} {locs : List Loc} {cells slots : Nat} {Q : State → Prop} {pc : Nat} {ls : Array Slot} {rest : List Value}
theorem zx_find {S : State} {f : JFrame} {a : Addr} {Q : Handler → Pre} {E : CtlPost} {d : Bool} {acts : List Action} {x : ExceptionTableEntry} {t : List ExceptionTableEntry} {c : ClassId} {cell : Cell} (hx : covers x f.pc = true) (h0 : x.catchType ≠ 0) (hl : S.vm.ClassLinks e.platform f.method.cls x.catchType c) (hcell : S.heap[a]? = some cell) (hobj : ∀ k, cell.vm ≠ .statics k)
    (hk : ∃ k, S.vm.classes[cell.cls]? = some k) (hc : ∃ k, S.vm.classes[c]? = some k) (hfit : S.vm.assignable cell.cls c = true) : wp (findHandler.go f a (x :: t)) Q E e d acts S ↔ Q (.found x.handlerPc) d acts (S.setVm (S.vm.noted f.method.cls x.catchType (.cls c))) := by
  obtain ⟨k1, hk1⟩ := hk
  obtain ⟨k2, hk2⟩ := hc
  have hal : S.vm.Alike (S.vm.noted f.method.cls x.catchType (.cls c)) := (Vm.Alike.refl S.vm).noted _ _ _
  obtain ⟨k3, hk3, -⟩ := hal.2.2 _ _ hk1
  obtain ⟨k4, hk4, -⟩ := hal.2.2 _ _ hk2
  obtain ⟨ha, ht⟩ := (resolveClass_links e.toSetting hl).op (op := VmOp.resolveClass f.method.cls x.catchType) rfl
  have hfit2 : (S.vm.noted f.method.cls x.catchType (.cls c)).assignable cell.cls c = true := by rw [hal.assignable]; exact hfit
  simp only [covers] at hx
  simp [findHandler.go, hx, h0, ha, ht, hcell, hobj, hk3, hk4, hfit2, VmOp.dirties, VmOp.acts]
theorem zx_catch {own name E : String} {ce : Cell} {q : Addr} (hown : s.vm.findClass own = some m.cls) (x : ExceptionTableEntry) (suf : List ExceptionTableEntry) (hsplit : c.exceptionTable.toList = x :: suf) (hx : covers x pc = true) (h0 : x.catchType ≠ 0)
    (hlink : (Cond.classLink own x.catchType name).before args s = true) (hcast : (Cond.castable E name).before args s = true) (hcell : H[q]? = some ce) (hv : ce.vm = .none) (hcl : s.vm.findClass E = some ce.cls)
    (kk : W p l e R s m args below meth c H locs cells slots Q (F0 m x.handlerPc ls [.ref q])) : vx_W p l e R s m args below meth c H locs cells slots Q (F0 m pc ls rest) q := by
  intro T hT X
  have hpl : e.platform.magicAccessors = ({} : Platform).magicAccessors := by rw [X.admits.platform]
  obtain ⟨c3, c4, hc3, hc4, hasg⟩ := Cond.castable_spec hcast
  cases Option.some.inj (hc3.symm.trans hcl)
  obtain ⟨c5, hc5, hcl5⟩ := Cond.classLink_spec hown hlink e.platform hpl
  cases Option.some.inj (hc4.symm.trans hc5)
  obtain ⟨dk, _, _, kt, hd, _, _, _, _, hkt, _, hopen⟩ := hcl5.here
  have hW : s.WarmedH T.vm := X.warmed
  obtain ⟨kt2, hkt2, -⟩ := hW.alike.2.2 _ _ hkt
  obtain ⟨k9, h9, -⟩ := Vm.findClass_spec hcl
  obtain ⟨k8, h8, -⟩ := hW.alike.2.2 _ _ h9
  have hW2 : s.WarmedH (T.vm.noted m.cls x.catchType (.cls c4)) := hW.noted hd hopen (State.rightAt_cls hcl5)
  obtain ⟨t, a1, b1⟩ := kk (T.setVm (T.vm.noted m.cls x.catchType (.cls c4))) hT (X.noted hW2)
  refine ⟨t, ?_, b1⟩
  have hfind : ∀ (Q : Handler → Pre) (E : CtlPost) (d : Bool) (acts : List Action), wp (findHandler (F0 m pc ls rest) q) Q E e d acts ((T.setTop (F0 m pc ls rest)).pushFrame (.throwing q)) ↔ Q (.found x.handlerPc) d acts (((T.setTop (F0 m pc ls rest)).pushFrame (.throwing q)).setVm (T.vm.noted m.cls x.catchType (.cls c4))) := by
    intro Q E d acts
    rw [Jvm.W.findHandler_eq (meth := meth) (code := c) X.method' X.code, hsplit]
    exact zx_find (S := (T.setTop (F0 m pc ls rest)).pushFrame (.throwing q)) hx h0 (hW.classLinks hcl5) (show T.heap[q]? = some ce by rw [hT]; exact hcell) (fun k hk => by rw [hv] at hk; cases hk) ⟨k8, h8⟩ ⟨kt2, hkt2⟩ (by
      show T.vm.assignable ce.cls c4 = true
      rw [hW.alike.assignable]; exact hasg)
  have hstep : (stepThrowing e ((T.setTop (F0 m pc ls rest)).pushFrame (.throwing q)) q (.java (F0 m pc ls rest) :: T.frames.tail)).Is ((((T.setTop (F0 m pc ls rest)).pushFrame (.throwing q)).setVm (T.vm.noted m.cls x.catchType (.cls c4))).setFrames (.java { F0 m pc ls rest with pc := x.handlerPc, stack := [.ref q] } :: T.frames.tail)) [] := by
    simp only [stepThrowing, searchFrame, vmDo]
    generalize hr : Sem.go _ e false [] ((T.setTop (F0 m pc ls rest)).pushFrame (.throwing q)) = res
    obtain ⟨as, rfl, ha⟩ := Sem.eq_ok_of hr (a := Handler.found x.handlerPc) (s' := ((T.setTop (F0 m pc ls rest)).pushFrame (.throwing q)).setVm (T.vm.noted m.cls x.catchType (.cls c4))) (acts' := []) (by simp [hfind _ _ _ _])
    exact ⟨rfl, ha⟩
  have hat : At T (F0 m pc ls rest).method c below := X.here
  obtain ⟨hgo, hw⟩ := hat.throwing q
  refine Steps.head hgo hw ?_
  rw [stepThread_throwing (frames_entered hat.top _), hstep.1]
  obtain ⟨g₀, hg⟩ := Option.isSome_iff_exists.mp hat.top
  obtain ⟨r, hr⟩ := State.topJava?_eq_some.mp hg
  have hr2 : (T.setVm (T.vm.noted m.cls x.catchType (.cls c4))).frames = .java g₀ :: r := hr
  have hsw : ∀ (u : State) (vm' : Vm) (F G : List Frame), ((u.setFrames F).setVm vm').setFrames G = (u.setVm vm').setFrames G := fun u vm' F G => by
    rw [show (u.setFrames F).setVm vm' = (u.setVm vm').setFrames F from rfl, State.setFrames_setFrames]
  rw [State.setTop_of_frames _ hr2] at a1
  rw [hr, List.tail_cons, State.pushFrame, hsw, State.setTop_of_frames _ hr, hsw]
  exact a1
end ZXC
/-! a method that returns or throws: the engine runs it to its end or up to its 'new', the rest by the laws of throws -/
def zx_E : String := "java/util/NoSuchElementException"
def zx_N : List String := ["java/lang/RuntimeException", "java/lang/Exception"]
theorem zx_w1 : ∀ w ∈ Cond.classLink RX11 115 zx_E :: Cond.initialized zx_E :: vx_at0 RX11 117 zx_E zx_N, vx_ot w = true := by decide +kernel
def zx_bad : List Cond := (vx_at0 RX11 117 zx_E zx_N).filter (fun w => !goodWord w)
theorem zx_w2 : ∀ w ∈ zx_bad, w.onTables = true ∧ w.keepsCast = true := by decide +kernel
theorem zx_w4 : goodWord (Cond.classLink RX11 115 zx_E) = true ∧ goodWord (Cond.initialized zx_E) = true := by decide +kernel
theorem zx_w5 : Cond.castable zx_E zx_E ∈ zx_bad := by decide +kernel
theorem zx_w3 : ∀ w ∈ Cond.classLink RX11 115 zx_E :: Cond.initialized zx_E :: vx_at0 RX11 117 zx_E zx_N, w ∈ lw_tbl := by decide +kernel
def zx_Z (A : Nat → Prop) (U : State) : Prop := vx_Zq Bundle.tN "UNASSIGNED_STACK" Bundle.steD A U U.heap ∧ vx_Zq Bundle.tN "SUPPRESSED_SENTINEL" Bundle.listD A U U.heap ∧ ∀ w ∈ zx_bad, va_Nw w U
noncomputable def zx_B (pn : Nat) (k' : EW → EG → Bool) : EKn := fun cs _ st w g nc ns => List.rec (motive := fun _ => Bool) false (fun e _ _ => zcd (Nat.beq e.2.1 pn) (zcd (Nat.ble (ze_cs st) 8) (zcd (Nat.beq nc 0) (zcd (Nat.beq ns 0) (k' w g) false) false) false) false) cs
noncomputable def zx_no : ERt := fun _ _ _ => false
noncomputable def zx_run (m : EM) (cal : ECal) (pn n : Nat) (kr : ERt) (av : List EV) (w : EW) (g : EG) (k' : EW → EG → Bool) : Bool := zcd (Nat.ble (ze_cs av) m.2.1) (ze_jp m.1 0 (fun cs => zy_lp (ze_jp m.1) cal 1 6 kr [pn] (zx_B pn k') n cs (ze_il av m.2.1) [] w g 0 0)) false
abbrev ZXS : Type := EW × EG × List Int32 × va_W
def zx_px (dA : Nat → ClassId) (sp : Nat → Nat) (A : Nat → Prop) (k' : EW → EG → Bool) (ρ : List Int32) (ad : List Nat) : ZXS → Prop := fun u => k' u.1 u.2.1 = true ∧ ρ <+: u.2.2.1 ∧ ad <+: u.2.2.2.map (·.1) ∧ ze_G u.2.1 u.2.2.1 ∧ ze_W dA sp u.2.2.1 u.1 u.2.2.2 ∧ va_D A u.2.2.2
def zx_bx (dC : Nat → ClassId) (dI : Nat → Nat → Nat) : String → ZXS → State → Prop := fun E u t => E = zx_E ∧ va_P (dC, dI) vwCl u.2.2.2 t.heap
section ZX
variable {l : Launch} {dC : Nat → ClassId} {dI : Nat → Nat → Nat} {dA : Nat → ClassId} {sp : Nat → Nat} {xs : ZXs} {A : Nat → Prop}
def zx_Pc (dC : Nat → ClassId) (dI : Nat → Nat → Nat) (dA : Nat → ClassId) (sp : Nat → Nat) (xs : ZXs) (A : Nat → Prop) (ws : va_W) : State → Prop := fun U => ze_Pc dC dI dA sp xs A ws U ∧ zx_Z A U
theorem zx_Z.at {s U : State} {locs : List Loc} (h : zx_Z A s) (hS : va_S A s.heap U.heap locs) (hv : s.WarmedH U.vm) : zx_Z A U := ⟨vx_Zq.moved hv.alike (h.1.kept hS.2.1), vx_Zq.moved hv.alike (h.2.1.kept hS.2.1), fun w hw => va_tabs (zx_w2 w hw).1 (rfl : (s.setVm U.vm).vm = U.vm) (Cond.before_shiftedCast (args := #[]) (State.Shifted.of_warmed hv) w (zx_w2 w hw).2 (h.2.2 w hw))⟩
theorem zx_blind {ws : va_W} {avs : List Value} : FrameBlind (va_Pc avs (zx_Pc dC dI dA sp xs A ws)) := by
  intro a U g mk q
  obtain ⟨q0, q1, q2⟩ := q
  have h := ze_blind (dC := dC) (dI := dI) (dA := dA) (sp := sp) (xs := xs) (A := A) (ws := ws) (avs := avs) a U g mk ⟨q0, q1⟩
  exact ⟨q0, h.2, vx_Zq.moved (u := U) (U := U.calling g mk a) (Vm.Alike.refl U.vm) q2.1, vx_Zq.moved (u := U) (U := U.calling g mk a) (Vm.Alike.refl U.vm) q2.2.1, fun w hw => va_Nw.same (u := U) (U := U.calling g mk a) (zx_w2 w hw).1 rfl (q2.2.2 w hw)⟩
theorem zx_met (hl : l.stackTraces = false) {y : Nat} {q : ZMt} (hq : zm y = some q) {ch : List EM} {m9 : EM} (h1 : zp_all[y / 16]? = some ch) (h2 : ch[y % 16]? = some m9) (ho : q.1.cls = RX11) {pn : Nat}
    (d0 : decode q.2.1 pn = .ok (.new 115, 3)) (d3 : decode q.2.1 (pn + 3) = .ok (.dup, 1)) (d4 : decode q.2.1 (pn + 4) = .ok (.invokespecial 117, 3)) (d7 : decode q.2.1 (pn + 7) = .ok (.athrow, 1))
    {cal : ECal} {kr : ERt} {n d : Nat} {av : List EV} {w : EW} {g : EG} {k' : EW → EG → Bool} (hd : 5 ≤ d) (hcal : ze_CalA l dC dI dA sp xs A cal d) (h : zx_run m9 cal pn n kr av w g k' = true) {ρ : List Int32} {ws : va_W} {avs : List Value} (hG : ze_G g ρ) (hX : ze_Z xs ρ) (hW : ze_W dA sp ρ w ws) (hL : ze_L sp ρ (ws.map (·.1)) av avs)
    : vx_Met l q.1 (.code q.1 q.2.1 q.2.2.1 q.2.2.2.1 :: zb_T) (ze_rm (d + 1) 1 6) (va_Pc avs (zx_Pc dC dI dA sp xs A ws)) (ze_Qc dC dI dA sp A kr ρ (ws.map (·.1))) (vx_X (zx_px dA sp A k' ρ (ws.map (·.1))) (zx_bx dC dI) A) 1 6 A := by
  unfold zx_run at h
  obtain ⟨h3, h⟩ := ze_condf h
  obtain ⟨cs, h4, h⟩ := ze_jp_spec h
  obtain ⟨e1, -, -, hpl, hzn, ini, hini, hcode, e9, r9, h5, h6⟩ := zp_ok y ch m9 q h1 h2 hq
  have e5 : cs = e9 :: r9 := by
    unfold ze_tgt at h4
    rw [show (0 / 16 : Nat) = 0 from rfl, h5] at h4
    exact (Option.some.inj h4).symm
  subst e5
  refine vx_ofW (cc := q.2.1) (maxL := q.2.2.1) (ret := q.2.2.2.1) hpl rfl ?_
  intro p e s m args below meth c s₁ B hml hex hP
  obtain ⟨rfl, ⟨hP1, hP2, hP3, hP4, hP5⟩, hU, hN, hBd⟩ := hP
  have hts := atoms_spec (ws := Cond.code q.1 q.2.1 q.2.2.1 q.2.2.2.1 :: zb_T) B.pre
  have hown : s.vm.findClass q.1.cls = some m.cls := findClass_of_methodNamed B.named
  have hnm := (name_of_methodNamed B.named B.method).1
  have hwd : ∀ w ∈ Cond.classLink RX11 115 zx_E :: Cond.initialized zx_E :: vx_at0 RX11 117 zx_E zx_N, w.before avs.toArray s = true := by
    intro w hw
    by_cases hg : goodWord w = true
    · exact hts w (List.mem_cons_of_mem _ (zb_in (zx_w3 w hw) hg))
    · rcases List.mem_cons.mp hw with rfl | hw
      · exact absurd zx_w4.1 hg
      · rcases List.mem_cons.mp hw with rfl | hw
        · exact absurd zx_w4.2 hg
        · have hm : w ∈ zx_bad := List.mem_filter.mpr ⟨hw, by
            cases hgw : goodWord w
            · rfl
            · exact absurd hgw hg⟩
          exact va_Nw.use (zx_w2 w hm).1 (hBd w hm)
  have hFx : ze_Fx p l (headSpec (Cond.code q.1 q.2.1 q.2.2.1 q.2.2.2.1 :: zb_T) (ze_rm (d + 1) 1 6)).room s m avs.toArray meth c dC dI dA sp xs A q.2.2.2.2.1 q.2.2.1 d q.2.1 q.2.2.2.1 ini m9.1 cal 1 6 :=
    ⟨zF, B.exec, B.bytes, hml, by rw [hzn]; exact hown, hP2, hP5, hP4, fun w hw => hts w (List.mem_cons_of_mem _ hw), ⟨rfl, rfl⟩, ⟨by omega, Nat.le_refl _, Nat.le_refl _⟩, fun hi => hnm.trans (hini hi), hcal, hcode⟩
  have hend : ze_Re p l e (headSpec (Cond.code q.1 q.2.1 q.2.2.1 q.2.2.2.1 :: zb_T) (ze_rm (d + 1) 1 6)).room s m avs.toArray below meth c (vx_MQ below (ze_Qc dC dI dA sp A kr ρ (ws.map (·.1))) (vx_X (zx_px dA sp A k' ρ (ws.map (·.1))) (zx_bx dC dI) A) avs.toArray s 1 6 A) (ρ, ws.map (·.1)) dC dI dA sp xs A q.2.2.1 q.2.1 q.2.2.2.1 kr 1 6 := by
    intro pc nc ns ls st w g ρ1 ws1 H locs la vs hH k1 k2
    obtain ⟨r1, r2, r3, r4⟩ := ze_ends (l := l) (dC := dC) (dI := dI) (dA := dA) (sp := sp) (xs := xs) (A := A) (e := e) (R := (headSpec (Cond.code q.1 q.2.1 q.2.2.1 q.2.2.2.1 :: zb_T) (ze_rm (d + 1) 1 6)).room) (s := s) (m := m) (args := avs.toArray) (below := below) (nL := q.2.2.1) (mc := 1) (ms := 6) (k := kr) (z0 := (ρ, ws.map (·.1))) B.exec B.bytes B.returns B.notSynchronized pc nc ns ls st w g ρ1 ws1 H locs la vs hH k1 k2
    exact ⟨fun u x ty a1 a2 a3 a4 a5 a6 => vx_ret (r1 u x ty a1 a2 a3 a4 a5 a6), fun u x a1 a2 a3 a4 a5 => vx_ret (r2 u x a1 a2 a3 a4 a5), fun u x ty a1 a2 a3 a4 a5 a6 => vx_ret (r3 u x ty a1 a2 a3 a4 a5 a6), fun a1 a2 a3 a4 a5 => vx_ret (r4 a1 a2 a3 a4 a5)⟩
  have hB : ze_KK p l e (headSpec (Cond.code q.1 q.2.1 q.2.2.1 q.2.2.2.1 :: zb_T) (ze_rm (d + 1) 1 6)).room s m avs.toArray below meth c (vx_MQ below (ze_Qc dC dI dA sp A kr ρ (ws.map (·.1))) (vx_X (zx_px dA sp A k' ρ (ws.map (·.1))) (zx_bx dC dI) A) avs.toArray s 1 6 A) (ρ, ws.map (·.1)) dC dI dA sp xs A q.2.2.1 (fun cs => zk_code q.2.2.2.2.1 q.2.1 q.2.2.1 q.2.2.2.1 ini m9.1 cs = true) (zx_B pn k') := by
    intro cs ls st w1 g1 nc ns h pc hat ρ1 ws1 H locs la vs hH
    obtain ⟨hV, e8, r8, rfl, hpc⟩ := hat
    have h : zcd (Nat.beq e8.2.1 pn) (zcd (Nat.ble (ze_cs st) 8) (zcd (Nat.beq nc 0) (zcd (Nat.beq ns 0) (k' w1 g1) false) false) false) false = true := h
    obtain ⟨a1, h⟩ := ze_condf h
    obtain ⟨a2, h⟩ := ze_condf h
    obtain ⟨a3, h⟩ := ze_condf h
    obtain ⟨a4, hk9⟩ := ze_condf h
    have b1 : pc = pn := hpc.symm.trans (ze_beq a1)
    have b3 := ze_beq a3
    have b4 := ze_beq a4
    subst b1; subst b3; subst b4
    obtain ⟨lv, hl9, -⟩ := hH.2.2.2.2.2.2.1
    have hS := hH.2.2.2.2.2.1
    have hsum : (vs.map fun v => v.category).sum ≤ 8 := by rw [ze_cs_sum hH.2.2.2.2.2.2.2]; exact ze_ble' a2
    refine vx_throw0 (own := RX11) (cls := zx_E) (names := zx_N) (ik := 115) (ic := 117) (A := A) B.exec B.bytes hl (by rw [← ho]; exact hown) (by decide) (by decide) (hwd _ List.mem_cons_self) (hwd _ (List.mem_cons_of_mem _ List.mem_cons_self)) (fun w hw => hwd w (List.mem_cons_of_mem _ (List.mem_cons_of_mem _ hw))) zx_w1 hU hN hS (hl9.1.trans hml.symm) d0 d3 d4 d7 (fun x hx => (hex x hx).elim) ?_ ?_ (Nat.le_refl _) (Nat.le_refl _) B.notSynchronized ?_ hS.2.2 (Nat.le_refl _) (Nat.le_refl _)
    · show 2 + 3 < d + 1
      omega
    · show (vs.map fun v => v.category).sum + (13 * (2 + 1) + 42) ≤ 70 * (d + 1)
      omega
    · intro t hal hsz hkeep
      refine ⟨(w1, g1, ρ1, ws1), ⟨hk9, hH.2.1.2.1, hH.2.1.2.2, hH.1, hH.2.2.1, hH.2.2.2.2.1⟩, ⟨rfl, ?_⟩, Nat.le_trans hS.1 hsz, fun q9 c1 c2 => ?_⟩
      · exact hH.2.2.2.1.kept (fun k q9 hk => hkeep _ (vx_lt hH.2.2.2.1 hk))
      · rw [hkeep q9 (Nat.lt_of_lt_of_le c1 hS.1)]
        exact hS.2.1 q9 c1 c2
  rw [lg_entry_eq]
  have hl2 := lv_entry avs (n := q.2.2.1) (Nat.le_trans (ze_sl_len avs) (by rw [ze_cs_sum hL, ← e1]; exact ze_ble' h3))
  rw [e1] at h
  refine zy_lp_ok hFx hend hB n _ _ _ _ _ _ _ h 0 ⟨hcode _ (List.mem_of_getElem? h5), e9, r9, rfl, h6⟩ ρ ws s.heap [] _ [] ⟨hG, ⟨hX, List.prefix_refl _, List.prefix_refl _⟩, hW, hP1, hP3, ⟨Nat.le_refl _, fun _ _ _ => rfl, fun q hq => by cases hq⟩, ⟨_, hl2, ?_⟩, trivial⟩
  intro j v hj hn
  obtain ⟨x, q1, q2⟩ := ze_il_LL av avs _ 0 hL j v hj hn
  rw [Nat.zero_add] at q1
  exact ⟨x, q1, q2⟩
end ZX
