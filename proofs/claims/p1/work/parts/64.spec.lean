/-! runs up to a row, and loops by what holds at that row -/
noncomputable def ze_lh (jp : EJp) (cal : ECal) (mc ms : Nat) (k : ERt) (ph : Nat) (base : EKn) (n : Nat) : EKn := Nat.rec (motive := fun _ => EKn) (fun _ _ _ _ _ _ _ => false) (fun _ ih cs ls st w g nc ns => List.rec (motive := fun _ => Bool) false (fun e r _ => cond (Nat.beq e.2.1 ph) (base (e :: r) ls st w g nc ns) (ze_do e.1 r e.2.2.1 e.2.2.2.1 e.2.2.2.2.1 e.2.2.2.2.2 jp ih k cal mc ms ls st w g nc ns)) cs) n
noncomputable def zh_B (N : Nat) (pl : List (Nat × Nat)) (ph : Nat) (ls' : List EV) (w' : EW) (g' : EG) : EKn := fun cs ls st w g nc ns => List.rec (motive := fun _ => Bool) false (fun e _ _ => cond (Nat.beq e.2.1 ph) (zl_0 st (cond (Nat.beq nc 0) (cond (Nat.beq ns 0) (zh_chk N pl ls' w' g' ls w g) false) false)) false) cs
noncomputable def zh_end (N : Nat) (pl : List (Nat × Nat)) (rr : EV) (w' : EW) (g' : EG) : ERt := fun r w g => Option.rec (motive := fun _ => Bool) false (fun v => cond (zh_eq rr v) (zh_chk N pl [] w' g' [] w g) false) r
section ZLH
variable {p : Program} {l : Launch} {e : Env} {R : Room} {s : State} {m : MethodId} {args : Array Value} {below : List Frame} {meth : Method} {c : Code} {Q : State → Prop}
variable {z0 : List Int32 × List Nat} {dC : Nat → ClassId} {dI : Nat → Nat → Nat} {dA : Nat → ClassId} {sp : Nat → Nat} {xs : Nat → Int32} {A : Nat → Prop} {o nL d : Nat} {cc : ByteArray} {rt : Option FieldType} {ini : Bool} {jt : List (List ECE)}
variable {kk : EKn} {k : ERt} {cal : ECal} {mc ms : Nat}
theorem ze_lh_ok {base : EKn} {ph : Nat} (hF : ze_Fx p l R s m args meth c dC dI dA sp xs A o nL d cc rt ini jt cal mc ms) (hE : ze_Re p l e R s m args below meth c Q z0 dC dI dA sp xs A nL cc rt k mc ms) (hB : ze_KK p l e R s m args below meth c Q z0 dC dI dA sp xs A nL (fun cs => zk_code o cc nL rt ini jt cs = true) base) : ∀ n : Nat, ze_KK p l e R s m args below meth c Q z0 dC dI dA sp xs A nL (fun cs => zk_code o cc nL rt ini jt cs = true) (ze_lh (ze_jp jt) cal mc ms k ph base n) := by
  intro n
  induction n with
  | zero => intro cs ls st w g nc ns h; cases h
  | succ n ih =>
    intro cs ls st w g nc ns h pc hat ρ ws H locs la vs hH
    obtain ⟨hV, e9, r, hcs, hpc⟩ := hat
    subst hcs
    rcases ze_cond (show cond (Nat.beq e9.2.1 ph) (base (e9 :: r) ls st w g nc ns) (ze_do e9.1 r e9.2.2.1 e9.2.2.2.1 e9.2.2.2.2.1 e9.2.2.2.2.2 (ze_jp jt) (ze_lh (ze_jp jt) cal mc ms k ph base n) k cal mc ms ls st w g nc ns) = true from h) with ⟨-, h⟩ | ⟨-, h⟩
    · exact hB _ _ _ _ _ _ _ h pc ⟨hV, e9, r, rfl, hpc⟩ _ _ _ _ _ _ hH
    · obtain ⟨hrow, hVr⟩ := zk_tail hV
      subst hpc
      exact ze_step hE hF ih hVr hH hrow h
theorem zh_B_ok {V : List ECE → Prop} {N : Nat} {pl : List (Nat × Nat)} {ph : Nat} {ls' : List EV} {w' : EW} {g' : EG} {cs0 : List ECE} (hz : z0.1.length = N) (hz6 : 6 ≤ N) (hat0 : ze_at V cs0 ph) (hS : ze_WS p l e R s m args below meth c Q z0 dC dI dA sp xs A nL V cs0 ls' [] w' g' 0 0) : ze_KK p l e R s m args below meth c Q z0 dC dI dA sp xs A nL V (zh_B N pl ph ls' w' g') := by
  intro cs ls st w g nc ns h pc hat ρ ws H locs la vs hH
  obtain ⟨hV, e9, r, rfl, hpc⟩ := hat
  obtain ⟨h1, h⟩ := ze_condf (show cond (Nat.beq e9.2.1 ph) (zl_0 st (cond (Nat.beq nc 0) (cond (Nat.beq ns 0) (zh_chk N pl ls' w' g' ls w g) false) false)) false = true from h)
  cases st with
  | cons a t => cases h
  | nil =>
    obtain ⟨h2, h⟩ := ze_condf (show cond (Nat.beq nc 0) (cond (Nat.beq ns 0) (zh_chk N pl ls' w' g' ls w g) false) false = true from h)
    obtain ⟨h3, hck⟩ := ze_condf h
    have b2 := ze_beq h2
    have b3 := ze_beq h3
    have b4 : vs = [] := hH.2.2.2.2.2.2.2.nil
    have b5 : pc = ph := hpc.symm.trans (ze_beq h1)
    subst b2; subst b3; subst b4; subst b5
    obtain ⟨ρ', hH'⟩ := zh_H hck hz hz6 hH
    exact hS _ hat0 ρ' ws H locs la [] hH'
theorem zh_Qc {N n : Nat} {pl : List (Nat × Nat)} {w' : EW} {g' : EG} {k' : ERt} {ρ : List Int32} {ad : List Nat} {a : Array Value} {st t : State} {oc : Outcome} (hk : k' (some (eC n)) w' g' = true) (hρ : ρ.length = N) (h : ze_Qc dC dI dA sp A (zh_end N pl (eC n) w' g') ρ ad a st oc t) : ze_Qc dC dI dA sp A k' ρ ad a st oc t := by
  obtain ⟨⟨r, w1, g1, ρ1, ws1, v, h, hpre, had, hG, hW, hP, hD, hOV, ho⟩, hF⟩ := h
  cases r with
  | none => cases h
  | some e9 =>
    obtain ⟨h1, h2⟩ := ze_condf (show cond (zh_eq (eC n) e9) (zh_chk N pl [] w' g' [] w1 g1) false = true from h)
    have e1 := zh_eq_ok h1
    subst e1
    obtain ⟨vals, k1, k2, -⟩ := zh_chk_ok h2 (zh_pre (vals := []) hpre hρ).2 hG hW
    refine ⟨⟨some (eC n), w', g', _, ws1, v, hk, (zh_pre hpre hρ).1, had, k1, k2, hP, hD, ?_, ho⟩, hF⟩
    cases v with
    | none => exact hOV
    | some x => exact hOV
end ZLH
/-- a call whose body is a loop: what it comes to -/
noncomputable def zi_cal (y0 N nL : Nat) (pl : List (Nat × Nat)) (av0 : List EV) (wg : EW) (g0 : EG) (n : Nat) (we : EW) (ge : EG) : ECal := fun y av w g k => cond (Nat.beq y y0) (cond (Nat.beq g.length N) (cond (Nat.ble (ze_cs av) nL) (cond (zh_chk N pl (ze_il av0 nL) wg g0 (ze_il av nL) w g) (k (some (eC n)) we ge) false) false) false) false
noncomputable def zi_en (m9 : EM) (N : Nat) (pl : List (Nat × Nat)) (av0 : List EV) (wg : EW) (g0 : EG) (n : Nat) (we : EW) (ge : EG) (ph F : Nat) (base : EKn) : Bool := ze_jp m9.1 0 (fun cs => ze_lh (ze_jp m9.1) (ze_ex zp_all 20) m9.2.2.1 m9.2.2.2 (zh_end N pl (eC n) we ge) ph base F cs (ze_il av0 m9.2.1) [] wg g0 0 0)
noncomputable def zi_st (m9 : EM) (N : Nat) (pl : List (Nat × Nat)) (n : Nat) (we : EW) (ge : EG) (ah ph F : Nat) (base : EKn) (ls : List EV) (w : EW) (g : EG) : Bool := ze_jp m9.1 ah (fun cs => ze_lb (ze_jp m9.1) (ze_ex zp_all 20) m9.2.2.1 m9.2.2.2 (zh_end N pl (eC n) we ge) (ze_lh (ze_jp m9.1) (ze_ex zp_all 20) m9.2.2.1 m9.2.2.2 (zh_end N pl (eC n) we ge) ph base F) 1 cs ls [] w g 0 0)
noncomputable def zi_hd (jt : List (List ECE)) (ah ph : Nat) : Bool := ze_jp jt ah (fun cs => List.rec (motive := fun _ => Bool) false (fun e _ _ => Nat.beq e.2.1 ph) cs)
theorem zi_hd_ok {jt : List (List ECE)} {ah ph : Nat} (h : zi_hd jt ah ph = true) : ∃ csh, ze_tgt jt ah = some csh ∧ ∃ e r, csh = e :: r ∧ e.2.1 = ph := by
  obtain ⟨cs, h1, h2⟩ := ze_jp_spec h
  cases cs with
  | nil => cases h2
  | cons e r => exact ⟨_, h1, e, r, rfl, ze_beq h2⟩
section ZI2
variable {l : Launch} {dC : Nat → ClassId} {dI : Nat → Nat → Nat} {dA : Nat → ClassId} {sp : Nat → Nat} {xs : Nat → Int32} {A : Nat → Prop}
theorem zi_ok {y0 : Nat} {q : ZMt} (hq : zm y0 = some q) {ch : List EM} {m9 : EM} (h1 : zp_all[y0 / 16]? = some ch) (h2 : ch[y0 % 16]? = some m9) {N : Nat} (hN6 : 6 ≤ N) {pl : List (Nat × Nat)} {av0 : List EV} {wg : EW} {wj : Nat → EW} {g0 : EG} {n : Nat} {we : EW} {ge : EG} {ah ph F J : Nat} (hhd : zi_hd m9.1 ah ph = true)
    {lsj : Nat → List EV} {gj : Nat → EG} (hE : zi_en m9 N pl av0 wg g0 n we ge ph F (zh_B N pl ph (lsj 0) (wj 0) (gj 0)) = true) (hJ : ∀ j, j < J → zi_st m9 N pl n we ge ah ph F (zh_B N pl ph (lsj (j + 1)) (wj (j + 1)) (gj (j + 1))) (lsj j) (wj j) (gj j) = true) (hL : zi_st m9 N pl n we ge ah ph F zL_no (lsj J) (wj J) (gj J) = true)
    {D : Nat} (hD : 21 ≤ D) : ze_Cal l dC dI dA sp xs A (zi_cal y0 N m9.2.1 pl av0 wg g0 n we ge) y0 D q.1 q.2.1 q.2.2.1 q.2.2.2.1 q.2.2.2.2.2.1 q.2.2.2.2.2.2 := by
  intro av w g k' h ρ ws avs hG hX hW hLv
  obtain ⟨csh, hh, hph⟩ := zi_hd_ok hhd
  obtain ⟨-, h⟩ := ze_condf h
  obtain ⟨c2, h⟩ := ze_condf h
  obtain ⟨c3, h⟩ := ze_condf h
  obtain ⟨hck, hk⟩ := ze_condf h
  have hρ : ρ.length = N := hG.1.symm.trans (ze_beq c2)
  obtain ⟨e1, e2, e3, hpl, hzn, ini, hini, hcode, e9, r9, h5, h6⟩ := zp_ok y0 ch m9 q h1 h2 hq
  have hM : Met l q.1 (.code q.1 q.2.1 q.2.2.1 q.2.2.2.1 :: zb_T) (ze_rm D q.2.2.2.2.2.1 q.2.2.2.2.2.2) (va_Pc avs (ze_Pc dC dI dA sp xs A ws)) (ze_Qc dC dI dA sp A (zh_end N pl (eC n) we ge) ρ (ws.map (·.1))) q.2.2.2.2.2.1 q.2.2.2.2.2.2 A := by
    refine Met.ofW (cc := q.2.1) (maxL := q.2.2.1) (ret := q.2.2.2.1) hpl rfl ?_
    intro p e s m args below meth c s₁ B hml hP
    obtain ⟨rfl, hP1, hP2, hP3, hP4, hP5⟩ := hP
    have hts := atoms_spec (ws := Cond.code q.1 q.2.1 q.2.2.1 q.2.2.2.1 :: zb_T) B.pre
    have hown : s.vm.findClass q.1.cls = some m.cls := findClass_of_methodNamed B.named
    have hnm := (name_of_methodNamed B.named B.method).1
    have hFx : ze_Fx p l (headSpec (Cond.code q.1 q.2.1 q.2.2.1 q.2.2.2.1 :: zb_T) (ze_rm D q.2.2.2.2.2.1 q.2.2.2.2.2.2)).room s m avs.toArray meth c dC dI dA sp xs A q.2.2.2.2.1 q.2.2.1 20 q.2.1 q.2.2.2.1 ini m9.1 (ze_ex zp_all 20) q.2.2.2.2.2.1 q.2.2.2.2.2.2 :=
      ⟨zF, B.exec, B.bytes, hml, by rw [hzn]; exact hown, hP2, hP5, hP4, fun w hw => hts w (List.mem_cons_of_mem _ hw), ⟨rfl, rfl⟩, ⟨(by show 20 + 1 ≤ D; omega), (by show 70 * (20 + 1) ≤ 70 * D; omega)⟩, fun hi => hnm.trans (hini hi), fun y q hy => zF_ex 20 y q hy, hcode⟩
    have hend := ze_ends (l := l) (dC := dC) (dI := dI) (dA := dA) (sp := sp) (xs := xs) (A := A) (e := e) (R := (headSpec (Cond.code q.1 q.2.1 q.2.2.1 q.2.2.2.1 :: zb_T) (ze_rm D q.2.2.2.2.2.1 q.2.2.2.2.2.2)).room) (s := s) (m := m) (args := avs.toArray) (below := below) (nL := q.2.2.1) (mc := q.2.2.2.2.2.1) (ms := q.2.2.2.2.2.2) (k := zh_end N pl (eC n) we ge) (z0 := (ρ, ws.map (·.1))) B.exec B.bytes B.returns B.notSynchronized
    have hVh : zk_code q.2.2.2.2.1 q.2.1 q.2.2.1 q.2.2.2.1 ini m9.1 csh = true := by
      unfold ze_tgt at hh
      cases hj : m9.1[ah / 16]? with
      | none => rw [hj] at hh; cases hh
      | some c0 =>
        rw [hj] at hh
        exact zk_drop _ c0 _ (hcode c0 (List.mem_of_getElem? hj)) hh
    have hat : ze_at (fun cs => zk_code q.2.2.2.2.1 q.2.1 q.2.2.1 q.2.2.2.1 ini m9.1 cs = true) csh ph := by
      obtain ⟨e8, r8, q1, q2⟩ := hph
      exact ⟨hVh, e8, r8, q1, q2⟩
    have hun : ∀ (base : EKn) (ls : List EV) (wi : EW) (g : EG), zi_st m9 N pl n we ge ah ph F base ls wi g = true → ze_lb (ze_jp m9.1) (ze_ex zp_all 20) q.2.2.2.2.2.1 q.2.2.2.2.2.2 (zh_end N pl (eC n) we ge) (ze_lh (ze_jp m9.1) (ze_ex zp_all 20) q.2.2.2.2.2.1 q.2.2.2.2.2.2 (zh_end N pl (eC n) we ge) ph base F) 1 csh ls [] wi g 0 0 = true := by
      intro base ls wi g h
      obtain ⟨cs, a1, a2⟩ := ze_jp_spec h
      rw [hh] at a1
      cases a1
      rw [e2, e3] at a2
      exact a2
    have hWS : ∀ i, i ≤ J → ze_WS p l e (headSpec (Cond.code q.1 q.2.1 q.2.2.1 q.2.2.2.1 :: zb_T) (ze_rm D q.2.2.2.2.2.1 q.2.2.2.2.2.2)).room s m avs.toArray below meth c (MQ below (ze_Qc dC dI dA sp A (zh_end N pl (eC n) we ge) ρ (ws.map (·.1))) avs.toArray s q.2.2.2.2.2.1 q.2.2.2.2.2.2 A) (ρ, ws.map (·.1)) dC dI dA sp xs A q.2.2.1 (fun cs => zk_code q.2.2.2.2.1 q.2.1 q.2.2.1 q.2.2.2.1 ini m9.1 cs = true) csh (lsj (J - i)) [] (wj (J - i)) (gj (J - i)) 0 0 := by
      intro i
      induction i with
      | zero =>
        intro _
        exact ze_lb_ok hFx hend (ze_lh_ok hFx hend (fun _ _ _ _ _ _ _ h => by cases h) F) 1 _ _ _ _ _ _ _ (hun _ _ _ _ hL)
      | succ i ih =>
        intro hi
        have h9 := hJ (J - (i + 1)) (by omega)
        rw [show J - (i + 1) + 1 = J - i by omega] at h9
        exact ze_lb_ok hFx hend (ze_lh_ok hFx hend (zh_B_ok hρ hN6 hat (ih (by omega))) F) 1 _ _ _ _ _ _ _ (hun _ _ _ _ h9)
    have hW0 := hWS J (Nat.le_refl _)
    rw [Nat.sub_self] at hW0
    rw [lg_entry_eq]
    have hl := lv_entry avs (n := q.2.2.1) (Nat.le_trans (ze_sl_len avs) (by rw [ze_cs_sum hLv, ← e1]; exact ze_ble' c3))
    have hH : ze_H (ρ, ws.map (·.1)) dC dI dA sp xs A s q.2.2.1 (ze_il av m9.2.1) [] w g ρ ws s.heap [] ((lg_sl avs ++ List.replicate (q.2.2.1 - (lg_sl avs).length) Slot.unset).toArray) [] := by
      refine ⟨hG, ⟨hX, List.prefix_refl _, List.prefix_refl _⟩, hW, hP1, hP3, ⟨Nat.le_refl _, fun _ _ _ => rfl, fun q hq => by cases hq⟩, ⟨_, hl, ?_⟩, trivial⟩
      intro j v hj hn
      obtain ⟨x, q1, q2⟩ := ze_il_LL av avs _ 0 hLv j v hj hn
      rw [Nat.zero_add] at q1
      exact ⟨x, q1, q2⟩
    obtain ⟨ρ', hH'⟩ := zh_H hck hρ hN6 hH
    obtain ⟨cs, h4, hE⟩ := ze_jp_spec hE
    have e5 : cs = e9 :: r9 := by
      unfold ze_tgt at h4
      rw [show (0 / 16 : Nat) = 0 from rfl, h5] at h4
      exact (Option.some.inj h4).symm
    subst e5
    rw [e2, e3] at hE
    exact ze_lh_ok hFx hend (zh_B_ok hρ hN6 hat hW0) F _ _ _ _ _ _ _ hE 0 ⟨hcode _ (List.mem_of_getElem? h5), e9, r9, rfl, h6⟩ ρ' ws s.heap [] _ [] hH'
  exact MetFree.mono hM (fun _ _ h => h) (fun _ _ _ _ _ h => h) (fun a s o t _ h => ⟨zh_Qc hk hρ h.1, h.2⟩)
/-- methods over other calls -/
noncomputable def ze_ex1 (pr : List (List EM)) (cal : ECal) : ECal := fun y av w g k => ze_n pr (Nat.div y 16) (fun ch => ze_n ch (Nat.mod y 16) (fun m => cond (Nat.ble (ze_cs av) m.2.1) (ze_jp m.1 0 (fun cs => ze_loop (ze_jp m.1) cal m.2.2.1 m.2.2.2 k 1000000000 cs (ze_il av m.2.1) [] w g 0 0)) false))
theorem ze_ex1_ok (hZ : ZF) {pr : List (List EM)} (hT : ZT pr) {cal : ECal} {d : Nat} (hcal : ∀ y q, zm y = some q → ze_Cal l dC dI dA sp xs A cal y d q.1 q.2.1 q.2.2.1 q.2.2.2.1 q.2.2.2.2.2.1 q.2.2.2.2.2.2) : ∀ (y : Nat) (q : ZMt), zm y = some q → ze_Cal l dC dI dA sp xs A (ze_ex1 pr cal) y (d + 1) q.1 q.2.1 q.2.2.1 q.2.2.2.1 q.2.2.2.2.2.1 q.2.2.2.2.2.2 := by
  intro y q hq av w g k' h ρ ws avs hG hX hW hL
  obtain ⟨ch, h1, h⟩ := ze_n_spec _ _ _ h
  obtain ⟨m9, h2, h⟩ := ze_n_spec _ _ _ h
  obtain ⟨h3, h⟩ := ze_condf h
  obtain ⟨cs, h4, h⟩ := ze_jp_spec h
  obtain ⟨e1, e2, e3, hpl, hzn, ini, hini, hcode, e9, r9, h5, h6⟩ := hT y ch m9 q h1 h2 hq
  have e5 : cs = e9 :: r9 := by
    unfold ze_tgt at h4
    rw [show (0 / 16 : Nat) = 0 from rfl, h5] at h4
    exact (Option.some.inj h4).symm
  subst e5
  refine Met.ofW (cc := q.2.1) (maxL := q.2.2.1) (ret := q.2.2.2.1) hpl rfl ?_
  intro p e s m args below meth c s₁ B hml hP
  obtain ⟨rfl, hP1, hP2, hP3, hP4, hP5⟩ := hP
  have hts := atoms_spec (ws := Cond.code q.1 q.2.1 q.2.2.1 q.2.2.2.1 :: zb_T) B.pre
  have hown : s.vm.findClass q.1.cls = some m.cls := findClass_of_methodNamed B.named
  have hnm := (name_of_methodNamed B.named B.method).1
  have hFx : ze_Fx p l (headSpec (Cond.code q.1 q.2.1 q.2.2.1 q.2.2.2.1 :: zb_T) (ze_rm (d + 1) q.2.2.2.2.2.1 q.2.2.2.2.2.2)).room s m avs.toArray meth c dC dI dA sp xs A q.2.2.2.2.1 q.2.2.1 d q.2.1 q.2.2.2.1 ini m9.1 cal q.2.2.2.2.2.1 q.2.2.2.2.2.2 :=
    ⟨hZ, B.exec, B.bytes, hml, by rw [hzn]; exact hown, hP2, hP5, hP4, fun w hw => hts w (List.mem_cons_of_mem _ hw), ⟨rfl, rfl⟩, ⟨Nat.le_refl _, Nat.le_refl _⟩, fun hi => hnm.trans (hini hi), hcal, hcode⟩
  have hend := ze_ends (l := l) (dC := dC) (dI := dI) (dA := dA) (sp := sp) (xs := xs) (A := A) (e := e) (R := (headSpec (Cond.code q.1 q.2.1 q.2.2.1 q.2.2.2.1 :: zb_T) (ze_rm (d + 1) q.2.2.2.2.2.1 q.2.2.2.2.2.2)).room) (s := s) (m := m) (args := avs.toArray) (below := below) (nL := q.2.2.1) (mc := q.2.2.2.2.2.1) (ms := q.2.2.2.2.2.2) (k := k') (z0 := (ρ, ws.map (·.1))) B.exec B.bytes B.returns B.notSynchronized
  rw [lg_entry_eq]
  have hl := lv_entry avs (n := q.2.2.1) (Nat.le_trans (ze_sl_len avs) (by rw [ze_cs_sum hL, ← e1]; exact ze_ble' h3))
  rw [e1, e2, e3] at h
  refine ze_loop_ok hFx hend _ _ _ _ _ _ _ _ h 0 ⟨hcode _ (List.mem_of_getElem? h5), e9, r9, rfl, h6⟩ ρ ws s.heap [] _ [] ⟨hG, ⟨hX, List.prefix_refl _, List.prefix_refl _⟩, hW, hP1, hP3, ⟨Nat.le_refl _, fun _ _ _ => rfl, fun q hq => by cases hq⟩, ⟨_, hl, ?_⟩, trivial⟩
  intro j v hj hn
  obtain ⟨x, q1, q2⟩ := ze_il_LL av avs _ 0 hL j v hj hn
  rw [Nat.zero_add] at q1
  exact ⟨x, q1, q2⟩
/-- calls with some of them known -/
noncomputable def zX (SP : ECal) (n : Nat) : ECal := Nat.rec (motive := fun _ => ECal) (ze_ex zp_all 25) (fun _ ih y av w g k => cond (SP y av w g k) true (ze_ex1 zp_all ih y av w g k)) n
theorem zX_ok {SP : ECal} (hSP : ∀ D, 21 ≤ D → ∀ y q, zm y = some q → ze_Cal l dC dI dA sp xs A SP y D q.1 q.2.1 q.2.2.1 q.2.2.2.1 q.2.2.2.2.2.1 q.2.2.2.2.2.2) : ∀ (n : Nat) (y : Nat) (q : ZMt), zm y = some q → ze_Cal l dC dI dA sp xs A (zX SP n) y (25 + n) q.1 q.2.1 q.2.2.1 q.2.2.2.1 q.2.2.2.2.2.1 q.2.2.2.2.2.2 := by
  intro n
  induction n with
  | zero => intro y q hq; exact zF_ex 25 y q hq
  | succ n ih =>
    intro y q hq av w g k' h
    rcases ze_cond (show cond (SP y av w g k') true (ze_ex1 zp_all (zX SP n) y av w g k') = true from h) with ⟨h, -⟩ | ⟨-, h⟩
    · exact hSP (25 + (n + 1)) (by omega) y q hq av w g k' h
    · exact ze_ex1_ok zF zp_ok ih y q hq av w g k' h
noncomputable def zS_or (a b : ECal) : ECal := fun y av w g k => cond (a y av w g k) true (b y av w g k)
noncomputable def zS_no : ECal := fun _ _ _ _ _ => false
theorem zS_or_ok {a b : ECal} {D : Nat} (ha : ∀ y q, zm y = some q → ze_Cal l dC dI dA sp xs A a y D q.1 q.2.1 q.2.2.1 q.2.2.2.1 q.2.2.2.2.2.1 q.2.2.2.2.2.2) (hb : ∀ y q, zm y = some q → ze_Cal l dC dI dA sp xs A b y D q.1 q.2.1 q.2.2.1 q.2.2.2.1 q.2.2.2.2.2.1 q.2.2.2.2.2.2) : ∀ y q, zm y = some q → ze_Cal l dC dI dA sp xs A (zS_or a b) y D q.1 q.2.1 q.2.2.1 q.2.2.2.1 q.2.2.2.2.2.1 q.2.2.2.2.2.2 := by
  intro y q hq av w g k' h
  rcases ze_cond (show cond (a y av w g k') true (b y av w g k') = true from h) with ⟨h, -⟩ | ⟨-, h⟩
  · exact ha y q hq av w g k' h
  · exact hb y q hq av w g k' h
/-- of one method, for all -/
theorem zS_one {a : ECal} {D y0 : Nat} {q0 : ZMt} (hq0 : zm y0 = some q0) (hy : ∀ y av w g k, a y av w g k = true → y = y0) (ha : ze_Cal l dC dI dA sp xs A a y0 D q0.1 q0.2.1 q0.2.2.1 q0.2.2.2.1 q0.2.2.2.2.2.1 q0.2.2.2.2.2.2) : ∀ y q, zm y = some q → ze_Cal l dC dI dA sp xs A a y D q.1 q.2.1 q.2.2.1 q.2.2.2.1 q.2.2.2.2.2.1 q.2.2.2.2.2.2 := by
  intro y q hq av w g k' h
  have e := hy _ _ _ _ _ h
  subst e
  rw [hq0] at hq
  cases hq
  exact ha av w g k' h
theorem zi_y {y0 N nL : Nat} {pl : List (Nat × Nat)} {av0 : List EV} {wg : EW} {g0 : EG} {n : Nat} {we : EW} {ge : EG} : ∀ y av w g k, zi_cal y0 N nL pl av0 wg g0 n we ge y av w g k = true → y = y0 := fun _ _ _ _ _ h => ze_beq (ze_condf h).1
end ZI2
/-- so many of the same ahead of a list -/
noncomputable def zr {α : Type} (n : Nat) (v : α) (l : List α) : List α := Nat.rec (motive := fun _ => List α) l (fun _ ih => v :: ih) n
/-- a check for numbers from a on, n of them -/
noncomputable def zi_ch (f : Nat → Bool) (a n : Nat) : Bool := Nat.rec (motive := fun _ => Bool) true (fun i ih => cond (f (Nat.add a i)) ih false) n
theorem zi_ch_ok {f : Nat → Bool} {a : Nat} : ∀ {n : Nat}, zi_ch f a n = true → ∀ j, a ≤ j → j < a + n → f j = true := by
  intro n
  induction n with
  | zero => intro _ j h1 h2; omega
  | succ n ih =>
    intro h j h1 h2
    obtain ⟨h3, h4⟩ := ze_condf (show cond (f (Nat.add a n)) (zi_ch f a n) false = true from h)
    by_cases hj : j = a + n
    · rw [hj]; exact h3
    · exact ih h4 j h1 (by omega)
