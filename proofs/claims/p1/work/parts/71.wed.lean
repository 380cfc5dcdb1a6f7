/-! String.length() of the empty text; a wedding told by an empty text -/
section ZWD
variable {l : Launch} {dC : Nat → ClassId} {dI : Nat → Nat → Nat} {dA : Nat → ClassId} {sp : Nat → Nat} {xs : Nat → Int32} {A : Nat → Prop}
def zw_Pc (sp : Nat → Nat) (A : Nat → Prop) : State → Prop := fun U => ze_S sp A U
theorem zw_blind {avs : List Value} : FrameBlind (va_Pc avs (zw_Pc sp A)) := fun a U g mk q => ⟨q.1, q.2.calls⟩
abbrev zw_no : Nat → Prop := fun _ => False
theorem zw_fs {s : State} : va_S zw_no s.heap s.heap [] := va_S.rf
theorem zw_coder {d : Nat} : Met l yJ0_coder_7d493 (.code yJ0_coder_7d493 cJ0_coder_7d493 1 (some .byte) :: zb_T) (ze_rm d 0 0) (va_Pc [.ref (sp 2)] (zw_Pc sp A)) (va_Qi (fun r (_ : Unit) => r = 0) (fun _ _ => True) zw_no) 0 0 zw_no := by
  refine Met.ofW (cc := cJ0_coder_7d493) (maxL := 1) (ret := some .byte) (by decide +kernel) rfl ?_
  intro p e s m args below meth c s₁ B hml hP
  obtain ⟨rfl, hS⟩ := hP
  have hS : ze_S sp A s := hS
  have hts := atoms_spec (ws := Cond.code yJ0_coder_7d493 cJ0_coder_7d493 1 (some .byte) :: zb_T) B.pre
  have hw : ∀ w ∈ zb_T, w.before ([Value.ref (sp 2)] : List Value).toArray s = true := fun w h => hts w (List.mem_cons_of_mem _ h)
  have hown : s.vm.findClass RJ0 = some m.cls := findClass_of_methodNamed B.named
  rw [lg_entry_eq]
  have hl2 := lv_entry ([Value.ref (sp 2)] : List Value) (n := 1) (by show 1 ≤ 1; decide)
  generalize ((lg_sl ([Value.ref (sp 2)] : List Value) ++ List.replicate (1 - (lg_sl ([Value.ref (sp 2)] : List Value)).length) Slot.unset).toArray) = la at hl2
  have hl3 : lv_has la 1 [(0, .ref (sp 2))] := hl2
  have hsc := hS.2.1.1 0 (by omega)
  refine va_gets (A := A) (own := RJ0) (index := 38) (ref := "java/lang/String") B.exec B.bytes hS.2.2 va_S.rf hown (hw _ (zb_in (zc_2 (List.mem_of_getElem? (i := 154) rfl)) rfl)) (fun x h => h) (by decide +kernel) ?_
  refine lv_if_eq B.exec B.bytes (off := 10) (tgt := 13) (by decide +kernel) rfl (fun h => absurd h (by decide)) (fun _ => ?_)
  refine lv_aload_n B.exec B.bytes (k := 0) (i := 0) (x := sp 2) (by decide +kernel) rfl (lv_at hl3 0 rfl) ?_
  refine vk_getf (A := A) (own := RJ0) (index := 15) (ref := "java/lang/String") B.exec B.bytes hsc.2.1 va_S.rf hown (hw _ (zb_in (zc_9 (List.mem_of_getElem? (i := 50) rfl)) rfl)) (fun x h => h) (by decide +kernel) ?_
  refine lv_goto B.exec B.bytes (off := 4) (tgt := 14) (by decide +kernel) rfl ?_
  exact W.zret B.exec B.bytes B.returns (by decide +kernel) (fun t ht hw => ⟨⟨0, (), rfl, rfl, trivial⟩, zw_fs.F ht⟩) (fun q hq => by cases hq) (by decide +kernel) B.notSynchronized
theorem zw_length {d : Nat} : Met l yJ0_length_8abf5 (.code yJ0_length_8abf5 cJ0_length_8abf5 1 (some .int) :: zb_T) (ze_rm (d + 1) 0 0) (va_Pc [.ref (sp 2)] (zw_Pc sp A)) (va_Qi (fun r (_ : Unit) => r = 0) (fun _ _ => True) zw_no) 0 0 zw_no := by
  refine Met.ofW (cc := cJ0_length_8abf5) (maxL := 1) (ret := some .int) (by decide +kernel) rfl ?_
  intro p e s m args below meth c s₁ B hml hP
  obtain ⟨rfl, hS⟩ := hP
  have hS : ze_S sp A s := hS
  have hts := atoms_spec (ws := Cond.code yJ0_length_8abf5 cJ0_length_8abf5 1 (some .int) :: zb_T) B.pre
  have hw : ∀ w ∈ zb_T, w.before ([Value.ref (sp 2)] : List Value).toArray s = true := fun w h => hts w (List.mem_cons_of_mem _ h)
  have hown : s.vm.findClass RJ0 = some m.cls := findClass_of_methodNamed B.named
  rw [lg_entry_eq]
  have hl2 := lv_entry ([Value.ref (sp 2)] : List Value) (n := 1) (by show 1 ≤ 1; decide)
  generalize ((lg_sl ([Value.ref (sp 2)] : List Value) ++ List.replicate (1 - (lg_sl ([Value.ref (sp 2)] : List Value)).length) Slot.unset).toArray) = la at hl2
  have hl3 : lv_has la 1 [(0, .ref (sp 2))] := hl2
  have hsc := hS.2.1.1 0 (by omega)
  refine lv_aload_n B.exec B.bytes (k := 0) (i := 0) (x := sp 2) (by decide +kernel) rfl (lv_at hl3 0 rfl) ?_
  refine vk_getf (A := A) (own := RJ0) (index := 9) (ref := "java/lang/String") B.exec B.bytes hsc.2.2.1 va_S.rf hown (hw _ (zb_in (zc_9 (List.mem_of_getElem? (i := 51) rfl)) rfl)) (fun x h => h) (by decide +kernel) ?_
  refine va_tlen (A := A) B.exec B.bytes hsc.2.2.2 va_S.rf (v := 0) rfl (by decide +kernel) ?_
  refine lv_aload_n B.exec B.bytes (k := 0) (i := 0) (x := sp 2) (by decide +kernel) rfl (lv_at hl3 0 rfl) ?_
  have hrm := ze_room (R := (headSpec (Cond.code yJ0_length_8abf5 cJ0_length_8abf5 1 (some .int) :: zb_T) (ze_rm (d + 1) 0 0)).room) (cy := 0) (sy := 0) (yL := 1) (d := d) ⟨Nat.le_refl _, Nat.le_refl _⟩ (by decide)
  have hPv : PreV s s.heap RJ0 (sp 2) (va_Pc [.ref (sp 2)] (zw_Pc sp A)) [] := ⟨zw_blind, vk_recv (i := 0) hS.2.1 (by omega) va_S.rf, fun U hU hWm => ⟨rfl, hS.at (locs := []) (by rw [hU]; exact va_S.rf) hWm⟩⟩
  have hrun := va_runV (e := e) (below := below) (H := s.heap) (locs := []) (cells := 0) (slots := 0) (meth := meth) (As := []) (rest := [.int 0]) (C := RJ0) (g := F0 m 6 la [.ref (sp 2), .int 0]) ⟨B.exec, B.bytes, hml, hown, hw⟩ (zw_coder (l := l) (d := d) (sp := sp) (A := A)) (cwV 0 hw (zg_in ?_) rfl rfl rfl ⟨rfl, by decide, by decide, by decide +kernel⟩ hrm) hPv rfl rfl hl3.1 rfl (by show 2 * 0 + (1 + 0) ≤ 8; decide) (show decode cJ0_length_8abf5 6 = .ok (.invokevirtual 335, 3) by decide +kernel) ⟨Nat.le_refl _, Nat.le_refl _⟩
  · refine va_calli hrun (va_S.rf (A := zw_no)) (fun q _ hq => hq) (fun q hq => hq) ?_
    intro r u t H1 locs1 ht hal hr _ hsz hkeep hS1
    subst hr
    refine lv_ishr B.exec B.bytes (by decide +kernel) ?_
    rw [show ((0 : Int32) >>> ((0 : Int32) &&& 31)) = 0 by decide +kernel]
    exact W.zret B.exec B.bytes B.returns rfl (fun t2 ht2 hw => ⟨⟨0, (), rfl, rfl, trivial⟩, hS1.F ht2⟩) hS1.2.2 (by decide +kernel) B.notSynchronized
  · intro w' hw'
    rcases List.mem_append.mp hw' with h9 | h9
    · simp only [List.mem_cons, List.not_mem_nil, or_false] at h9
      rcases h9 with rfl | rfl | rfl | rfl
      · exact zb_in (zc_2 (List.mem_of_getElem? (i := 160) rfl)) rfl
      · exact zb_in (zc_2 (List.mem_of_getElem? (i := 161) rfl)) rfl
      · exact zb_in (zc_2 (List.mem_of_getElem? (i := 162) rfl)) rfl
      · exact zb_in (zc_1 (List.mem_of_getElem? (i := 15) rfl)) rfl
    · exact zg_code (zb_in (zc_2 (List.mem_of_getElem? (i := 163) rfl)) rfl) w' h9
end ZWD
/-! faultOfWedding: up to the constant, behind it up to the call of length(), behind that to its end -/
noncomputable def zw_2 (k : ERt) : EKn := fun cs ls st w g nc ns => List.rec (motive := fun _ => Bool) false (fun e r _ => cond (Nat.beq e.2.1 90) (cond (zk_n r 93) (zl_ st (fun v rest => cond (zh_eq v (eX 4)) (cond (Nat.ble (ze_cs rest) 8) (cond (Nat.ble nc 0) (cond (Nat.ble ns 0) (ze_lb (ze_jp zp_X6_faultOfWedding) (ze_ex zp_all 20) 0 0 k zL_no 100 r ls (eC 0 :: rest) w g nc ns) false) false) false) false)) false) false) cs
noncomputable def zw_1 (k : ERt) : EKn := fun cs ls st w g nc ns => List.rec (motive := fun _ => Bool) false (fun e r _ => cond (Nat.beq e.2.1 7) (cond (zk_n r 9) (ze_lh (ze_jp zp_X6_faultOfWedding) (ze_ex zp_all 20) 0 0 k 90 (zw_2 k) 100 r ls (eX 4 :: st) w g nc ns) false) false) cs
noncomputable def zs_17 : ECal := fun y av w g k => cond (Nat.beq y 59) (cond (Nat.ble (ze_cs av) 6) (ze_jp zp_X6_faultOfWedding 0 (fun cs => ze_lh (ze_jp zp_X6_faultOfWedding) (ze_ex zp_all 20) 0 0 k 7 (zw_1 k) 100 cs (ze_il av 6) [] w g 0 0)) false) false
section ZWE
variable {l : Launch} {dC : Nat → ClassId} {dI : Nat → Nat → Nat} {dA : Nat → ClassId} {sp : Nat → Nat} {xs : Nat → Int32} {A : Nat → Prop}
theorem zs_17_ok (D : Nat) (hD : 21 ≤ D) : ∀ y q, zm y = some q → ze_Cal l dC dI dA sp xs A zs_17 y D q.1 q.2.1 q.2.2.1 q.2.2.2.1 q.2.2.2.2.2.1 q.2.2.2.2.2.2 := by
  refine zS_one (y0 := 59) (q0 := (yX6_faultOfWedding, cX6_faultOfWedding, 6, (some .int), 6, 0, 0)) rfl (fun _ _ _ _ _ h => ze_beq (ze_condf h).1) ?_
  intro av w g k' h ρ ws avs hG hX hW hLv
  obtain ⟨-, h⟩ := ze_condf h
  obtain ⟨c3, h⟩ := ze_condf h
  obtain ⟨cs, h4, h⟩ := ze_jp_spec h
  obtain ⟨e1, e2, e3, hpl, hzn, ini, hini, hcode, e9, r9, h5, h6⟩ := zp_ok 59 _ (zp_X6_faultOfWedding, 6, 0, 0) (yX6_faultOfWedding, cX6_faultOfWedding, 6, (some .int), 6, 0, 0) rfl rfl rfl
  have e5 : cs = e9 :: r9 := by
    unfold ze_tgt at h4
    rw [show (0 / 16 : Nat) = 0 from rfl, h5] at h4
    exact (Option.some.inj h4).symm
  subst e5
  refine Met.ofW (cc := cX6_faultOfWedding) (maxL := 6) (ret := some .int) hpl rfl ?_
  intro p e s m args below meth c s₁ B hml hP
  obtain ⟨rfl, hP1, hP2, hP3, hP4, hP5⟩ := hP
  have hts := atoms_spec (ws := Cond.code yX6_faultOfWedding cX6_faultOfWedding 6 (some .int) :: zb_T) B.pre
  have hw : ∀ w ∈ zb_T, w.before avs.toArray s = true := fun w h => hts w (List.mem_cons_of_mem _ h)
  have hown : s.vm.findClass "ConfettiMinutes$Script" = some m.cls := findClass_of_methodNamed B.named
  have hnm := (name_of_methodNamed B.named B.method).1
  have hSt : ze_S sp A s := hP5.2.2.2.2.2
  have hFx : ze_Fx p l (headSpec (Cond.code yX6_faultOfWedding cX6_faultOfWedding 6 (some .int) :: zb_T) (ze_rm D 0 0)).room s m avs.toArray meth c dC dI dA sp xs A 6 6 20 cX6_faultOfWedding (some .int) ini zp_X6_faultOfWedding (ze_ex zp_all 20) 0 0 :=
    ⟨zF, B.exec, B.bytes, hml, by rw [hzn]; exact hown, hP2, hP5, hP4, hw, ⟨rfl, rfl⟩, ⟨(by show 20 + 1 ≤ D; omega), (by show 70 * (20 + 1) ≤ 70 * D; omega)⟩, fun hi => hnm.trans (hini hi), fun y q hy => zF_ex 20 y q hy, hcode⟩
  have hend := ze_ends (l := l) (dC := dC) (dI := dI) (dA := dA) (sp := sp) (xs := xs) (A := A) (e := e) (R := (headSpec (Cond.code yX6_faultOfWedding cX6_faultOfWedding 6 (some .int) :: zb_T) (ze_rm D 0 0)).room) (s := s) (m := m) (args := avs.toArray) (below := below) (nL := 6) (mc := 0) (ms := 0) (k := k') (z0 := (ρ, ws.map (·.1))) B.exec B.bytes B.returns B.notSynchronized
  have hb2 : ze_KK p l e (headSpec (Cond.code yX6_faultOfWedding cX6_faultOfWedding 6 (some .int) :: zb_T) (ze_rm D 0 0)).room s m avs.toArray below meth c (MQ below (ze_Qc dC dI dA sp A k' ρ (ws.map (·.1))) avs.toArray s 0 0 A) (ρ, ws.map (·.1)) dC dI dA sp xs A 6 (fun cs => zk_code 6 cX6_faultOfWedding 6 (some .int) ini zp_X6_faultOfWedding cs = true) (zw_2 k') := by
    intro cs ls st w1 g1 nc ns h pc hat ρ1 ws1 H locs la vs hH
    obtain ⟨hV, e8, r8, rfl, hpc⟩ := hat
    obtain ⟨a1, h⟩ := ze_condf (show cond (Nat.beq e8.2.1 90) _ false = true from h)
    obtain ⟨a2, h⟩ := ze_condf h
    have b1 : pc = 90 := hpc.symm.trans (ze_beq a1)
    subst b1
    obtain ⟨-, hVr⟩ := zk_tail hV
    have hn := zk_nx hVr a2
    cases st with
    | nil => cases h
    | cons v rest =>
      obtain ⟨a3, h⟩ := ze_condf (show cond (zh_eq v (eX 4)) _ false = true from h)
      obtain ⟨a4, h⟩ := ze_condf h
      obtain ⟨a5, h⟩ := ze_condf h
      obtain ⟨a6, hgo⟩ := ze_condf h
      have b2 := zh_eq_ok a3
      subst b2
      obtain ⟨y1, r1, q1, V1, L1⟩ := hH.2.2.2.2.2.2.2.cons
      subst q1
      have V1 : y1 = .ref (sp 2) := V1
      subst V1
      obtain ⟨lv, hl9, hLL⟩ := hH.2.2.2.2.2.2.1
      have hS := hH.2.2.2.2.2.1
      have hsum : (r1.map fun v => v.category).sum ≤ 8 := by rw [ze_cs_sum L1]; exact ze_ble' a4
      have hrm := ze_room (R := (headSpec (Cond.code yX6_faultOfWedding cX6_faultOfWedding 6 (some .int) :: zb_T) (ze_rm D 0 0)).room) (cy := 0) (sy := 0) (yL := 1) (d := 20) ⟨(by show 20 + 1 ≤ D; omega), (by show 70 * (20 + 1) ≤ 70 * D; omega)⟩ (by decide)
      have hPv : PreV s H RJ0 (sp 2) (va_Pc [.ref (sp 2)] (zw_Pc sp A)) [] := ⟨zw_blind, vk_recv (i := 0) hSt.2.1 (by omega) hS, fun U hU hWm => ⟨rfl, hSt.at (locs := locs) (by rw [hU]; exact hS) hWm⟩⟩
      · have hrun := va_runV (e := e) (below := below) (H := H) (locs := locs) (cells := nc) (slots := ns) (meth := meth) (As := []) (rest := r1) (C := RJ0) (g := F0 m 90 la (.ref (sp 2) :: r1)) ⟨B.exec, B.bytes, hml, hown, hw⟩ (zw_length (l := l) (d := 19) (sp := sp) (A := A)) (cwV 0 hw (zg_in ?_) rfl rfl rfl ⟨rfl, by decide, by decide, by decide +kernel⟩ hrm) hPv rfl rfl hl9.1 rfl (lv_room hsum) (show decode cX6_faultOfWedding 90 = .ok (.invokevirtual 31, 3) by decide +kernel) ⟨ze_ble' a5, ze_ble' a6⟩
        · refine va_calli hrun hS (fun q _ hq => hq.elim) (fun q hq => hq.elim) ?_
          intro r u t H1 locs1 ht hal hr _ hsz hkeep hS1
          subst hr
          refine ze_lb_ok hFx hend (fun _ _ _ _ _ _ _ h => by cases h) 100 _ _ _ _ _ _ _ hgo _ hn ρ1 ws1 H1 locs1 la _ ⟨hH.1, hH.2.1, hH.2.2.1, hH.2.2.2.1.kept (fun k q9 hk => hkeep _ (vx_lt hH.2.2.2.1 hk) (fun z => z)), hH.2.2.2.2.1, hS1, ⟨lv, hl9, hLL⟩, ⟨(show Value.int 0 = .int (nI 0) from congrArg Value.int (by decide +kernel)), L1⟩⟩
        · intro w' hw'
          rcases List.mem_append.mp hw' with h9 | h9
          · simp only [List.mem_cons, List.not_mem_nil, or_false] at h9
            rcases h9 with rfl | rfl | rfl | rfl
            · exact zb_in (zc_4 (List.mem_of_getElem? (i := 20) rfl)) rfl
            · exact zb_in (zc_2 (List.mem_of_getElem? (i := 157) rfl)) rfl
            · exact zb_in (zc_2 (List.mem_of_getElem? (i := 158) rfl)) rfl
            · exact zb_in (zc_1 (List.mem_of_getElem? (i := 15) rfl)) rfl
          · exact zg_code (zb_in (zc_2 (List.mem_of_getElem? (i := 159) rfl)) rfl) w' h9
  have hb1 : ze_KK p l e (headSpec (Cond.code yX6_faultOfWedding cX6_faultOfWedding 6 (some .int) :: zb_T) (ze_rm D 0 0)).room s m avs.toArray below meth c (MQ below (ze_Qc dC dI dA sp A k' ρ (ws.map (·.1))) avs.toArray s 0 0 A) (ρ, ws.map (·.1)) dC dI dA sp xs A 6 (fun cs => zk_code 6 cX6_faultOfWedding 6 (some .int) ini zp_X6_faultOfWedding cs = true) (zw_1 k') := by
    intro cs ls st w1 g1 nc ns h pc hat ρ1 ws1 H locs la vs hH
    obtain ⟨hV, e8, r8, rfl, hpc⟩ := hat
    obtain ⟨a1, h⟩ := ze_condf (show cond (Nat.beq e8.2.1 7) _ false = true from h)
    obtain ⟨a2, hgo⟩ := ze_condf h
    have b1 : pc = 7 := hpc.symm.trans (ze_beq a1)
    subst b1
    obtain ⟨-, hVr⟩ := zk_tail hV
    have hn := zk_nx hVr a2
    refine va_ldcS B.exec B.bytes hown hSt.1 (show decode cX6_faultOfWedding 7 = .ok (.ldc 29, 2) by decide +kernel) ?_
    exact ze_lh_ok hFx hend hb2 100 _ _ _ _ _ _ _ hgo _ hn ρ1 ws1 H locs la _ (hH.stk ⟨rfl, hH.2.2.2.2.2.2.2⟩)
  rw [lg_entry_eq]
  have hl := lv_entry avs (n := 6) (Nat.le_trans (ze_sl_len avs) (by rw [ze_cs_sum hLv]; exact ze_ble' c3))
  refine ze_lh_ok hFx hend hb1 100 _ _ _ _ _ _ _ h 0 ⟨hcode _ (List.mem_of_getElem? h5), e9, r9, rfl, h6⟩ ρ ws s.heap [] _ [] ⟨hG, ⟨hX, List.prefix_refl _, List.prefix_refl _⟩, hW, hP1, hP3, ⟨Nat.le_refl _, fun _ _ _ => rfl, fun q hq => by cases hq⟩, ⟨_, hl, ?_⟩, trivial⟩
  intro j v hj hn
  obtain ⟨x, q1, q2⟩ := ze_il_LL av avs _ 0 hLv j v hj hn
  rw [Nat.zero_add] at q1
  exact ⟨x, q1, q2⟩
end ZWE
theorem zT_17 : zL_run (zL_B3 (zL_run2 (zX zs_17 5) zL_no 1000000) 17) 23 zp_L_law__0 (ze_il [eX 2] 8) [] (0, []) (zL_gL 5) 0 0 = true := by decide +kernel
