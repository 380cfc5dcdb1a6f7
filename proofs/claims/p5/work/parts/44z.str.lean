/-! String.length(), isEmpty(), charAt(), indexOf() on the constants -/
section ZTX
variable {l : Launch} {sp : Nat → Nat} {A : Nat → Prop} {t : Nat}
theorem zt_blind {avs : List Value} : FrameBlind (va_Pc avs (zt_Pc sp A)) := fun a U g mk q => ⟨q.1, q.2.calls⟩
theorem zt_coder {d : Nat} (ht : t < 11) : Met l yJ0_coder_7d493 (.code yJ0_coder_7d493 cJ0_coder_7d493 1 (some .byte) :: zb_T) (ze_rm (d) 0 0) (va_Pc [.ref (zt_K sp t)] (zt_Pc sp A)) (va_Qi (fun r (_ : Unit) => r = 0) (fun _ _ => True) zw_no) 0 0 zw_no := by
  refine Met.ofW (cc := cJ0_coder_7d493) (maxL := 1) (ret := (some .byte)) (by decide +kernel) rfl ?_
  intro p e s m args below meth c s₁ B hml hP
  obtain ⟨rfl, hS⟩ := hP
  have hS : zt_S sp A s := hS
  have hts := atoms_spec (ws := Cond.code yJ0_coder_7d493 cJ0_coder_7d493 1 (some .byte) :: zb_T) B.pre
  have hw : ∀ w ∈ zb_T, w.before ([.ref (zt_K sp t)] : List Value).toArray s = true := fun w h => hts w (List.mem_cons_of_mem _ h)
  have hown : s.vm.findClass RJ0 = some m.cls := findClass_of_methodNamed B.named
  rw [lg_entry_eq]
  have hl2 := lv_entry ([.ref (zt_K sp t)] : List Value) (n := 1) (by show 1 ≤ 1; decide)
  generalize ((lg_sl ([.ref (zt_K sp t)] : List Value) ++ List.replicate (1 - (lg_sl ([.ref (zt_K sp t)] : List Value)).length) Slot.unset).toArray) = la at hl2
  have hl3 : lv_has la 1 [(0, .ref (zt_K sp t))] := hl2
  have hS0 : va_S zw_no s.heap s.heap [] := va_S.rf
  have hsc := hS.1.1 t ht
  refine va_gets (A := A) (own := RJ0) (index := 38) (ref := "java/lang/String") B.exec B.bytes hS.2.1 va_S.rf hown (hw _ (zb_in (zc_2 (List.mem_of_getElem? (i := 154) rfl)) rfl)) (fun x h => h) (by decide +kernel) ?_
  refine lv_if_eq B.exec B.bytes (off := 10) (tgt := 13) (by decide +kernel) rfl (fun h => absurd h (by decide)) (fun _ => ?_)
  refine lv_aload_n B.exec B.bytes (k := 0) (i := 0) (x := zt_K sp t) (by decide +kernel) rfl (lv_at hl3 0 rfl) ?_
  refine vk_getf (A := A) (own := RJ0) (index := 15) (ref := "java/lang/String") B.exec B.bytes hsc.2.1 va_S.rf hown (hw _ (zb_in (zc_9 (List.mem_of_getElem? (i := 46) rfl)) rfl)) (fun x h => h) (by decide +kernel) ?_
  refine lv_goto B.exec B.bytes (off := 4) (tgt := 14) (by decide +kernel) rfl ?_
  exact W.zret B.exec B.bytes B.returns (by decide +kernel) (fun t9 ht9 hw9 => ⟨⟨0, (), rfl, rfl, trivial⟩, (hS0).F ht9⟩) (hS0).2.2 (by decide +kernel) B.notSynchronized
theorem zt_lat {d : Nat} (ht : t < 11) : Met l yJ0_isLatin1_aae02 (.code yJ0_isLatin1_aae02 cJ0_isLatin1_aae02 1 (some .boolean) :: zb_T) (ze_rm (d) 0 0) (va_Pc [.ref (zt_K sp t)] (zt_Pc sp A)) (va_Qi (fun r (_ : Unit) => r = 1) (fun _ _ => True) zw_no) 0 0 zw_no := by
  refine Met.ofW (cc := cJ0_isLatin1_aae02) (maxL := 1) (ret := (some .boolean)) (by decide +kernel) rfl ?_
  intro p e s m args below meth c s₁ B hml hP
  obtain ⟨rfl, hS⟩ := hP
  have hS : zt_S sp A s := hS
  have hts := atoms_spec (ws := Cond.code yJ0_isLatin1_aae02 cJ0_isLatin1_aae02 1 (some .boolean) :: zb_T) B.pre
  have hw : ∀ w ∈ zb_T, w.before ([.ref (zt_K sp t)] : List Value).toArray s = true := fun w h => hts w (List.mem_cons_of_mem _ h)
  have hown : s.vm.findClass RJ0 = some m.cls := findClass_of_methodNamed B.named
  rw [lg_entry_eq]
  have hl2 := lv_entry ([.ref (zt_K sp t)] : List Value) (n := 1) (by show 1 ≤ 1; decide)
  generalize ((lg_sl ([.ref (zt_K sp t)] : List Value) ++ List.replicate (1 - (lg_sl ([.ref (zt_K sp t)] : List Value)).length) Slot.unset).toArray) = la at hl2
  have hl3 : lv_has la 1 [(0, .ref (zt_K sp t))] := hl2
  have hS0 : va_S zw_no s.heap s.heap [] := va_S.rf
  have hsc := hS.1.1 t ht
  refine va_gets (A := A) (own := RJ0) (index := 38) (ref := "java/lang/String") B.exec B.bytes hS.2.1 va_S.rf hown (hw _ (zb_in (zc_2 (List.mem_of_getElem? (i := 154) rfl)) rfl)) (fun x h => h) (by decide +kernel) ?_
  refine lv_if_eq B.exec B.bytes (off := 14) (tgt := 17) (by decide +kernel) rfl (fun h => absurd h (by decide)) (fun _ => ?_)
  refine lv_aload_n B.exec B.bytes (k := 0) (i := 0) (x := zt_K sp t) (by decide +kernel) rfl (lv_at hl3 0 rfl) ?_
  refine vk_getf (A := A) (own := RJ0) (index := 15) (ref := "java/lang/String") B.exec B.bytes hsc.2.1 va_S.rf hown (hw _ (zb_in (zc_9 (List.mem_of_getElem? (i := 46) rfl)) rfl)) (fun x h => h) (by decide +kernel) ?_
  refine lv_if_ne B.exec B.bytes (off := 7) (tgt := 17) (by decide +kernel) rfl (fun h => absurd rfl h) (fun _ => ?_)
  refine lv_iconst B.exec B.bytes (n := 1) (v := 1) (by decide +kernel) (by decide +kernel) ?_
  refine lv_goto B.exec B.bytes (off := 4) (tgt := 18) (by decide +kernel) rfl ?_
  exact W.zret B.exec B.bytes B.returns (by decide +kernel) (fun t9 ht9 hw9 => ⟨⟨1, (), rfl, rfl, trivial⟩, (hS0).F ht9⟩) (hS0).2.2 (by decide +kernel) B.notSynchronized
theorem zt_isEmpty {d : Nat} (ht : t < 11) : Met l yJ0_isEmpty_aae02 (.code yJ0_isEmpty_aae02 cJ0_isEmpty_aae02 1 (some .boolean) :: zb_T) (ze_rm (d) 0 0) (va_Pc [.ref (zt_K sp t)] (zt_Pc sp A)) (va_Qi (fun r (_ : Unit) => r = nI (zcd (Nat.beq (zt_l.getD t 0) 0) 1 0)) (fun _ _ => True) zw_no) 0 0 zw_no := by
  refine Met.ofW (cc := cJ0_isEmpty_aae02) (maxL := 1) (ret := (some .boolean)) (by decide +kernel) rfl ?_
  intro p e s m args below meth c s₁ B hml hP
  obtain ⟨rfl, hS⟩ := hP
  have hS : zt_S sp A s := hS
  have hts := atoms_spec (ws := Cond.code yJ0_isEmpty_aae02 cJ0_isEmpty_aae02 1 (some .boolean) :: zb_T) B.pre
  have hw : ∀ w ∈ zb_T, w.before ([.ref (zt_K sp t)] : List Value).toArray s = true := fun w h => hts w (List.mem_cons_of_mem _ h)
  have hown : s.vm.findClass RJ0 = some m.cls := findClass_of_methodNamed B.named
  rw [lg_entry_eq]
  have hl2 := lv_entry ([.ref (zt_K sp t)] : List Value) (n := 1) (by show 1 ≤ 1; decide)
  generalize ((lg_sl ([.ref (zt_K sp t)] : List Value) ++ List.replicate (1 - (lg_sl ([.ref (zt_K sp t)] : List Value)).length) Slot.unset).toArray) = la at hl2
  have hl3 : lv_has la 1 [(0, .ref (zt_K sp t))] := hl2
  have hS0 : va_S zw_no s.heap s.heap [] := va_S.rf
  have hsc := hS.1.1 t ht
  refine lv_aload_n B.exec B.bytes (k := 0) (i := 0) (x := zt_K sp t) (by decide +kernel) rfl (lv_at hl3 0 rfl) ?_
  refine vk_getf (A := A) (own := RJ0) (index := 9) (ref := "java/lang/String") B.exec B.bytes hsc.2.2.1 va_S.rf hown (hw _ (zb_in (zc_9 (List.mem_of_getElem? (i := 47) rfl)) rfl)) (fun x h => h) (by decide +kernel) ?_
  refine va_tlen (A := A) B.exec B.bytes hsc.2.2.2 va_S.rf (v := Int32.ofNat (zt_l.getD t 0)) rfl (by decide +kernel) ?_
  have hz : ∀ t, t < 11 → (Int32.ofNat (zt_l.getD t 0) = 0 ↔ zt_l.getD t 0 = 0) := by decide +kernel
  have hz := hz t ht
  refine lv_if_ne B.exec B.bytes (off := 7) (tgt := 12) (by decide +kernel) rfl (fun h => ?_) (fun h => ?_)
  · have h2 : Nat.beq (zt_l.getD t 0) 0 = false := by
      cases hq : Nat.beq (zt_l.getD t 0) 0 with
      | false => rfl
      | true => exact absurd (hz.mpr (ze_beq hq)) h
    rw [h2]
    refine lv_iconst B.exec B.bytes (n := 0) (v := 0) (by decide +kernel) (by decide +kernel) ?_
    exact W.zret B.exec B.bytes B.returns (by decide +kernel) (fun t9 ht9 hw9 => ⟨⟨0, (), rfl, (by decide +kernel), trivial⟩, (hS0).F ht9⟩) (hS0).2.2 (by decide +kernel) B.notSynchronized
  · have h2 : Nat.beq (zt_l.getD t 0) 0 = true := by rw [hz.mp h]; rfl
    rw [h2]
    refine lv_iconst B.exec B.bytes (n := 1) (v := 1) (by decide +kernel) (by decide +kernel) ?_
    refine lv_goto B.exec B.bytes (off := 4) (tgt := 13) (by decide +kernel) rfl ?_
    exact W.zret B.exec B.bytes B.returns (by decide +kernel) (fun t9 ht9 hw9 => ⟨⟨1, (), rfl, (by decide +kernel), trivial⟩, (hS0).F ht9⟩) (hS0).2.2 (by decide +kernel) B.notSynchronized
theorem zt_length {d : Nat} (ht : t < 11) : Met l yJ0_length_8abf5 (.code yJ0_length_8abf5 cJ0_length_8abf5 1 (some .int) :: zb_T) (ze_rm (d + 1) 0 0) (va_Pc [.ref (zt_K sp t)] (zt_Pc sp A)) (va_Qi (fun r (_ : Unit) => r = nI (zt_l.getD t 0)) (fun _ _ => True) zw_no) 0 0 zw_no := by
  refine Met.ofW (cc := cJ0_length_8abf5) (maxL := 1) (ret := (some .int)) (by decide +kernel) rfl ?_
  intro p e s m args below meth c s₁ B hml hP
  obtain ⟨rfl, hS⟩ := hP
  have hS : zt_S sp A s := hS
  have hts := atoms_spec (ws := Cond.code yJ0_length_8abf5 cJ0_length_8abf5 1 (some .int) :: zb_T) B.pre
  have hw : ∀ w ∈ zb_T, w.before ([.ref (zt_K sp t)] : List Value).toArray s = true := fun w h => hts w (List.mem_cons_of_mem _ h)
  have hown : s.vm.findClass RJ0 = some m.cls := findClass_of_methodNamed B.named
  rw [lg_entry_eq]
  have hl2 := lv_entry ([.ref (zt_K sp t)] : List Value) (n := 1) (by show 1 ≤ 1; decide)
  generalize ((lg_sl ([.ref (zt_K sp t)] : List Value) ++ List.replicate (1 - (lg_sl ([.ref (zt_K sp t)] : List Value)).length) Slot.unset).toArray) = la at hl2
  have hl3 : lv_has la 1 [(0, .ref (zt_K sp t))] := hl2
  have hS0 : va_S zw_no s.heap s.heap [] := va_S.rf
  have hsc := hS.1.1 t ht
  refine lv_aload_n B.exec B.bytes (k := 0) (i := 0) (x := zt_K sp t) (by decide +kernel) rfl (lv_at hl3 0 rfl) ?_
  refine vk_getf (A := A) (own := RJ0) (index := 9) (ref := "java/lang/String") B.exec B.bytes hsc.2.2.1 va_S.rf hown (hw _ (zb_in (zc_9 (List.mem_of_getElem? (i := 47) rfl)) rfl)) (fun x h => h) (by decide +kernel) ?_
  refine va_tlen (A := A) B.exec B.bytes hsc.2.2.2 va_S.rf (v := Int32.ofNat (zt_l.getD t 0)) rfl (by decide +kernel) ?_
  refine lv_aload_n B.exec B.bytes (k := 0) (i := 0) (x := zt_K sp t) (by decide +kernel) rfl (lv_at hl3 0 rfl) ?_
  have hrm := ze_room (R := (headSpec (Cond.code yJ0_length_8abf5 cJ0_length_8abf5 1 (some .int) :: zb_T) (ze_rm (d + 1) 0 0)).room) (cy := 0) (sy := 0) (yL := 1) (d := d) ⟨Nat.le_refl _, Nat.le_refl _⟩ (by decide)
  have hPv : PreV s s.heap RJ0 (zt_K sp t) (va_Pc [.ref (zt_K sp t)] (zt_Pc sp A)) [] := ⟨zt_blind, vk_recv (i := t) hS.1 ht (zt_SA hS0), fun U hU hWm => ⟨rfl, hS.at (locs := []) (by rw [hU]; exact zt_SA hS0) hWm⟩⟩
  have hrun := va_runV (e := e) (below := below) (H := s.heap) (locs := []) (cells := 0) (slots := 0) (meth := meth) (As := []) (rest := [.int (Int32.ofNat (zt_l.getD t 0))]) (C := RJ0) (g := F0 m 6 la (.ref (zt_K sp t) :: [.int (Int32.ofNat (zt_l.getD t 0))])) ⟨B.exec, B.bytes, hml, hown, hw⟩ (zt_coder (l := l) (d := d) (sp := sp) (A := A) (t := t) ht) (cwV 0 hw (zg_in ?_) rfl rfl rfl ⟨rfl, by decide, by decide, by decide +kernel⟩ hrm) hPv rfl rfl hl3.1 rfl (by show 2 * 0 + (1 + 0) ≤ 8; decide) (show decode cJ0_length_8abf5 6 = .ok (.invokevirtual 335, 3) by decide +kernel) ⟨Nat.le_refl _, Nat.le_refl _⟩
  · refine va_calli hrun hS0 (fun q _ hq => hq) (fun q hq => hq) ?_
    intro r1 u1 t1 H1 locs1 ht1 hal1 hr1 _ hsz1 hkeep1 hS1
    subst hr1
    refine lv_ishr B.exec B.bytes (by decide +kernel) ?_
    rw [zt_shr t ht]
    exact W.zret B.exec B.bytes B.returns rfl (fun t9 ht9 hw9 => ⟨⟨nI (zt_l.getD t 0), (), rfl, rfl, trivial⟩, (hS1).F ht9⟩) (hS1).2.2 (by decide +kernel) B.notSynchronized
  · intro w' hw'
    rcases List.mem_append.mp hw' with h9 | h9
    · simp only [List.mem_cons, List.not_mem_nil, or_false] at h9
      rcases h9 with rfl | rfl | rfl | rfl
      · exact zb_in (zc_2 (List.mem_of_getElem? (i := 160) rfl)) rfl
      · exact zb_in (zc_2 (List.mem_of_getElem? (i := 161) rfl)) rfl
      · exact zb_in (zc_2 (List.mem_of_getElem? (i := 162) rfl)) rfl
      · exact zb_in (zc_1 (List.mem_of_getElem? (i := 15) rfl)) rfl
    · exact zg_code (zb_in (zc_2 (List.mem_of_getElem? (i := 163) rfl)) rfl) w' h9
theorem zt_chkN {d : Nat} {i n : Int32} (h0 : ¬ i < 0) (h1 : i < n) : Met l yJ3_checkIndex_8e157 (.code yJ3_checkIndex_8e157 cJ3_checkIndex_8e157 3 (some .int) :: zb_T) (ze_rm (d) 0 0) (va_Pc [.int i, .int n, .null] (zt_Pc sp A)) (va_Qi (fun r (_ : Unit) => True) (fun _ _ => True) zw_no) 0 0 zw_no := by
  refine Met.ofW (cc := cJ3_checkIndex_8e157) (maxL := 3) (ret := (some .int)) (by decide +kernel) rfl ?_
  intro p e s m args below meth c s₁ B hml hP
  obtain ⟨rfl, hS⟩ := hP
  have hS : zt_S sp A s := hS
  have hts := atoms_spec (ws := Cond.code yJ3_checkIndex_8e157 cJ3_checkIndex_8e157 3 (some .int) :: zb_T) B.pre
  have hw : ∀ w ∈ zb_T, w.before ([.int i, .int n, .null] : List Value).toArray s = true := fun w h => hts w (List.mem_cons_of_mem _ h)
  have hown : s.vm.findClass RJ3 = some m.cls := findClass_of_methodNamed B.named
  rw [lg_entry_eq]
  have hl2 := lv_entry ([.int i, .int n, .null] : List Value) (n := 3) (by show 3 ≤ 3; decide)
  generalize ((lg_sl ([.int i, .int n, .null] : List Value) ++ List.replicate (3 - (lg_sl ([.int i, .int n, .null] : List Value)).length) Slot.unset).toArray) = la at hl2
  have hl3 : lv_has la 3 [(0, .int i), (1, .int n), (2, .null)] := hl2
  have hS0 : va_S zw_no s.heap s.heap [] := va_S.rf
  refine lv_iload_n B.exec B.bytes (k := 0) (i := 0) (x := i) (by decide +kernel) rfl (lv_at hl3 0 rfl) ?_
  refine lv_if_lt B.exec B.bytes (off := 8) (tgt := 9) (by decide +kernel) rfl (fun h => absurd h h0) (fun _ => ?_)
  refine lv_iload_n B.exec B.bytes (k := 0) (i := 0) (x := i) (by decide +kernel) rfl (lv_at hl3 0 rfl) ?_
  refine lv_iload_n B.exec B.bytes (k := 1) (i := 1) (x := n) (by decide +kernel) rfl (lv_at hl3 1 rfl) ?_
  refine lv_icmp_lt B.exec B.bytes (off := 10) (tgt := 16) (by decide +kernel) rfl (fun _ => ?_) (fun h => absurd h1 h)
  refine lv_iload_n B.exec B.bytes (k := 0) (i := 0) (x := i) (by decide +kernel) rfl (lv_at hl3 0 rfl) ?_
  exact W.zret B.exec B.bytes B.returns rfl (fun t9 ht9 hw9 => ⟨⟨i, (), rfl, trivial, trivial⟩, (hS0).F ht9⟩) (hS0).2.2 (by decide +kernel) B.notSynchronized
theorem zt_chkR {d : Nat} {a : Nat} {i n : Int32} (h0 : ¬ i < 0) (h1 : i < n) : Met l yJ3_checkIndex_8e157 (.code yJ3_checkIndex_8e157 cJ3_checkIndex_8e157 3 (some .int) :: zb_T) (ze_rm (d) 0 0) (va_Pc [.int i, .int n, .ref a] (zt_Pc sp A)) (va_Qi (fun r (_ : Unit) => True) (fun _ _ => True) zw_no) 0 0 zw_no := by
  refine Met.ofW (cc := cJ3_checkIndex_8e157) (maxL := 3) (ret := (some .int)) (by decide +kernel) rfl ?_
  intro p e s m args below meth c s₁ B hml hP
  obtain ⟨rfl, hS⟩ := hP
  have hS : zt_S sp A s := hS
  have hts := atoms_spec (ws := Cond.code yJ3_checkIndex_8e157 cJ3_checkIndex_8e157 3 (some .int) :: zb_T) B.pre
  have hw : ∀ w ∈ zb_T, w.before ([.int i, .int n, .ref a] : List Value).toArray s = true := fun w h => hts w (List.mem_cons_of_mem _ h)
  have hown : s.vm.findClass RJ3 = some m.cls := findClass_of_methodNamed B.named
  rw [lg_entry_eq]
  have hl2 := lv_entry ([.int i, .int n, .ref a] : List Value) (n := 3) (by show 3 ≤ 3; decide)
  generalize ((lg_sl ([.int i, .int n, .ref a] : List Value) ++ List.replicate (3 - (lg_sl ([.int i, .int n, .ref a] : List Value)).length) Slot.unset).toArray) = la at hl2
  have hl3 : lv_has la 3 [(0, .int i), (1, .int n), (2, .ref a)] := hl2
  have hS0 : va_S zw_no s.heap s.heap [] := va_S.rf
  refine lv_iload_n B.exec B.bytes (k := 0) (i := 0) (x := i) (by decide +kernel) rfl (lv_at hl3 0 rfl) ?_
  refine lv_if_lt B.exec B.bytes (off := 8) (tgt := 9) (by decide +kernel) rfl (fun h => absurd h h0) (fun _ => ?_)
  refine lv_iload_n B.exec B.bytes (k := 0) (i := 0) (x := i) (by decide +kernel) rfl (lv_at hl3 0 rfl) ?_
  refine lv_iload_n B.exec B.bytes (k := 1) (i := 1) (x := n) (by decide +kernel) rfl (lv_at hl3 1 rfl) ?_
  refine lv_icmp_lt B.exec B.bytes (off := 10) (tgt := 16) (by decide +kernel) rfl (fun _ => ?_) (fun h => absurd h1 h)
  refine lv_iload_n B.exec B.bytes (k := 0) (i := 0) (x := i) (by decide +kernel) rfl (lv_at hl3 0 rfl) ?_
  exact W.zret B.exec B.bytes B.returns rfl (fun t9 ht9 hw9 => ⟨⟨i, (), rfl, trivial, trivial⟩, (hS0).F ht9⟩) (hS0).2.2 (by decide +kernel) B.notSynchronized
theorem zt_chk {d : Nat} {i n : Int32} (h0 : ¬ i < 0) (h1 : i < n) : Met l yJ0_checkIndex_df160 (.code yJ0_checkIndex_df160 cJ0_checkIndex_df160 2 none :: zb_T) (ze_rm (d + 1) 0 0) (va_Pc [.int i, .int n] (zt_Pc sp A)) (va_Qv (fun (_ : Unit) => True) (fun _ _ => True) zw_no) 0 0 zw_no := by
  refine Met.ofW (cc := cJ0_checkIndex_df160) (maxL := 2) (ret := none) (by decide +kernel) rfl ?_
  intro p e s m args below meth c s₁ B hml hP
  obtain ⟨rfl, hS⟩ := hP
  have hS : zt_S sp A s := hS
  have hts := atoms_spec (ws := Cond.code yJ0_checkIndex_df160 cJ0_checkIndex_df160 2 none :: zb_T) B.pre
  have hw : ∀ w ∈ zb_T, w.before ([.int i, .int n] : List Value).toArray s = true := fun w h => hts w (List.mem_cons_of_mem _ h)
  have hown : s.vm.findClass RJ0 = some m.cls := findClass_of_methodNamed B.named
  rw [lg_entry_eq]
  have hl2 := lv_entry ([.int i, .int n] : List Value) (n := 2) (by show 2 ≤ 2; decide)
  generalize ((lg_sl ([.int i, .int n] : List Value) ++ List.replicate (2 - (lg_sl ([.int i, .int n] : List Value)).length) Slot.unset).toArray) = la at hl2
  have hl3 : lv_has la 2 [(0, .int i), (1, .int n)] := hl2
  have hS0 : va_S zw_no s.heap s.heap [] := va_S.rf
  refine lv_iload_n B.exec B.bytes (k := 0) (i := 0) (x := i) (by decide +kernel) rfl (lv_at hl3 0 rfl) ?_
  refine lv_iload_n B.exec B.bytes (k := 1) (i := 1) (x := n) (by decide +kernel) rfl (lv_at hl3 1 rfl) ?_
  have hrm := ze_room (R := (headSpec (Cond.code yJ0_checkIndex_df160 cJ0_checkIndex_df160 2 none :: zb_T) (ze_rm (d + 1) 0 0)).room) (cy := 0) (sy := 0) (yL := 3) (d := d) ⟨Nat.le_refl _, Nat.le_refl _⟩ (by decide)
  rcases hS.2.2 with hZ | ⟨a, hZ⟩
  · refine va_gets (A := A) (own := RJ0) (index := 1053) (ref := "jdk/internal/util/Preconditions") B.exec B.bytes hZ va_S.rf hown (hw _ (zb_in (zc_2 (List.mem_of_getElem? (i := 195) rfl)) rfl)) (fun x h => h) (by decide +kernel) ?_
    have hPs : PreS s s.heap (va_Pc [.int i, .int n, .null] (zt_Pc sp A)) [.int i, .int n, .null] := ⟨zt_blind, fun U hU hWm => ⟨rfl, hS.at (locs := []) (by rw [hU]; exact zt_SA hS0) hWm⟩⟩
    have hrun := va_runS (e := e) (below := below) (H := s.heap) (locs := []) (cells := 0) (slots := 0) (meth := meth) (As := [.int i, .int n, .null]) (rest := []) (g := F0 m 5 la (([.int i, .int n, .null] : List Value).reverse ++ [])) ⟨B.exec, B.bytes, hml, hown, hw⟩ (zt_chkN (l := l) (d := d) (sp := sp) (A := A) (i := i) (n := n) h0 h1) ⟨callB_of 3 hw (zg_in (zg_code (zb_in (zc_4 (List.mem_of_getElem? (i := 33) rfl)) rfl))) rfl rfl rfl (hw _ (zb_in (zc_1 (List.mem_of_getElem? (i := 18) rfl)) rfl)) (hw _ (zb_in (zc_4 (List.mem_of_getElem? (i := 31) rfl)) rfl)) ⟨by decide, by decide, by decide +kernel⟩ hrm, hw _ (zb_in (zc_4 (List.mem_of_getElem? (i := 32) rfl)) rfl)⟩ hPs rfl rfl hl3.1 rfl (by show 2 * 0 + (0) ≤ 8; decide) (show decode cJ0_checkIndex_df160 5 = .ok (.invokestatic 1059, 3) by decide +kernel) ⟨Nat.le_refl _, Nat.le_refl _⟩
    refine va_calli hrun hS0 (fun q _ hq => hq) (fun q hq => hq) ?_
    intro r1 u1 t1 H1 locs1 ht1 hal1 hr1 _ hsz1 hkeep1 hS1
    refine lv_pop B.exec B.bytes (by decide +kernel) rfl ?_
    exact W.vret B.exec B.bytes B.returns (fun t9 ht9 hw9 => ⟨⟨(), rfl, trivial, trivial⟩, hS1.F ht9⟩) hS1.2.2 (by decide +kernel) B.notSynchronized
  · refine va_gets (A := A) (own := RJ0) (index := 1053) (ref := "jdk/internal/util/Preconditions") B.exec B.bytes hZ va_S.rf hown (hw _ (zb_in (zc_2 (List.mem_of_getElem? (i := 195) rfl)) rfl)) (fun x h => h) (by decide +kernel) ?_
    have hPs : PreS s s.heap (va_Pc [.int i, .int n, .ref a] (zt_Pc sp A)) [.int i, .int n, .ref a] := ⟨zt_blind, fun U hU hWm => ⟨rfl, hS.at (locs := []) (by rw [hU]; exact zt_SA hS0) hWm⟩⟩
    have hrun := va_runS (e := e) (below := below) (H := s.heap) (locs := []) (cells := 0) (slots := 0) (meth := meth) (As := [.int i, .int n, .ref a]) (rest := []) (g := F0 m 5 la (([.int i, .int n, .ref a] : List Value).reverse ++ [])) ⟨B.exec, B.bytes, hml, hown, hw⟩ (zt_chkR (l := l) (d := d) (sp := sp) (A := A) (a := a) (i := i) (n := n) h0 h1) ⟨callB_of 3 hw (zg_in (zg_code (zb_in (zc_4 (List.mem_of_getElem? (i := 33) rfl)) rfl))) rfl rfl rfl (hw _ (zb_in (zc_1 (List.mem_of_getElem? (i := 18) rfl)) rfl)) (hw _ (zb_in (zc_4 (List.mem_of_getElem? (i := 31) rfl)) rfl)) ⟨by decide, by decide, by decide +kernel⟩ hrm, hw _ (zb_in (zc_4 (List.mem_of_getElem? (i := 32) rfl)) rfl)⟩ hPs rfl rfl hl3.1 rfl (by show 2 * 0 + (0) ≤ 8; decide) (show decode cJ0_checkIndex_df160 5 = .ok (.invokestatic 1059, 3) by decide +kernel) ⟨Nat.le_refl _, Nat.le_refl _⟩
    refine va_calli hrun hS0 (fun q _ hq => hq) (fun q hq => hq) ?_
    intro r1 u1 t1 H1 locs1 ht1 hal1 hr1 _ hsz1 hkeep1 hS1
    refine lv_pop B.exec B.bytes (by decide +kernel) rfl ?_
    exact W.vret B.exec B.bytes B.returns (fun t9 ht9 hw9 => ⟨⟨(), rfl, trivial, trivial⟩, hS1.F ht9⟩) hS1.2.2 (by decide +kernel) B.notSynchronized
theorem zt_lch {d : Nat} (ht : t < 11) {k : Nat} (hk : k < zt_l.getD t 0) : Met l yJ1_charAt_3b067 (.code yJ1_charAt_3b067 cJ1_charAt_3b067 2 (some .char) :: zb_T) (ze_rm (d + 2) 0 0) (va_Pc [.ref (zt_V sp t), .int (nI k)] (zt_Pc sp A)) (va_Qi (fun r (_ : Unit) => r = nI (zt_c t k)) (fun _ _ => True) zw_no) 0 0 zw_no := by
  refine Met.ofW (cc := cJ1_charAt_3b067) (maxL := 2) (ret := (some .char)) (by decide +kernel) rfl ?_
  intro p e s m args below meth c s₁ B hml hP
  obtain ⟨rfl, hS⟩ := hP
  have hS : zt_S sp A s := hS
  have hts := atoms_spec (ws := Cond.code yJ1_charAt_3b067 cJ1_charAt_3b067 2 (some .char) :: zb_T) B.pre
  have hw : ∀ w ∈ zb_T, w.before ([.ref (zt_V sp t), .int (nI k)] : List Value).toArray s = true := fun w h => hts w (List.mem_cons_of_mem _ h)
  have hown : s.vm.findClass RJ1 = some m.cls := findClass_of_methodNamed B.named
  rw [lg_entry_eq]
  have hl2 := lv_entry ([.ref (zt_V sp t), .int (nI k)] : List Value) (n := 2) (by show 2 ≤ 2; decide)
  generalize ((lg_sl ([.ref (zt_V sp t), .int (nI k)] : List Value) ++ List.replicate (2 - (lg_sl ([.ref (zt_V sp t), .int (nI k)] : List Value)).length) Slot.unset).toArray) = la at hl2
  have hl3 : lv_has la 2 [(0, .ref (zt_V sp t)), (1, .int (nI k))] := hl2
  have hS0 : va_S zw_no s.heap s.heap [] := va_S.rf
  have hsc := hS.1.1 t ht
  have hle := zt_len t ht
  have hch := zt_chr t ht k hk
  refine lv_iload_n B.exec B.bytes (k := 1) (i := 1) (x := nI k) (by decide +kernel) rfl (lv_at hl3 1 rfl) ?_
  refine lv_aload_n B.exec B.bytes (k := 0) (i := 0) (x := zt_V sp t) (by decide +kernel) rfl (lv_at hl3 0 rfl) ?_
  refine va_tlen (A := A) B.exec B.bytes hsc.2.2.2 va_S.rf (v := nI (zt_l.getD t 0)) rfl (by decide +kernel) ?_
  have hrm := ze_room (R := (headSpec (Cond.code yJ1_charAt_3b067 cJ1_charAt_3b067 2 (some .char) :: zb_T) (ze_rm (d + 2) 0 0)).room) (cy := 0) (sy := 0) (yL := 2) (d := d + 1) ⟨Nat.le_refl _, Nat.le_refl _⟩ (by decide)
  have hPs : PreS s s.heap (va_Pc [.int (nI k), .int (nI (zt_l.getD t 0))] (zt_Pc sp A)) [.int (nI k), .int (nI (zt_l.getD t 0))] := ⟨zt_blind, fun U hU hWm => ⟨rfl, hS.at (locs := []) (by rw [hU]; exact zt_SA hS0) hWm⟩⟩
  have hrun := va_runS (e := e) (below := below) (H := s.heap) (locs := []) (cells := 0) (slots := 0) (meth := meth) (As := [.int (nI k), .int (nI (zt_l.getD t 0))]) (rest := []) (g := F0 m 3 la (([.int (nI k), .int (nI (zt_l.getD t 0))] : List Value).reverse ++ [])) ⟨B.exec, B.bytes, hml, hown, hw⟩ (zt_chk (l := l) (d := d) (sp := sp) (A := A) (i := nI k) (n := nI (zt_l.getD t 0)) (nI_pos (by omega)) (nI_lt hk (by omega))) ⟨callB_of 2 hw (zg_in (zg_code (zb_in (zc_4 (List.mem_of_getElem? (i := 30) rfl)) rfl))) rfl rfl rfl (hw _ (zb_in (zc_1 (List.mem_of_getElem? (i := 15) rfl)) rfl)) (hw _ (zb_in (zc_4 (List.mem_of_getElem? (i := 28) rfl)) rfl)) ⟨by decide, by decide, by decide +kernel⟩ hrm, hw _ (zb_in (zc_4 (List.mem_of_getElem? (i := 29) rfl)) rfl)⟩ hPs rfl rfl hl3.1 rfl (by show 2 * 0 + (0) ≤ 8; decide) (show decode cJ1_charAt_3b067 3 = .ok (.invokestatic 9, 3) by decide +kernel) ⟨Nat.le_refl _, Nat.le_refl _⟩
  refine va_callv hrun hS0 (fun q _ hq => hq) (fun q hq => hq) ?_
  intro u1 t1 H1 locs1 ht1 hal1 _ _ hsz1 hkeep1 hS1
  refine lv_aload_n B.exec B.bytes (k := 0) (i := 0) (x := zt_V sp t) (by decide +kernel) rfl (lv_at hl3 0 rfl) ?_
  refine lv_iload_n B.exec B.bytes (k := 1) (i := 1) (x := nI k) (by decide +kernel) rfl (lv_at hl3 1 rfl) ?_
  refine va_tb (A := A) B.exec B.bytes hsc.2.2.2 (zt_SA hS1) (i := nI k) (ze_vin (by omega) hk) (v := .int ((zt_b.getD t []).getD k 0)) (by rw [ze_cln (by omega)]) (by decide +kernel) ?_
  refine lv_sipush B.exec B.bytes (n := 255) (v := 255) (by decide +kernel) (by decide +kernel) ?_
  refine lv_iand B.exec B.bytes (by decide +kernel) ?_
  refine lv_i2c B.exec B.bytes (v := nI (zt_c t k)) (by decide +kernel) hch.1 ?_
  exact W.zret B.exec B.bytes B.returns (ze_char _ (Nat.le_trans hch.2 (by decide))).1 (fun t9 ht9 hw9 => ⟨⟨nI (zt_c t k), (), rfl, rfl, trivial⟩, (hS1).F ht9⟩) (hS1).2.2 (by decide +kernel) B.notSynchronized
theorem zt_charAt {d : Nat} (ht : t < 11) {k : Nat} (hk : k < zt_l.getD t 0) : Met l yJ0_charAt_5068e (.code yJ0_charAt_5068e cJ0_charAt_5068e 2 (some .char) :: zb_T) (ze_rm (d + 3) 0 0) (va_Pc [.ref (zt_K sp t), .int (nI k)] (zt_Pc sp A)) (va_Qi (fun r (_ : Unit) => r = nI (zt_c t k)) (fun _ _ => True) zw_no) 0 0 zw_no := by
  refine Met.ofW (cc := cJ0_charAt_5068e) (maxL := 2) (ret := (some .char)) (by decide +kernel) rfl ?_
  intro p e s m args below meth c s₁ B hml hP
  obtain ⟨rfl, hS⟩ := hP
  have hS : zt_S sp A s := hS
  have hts := atoms_spec (ws := Cond.code yJ0_charAt_5068e cJ0_charAt_5068e 2 (some .char) :: zb_T) B.pre
  have hw : ∀ w ∈ zb_T, w.before ([.ref (zt_K sp t), .int (nI k)] : List Value).toArray s = true := fun w h => hts w (List.mem_cons_of_mem _ h)
  have hown : s.vm.findClass RJ0 = some m.cls := findClass_of_methodNamed B.named
  rw [lg_entry_eq]
  have hl2 := lv_entry ([.ref (zt_K sp t), .int (nI k)] : List Value) (n := 2) (by show 2 ≤ 2; decide)
  generalize ((lg_sl ([.ref (zt_K sp t), .int (nI k)] : List Value) ++ List.replicate (2 - (lg_sl ([.ref (zt_K sp t), .int (nI k)] : List Value)).length) Slot.unset).toArray) = la at hl2
  have hl3 : lv_has la 2 [(0, .ref (zt_K sp t)), (1, .int (nI k))] := hl2
  have hS0 : va_S zw_no s.heap s.heap [] := va_S.rf
  have hsc := hS.1.1 t ht
  have hch := zt_chr t ht k hk
  refine lv_aload_n B.exec B.bytes (k := 0) (i := 0) (x := zt_K sp t) (by decide +kernel) rfl (lv_at hl3 0 rfl) ?_
  have hrm := ze_room (R := (headSpec (Cond.code yJ0_charAt_5068e cJ0_charAt_5068e 2 (some .char) :: zb_T) (ze_rm (d + 3) 0 0)).room) (cy := 0) (sy := 0) (yL := 1) (d := d + 2) ⟨Nat.le_refl _, Nat.le_refl _⟩ (by decide)
  have hPv : PreV s s.heap RJ0 (zt_K sp t) (va_Pc [.ref (zt_K sp t)] (zt_Pc sp A)) [] := ⟨zt_blind, vk_recv (i := t) hS.1 ht (zt_SA hS0), fun U hU hWm => ⟨rfl, hS.at (locs := []) (by rw [hU]; exact zt_SA hS0) hWm⟩⟩
  have hrun := va_runV (e := e) (below := below) (H := s.heap) (locs := []) (cells := 0) (slots := 0) (meth := meth) (As := []) (rest := []) (C := RJ0) (g := F0 m 1 la (.ref (zt_K sp t) :: [])) ⟨B.exec, B.bytes, hml, hown, hw⟩ (zt_lat (l := l) (d := d + 2) (sp := sp) (A := A) (t := t) ht) (cwV 0 hw (zg_in ?_) rfl rfl rfl ⟨rfl, by decide, by decide, by decide +kernel⟩ hrm) hPv rfl rfl hl3.1 rfl (by show 2 * 0 + (0) ≤ 8; decide) (show decode cJ0_charAt_5068e 1 = .ok (.invokevirtual 492, 3) by decide +kernel) ⟨Nat.le_refl _, Nat.le_refl _⟩
  · refine va_calli hrun hS0 (fun q _ hq => hq) (fun q hq => hq) ?_
    intro r1 u1 t1 H1 locs1 ht1 hal1 hr1 _ hsz1 hkeep1 hS1
    subst hr1
    refine lv_if_eq B.exec B.bytes (off := 12) (tgt := 16) (by decide +kernel) rfl (fun h => absurd h (by decide)) (fun _ => ?_)
    refine lv_aload_n B.exec B.bytes (k := 0) (i := 0) (x := zt_K sp t) (by decide +kernel) rfl (lv_at hl3 0 rfl) ?_
    refine vk_getf (A := A) (own := RJ0) (index := 9) (ref := "java/lang/String") B.exec B.bytes hsc.2.2.1 (zt_SA hS1) hown (hw _ (zb_in (zc_9 (List.mem_of_getElem? (i := 47) rfl)) rfl)) (fun x h => h) (by decide +kernel) ?_
    refine lv_iload_n B.exec B.bytes (k := 1) (i := 1) (x := nI k) (by decide +kernel) rfl (lv_at hl3 1 rfl) ?_
    have hrm := ze_room (R := (headSpec (Cond.code yJ0_charAt_5068e cJ0_charAt_5068e 2 (some .char) :: zb_T) (ze_rm (d + 3) 0 0)).room) (cy := 0) (sy := 0) (yL := 2) (d := d + 2) ⟨Nat.le_refl _, Nat.le_refl _⟩ (by decide)
    have hPs : PreS s H1 (va_Pc [.ref (zt_V sp t), .int (nI k)] (zt_Pc sp A)) [.ref (zt_V sp t), .int (nI k)] := ⟨zt_blind, fun U hU hWm => ⟨rfl, hS.at (locs := locs1) (by rw [hU]; exact zt_SA hS1) hWm⟩⟩
    have hrun := va_runS (e := e) (below := below) (H := H1) (locs := locs1) (cells := 0) (slots := 0) (meth := meth) (As := [.ref (zt_V sp t), .int (nI k)]) (rest := []) (g := F0 m 12 la (([.ref (zt_V sp t), .int (nI k)] : List Value).reverse ++ [])) ⟨B.exec, B.bytes, hml, hown, hw⟩ (zt_lch (l := l) (d := d) (sp := sp) (A := A) (t := t) ht hk) ⟨callB_of 2 hw (zg_in (zg_code (zb_in (zc_4 (List.mem_of_getElem? (i := 27) rfl)) rfl))) rfl rfl rfl (hw _ (zb_in (zc_1 (List.mem_of_getElem? (i := 16) rfl)) rfl)) (hw _ (zb_in (zc_4 (List.mem_of_getElem? (i := 25) rfl)) rfl)) ⟨by decide, by decide, by decide +kernel⟩ hrm, hw _ (zb_in (zc_4 (List.mem_of_getElem? (i := 26) rfl)) rfl)⟩ hPs rfl rfl hl3.1 rfl (by show 2 * 0 + (0) ≤ 8; decide) (show decode cJ0_charAt_5068e 12 = .ok (.invokestatic 495, 3) by decide +kernel) ⟨Nat.le_refl _, Nat.le_refl _⟩
    refine va_calli hrun hS1 (fun q _ hq => hq) (fun q hq => hq) ?_
    intro r2 u2 t2 H2 locs2 ht2 hal2 hr2 _ hsz2 hkeep2 hS2
    subst hr2
    exact W.zret B.exec B.bytes B.returns (ze_char _ (Nat.le_trans hch.2 (by decide))).1 (fun t9 ht9 hw9 => ⟨⟨nI (zt_c t k), (), rfl, rfl, trivial⟩, (hS2).F ht9⟩) (hS2).2.2 (by decide +kernel) B.notSynchronized
  · intro w' hw'
    rcases List.mem_append.mp hw' with h9 | h9
    · simp only [List.mem_cons, List.not_mem_nil, or_false] at h9
      rcases h9 with rfl | rfl | rfl | rfl
      · exact zb_in (zc_2 (List.mem_of_getElem? (i := 150) rfl)) rfl
      · exact zb_in (zc_2 (List.mem_of_getElem? (i := 151) rfl)) rfl
      · exact zb_in (zc_2 (List.mem_of_getElem? (i := 152) rfl)) rfl
      · exact zb_in (zc_1 (List.mem_of_getElem? (i := 15) rfl)) rfl
    · exact zg_code (zb_in (zc_2 (List.mem_of_getElem? (i := 153) rfl)) rfl) w' h9
theorem zt_can {d : Nat} {i : Int32} : Met l yJ1_canEncode_9a6ad (.code yJ1_canEncode_9a6ad cJ1_canEncode_9a6ad 1 (some .boolean) :: zb_T) (ze_rm (d) 0 0) (va_Pc [.int i] (zt_Pc sp A)) (va_Qi (fun r (_ : Unit) => True) (fun _ _ => True) zw_no) 0 0 zw_no := by
  refine Met.ofW (cc := cJ1_canEncode_9a6ad) (maxL := 1) (ret := (some .boolean)) (by decide +kernel) rfl ?_
  intro p e s m args below meth c s₁ B hml hP
  obtain ⟨rfl, hS⟩ := hP
  have hS : zt_S sp A s := hS
  have hts := atoms_spec (ws := Cond.code yJ1_canEncode_9a6ad cJ1_canEncode_9a6ad 1 (some .boolean) :: zb_T) B.pre
  have hw : ∀ w ∈ zb_T, w.before ([.int i] : List Value).toArray s = true := fun w h => hts w (List.mem_cons_of_mem _ h)
  have hown : s.vm.findClass RJ1 = some m.cls := findClass_of_methodNamed B.named
  rw [lg_entry_eq]
  have hl2 := lv_entry ([.int i] : List Value) (n := 1) (by show 1 ≤ 1; decide)
  generalize ((lg_sl ([.int i] : List Value) ++ List.replicate (1 - (lg_sl ([.int i] : List Value)).length) Slot.unset).toArray) = la at hl2
  have hl3 : lv_has la 1 [(0, .int i)] := hl2
  have hS0 : va_S zw_no s.heap s.heap [] := va_S.rf
  refine lv_iload_n B.exec B.bytes (k := 0) (i := 0) (x := i) (by decide +kernel) rfl (lv_at hl3 0 rfl) ?_
  have h0 : W p l e (headSpec (Cond.code yJ1_canEncode_9a6ad cJ1_canEncode_9a6ad 1 (some .boolean) :: zb_T) (ze_rm d 0 0)).room s m ([.int i] : List Value).toArray below meth c s.heap [] 0 0 (MQ below (va_Qi (fun r (_ : Unit) => True) (fun _ _ => True) zw_no) ([.int i] : List Value).toArray s 0 0 zw_no) (F0 m 15 la []) := by
    refine lv_iconst B.exec B.bytes (n := 0) (v := 0) (by decide +kernel) (by decide +kernel) ?_
    exact W.zret B.exec B.bytes B.returns (by decide +kernel) (fun t9 ht9 hw9 => ⟨⟨0, (), rfl, trivial, trivial⟩, (hS0).F ht9⟩) (hS0).2.2 (by decide +kernel) B.notSynchronized
  refine lv_if_lt B.exec B.bytes (off := 14) (tgt := 15) (by decide +kernel) rfl (fun _ => h0) (fun _ => ?_)
  refine lv_iload_n B.exec B.bytes (k := 0) (i := 0) (x := i) (by decide +kernel) rfl (lv_at hl3 0 rfl) ?_
  refine lv_sipush B.exec B.bytes (n := 255) (v := 255) (by decide +kernel) (by decide +kernel) ?_
  refine lv_icmp_gt B.exec B.bytes (off := 7) (tgt := 15) (by decide +kernel) rfl (fun _ => h0) (fun _ => ?_)
  refine lv_iconst B.exec B.bytes (n := 1) (v := 1) (by decide +kernel) (by decide +kernel) ?_
  refine lv_goto B.exec B.bytes (off := 4) (tgt := 16) (by decide +kernel) rfl ?_
  exact W.zret B.exec B.bytes B.returns (by decide +kernel) (fun t9 ht9 hw9 => ⟨⟨1, (), rfl, trivial, trivial⟩, (hS0).F ht9⟩) (hS0).2.2 (by decide +kernel) B.notSynchronized
theorem zt_ixc {d : Nat} (ht : t < 11) {i : Int32} : Met l yJ1_indexOfChar_4cfef (.code yJ1_indexOfChar_4cfef cJ1_indexOfChar_4cfef 6 (some .int) :: zb_T) (ze_rm (d) 0 0) (va_Pc [.ref (zt_V sp t), .int i, .int (nI 0), .int (nI (zt_l.getD t 0))] (zt_Pc sp A)) (va_Qi (fun r (_ : Unit) => zt_P t r) (fun _ _ => True) zw_no) 0 0 zw_no := by
  refine Met.ofW (cc := cJ1_indexOfChar_4cfef) (maxL := 6) (ret := (some .int)) (by decide +kernel) rfl ?_
  intro p e s m args below meth c s₁ B hml hP
  obtain ⟨rfl, hS⟩ := hP
  have hS : zt_S sp A s := hS
  have hts := atoms_spec (ws := Cond.code yJ1_indexOfChar_4cfef cJ1_indexOfChar_4cfef 6 (some .int) :: zb_T) B.pre
  have hw : ∀ w ∈ zb_T, w.before ([.ref (zt_V sp t), .int i, .int (nI 0), .int (nI (zt_l.getD t 0))] : List Value).toArray s = true := fun w h => hts w (List.mem_cons_of_mem _ h)
  have hown : s.vm.findClass RJ1 = some m.cls := findClass_of_methodNamed B.named
  rw [lg_entry_eq]
  have hl2 := lv_entry ([.ref (zt_V sp t), .int i, .int (nI 0), .int (nI (zt_l.getD t 0))] : List Value) (n := 6) (by show 4 ≤ 6; decide)
  generalize ((lg_sl ([.ref (zt_V sp t), .int i, .int (nI 0), .int (nI (zt_l.getD t 0))] : List Value) ++ List.replicate (6 - (lg_sl ([.ref (zt_V sp t), .int i, .int (nI 0), .int (nI (zt_l.getD t 0))] : List Value)).length) Slot.unset).toArray) = la at hl2
  have hl3 : lv_has la 6 [(0, .ref (zt_V sp t)), (1, .int i), (2, .int (nI 0)), (3, .int (nI (zt_l.getD t 0)))] := hl2
  have hS0 : va_S zw_no s.heap s.heap [] := va_S.rf
  have hsc := hS.1.1 t ht
  have hle := zt_len t ht
  refine lv_iload_n B.exec B.bytes (k := 1) (i := 1) (x := i) (by decide +kernel) rfl (lv_at hl3 1 rfl) ?_
  refine lv_i2b B.exec B.bytes (v := i.toInt8.toInt32) (by decide +kernel) rfl ?_
  refine lv_istore B.exec B.bytes (i := 4) (by decide +kernel) hl3 (by decide) rfl (fun la2 hl4 => ?_)
  refine lv_iload_n B.exec B.bytes (k := 2) (i := 2) (x := nI 0) (by decide +kernel) rfl (lv_at hl4 3 rfl) ?_
  refine lv_istore B.exec B.bytes (i := 5) (by decide +kernel) hl4 (by decide) rfl (fun la3 hl5 => ?_)
  have key : ∀ (n j : Nat), zt_l.getD t 0 - j ≤ n → j ≤ zt_l.getD t 0 → ∀ la : Array Slot, lv_has la 6 [(5, .int (nI j)), (4, .int i.toInt8.toInt32), (0, .ref (zt_V sp t)), (1, .int i), (2, .int (nI 0)), (3, .int (nI (zt_l.getD t 0)))] → W p l e (headSpec (Cond.code yJ1_indexOfChar_4cfef cJ1_indexOfChar_4cfef 6 (some .int) :: zb_T) (ze_rm d 0 0)).room s m ([.ref (zt_V sp t), .int i, .int (nI 0), .int (nI (zt_l.getD t 0))] : List Value).toArray below meth c s.heap [] 0 0 (MQ below (va_Qi (fun r (_ : Unit) => zt_P t r) (fun _ _ => True) zw_no) ([.ref (zt_V sp t), .int i, .int (nI 0), .int (nI (zt_l.getD t 0))] : List Value).toArray s 0 0 zw_no) (F0 m 7 la []) := by
    intro n
    induction n with
    | zero =>
      intro j hj hj2 la hl
      refine lv_iload B.exec B.bytes (i := 5) (x := nI j) (by decide +kernel) (lv_at hl 0 rfl) ?_
      refine lv_iload_n B.exec B.bytes (k := 3) (i := 3) (x := nI (zt_l.getD t 0)) (by decide +kernel) rfl (lv_at hl 5 rfl) ?_
      refine lv_icmp_ge B.exec B.bytes (off := 21) (tgt := 31) (by decide +kernel) rfl (fun _ => ?_) (fun h => ?_)
      · refine lv_iconst B.exec B.bytes (n := -1) (v := -1) (by decide +kernel) (by decide +kernel) ?_
        exact W.zret B.exec B.bytes B.returns rfl (fun t9 ht9 hw9 => ⟨⟨-1, (), rfl, (Or.inl rfl), trivial⟩, (hS0).F ht9⟩) (hS0).2.2 (by decide +kernel) B.notSynchronized
      · exact absurd (nI_le (a := zt_l.getD t 0) (b := j) (by omega) (by omega)) h
    | succ n ih =>
      intro j hj hj2 la hl
      refine lv_iload B.exec B.bytes (i := 5) (x := nI j) (by decide +kernel) (lv_at hl 0 rfl) ?_
      refine lv_iload_n B.exec B.bytes (k := 3) (i := 3) (x := nI (zt_l.getD t 0)) (by decide +kernel) rfl (lv_at hl 5 rfl) ?_
      refine lv_icmp_ge B.exec B.bytes (off := 21) (tgt := 31) (by decide +kernel) rfl (fun _ => ?_) (fun h => ?_)
      · refine lv_iconst B.exec B.bytes (n := -1) (v := -1) (by decide +kernel) (by decide +kernel) ?_
        exact W.zret B.exec B.bytes B.returns rfl (fun t9 ht9 hw9 => ⟨⟨-1, (), rfl, (Or.inl rfl), trivial⟩, (hS0).F ht9⟩) (hS0).2.2 (by decide +kernel) B.notSynchronized
      · have hlt : j < zt_l.getD t 0 := by
          rcases Nat.lt_or_ge j (zt_l.getD t 0) with q | q
          · exact q
          · exact absurd (nI_le (a := zt_l.getD t 0) (b := j) q (by omega)) h
        refine lv_aload_n B.exec B.bytes (k := 0) (i := 0) (x := zt_V sp t) (by decide +kernel) rfl (lv_at hl 2 rfl) ?_
        refine lv_iload B.exec B.bytes (i := 5) (x := nI j) (by decide +kernel) (lv_at hl 0 rfl) ?_
        refine va_tb (A := A) B.exec B.bytes hsc.2.2.2 va_S.rf (i := nI j) (ze_vin (by omega) hlt) (v := .int ((zt_b.getD t []).getD j 0)) (by rw [ze_cln (by omega)]) (by decide +kernel) ?_
        refine lv_iload B.exec B.bytes (i := 4) (x := i.toInt8.toInt32) (by decide +kernel) (lv_at hl 1 rfl) ?_
        refine lv_icmp_ne B.exec B.bytes (off := 6) (tgt := 25) (by decide +kernel) rfl (fun _ => ?_) (fun _ => ?_)
        · refine lv_iinc B.exec B.bytes (i := 5) (n := 1) (k := 0) (x := nI j) (v := nI (j + 1)) (by decide +kernel) hl rfl (by rw [nI_succ]; rfl) (by decide) rfl (fun la9 hl9 => ?_)
          refine lv_goto B.exec B.bytes (off := -21) (tgt := 7) (by decide +kernel) rfl ?_
          exact ih (j + 1) (by omega) (by omega) la9 hl9
        · refine lv_iload B.exec B.bytes (i := 5) (x := nI j) (by decide +kernel) (lv_at hl 0 rfl) ?_
          exact W.zret B.exec B.bytes B.returns rfl (fun t9 ht9 hw9 => ⟨⟨nI j, (), rfl, (Or.inr ⟨j, hlt, rfl⟩), trivial⟩, (hS0).F ht9⟩) (hS0).2.2 (by decide +kernel) B.notSynchronized
  exact key (zt_l.getD t 0) 0 (by omega) (by omega) la3 hl5
theorem zt_lix {d : Nat} (ht : t < 11) {i : Int32} : Met l yJ1_indexOf_4cfef (.code yJ1_indexOf_4cfef cJ1_indexOf_4cfef 4 (some .int) :: zb_T) (ze_rm (d + 1) 0 0) (va_Pc [.ref (zt_V sp t), .int i, .int (nI 0), .int (nI (zt_l.getD t 0))] (zt_Pc sp A)) (va_Qi (fun r (_ : Unit) => zt_P t r) (fun _ _ => True) zw_no) 0 0 zw_no := by
  refine Met.ofW (cc := cJ1_indexOf_4cfef) (maxL := 4) (ret := (some .int)) (by decide +kernel) rfl ?_
  intro p e s m args below meth c s₁ B hml hP
  obtain ⟨rfl, hS⟩ := hP
  have hS : zt_S sp A s := hS
  have hts := atoms_spec (ws := Cond.code yJ1_indexOf_4cfef cJ1_indexOf_4cfef 4 (some .int) :: zb_T) B.pre
  have hw : ∀ w ∈ zb_T, w.before ([.ref (zt_V sp t), .int i, .int (nI 0), .int (nI (zt_l.getD t 0))] : List Value).toArray s = true := fun w h => hts w (List.mem_cons_of_mem _ h)
  have hown : s.vm.findClass RJ1 = some m.cls := findClass_of_methodNamed B.named
  rw [lg_entry_eq]
  have hl2 := lv_entry ([.ref (zt_V sp t), .int i, .int (nI 0), .int (nI (zt_l.getD t 0))] : List Value) (n := 4) (by show 4 ≤ 4; decide)
  generalize ((lg_sl ([.ref (zt_V sp t), .int i, .int (nI 0), .int (nI (zt_l.getD t 0))] : List Value) ++ List.replicate (4 - (lg_sl ([.ref (zt_V sp t), .int i, .int (nI 0), .int (nI (zt_l.getD t 0))] : List Value)).length) Slot.unset).toArray) = la at hl2
  have hl3 : lv_has la 4 [(0, .ref (zt_V sp t)), (1, .int i), (2, .int (nI 0)), (3, .int (nI (zt_l.getD t 0)))] := hl2
  have hS0 : va_S zw_no s.heap s.heap [] := va_S.rf
  have hsc := hS.1.1 t ht
  have hle := zt_len t ht
  refine lv_iload_n B.exec B.bytes (k := 1) (i := 1) (x := i) (by decide +kernel) rfl (lv_at hl3 1 rfl) ?_
  have hrm := ze_room (R := (headSpec (Cond.code yJ1_indexOf_4cfef cJ1_indexOf_4cfef 4 (some .int) :: zb_T) (ze_rm (d + 1) 0 0)).room) (cy := 0) (sy := 0) (yL := 1) (d := d) ⟨Nat.le_refl _, Nat.le_refl _⟩ (by decide)
  have hPs : PreS s s.heap (va_Pc [.int i] (zt_Pc sp A)) [.int i] := ⟨zt_blind, fun U hU hWm => ⟨rfl, hS.at (locs := []) (by rw [hU]; exact zt_SA hS0) hWm⟩⟩
  have hrun := va_runS (e := e) (below := below) (H := s.heap) (locs := []) (cells := 0) (slots := 0) (meth := meth) (As := [.int i]) (rest := []) (g := F0 m 1 la (([.int i] : List Value).reverse ++ [])) ⟨B.exec, B.bytes, hml, hown, hw⟩ (zt_can (l := l) (d := d) (sp := sp) (A := A) (i := i)) ⟨callB_of 1 hw (zg_in (zg_code (zb_in (zc_2 (List.mem_of_getElem? (i := 169) rfl)) rfl))) rfl rfl rfl (hw _ (zb_in (zc_1 (List.mem_of_getElem? (i := 16) rfl)) rfl)) (hw _ (zb_in (zc_2 (List.mem_of_getElem? (i := 167) rfl)) rfl)) ⟨by decide, by decide, by decide +kernel⟩ hrm, hw _ (zb_in (zc_2 (List.mem_of_getElem? (i := 168) rfl)) rfl)⟩ hPs rfl rfl hl3.1 rfl (by show 2 * 0 + (0) ≤ 8; decide) (show decode cJ1_indexOf_4cfef 1 = .ok (.invokestatic 88, 3) by decide +kernel) ⟨Nat.le_refl _, Nat.le_refl _⟩
  refine va_calli hrun hS0 (fun q _ hq => hq) (fun q hq => hq) ?_
  intro r1 u1 t1 H1 locs1 ht1 hal1 hr1 _ hsz1 hkeep1 hS1
  refine lv_if_ne B.exec B.bytes (off := 5) (tgt := 9) (by decide +kernel) rfl (fun _ => ?_) (fun _ => ?_)
  · refine lv_iload_n B.exec B.bytes (k := 2) (i := 2) (x := nI 0) (by decide +kernel) rfl (lv_at hl3 2 rfl) ?_
    refine lv_iconst B.exec B.bytes (n := 0) (v := 0) (by decide +kernel) (by decide +kernel) ?_
    refine va_mmax B.exec B.bytes (hml.trans hl3.1.symm) hown (hw _ (zb_in (zc_2 (List.mem_of_getElem? (i := 170) rfl)) rfl)) (hw _ (zb_in (zc_2 (List.mem_of_getElem? (i := 171) rfl)) rfl)) (hw _ (zb_in (zc_1 (List.mem_of_getElem? (i := 10) rfl)) rfl)) (hw _ (zb_in (zc_2 (List.mem_of_getElem? (i := 172) rfl)) rfl)) (by show 1 ≤ d + 1; omega) (by show 0 + 13 ≤ 70 * (d + 1); omega) (Nat.le_refl _) (Nat.le_refl _) (show decode cJ1_indexOf_4cfef 11 = .ok (.invokestatic 92, 3) by decide +kernel) ?_
    rw [show (if nI 0 < (0 : Int32) then (0 : Int32) else nI 0) = nI 0 by decide +kernel]
    refine lv_istore_n B.exec B.bytes (k := 2) (i := 2) (by decide +kernel) rfl hl3 (by decide) rfl (fun la4 hl4 => ?_)
    refine lv_iload_n B.exec B.bytes (k := 3) (i := 3) (x := nI (zt_l.getD t 0)) (by decide +kernel) rfl (lv_at hl4 3 rfl) ?_
    refine lv_aload_n B.exec B.bytes (k := 0) (i := 0) (x := zt_V sp t) (by decide +kernel) rfl (lv_at hl4 1 rfl) ?_
    refine va_tlen (A := A) B.exec B.bytes hsc.2.2.2 (zt_SA hS1) (v := nI (zt_l.getD t 0)) rfl (by decide +kernel) ?_
    refine va_mmin B.exec B.bytes (hml.trans hl4.1.symm) hown (hw _ (zb_in (zc_2 (List.mem_of_getElem? (i := 173) rfl)) rfl)) (hw _ (zb_in (zc_1 (List.mem_of_getElem? (i := 183) rfl)) rfl)) (hw _ (zb_in (zc_1 (List.mem_of_getElem? (i := 10) rfl)) rfl)) (hw _ (zb_in (zc_1 (List.mem_of_getElem? (i := 184) rfl)) rfl)) (by show 1 ≤ d + 1; omega) (by show 0 + 13 ≤ 70 * (d + 1); omega) (Nat.le_refl _) (Nat.le_refl _) (show decode cJ1_indexOf_4cfef 18 = .ok (.invokestatic 38, 3) by decide +kernel) ?_
    rw [ite_self]
    refine lv_istore_n B.exec B.bytes (k := 3) (i := 3) (by decide +kernel) rfl hl4 (by decide) rfl (fun la5 hl5 => ?_)
    refine lv_iload_n B.exec B.bytes (k := 2) (i := 2) (x := nI 0) (by decide +kernel) rfl (lv_at hl5 1 rfl) ?_
    refine lv_iload_n B.exec B.bytes (k := 3) (i := 3) (x := nI (zt_l.getD t 0)) (by decide +kernel) rfl (lv_at hl5 0 rfl) ?_
    refine lv_icmp_lt B.exec B.bytes (off := 5) (tgt := 29) (by decide +kernel) rfl (fun _ => ?_) (fun _ => ?_)
    · refine lv_aload_n B.exec B.bytes (k := 0) (i := 0) (x := zt_V sp t) (by decide +kernel) rfl (lv_at hl5 2 rfl) ?_
      refine lv_iload_n B.exec B.bytes (k := 1) (i := 1) (x := i) (by decide +kernel) rfl (lv_at hl5 3 rfl) ?_
      refine lv_iload_n B.exec B.bytes (k := 2) (i := 2) (x := nI 0) (by decide +kernel) rfl (lv_at hl5 1 rfl) ?_
      refine lv_iload_n B.exec B.bytes (k := 3) (i := 3) (x := nI (zt_l.getD t 0)) (by decide +kernel) rfl (lv_at hl5 0 rfl) ?_
      have hrm := ze_room (R := (headSpec (Cond.code yJ1_indexOf_4cfef cJ1_indexOf_4cfef 4 (some .int) :: zb_T) (ze_rm (d + 1) 0 0)).room) (cy := 0) (sy := 0) (yL := 6) (d := d) ⟨Nat.le_refl _, Nat.le_refl _⟩ (by decide)
      have hPs : PreS s H1 (va_Pc [.ref (zt_V sp t), .int i, .int (nI 0), .int (nI (zt_l.getD t 0))] (zt_Pc sp A)) [.ref (zt_V sp t), .int i, .int (nI 0), .int (nI (zt_l.getD t 0))] := ⟨zt_blind, fun U hU hWm => ⟨rfl, hS.at (locs := locs1) (by rw [hU]; exact zt_SA hS1) hWm⟩⟩
      have hrun := va_runS (e := e) (below := below) (H := H1) (locs := locs1) (cells := 0) (slots := 0) (meth := meth) (As := [.ref (zt_V sp t), .int i, .int (nI 0), .int (nI (zt_l.getD t 0))]) (rest := []) (g := F0 m 33 la5 (([.ref (zt_V sp t), .int i, .int (nI 0), .int (nI (zt_l.getD t 0))] : List Value).reverse ++ [])) ⟨B.exec, B.bytes, hml, hown, hw⟩ (zt_ixc (l := l) (d := d) (sp := sp) (A := A) (t := t) ht (i := i)) ⟨callB_of 4 hw (zg_in (zg_code (zb_in (zc_2 (List.mem_of_getElem? (i := 176) rfl)) rfl))) rfl rfl rfl (hw _ (zb_in (zc_1 (List.mem_of_getElem? (i := 16) rfl)) rfl)) (hw _ (zb_in (zc_2 (List.mem_of_getElem? (i := 174) rfl)) rfl)) ⟨by decide, by decide, by decide +kernel⟩ hrm, hw _ (zb_in (zc_2 (List.mem_of_getElem? (i := 175) rfl)) rfl)⟩ hPs rfl rfl hl5.1 rfl (by show 2 * 0 + (0) ≤ 8; decide) (show decode cJ1_indexOf_4cfef 33 = .ok (.invokestatic 95, 3) by decide +kernel) ⟨Nat.le_refl _, Nat.le_refl _⟩
      refine va_calli hrun hS1 (fun q _ hq => hq) (fun q hq => hq) ?_
      intro r2 u2 t2 H2 locs2 ht2 hal2 hr2 _ hsz2 hkeep2 hS2
      exact W.zret B.exec B.bytes B.returns rfl (fun t9 ht9 hw9 => ⟨⟨r2, (), rfl, hr2, trivial⟩, (hS2).F ht9⟩) (hS2).2.2 (by decide +kernel) B.notSynchronized
    · refine lv_iconst B.exec B.bytes (n := -1) (v := -1) (by decide +kernel) (by decide +kernel) ?_
      exact W.zret B.exec B.bytes B.returns rfl (fun t9 ht9 hw9 => ⟨⟨-1, (), rfl, (Or.inl rfl), trivial⟩, (hS1).F ht9⟩) (hS1).2.2 (by decide +kernel) B.notSynchronized
  · refine lv_iconst B.exec B.bytes (n := -1) (v := -1) (by decide +kernel) (by decide +kernel) ?_
    exact W.zret B.exec B.bytes B.returns rfl (fun t9 ht9 hw9 => ⟨⟨-1, (), rfl, (Or.inl rfl), trivial⟩, (hS1).F ht9⟩) (hS1).2.2 (by decide +kernel) B.notSynchronized
theorem zt_ix2 {d : Nat} (ht : t < 11) {i : Int32} : Met l yJ0_indexOf_7cf53 (.code yJ0_indexOf_7cf53 cJ0_indexOf_7cf53 3 (some .int) :: zb_T) (ze_rm (d + 2) 0 0) (va_Pc [.ref (zt_K sp t), .int i, .int (nI 0)] (zt_Pc sp A)) (va_Qi (fun r (_ : Unit) => zt_P t r) (fun _ _ => True) zw_no) 0 0 zw_no := by
  refine Met.ofW (cc := cJ0_indexOf_7cf53) (maxL := 3) (ret := (some .int)) (by decide +kernel) rfl ?_
  intro p e s m args below meth c s₁ B hml hP
  obtain ⟨rfl, hS⟩ := hP
  have hS : zt_S sp A s := hS
  have hts := atoms_spec (ws := Cond.code yJ0_indexOf_7cf53 cJ0_indexOf_7cf53 3 (some .int) :: zb_T) B.pre
  have hw : ∀ w ∈ zb_T, w.before ([.ref (zt_K sp t), .int i, .int (nI 0)] : List Value).toArray s = true := fun w h => hts w (List.mem_cons_of_mem _ h)
  have hown : s.vm.findClass RJ0 = some m.cls := findClass_of_methodNamed B.named
  rw [lg_entry_eq]
  have hl2 := lv_entry ([.ref (zt_K sp t), .int i, .int (nI 0)] : List Value) (n := 3) (by show 3 ≤ 3; decide)
  generalize ((lg_sl ([.ref (zt_K sp t), .int i, .int (nI 0)] : List Value) ++ List.replicate (3 - (lg_sl ([.ref (zt_K sp t), .int i, .int (nI 0)] : List Value)).length) Slot.unset).toArray) = la at hl2
  have hl3 : lv_has la 3 [(0, .ref (zt_K sp t)), (1, .int i), (2, .int (nI 0))] := hl2
  have hS0 : va_S zw_no s.heap s.heap [] := va_S.rf
  have hsc := hS.1.1 t ht
  refine lv_aload_n B.exec B.bytes (k := 0) (i := 0) (x := zt_K sp t) (by decide +kernel) rfl (lv_at hl3 0 rfl) ?_
  have hrm := ze_room (R := (headSpec (Cond.code yJ0_indexOf_7cf53 cJ0_indexOf_7cf53 3 (some .int) :: zb_T) (ze_rm (d + 2) 0 0)).room) (cy := 0) (sy := 0) (yL := 1) (d := d + 1) ⟨Nat.le_refl _, Nat.le_refl _⟩ (by decide)
  have hPv : PreV s s.heap RJ0 (zt_K sp t) (va_Pc [.ref (zt_K sp t)] (zt_Pc sp A)) [] := ⟨zt_blind, vk_recv (i := t) hS.1 ht (zt_SA hS0), fun U hU hWm => ⟨rfl, hS.at (locs := []) (by rw [hU]; exact zt_SA hS0) hWm⟩⟩
  have hrun := va_runV (e := e) (below := below) (H := s.heap) (locs := []) (cells := 0) (slots := 0) (meth := meth) (As := []) (rest := []) (C := RJ0) (g := F0 m 1 la (.ref (zt_K sp t) :: [])) ⟨B.exec, B.bytes, hml, hown, hw⟩ (zt_lat (l := l) (d := d + 1) (sp := sp) (A := A) (t := t) ht) (cwV 0 hw (zg_in ?_) rfl rfl rfl ⟨rfl, by decide, by decide, by decide +kernel⟩ hrm) hPv rfl rfl hl3.1 rfl (by show 2 * 0 + (0) ≤ 8; decide) (show decode cJ0_indexOf_7cf53 1 = .ok (.invokevirtual 492, 3) by decide +kernel) ⟨Nat.le_refl _, Nat.le_refl _⟩
  · refine va_calli hrun hS0 (fun q _ hq => hq) (fun q hq => hq) ?_
    intro r1 u1 t1 H1 locs1 ht1 hal1 hr1 _ hsz1 hkeep1 hS1
    subst hr1
    refine lv_if_eq B.exec B.bytes (off := 19) (tgt := 23) (by decide +kernel) rfl (fun h => absurd h (by decide)) (fun _ => ?_)
    refine lv_aload_n B.exec B.bytes (k := 0) (i := 0) (x := zt_K sp t) (by decide +kernel) rfl (lv_at hl3 0 rfl) ?_
    refine vk_getf (A := A) (own := RJ0) (index := 9) (ref := "java/lang/String") B.exec B.bytes hsc.2.2.1 (zt_SA hS1) hown (hw _ (zb_in (zc_9 (List.mem_of_getElem? (i := 47) rfl)) rfl)) (fun x h => h) (by decide +kernel) ?_
    refine lv_iload_n B.exec B.bytes (k := 1) (i := 1) (x := i) (by decide +kernel) rfl (lv_at hl3 1 rfl) ?_
    refine lv_iload_n B.exec B.bytes (k := 2) (i := 2) (x := nI 0) (by decide +kernel) rfl (lv_at hl3 2 rfl) ?_
    refine lv_aload_n B.exec B.bytes (k := 0) (i := 0) (x := zt_K sp t) (by decide +kernel) rfl (lv_at hl3 0 rfl) ?_
    have hPv : PreV s H1 RJ0 (zt_K sp t) (va_Pc [.ref (zt_K sp t)] (zt_Pc sp A)) [] := ⟨zt_blind, vk_recv (i := t) hS.1 ht (zt_SA hS1), fun U hU hWm => ⟨rfl, hS.at (locs := locs1) (by rw [hU]; exact zt_SA hS1) hWm⟩⟩
    have hrun := va_runV (e := e) (below := below) (H := H1) (locs := locs1) (cells := 0) (slots := 0) (meth := meth) (As := []) (rest := [.int (nI 0), .int i, .ref (zt_V sp t)]) (C := RJ0) (g := F0 m 14 la (.ref (zt_K sp t) :: [.int (nI 0), .int i, .ref (zt_V sp t)])) ⟨B.exec, B.bytes, hml, hown, hw⟩ (zt_length (l := l) (d := d) (sp := sp) (A := A) (t := t) ht) (cwV 0 hw (zg_in ?_) rfl rfl rfl ⟨rfl, by decide, by decide, by decide +kernel⟩ hrm) hPv rfl rfl hl3.1 rfl (by show 2 * 0 + (1 + (1 + (1 + 0))) ≤ 8; decide) (show decode cJ0_indexOf_7cf53 14 = .ok (.invokevirtual 505, 3) by decide +kernel) ⟨Nat.le_refl _, Nat.le_refl _⟩
    · refine va_calli hrun hS1 (fun q _ hq => hq) (fun q hq => hq) ?_
      intro r2 u2 t2 H2 locs2 ht2 hal2 hr2 _ hsz2 hkeep2 hS2
      subst hr2
      have hrm := ze_room (R := (headSpec (Cond.code yJ0_indexOf_7cf53 cJ0_indexOf_7cf53 3 (some .int) :: zb_T) (ze_rm (d + 2) 0 0)).room) (cy := 0) (sy := 0) (yL := 4) (d := d + 1) ⟨Nat.le_refl _, Nat.le_refl _⟩ (by decide)
      have hPs : PreS s H2 (va_Pc [.ref (zt_V sp t), .int i, .int (nI 0), .int (nI (zt_l.getD t 0))] (zt_Pc sp A)) [.ref (zt_V sp t), .int i, .int (nI 0), .int (nI (zt_l.getD t 0))] := ⟨zt_blind, fun U hU hWm => ⟨rfl, hS.at (locs := locs2) (by rw [hU]; exact zt_SA hS2) hWm⟩⟩
      have hrun := va_runS (e := e) (below := below) (H := H2) (locs := locs2) (cells := 0) (slots := 0) (meth := meth) (As := [.ref (zt_V sp t), .int i, .int (nI 0), .int (nI (zt_l.getD t 0))]) (rest := []) (g := F0 m 17 la (([.ref (zt_V sp t), .int i, .int (nI 0), .int (nI (zt_l.getD t 0))] : List Value).reverse ++ [])) ⟨B.exec, B.bytes, hml, hown, hw⟩ (zt_lix (l := l) (d := d) (sp := sp) (A := A) (t := t) ht (i := i)) ⟨callB_of 4 hw (zg_in (zg_code (zb_in (zc_2 (List.mem_of_getElem? (i := 166) rfl)) rfl))) rfl rfl rfl (hw _ (zb_in (zc_1 (List.mem_of_getElem? (i := 16) rfl)) rfl)) (hw _ (zb_in (zc_2 (List.mem_of_getElem? (i := 164) rfl)) rfl)) ⟨by decide, by decide, by decide +kernel⟩ hrm, hw _ (zb_in (zc_2 (List.mem_of_getElem? (i := 165) rfl)) rfl)⟩ hPs rfl rfl hl3.1 rfl (by show 2 * 0 + (0) ≤ 8; decide) (show decode cJ0_indexOf_7cf53 17 = .ok (.invokestatic 637, 3) by decide +kernel) ⟨Nat.le_refl _, Nat.le_refl _⟩
      refine va_calli hrun hS2 (fun q _ hq => hq) (fun q hq => hq) ?_
      intro r3 u3 t3 H3 locs3 ht3 hal3 hr3 _ hsz3 hkeep3 hS3
      refine lv_goto B.exec B.bytes (off := 16) (tgt := 36) (by decide +kernel) rfl ?_
      exact W.zret B.exec B.bytes B.returns rfl (fun t9 ht9 hw9 => ⟨⟨r3, (), rfl, hr3, trivial⟩, (hS3).F ht9⟩) (hS3).2.2 (by decide +kernel) B.notSynchronized
    · intro w' hw'
      rcases List.mem_append.mp hw' with h9 | h9
      · simp only [List.mem_cons, List.not_mem_nil, or_false] at h9
        rcases h9 with rfl | rfl | rfl | rfl
        · exact zb_in (zc_2 (List.mem_of_getElem? (i := 156) rfl)) rfl
        · exact zb_in (zc_2 (List.mem_of_getElem? (i := 157) rfl)) rfl
        · exact zb_in (zc_2 (List.mem_of_getElem? (i := 158) rfl)) rfl
        · exact zb_in (zc_1 (List.mem_of_getElem? (i := 15) rfl)) rfl
      · exact zg_code (zb_in (zc_2 (List.mem_of_getElem? (i := 159) rfl)) rfl) w' h9
  · intro w' hw'
    rcases List.mem_append.mp hw' with h9 | h9
    · simp only [List.mem_cons, List.not_mem_nil, or_false] at h9
      rcases h9 with rfl | rfl | rfl | rfl
      · exact zb_in (zc_2 (List.mem_of_getElem? (i := 150) rfl)) rfl
      · exact zb_in (zc_2 (List.mem_of_getElem? (i := 151) rfl)) rfl
      · exact zb_in (zc_2 (List.mem_of_getElem? (i := 152) rfl)) rfl
      · exact zb_in (zc_1 (List.mem_of_getElem? (i := 15) rfl)) rfl
    · exact zg_code (zb_in (zc_2 (List.mem_of_getElem? (i := 153) rfl)) rfl) w' h9
theorem zt_indexOf {d : Nat} (ht : t < 11) {i : Int32} : Met l yJ0_indexOf_0f7a4 (.code yJ0_indexOf_0f7a4 cJ0_indexOf_0f7a4 2 (some .int) :: zb_T) (ze_rm (d + 3) 0 0) (va_Pc [.ref (zt_K sp t), .int i] (zt_Pc sp A)) (va_Qi (fun r (_ : Unit) => zt_P t r) (fun _ _ => True) zw_no) 0 0 zw_no := by
  refine Met.ofW (cc := cJ0_indexOf_0f7a4) (maxL := 2) (ret := (some .int)) (by decide +kernel) rfl ?_
  intro p e s m args below meth c s₁ B hml hP
  obtain ⟨rfl, hS⟩ := hP
  have hS : zt_S sp A s := hS
  have hts := atoms_spec (ws := Cond.code yJ0_indexOf_0f7a4 cJ0_indexOf_0f7a4 2 (some .int) :: zb_T) B.pre
  have hw : ∀ w ∈ zb_T, w.before ([.ref (zt_K sp t), .int i] : List Value).toArray s = true := fun w h => hts w (List.mem_cons_of_mem _ h)
  have hown : s.vm.findClass RJ0 = some m.cls := findClass_of_methodNamed B.named
  rw [lg_entry_eq]
  have hl2 := lv_entry ([.ref (zt_K sp t), .int i] : List Value) (n := 2) (by show 2 ≤ 2; decide)
  generalize ((lg_sl ([.ref (zt_K sp t), .int i] : List Value) ++ List.replicate (2 - (lg_sl ([.ref (zt_K sp t), .int i] : List Value)).length) Slot.unset).toArray) = la at hl2
  have hl3 : lv_has la 2 [(0, .ref (zt_K sp t)), (1, .int i)] := hl2
  have hS0 : va_S zw_no s.heap s.heap [] := va_S.rf
  refine lv_aload_n B.exec B.bytes (k := 0) (i := 0) (x := zt_K sp t) (by decide +kernel) rfl (lv_at hl3 0 rfl) ?_
  refine lv_iload_n B.exec B.bytes (k := 1) (i := 1) (x := i) (by decide +kernel) rfl (lv_at hl3 1 rfl) ?_
  refine lv_iconst B.exec B.bytes (n := 0) (v := nI 0) (by decide +kernel) (by decide +kernel) ?_
  have hrm := ze_room (R := (headSpec (Cond.code yJ0_indexOf_0f7a4 cJ0_indexOf_0f7a4 2 (some .int) :: zb_T) (ze_rm (d + 3) 0 0)).room) (cy := 0) (sy := 0) (yL := 3) (d := d + 2) ⟨Nat.le_refl _, Nat.le_refl _⟩ (by decide)
  have hPv : PreV s s.heap RJ0 (zt_K sp t) (va_Pc [.ref (zt_K sp t), .int i, .int (nI 0)] (zt_Pc sp A)) [.int i, .int (nI 0)] := ⟨zt_blind, vk_recv (i := t) hS.1 ht (zt_SA hS0), fun U hU hWm => ⟨rfl, hS.at (locs := []) (by rw [hU]; exact zt_SA hS0) hWm⟩⟩
  have hrun := va_runV (e := e) (below := below) (H := s.heap) (locs := []) (cells := 0) (slots := 0) (meth := meth) (As := [.int i, .int (nI 0)]) (rest := []) (C := RJ0) (g := F0 m 3 la (([.int i, .int (nI 0)] : List Value).reverse ++ .ref (zt_K sp t) :: [])) ⟨B.exec, B.bytes, hml, hown, hw⟩ (zt_ix2 (l := l) (d := d) (sp := sp) (A := A) (t := t) ht (i := i)) (cwV 2 hw (zg_in ?_) rfl rfl rfl ⟨rfl, by decide, by decide, by decide +kernel⟩ hrm) hPv rfl rfl hl3.1 rfl (by show 2 * 0 + (0) ≤ 8; decide) (show decode cJ0_indexOf_0f7a4 3 = .ok (.invokevirtual 633, 3) by decide +kernel) ⟨Nat.le_refl _, Nat.le_refl _⟩
  · refine va_calli hrun hS0 (fun q _ hq => hq) (fun q hq => hq) ?_
    intro r1 u1 t1 H1 locs1 ht1 hal1 hr1 _ hsz1 hkeep1 hS1
    exact W.zret B.exec B.bytes B.returns rfl (fun t9 ht9 hw9 => ⟨⟨r1, (), rfl, hr1, trivial⟩, (hS1).F ht9⟩) (hS1).2.2 (by decide +kernel) B.notSynchronized
  · intro w' hw'
    rcases List.mem_append.mp hw' with h9 | h9
    · simp only [List.mem_cons, List.not_mem_nil, or_false] at h9
      rcases h9 with rfl | rfl | rfl | rfl
      · exact zb_in (zc_2 (List.mem_of_getElem? (i := 146) rfl)) rfl
      · exact zb_in (zc_2 (List.mem_of_getElem? (i := 147) rfl)) rfl
      · exact zb_in (zc_2 (List.mem_of_getElem? (i := 148) rfl)) rfl
      · exact zb_in (zc_1 (List.mem_of_getElem? (i := 15) rfl)) rfl
    · exact zg_code (zb_in (zc_2 (List.mem_of_getElem? (i := 149) rfl)) rfl) w' h9
end ZTX
