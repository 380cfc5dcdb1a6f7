/-! the law's rows that call a helper which catches -/
noncomputable def zT_kh (cal : ECal) (r9 : List ECE) (ls : List EV) (nc ns : Nat) : ERt := fun r w g => zT_lp cal [1702] zT_inc r9 ls (ze_pu r []) w g (Nat.add nc 1) (Nat.add ns 6)
section ZLH
variable {p : Program} {l : Launch} {e : Env} {s : State} {m : MethodId} {below : List Frame} {meth : Method} {c : Code} {b d : Nat} {Q : State → Prop} {dC : Nat → ClassId} {dI : Nat → Nat → Nat} {dA : Nat → ClassId} {sp : Nat → Nat} {xs : ZXs} {A : Nat → Prop} {cal : ECal}
noncomputable def zT_h_law (cal : ECal) : EKn := fun cs ls st w g nc ns => match cs, st with
  | e :: r, .inr (.inl (.inl ko)) :: .inl u2 :: .inl u1 :: .inr (.inl (.inl kx)) :: [] => zcd (Nat.beq e.2.1 371) (zcd (zk_n r 374) (zcd (Nat.ble (Nat.add nc 1) 10) (zcd (Nat.ble (Nat.add ns 6) 100) (zcd (ze_rc w 12 [eR kx, .inl u1, .inl u2]) (zx_run (zp_X11_law, 3, 0, 0) cal 20 100000 (zx_ri 8 ko (zT_kh cal r ls nc ns)) [eR kx, .inl u1, .inl u2] w g (fun w g => zT_kh cal r ls nc ns (some (eC 1)) w g)) false) false) false) false) false
  | _, _ => false
theorem zL_h_law_ok (t : zL_T p l s m meth c b dC dI dA sp xs A) (hd : 5 ≤ d ∧ d ≤ 1000) (hcal : ze_CalA l dC dI dA sp xs A cal d) (hinc : ze_KK p l e zT_R s m #[Value.ref b] below meth c Q ([], []) dC dI dA sp xs A 8 (fun cs => zk_code 14 code 8 ret false zp_L_law_ cs = true) zT_inc) : ze_KK p l e zT_R s m #[Value.ref b] below meth c Q ([], []) dC dI dA sp xs A 8 (fun cs => zk_code 14 code 8 ret false zp_L_law_ cs = true) (zT_h_law cal) := by
  intro cs ls st w g nc ns h pc hat ρ ws H locs la vs hH
  unfold zT_h_law at h
  split at h
  · rename_i e8 r8 ko u2 u1 kx
    obtain ⟨hV, e9, r9, hcs, hpc⟩ := hat
    obtain ⟨rfl, rfl⟩ := List.cons.inj hcs
    obtain ⟨c1, h⟩ := ze_condf h
    obtain ⟨c2, h⟩ := ze_condf h
    obtain ⟨c3, h⟩ := ze_condf h
    obtain ⟨c4, h⟩ := ze_condf h
    obtain ⟨c5, hrn⟩ := ze_condf h
    have b1 : pc = 371 := hpc.symm.trans (ze_beq c1)
    subst b1
    obtain ⟨-, hVr⟩ := zk_tail hV
    have hn := zk_nx hVr c2
    have L1 := hH.2.2.2.2.2.2.2.rev
    have hlen : vs.reverse.length = 4 := L1.len.symm
    have hX := t.2.2.2.2.2.2.1
    have hK := t.2.2.2.2.2.1
    have hA := t.2.2.2.2.2.2.2.1
    have hts := t.2.2.2.2.2.2.2.2.1
    have hZ := t.2.2.2.2.2.2.2.2.2
    obtain ⟨lv, hl9, -⟩ := hH.2.2.2.2.2.2.1
    have hM := zx_law (l := l) (dC := dC) (dI := dI) (dA := dA) (sp := sp) (xs := xs) (A := A) t.1 (d := d) (ko := ko) (kh := zT_kh cal r8 ls nc ns) hd.1 hcal c5 hrn hH.1 hH.2.1.1 hH.2.2.1 L1
    have hPs : PreS s H (va_Pc vs.reverse (zx_Pc dC dI dA sp xs A ws)) vs.reverse := ⟨zx_blind, fun U hU hWm => ⟨rfl, (ze_pre9 (avs := vs.reverse) hK hX hA hH U hU hWm).2, hZ.at (locs := locs) (by rw [hU]; exact hH.2.2.2.2.2.1) hWm⟩⟩
    have hrun := vx_runSW (R := zT_R) (e := e) (below := below) (H := H) (locs := locs) (cells := nc) (slots := ns) (meth := meth) (As := vs.reverse) (rest := []) (g := F0 m 371 la vs) ⟨t.2.1, t.2.2.1, t.2.2.2.1, (show s.vm.findClass RL = some m.cls from t.2.2.2.2.1), hts⟩ hM (vx_cwSW (own := RL) (index := 52) 4 hts (zg_in ?_) rfl rfl rfl ⟨by decide, by decide, by decide +kernel⟩ ⟨(by show d + 2 + 1 ≤ 2048; omega), (by show 8 + (5 + 11) + 70 * (d + 2) ≤ 84000; omega)⟩) hPs rfl hlen hl9.1 (by rw [List.reverse_reverse, List.append_nil]) (by show 2 * 0 + 0 ≤ 8; decide) (show decode code 371 = .ok (.invokestatic 52, 3) by decide +kernel) ⟨ze_ble' c3, ze_ble' c4⟩
    · exact zs_after (kk := zT_lp cal [1702] zT_inc) (nx := r8) (rest := []) (vr := []) (zL_lp_ok t ⟨by omega, hd.2⟩ hcal hinc) hn hH trivial (fun r w' g' q => q) hrun
    · intro w' hw'
      rcases List.mem_append.mp hw' with h9 | h9
      · simp only [List.mem_cons, List.not_mem_nil, or_false] at h9
        rcases h9 with rfl | rfl | rfl
        all_goals first | exact zb_in (zc_5 (List.mem_of_getElem? (i := 220) rfl)) rfl | exact zb_in (zc_5 (List.mem_of_getElem? (i := 221) rfl)) rfl | exact zb_in (zc_1 (List.mem_of_getElem? (i := 0) rfl)) rfl
      · rcases List.mem_cons.mp h9 with rfl | h9
        · exact zb_in (zc_5 (List.mem_of_getElem? (i := 222) rfl)) rfl
        · exact h9
  · cases h
noncomputable def zT_h_bit (cal : ECal) : EKn := fun cs ls st w g nc ns => match cs, st with
  | e :: r, .inr (.inl (.inl ko)) :: .inl u2 :: .inl u1 :: .inr (.inl (.inl kx)) :: [] => zcd (Nat.beq e.2.1 411) (zcd (zk_n r 414) (zcd (Nat.ble (Nat.add nc 1) 10) (zcd (Nat.ble (Nat.add ns 6) 100) (zcd (ze_rc w 12 [eR kx, .inl u1, .inl u2]) (zx_run (zp_X11_bit, 3, 0, 0) cal 12 100000 (zx_ri 8 ko (zT_kh cal r ls nc ns)) [eR kx, .inl u1, .inl u2] w g (fun w g => zT_kh cal r ls nc ns (some (eC 1)) w g)) false) false) false) false) false
  | _, _ => false
theorem zL_h_bit_ok (t : zL_T p l s m meth c b dC dI dA sp xs A) (hd : 5 ≤ d ∧ d ≤ 1000) (hcal : ze_CalA l dC dI dA sp xs A cal d) (hinc : ze_KK p l e zT_R s m #[Value.ref b] below meth c Q ([], []) dC dI dA sp xs A 8 (fun cs => zk_code 14 code 8 ret false zp_L_law_ cs = true) zT_inc) : ze_KK p l e zT_R s m #[Value.ref b] below meth c Q ([], []) dC dI dA sp xs A 8 (fun cs => zk_code 14 code 8 ret false zp_L_law_ cs = true) (zT_h_bit cal) := by
  intro cs ls st w g nc ns h pc hat ρ ws H locs la vs hH
  unfold zT_h_bit at h
  split at h
  · rename_i e8 r8 ko u2 u1 kx
    obtain ⟨hV, e9, r9, hcs, hpc⟩ := hat
    obtain ⟨rfl, rfl⟩ := List.cons.inj hcs
    obtain ⟨c1, h⟩ := ze_condf h
    obtain ⟨c2, h⟩ := ze_condf h
    obtain ⟨c3, h⟩ := ze_condf h
    obtain ⟨c4, h⟩ := ze_condf h
    obtain ⟨c5, hrn⟩ := ze_condf h
    have b1 : pc = 411 := hpc.symm.trans (ze_beq c1)
    subst b1
    obtain ⟨-, hVr⟩ := zk_tail hV
    have hn := zk_nx hVr c2
    have L1 := hH.2.2.2.2.2.2.2.rev
    have hlen : vs.reverse.length = 4 := L1.len.symm
    have hX := t.2.2.2.2.2.2.1
    have hK := t.2.2.2.2.2.1
    have hA := t.2.2.2.2.2.2.2.1
    have hts := t.2.2.2.2.2.2.2.2.1
    have hZ := t.2.2.2.2.2.2.2.2.2
    obtain ⟨lv, hl9, -⟩ := hH.2.2.2.2.2.2.1
    have hM := zx_bit (l := l) (dC := dC) (dI := dI) (dA := dA) (sp := sp) (xs := xs) (A := A) t.1 (d := d) (ko := ko) (kh := zT_kh cal r8 ls nc ns) hd.1 hcal c5 hrn hH.1 hH.2.1.1 hH.2.2.1 L1
    have hPs : PreS s H (va_Pc vs.reverse (zx_Pc dC dI dA sp xs A ws)) vs.reverse := ⟨zx_blind, fun U hU hWm => ⟨rfl, (ze_pre9 (avs := vs.reverse) hK hX hA hH U hU hWm).2, hZ.at (locs := locs) (by rw [hU]; exact hH.2.2.2.2.2.1) hWm⟩⟩
    have hrun := vx_runSW (R := zT_R) (e := e) (below := below) (H := H) (locs := locs) (cells := nc) (slots := ns) (meth := meth) (As := vs.reverse) (rest := []) (g := F0 m 411 la vs) ⟨t.2.1, t.2.2.1, t.2.2.2.1, (show s.vm.findClass RL = some m.cls from t.2.2.2.2.1), hts⟩ hM (vx_cwSW (own := RL) (index := 58) 4 hts (zg_in ?_) rfl rfl rfl ⟨by decide, by decide, by decide +kernel⟩ ⟨(by show d + 2 + 1 ≤ 2048; omega), (by show 8 + (5 + 11) + 70 * (d + 2) ≤ 84000; omega)⟩) hPs rfl hlen hl9.1 (by rw [List.reverse_reverse, List.append_nil]) (by show 2 * 0 + 0 ≤ 8; decide) (show decode code 411 = .ok (.invokestatic 58, 3) by decide +kernel) ⟨ze_ble' c3, ze_ble' c4⟩
    · exact zs_after (kk := zT_lp cal [1702] zT_inc) (nx := r8) (rest := []) (vr := []) (zL_lp_ok t ⟨by omega, hd.2⟩ hcal hinc) hn hH trivial (fun r w' g' q => q) hrun
    · intro w' hw'
      rcases List.mem_append.mp hw' with h9 | h9
      · simp only [List.mem_cons, List.not_mem_nil, or_false] at h9
        rcases h9 with rfl | rfl | rfl
        all_goals first | exact zb_in (zc_6 (List.mem_of_getElem? (i := 54) rfl)) rfl | exact zb_in (zc_6 (List.mem_of_getElem? (i := 55) rfl)) rfl | exact zb_in (zc_1 (List.mem_of_getElem? (i := 0) rfl)) rfl
      · rcases List.mem_cons.mp h9 with rfl | h9
        · exact zb_in (zc_6 (List.mem_of_getElem? (i := 56) rfl)) rfl
        · exact h9
  · cases h
noncomputable def zT_h_one (cal : ECal) : EKn := fun cs ls st w g nc ns => match cs, st with
  | e :: r, .inr (.inl (.inl ko)) :: .inl u2 :: .inl u1 :: .inr (.inl (.inl kx)) :: [] => zcd (Nat.beq e.2.1 451) (zcd (zk_n r 454) (zcd (Nat.ble (Nat.add nc 1) 10) (zcd (Nat.ble (Nat.add ns 6) 100) (zcd (ze_rc w 12 [eR kx, .inl u1, .inl u2]) (zx_run (zp_X11_one, 3, 0, 0) cal 20 100000 (zx_ri 8 ko (zT_kh cal r ls nc ns)) [eR kx, .inl u1, .inl u2] w g (fun w g => zT_kh cal r ls nc ns (some (eC 1)) w g)) false) false) false) false) false
  | _, _ => false
theorem zL_h_one_ok (t : zL_T p l s m meth c b dC dI dA sp xs A) (hd : 5 ≤ d ∧ d ≤ 1000) (hcal : ze_CalA l dC dI dA sp xs A cal d) (hinc : ze_KK p l e zT_R s m #[Value.ref b] below meth c Q ([], []) dC dI dA sp xs A 8 (fun cs => zk_code 14 code 8 ret false zp_L_law_ cs = true) zT_inc) : ze_KK p l e zT_R s m #[Value.ref b] below meth c Q ([], []) dC dI dA sp xs A 8 (fun cs => zk_code 14 code 8 ret false zp_L_law_ cs = true) (zT_h_one cal) := by
  intro cs ls st w g nc ns h pc hat ρ ws H locs la vs hH
  unfold zT_h_one at h
  split at h
  · rename_i e8 r8 ko u2 u1 kx
    obtain ⟨hV, e9, r9, hcs, hpc⟩ := hat
    obtain ⟨rfl, rfl⟩ := List.cons.inj hcs
    obtain ⟨c1, h⟩ := ze_condf h
    obtain ⟨c2, h⟩ := ze_condf h
    obtain ⟨c3, h⟩ := ze_condf h
    obtain ⟨c4, h⟩ := ze_condf h
    obtain ⟨c5, hrn⟩ := ze_condf h
    have b1 : pc = 451 := hpc.symm.trans (ze_beq c1)
    subst b1
    obtain ⟨-, hVr⟩ := zk_tail hV
    have hn := zk_nx hVr c2
    have L1 := hH.2.2.2.2.2.2.2.rev
    have hlen : vs.reverse.length = 4 := L1.len.symm
    have hX := t.2.2.2.2.2.2.1
    have hK := t.2.2.2.2.2.1
    have hA := t.2.2.2.2.2.2.2.1
    have hts := t.2.2.2.2.2.2.2.2.1
    have hZ := t.2.2.2.2.2.2.2.2.2
    obtain ⟨lv, hl9, -⟩ := hH.2.2.2.2.2.2.1
    have hM := zx_one (l := l) (dC := dC) (dI := dI) (dA := dA) (sp := sp) (xs := xs) (A := A) t.1 (d := d) (ko := ko) (kh := zT_kh cal r8 ls nc ns) hd.1 hcal c5 hrn hH.1 hH.2.1.1 hH.2.2.1 L1
    have hPs : PreS s H (va_Pc vs.reverse (zx_Pc dC dI dA sp xs A ws)) vs.reverse := ⟨zx_blind, fun U hU hWm => ⟨rfl, (ze_pre9 (avs := vs.reverse) hK hX hA hH U hU hWm).2, hZ.at (locs := locs) (by rw [hU]; exact hH.2.2.2.2.2.1) hWm⟩⟩
    have hrun := vx_runSW (R := zT_R) (e := e) (below := below) (H := H) (locs := locs) (cells := nc) (slots := ns) (meth := meth) (As := vs.reverse) (rest := []) (g := F0 m 451 la vs) ⟨t.2.1, t.2.2.1, t.2.2.2.1, (show s.vm.findClass RL = some m.cls from t.2.2.2.2.1), hts⟩ hM (vx_cwSW (own := RL) (index := 61) 4 hts (zg_in ?_) rfl rfl rfl ⟨by decide, by decide, by decide +kernel⟩ ⟨(by show d + 2 + 1 ≤ 2048; omega), (by show 8 + (5 + 11) + 70 * (d + 2) ≤ 84000; omega)⟩) hPs rfl hlen hl9.1 (by rw [List.reverse_reverse, List.append_nil]) (by show 2 * 0 + 0 ≤ 8; decide) (show decode code 451 = .ok (.invokestatic 61, 3) by decide +kernel) ⟨ze_ble' c3, ze_ble' c4⟩
    · exact zs_after (kk := zT_lp cal [1702] zT_inc) (nx := r8) (rest := []) (vr := []) (zL_lp_ok t ⟨by omega, hd.2⟩ hcal hinc) hn hH trivial (fun r w' g' q => q) hrun
    · intro w' hw'
      rcases List.mem_append.mp hw' with h9 | h9
      · simp only [List.mem_cons, List.not_mem_nil, or_false] at h9
        rcases h9 with rfl | rfl | rfl
        all_goals first | exact zb_in (zc_6 (List.mem_of_getElem? (i := 61) rfl)) rfl | exact zb_in (zc_6 (List.mem_of_getElem? (i := 62) rfl)) rfl | exact zb_in (zc_1 (List.mem_of_getElem? (i := 0) rfl)) rfl
      · rcases List.mem_cons.mp h9 with rfl | h9
        · exact zb_in (zc_6 (List.mem_of_getElem? (i := 63) rfl)) rfl
        · exact h9
  · cases h
noncomputable def zT_h_row (cal : ECal) : EKn := fun cs ls st w g nc ns => match cs, st with
  | e :: r, .inr (.inl (.inl ko)) :: .inl u1 :: .inr (.inl (.inl kx)) :: [] => zcd (Nat.beq e.2.1 1682) (zcd (zk_n r 1685) (zcd (Nat.ble (Nat.add nc 1) 10) (zcd (Nat.ble (Nat.add ns 6) 100) (zcd (ze_rc w 12 [eR kx, .inl u1]) (zx_run (zp_X11_row, 2, 0, 0) cal 17 100000 (zx_rl 7 ko (zT_kh cal r ls nc ns)) [eR kx, .inl u1] w g (fun w g => zT_kh cal r ls nc ns (some (eC 1)) w g)) false) false) false) false) false
  | _, _ => false
theorem zL_h_row_ok (t : zL_T p l s m meth c b dC dI dA sp xs A) (hd : 5 ≤ d ∧ d ≤ 1000) (hcal : ze_CalA l dC dI dA sp xs A cal d) (hinc : ze_KK p l e zT_R s m #[Value.ref b] below meth c Q ([], []) dC dI dA sp xs A 8 (fun cs => zk_code 14 code 8 ret false zp_L_law_ cs = true) zT_inc) : ze_KK p l e zT_R s m #[Value.ref b] below meth c Q ([], []) dC dI dA sp xs A 8 (fun cs => zk_code 14 code 8 ret false zp_L_law_ cs = true) (zT_h_row cal) := by
  intro cs ls st w g nc ns h pc hat ρ ws H locs la vs hH
  unfold zT_h_row at h
  split at h
  · rename_i e8 r8 ko u1 kx
    obtain ⟨hV, e9, r9, hcs, hpc⟩ := hat
    obtain ⟨rfl, rfl⟩ := List.cons.inj hcs
    obtain ⟨c1, h⟩ := ze_condf h
    obtain ⟨c2, h⟩ := ze_condf h
    obtain ⟨c3, h⟩ := ze_condf h
    obtain ⟨c4, h⟩ := ze_condf h
    obtain ⟨c5, hrn⟩ := ze_condf h
    have b1 : pc = 1682 := hpc.symm.trans (ze_beq c1)
    subst b1
    obtain ⟨-, hVr⟩ := zk_tail hV
    have hn := zk_nx hVr c2
    have L1 := hH.2.2.2.2.2.2.2.rev
    have hlen : vs.reverse.length = 3 := L1.len.symm
    have hX := t.2.2.2.2.2.2.1
    have hK := t.2.2.2.2.2.1
    have hA := t.2.2.2.2.2.2.2.1
    have hts := t.2.2.2.2.2.2.2.2.1
    have hZ := t.2.2.2.2.2.2.2.2.2
    obtain ⟨lv, hl9, -⟩ := hH.2.2.2.2.2.2.1
    have hM := zx_row (l := l) (dC := dC) (dI := dI) (dA := dA) (sp := sp) (xs := xs) (A := A) t.1 (d := d) (ko := ko) (kh := zT_kh cal r8 ls nc ns) hd.1 hcal c5 hrn hH.1 hH.2.1.1 hH.2.2.1 L1
    have hPs : PreS s H (va_Pc vs.reverse (zx_Pc dC dI dA sp xs A ws)) vs.reverse := ⟨zx_blind, fun U hU hWm => ⟨rfl, (ze_pre9 (avs := vs.reverse) hK hX hA hH U hU hWm).2, hZ.at (locs := locs) (by rw [hU]; exact hH.2.2.2.2.2.1) hWm⟩⟩
    have hrun := vx_runSW (R := zT_R) (e := e) (below := below) (H := H) (locs := locs) (cells := nc) (slots := ns) (meth := meth) (As := vs.reverse) (rest := []) (g := F0 m 1682 la vs) ⟨t.2.1, t.2.2.1, t.2.2.2.1, (show s.vm.findClass RL = some m.cls from t.2.2.2.2.1), hts⟩ hM (vx_cwSW (own := RL) (index := 246) 3 hts (zg_in ?_) rfl rfl rfl ⟨by decide, by decide, by decide +kernel⟩ ⟨(by show d + 2 + 1 ≤ 2048; omega), (by show 8 + (4 + 11) + 70 * (d + 2) ≤ 84000; omega)⟩) hPs rfl hlen hl9.1 (by rw [List.reverse_reverse, List.append_nil]) (by show 2 * 0 + 0 ≤ 8; decide) (show decode code 1682 = .ok (.invokestatic 246, 3) by decide +kernel) ⟨ze_ble' c3, ze_ble' c4⟩
    · exact zs_after (kk := zT_lp cal [1702] zT_inc) (nx := r8) (rest := []) (vr := []) (zL_lp_ok t ⟨by omega, hd.2⟩ hcal hinc) hn hH trivial (fun r w' g' q => q) hrun
    · intro w' hw'
      rcases List.mem_append.mp hw' with h9 | h9
      · simp only [List.mem_cons, List.not_mem_nil, or_false] at h9
        rcases h9 with rfl | rfl | rfl
        all_goals first | exact zb_in (zc_6 (List.mem_of_getElem? (i := 72) rfl)) rfl | exact zb_in (zc_6 (List.mem_of_getElem? (i := 73) rfl)) rfl | exact zb_in (zc_1 (List.mem_of_getElem? (i := 0) rfl)) rfl
      · rcases List.mem_cons.mp h9 with rfl | h9
        · exact zb_in (zc_6 (List.mem_of_getElem? (i := 74) rfl)) rfl
        · exact h9
  · cases h
end ZLH
