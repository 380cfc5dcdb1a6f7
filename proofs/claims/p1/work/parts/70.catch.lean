/-! the law's rows that call a helper which catches -/
theorem zL_Zof {p : Program} {s : State} {m : MethodId} {meth : Method} {c : Code} {b L : Nat} {xs : Nat → Int32} (C0 : lw_At p s m meth c b L xs) : zx_Z (zL_A s) s := by
  obtain ⟨-, -, -, -, -, hts, -, -, -, hgv⟩ := C0
  have hs := flat_of_before _ hgv
  have hA : ∀ a : Nat, a < s.heap.size → ¬ zL_A s a := fun a h => Nat.not_le.mpr h
  refine ⟨vx_Zqof (hts _ (by decide +kernel)) (hts _ (by decide +kernel)) (hs _ (by decide +kernel)) hA, vx_Zqof (hts _ (by decide +kernel)) (hts _ (by decide +kernel)) (hs _ (by decide +kernel)) hA, fun w hw => va_Nw.of (zx_w2 w hw).1 (hts w (zx_w3 w (List.mem_cons_of_mem _ (List.mem_cons_of_mem _ (List.mem_filter.mp hw).1))))⟩
noncomputable def zL_go : EKn := zL_run zL_no 100000
noncomputable def zL_kh (r9 : List ECE) (ls : List EV) (nc ns : Nat) : ERt := fun r w g => zL_go r9 ls (ze_pu r []) w g (Nat.add nc 1) (Nat.add ns 6)
noncomputable def zL_to (ph : Nat) (base : EKn) : EKn := ze_lh (ze_jp zp_L_law_) (ze_ex zp_all 30) 600002 7302232 zL_end ph base 100000
section ZLC
variable {p : Program} {l : Launch} {e : Env} {s : State} {m : MethodId} {below : List Frame} {meth : Method} {c : Code} {b a2 a3 : Nat} {xs : Nat → Int32} {dC : Nat → ClassId} {dI : Nat → Nat → Nat} {dA : Nat → ClassId}
theorem zL_to_ok {ph : Nat} {base : EKn} (hSt : ze_S (zL_sp b 5 a2 a3) (zL_A s) s) (C0 : lw_At p s m meth c b 5 xs) (hK : ze_K dC dI dA s) (hB : ze_KK p l e room_1 s m #[Value.ref b] below meth c (lw_Z below #[Value.ref b] s) ([], []) dC dI dA (zL_sp b 5 a2 a3) (zL_xs 5 xs) (zL_A s) 8 (fun cs => zk_code 15 code 8 ret false zp_L_law_ cs = true) base) : ze_KK p l e room_1 s m #[Value.ref b] below meth c (lw_Z below #[Value.ref b] s) ([], []) dC dI dA (zL_sp b 5 a2 a3) (zL_xs 5 xs) (zL_A s) 8 (fun cs => zk_code 15 code 8 ret false zp_L_law_ cs = true) (zL_to ph base) :=
  ze_lh_ok (zL_Fx hSt (Nat.le_refl 5) C0 hK zq_L_law_) (zL_Re C0) hB 100000
theorem zL_go_ok (hSt : ze_S (zL_sp b 5 a2 a3) (zL_A s) s) (C0 : lw_At p s m meth c b 5 xs) (hK : ze_K dC dI dA s) : ze_KK p l e room_1 s m #[Value.ref b] below meth c (lw_Z below #[Value.ref b] s) ([], []) dC dI dA (zL_sp b 5 a2 a3) (zL_xs 5 xs) (zL_A s) 8 (fun cs => zk_code 15 code 8 ret false zp_L_law_ cs = true) zL_go :=
  ze_lb_ok (zL_Fx hSt (Nat.le_refl 5) C0 hK zq_L_law_) (zL_Re C0) zL_Kno 100000
end ZLC
noncomputable def zL_h_law : EKn := fun cs ls st w g nc ns => match cs, st with
  | e :: r, .inr (.inl (.inl ko)) :: .inl u2 :: .inl u1 :: .inr (.inl (.inl kx)) :: [] => cond (Nat.beq e.2.1 371) (cond (zk_n r 374) (cond (Nat.ble (Nat.add nc 1) 600002) (cond (Nat.ble (Nat.add ns 6) 7302232) (cond (ze_rc w 12 [eR kx, .inl u1, .inl u2]) (zx_run (zp_X11_law, 3, 0, 0) 20 5 20 [eR kx, .inl u1, .inl u2] w g (fun w g => zL_kh r ls nc ns (some (eC 1)) w g)) false) false) false) false) false
  | _, _ => false
section ZL_law
variable {p : Program} {l : Launch} {e : Env} {s : State} {m : MethodId} {below : List Frame} {meth : Method} {c : Code} {b a2 a3 : Nat} {xs : Nat → Int32} {dC : Nat → ClassId} {dI : Nat → Nat → Nat} {dA : Nat → ClassId}
theorem zL_h_law_ok (hl : l.stackTraces = false) (hSt : ze_S (zL_sp b 5 a2 a3) (zL_A s) s) (C0 : lw_At p s m meth c b 5 xs) (hK : ze_K dC dI dA s) : ze_KK p l e room_1 s m #[Value.ref b] below meth c (lw_Z below #[Value.ref b] s) ([], []) dC dI dA (zL_sp b 5 a2 a3) (zL_xs 5 xs) (zL_A s) 8 (fun cs => zk_code 15 code 8 ret false zp_L_law_ cs = true) zL_h_law := by
  intro cs ls st w g nc ns h pc hat ρ ws H locs la vs hH
  unfold zL_h_law at h
  split at h
  · rename_i e8 r8 ko u2 u1 kx
    obtain ⟨hV, e9, r9, hcs, hpc⟩ := hat
    obtain ⟨rfl, rfl⟩ := List.cons.inj hcs
    obtain ⟨c1, h⟩ := ze_condf h
    obtain ⟨c2, h⟩ := ze_condf h
    obtain ⟨c3, h⟩ := ze_condf h
    obtain ⟨c4, h⟩ := ze_condf h
    obtain ⟨c5, hrn⟩ := ze_condf h
    have b1 : pc = 371 := hpc.symm.trans (ze_beq c1)
    subst b1
    obtain ⟨-, hVr⟩ := zk_tail hV
    have hn := zk_nx hVr c2
    have L1 := hH.2.2.2.2.2.2.2.rev
    have hlen : vs.reverse.length = 4 := L1.len.symm
    have hX := zL_X hSt (Nat.le_refl 5) C0
    have hts : ∀ w ∈ zb_T, w.before #[Value.ref b] s = true := fun w hw => C0.2.2.2.2.2.1 w (zb_good w hw).1
    have hZ := zL_Zof C0
    obtain ⟨lv, hl9, -⟩ := hH.2.2.2.2.2.2.1
    have hM := zx_law (l := l) (dC := dC) (dI := dI) (dA := dA) (sp := zL_sp b 5 a2 a3) (xs := zL_xs 5 xs) (A := zL_A s) hl (d := 20) (ko := ko) (kh := zL_kh r8 ls nc ns) (by decide) c5 hrn hH.1 hH.2.1.1 hH.2.2.1 L1
    have hPs : PreS s H (va_Pc vs.reverse (zx_Pc dC dI dA (zL_sp b 5 a2 a3) (zL_xs 5 xs) (zL_A s) ws)) vs.reverse := ⟨zx_blind, fun U hU hWm => ⟨rfl, (ze_pre9 (avs := vs.reverse) hK hX (fun q hq => hq) hH U hU hWm).2, hZ.at (locs := locs) (by rw [hU]; exact hH.2.2.2.2.2.1) hWm⟩⟩
    have hrun := vx_runSW (R := room_1) (e := e) (below := below) (H := H) (locs := locs) (cells := nc) (slots := ns) (meth := meth) (As := vs.reverse) (rest := []) (g := F0 m 371 la vs) ⟨C0.1, C0.2.1, C0.2.2.2.1, C0.2.2.2.2.1, hts⟩ hM (vx_cwSW (own := RL) (index := 52) 4 hts (zg_in ?_) rfl rfl rfl ⟨by decide, by decide, by decide +kernel⟩ ⟨by decide, by decide⟩) hPs rfl hlen hl9.1 (by rw [List.reverse_reverse, List.append_nil]) (by show 2 * 0 + 0 ≤ 8; decide) (show decode code 371 = .ok (.invokestatic 52, 3) by decide +kernel) ⟨ze_ble' c3, ze_ble' c4⟩
    · exact zs_after (kk := zL_go) (nx := r8) (rest := []) (vr := []) (zL_go_ok hSt C0 hK) hn hH trivial (fun r w' g' q => q) hrun
    · intro w' hw'
      rcases List.mem_append.mp hw' with h9 | h9
      · simp only [List.mem_cons, List.not_mem_nil, or_false] at h9
        rcases h9 with rfl | rfl | rfl
        all_goals first | exact zb_in (zc_5 (List.mem_of_getElem? (i := 220) rfl)) rfl | exact zb_in (zc_5 (List.mem_of_getElem? (i := 221) rfl)) rfl | exact zb_in (zc_1 (List.mem_of_getElem? (i := 0) rfl)) rfl
      · rcases List.mem_cons.mp h9 with rfl | h9
        · exact zb_in (zc_5 (List.mem_of_getElem? (i := 222) rfl)) rfl
        · exact h9
  · cases h
theorem zL_case_law (hl : l.stackTraces = false) (hSt : ze_S (zL_sp b 5 a2 a3) (zL_A s) s) (C0 : lw_At p s m meth c b 5 xs) (hK : ze_K dC dI dA s) (hj : xs 0 &&& 63 = nI 5) (h : zL_run (zL_B3 (zL_to 371 zL_h_law) 5) 23 zp_L_law__0 (ze_il [eX 2] 8) [] (0, []) (zL_gL 5) 0 0 = true) : W p l e room_1 s m #[Value.ref b] below meth c s.heap [] 0 0 (lw_Z below #[Value.ref b] s) (entryFrame m ([Value.ref b] : List Value).toArray 8) :=
  zL_start (zL_GL (Nat.le_refl 5)) hSt (Nat.le_refl 5) C0 hK (zL_Bok3 C0 hj (zL_to_ok hSt C0 hK (zL_h_law_ok hl hSt C0 hK))) h
end ZL_law
theorem zT_5 : zL_run (zL_B3 (zL_to 371 zL_h_law) 5) 23 zp_L_law__0 (ze_il [eX 2] 8) [] (0, []) (zL_gL 5) 0 0 = true := by decide +kernel
noncomputable def zL_h_bit : EKn := fun cs ls st w g nc ns => match cs, st with
  | e :: r, .inr (.inl (.inl ko)) :: .inl u2 :: .inl u1 :: .inr (.inl (.inl kx)) :: [] => cond (Nat.beq e.2.1 439) (cond (zk_n r 442) (cond (Nat.ble (Nat.add nc 1) 600002) (cond (Nat.ble (Nat.add ns 6) 7302232) (cond (ze_rc w 12 [eR kx, .inl u1, .inl u2]) (zx_run (zp_X11_bit, 3, 0, 0) 12 6 20 [eR kx, .inl u1, .inl u2] w g (fun w g => zL_kh r ls nc ns (some (eC 1)) w g)) false) false) false) false) false
  | _, _ => false
section ZL_bit
variable {p : Program} {l : Launch} {e : Env} {s : State} {m : MethodId} {below : List Frame} {meth : Method} {c : Code} {b a2 a3 : Nat} {xs : Nat → Int32} {dC : Nat → ClassId} {dI : Nat → Nat → Nat} {dA : Nat → ClassId}
theorem zL_h_bit_ok (hl : l.stackTraces = false) (hSt : ze_S (zL_sp b 5 a2 a3) (zL_A s) s) (C0 : lw_At p s m meth c b 5 xs) (hK : ze_K dC dI dA s) : ze_KK p l e room_1 s m #[Value.ref b] below meth c (lw_Z below #[Value.ref b] s) ([], []) dC dI dA (zL_sp b 5 a2 a3) (zL_xs 5 xs) (zL_A s) 8 (fun cs => zk_code 15 code 8 ret false zp_L_law_ cs = true) zL_h_bit := by
  intro cs ls st w g nc ns h pc hat ρ ws H locs la vs hH
  unfold zL_h_bit at h
  split at h
  · rename_i e8 r8 ko u2 u1 kx
    obtain ⟨hV, e9, r9, hcs, hpc⟩ := hat
    obtain ⟨rfl, rfl⟩ := List.cons.inj hcs
    obtain ⟨c1, h⟩ := ze_condf h
    obtain ⟨c2, h⟩ := ze_condf h
    obtain ⟨c3, h⟩ := ze_condf h
    obtain ⟨c4, h⟩ := ze_condf h
    obtain ⟨c5, hrn⟩ := ze_condf h
    have b1 : pc = 439 := hpc.symm.trans (ze_beq c1)
    subst b1
    obtain ⟨-, hVr⟩ := zk_tail hV
    have hn := zk_nx hVr c2
    have L1 := hH.2.2.2.2.2.2.2.rev
    have hlen : vs.reverse.length = 4 := L1.len.symm
    have hX := zL_X hSt (Nat.le_refl 5) C0
    have hts : ∀ w ∈ zb_T, w.before #[Value.ref b] s = true := fun w hw => C0.2.2.2.2.2.1 w (zb_good w hw).1
    have hZ := zL_Zof C0
    obtain ⟨lv, hl9, -⟩ := hH.2.2.2.2.2.2.1
    have hM := zx_bit (l := l) (dC := dC) (dI := dI) (dA := dA) (sp := zL_sp b 5 a2 a3) (xs := zL_xs 5 xs) (A := zL_A s) hl (d := 20) (ko := ko) (kh := zL_kh r8 ls nc ns) (by decide) c5 hrn hH.1 hH.2.1.1 hH.2.2.1 L1
    have hPs : PreS s H (va_Pc vs.reverse (zx_Pc dC dI dA (zL_sp b 5 a2 a3) (zL_xs 5 xs) (zL_A s) ws)) vs.reverse := ⟨zx_blind, fun U hU hWm => ⟨rfl, (ze_pre9 (avs := vs.reverse) hK hX (fun q hq => hq) hH U hU hWm).2, hZ.at (locs := locs) (by rw [hU]; exact hH.2.2.2.2.2.1) hWm⟩⟩
    have hrun := vx_runSW (R := room_1) (e := e) (below := below) (H := H) (locs := locs) (cells := nc) (slots := ns) (meth := meth) (As := vs.reverse) (rest := []) (g := F0 m 439 la vs) ⟨C0.1, C0.2.1, C0.2.2.2.1, C0.2.2.2.2.1, hts⟩ hM (vx_cwSW (own := RL) (index := 61) 4 hts (zg_in ?_) rfl rfl rfl ⟨by decide, by decide, by decide +kernel⟩ ⟨by decide, by decide⟩) hPs rfl hlen hl9.1 (by rw [List.reverse_reverse, List.append_nil]) (by show 2 * 0 + 0 ≤ 8; decide) (show decode code 439 = .ok (.invokestatic 61, 3) by decide +kernel) ⟨ze_ble' c3, ze_ble' c4⟩
    · exact zs_after (kk := zL_go) (nx := r8) (rest := []) (vr := []) (zL_go_ok hSt C0 hK) hn hH trivial (fun r w' g' q => q) hrun
    · intro w' hw'
      rcases List.mem_append.mp hw' with h9 | h9
      · simp only [List.mem_cons, List.not_mem_nil, or_false] at h9
        rcases h9 with rfl | rfl | rfl
        all_goals first | exact zb_in (zc_6 (List.mem_of_getElem? (i := 54) rfl)) rfl | exact zb_in (zc_6 (List.mem_of_getElem? (i := 55) rfl)) rfl | exact zb_in (zc_1 (List.mem_of_getElem? (i := 0) rfl)) rfl
      · rcases List.mem_cons.mp h9 with rfl | h9
        · exact zb_in (zc_6 (List.mem_of_getElem? (i := 56) rfl)) rfl
        · exact h9
  · cases h
theorem zL_case_bit (hl : l.stackTraces = false) (hSt : ze_S (zL_sp b 5 a2 a3) (zL_A s) s) (C0 : lw_At p s m meth c b 5 xs) (hK : ze_K dC dI dA s) (hj : xs 0 &&& 63 = nI 6) (h : zL_run (zL_B3 (zL_to 439 zL_h_bit) 6) 23 zp_L_law__0 (ze_il [eX 2] 8) [] (0, []) (zL_gL 5) 0 0 = true) : W p l e room_1 s m #[Value.ref b] below meth c s.heap [] 0 0 (lw_Z below #[Value.ref b] s) (entryFrame m ([Value.ref b] : List Value).toArray 8) :=
  zL_start (zL_GL (Nat.le_refl 5)) hSt (Nat.le_refl 5) C0 hK (zL_Bok3 C0 hj (zL_to_ok hSt C0 hK (zL_h_bit_ok hl hSt C0 hK))) h
end ZL_bit
theorem zT_6 : zL_run (zL_B3 (zL_to 439 zL_h_bit) 6) 23 zp_L_law__0 (ze_il [eX 2] 8) [] (0, []) (zL_gL 5) 0 0 = true := by decide +kernel
noncomputable def zL_h_one : EKn := fun cs ls st w g nc ns => match cs, st with
  | e :: r, .inr (.inl (.inl ko)) :: .inl u2 :: .inl u1 :: .inr (.inl (.inl kx)) :: [] => cond (Nat.beq e.2.1 507) (cond (zk_n r 510) (cond (Nat.ble (Nat.add nc 1) 600002) (cond (Nat.ble (Nat.add ns 6) 7302232) (cond (ze_rc w 12 [eR kx, .inl u1, .inl u2]) (zx_run (zp_X11_one, 3, 0, 0) 20 5 20 [eR kx, .inl u1, .inl u2] w g (fun w g => zL_kh r ls nc ns (some (eC 1)) w g)) false) false) false) false) false
  | _, _ => false
section ZL_one
variable {p : Program} {l : Launch} {e : Env} {s : State} {m : MethodId} {below : List Frame} {meth : Method} {c : Code} {b a2 a3 : Nat} {xs : Nat → Int32} {dC : Nat → ClassId} {dI : Nat → Nat → Nat} {dA : Nat → ClassId}
theorem zL_h_one_ok (hl : l.stackTraces = false) (hSt : ze_S (zL_sp b 5 a2 a3) (zL_A s) s) (C0 : lw_At p s m meth c b 5 xs) (hK : ze_K dC dI dA s) : ze_KK p l e room_1 s m #[Value.ref b] below meth c (lw_Z below #[Value.ref b] s) ([], []) dC dI dA (zL_sp b 5 a2 a3) (zL_xs 5 xs) (zL_A s) 8 (fun cs => zk_code 15 code 8 ret false zp_L_law_ cs = true) zL_h_one := by
  intro cs ls st w g nc ns h pc hat ρ ws H locs la vs hH
  unfold zL_h_one at h
  split at h
  · rename_i e8 r8 ko u2 u1 kx
    obtain ⟨hV, e9, r9, hcs, hpc⟩ := hat
    obtain ⟨rfl, rfl⟩ := List.cons.inj hcs
    obtain ⟨c1, h⟩ := ze_condf h
    obtain ⟨c2, h⟩ := ze_condf h
    obtain ⟨c3, h⟩ := ze_condf h
    obtain ⟨c4, h⟩ := ze_condf h
    obtain ⟨c5, hrn⟩ := ze_condf h
    have b1 : pc = 507 := hpc.symm.trans (ze_beq c1)
    subst b1
    obtain ⟨-, hVr⟩ := zk_tail hV
    have hn := zk_nx hVr c2
    have L1 := hH.2.2.2.2.2.2.2.rev
    have hlen : vs.reverse.length = 4 := L1.len.symm
    have hX := zL_X hSt (Nat.le_refl 5) C0
    have hts : ∀ w ∈ zb_T, w.before #[Value.ref b] s = true := fun w hw => C0.2.2.2.2.2.1 w (zb_good w hw).1
    have hZ := zL_Zof C0
    obtain ⟨lv, hl9, -⟩ := hH.2.2.2.2.2.2.1
    have hM := zx_one (l := l) (dC := dC) (dI := dI) (dA := dA) (sp := zL_sp b 5 a2 a3) (xs := zL_xs 5 xs) (A := zL_A s) hl (d := 20) (ko := ko) (kh := zL_kh r8 ls nc ns) (by decide) c5 hrn hH.1 hH.2.1.1 hH.2.2.1 L1
    have hPs : PreS s H (va_Pc vs.reverse (zx_Pc dC dI dA (zL_sp b 5 a2 a3) (zL_xs 5 xs) (zL_A s) ws)) vs.reverse := ⟨zx_blind, fun U hU hWm => ⟨rfl, (ze_pre9 (avs := vs.reverse) hK hX (fun q hq => hq) hH U hU hWm).2, hZ.at (locs := locs) (by rw [hU]; exact hH.2.2.2.2.2.1) hWm⟩⟩
    have hrun := vx_runSW (R := room_1) (e := e) (below := below) (H := H) (locs := locs) (cells := nc) (slots := ns) (meth := meth) (As := vs.reverse) (rest := []) (g := F0 m 507 la vs) ⟨C0.1, C0.2.1, C0.2.2.2.1, C0.2.2.2.2.1, hts⟩ hM (vx_cwSW (own := RL) (index := 64) 4 hts (zg_in ?_) rfl rfl rfl ⟨by decide, by decide, by decide +kernel⟩ ⟨by decide, by decide⟩) hPs rfl hlen hl9.1 (by rw [List.reverse_reverse, List.append_nil]) (by show 2 * 0 + 0 ≤ 8; decide) (show decode code 507 = .ok (.invokestatic 64, 3) by decide +kernel) ⟨ze_ble' c3, ze_ble' c4⟩
    · exact zs_after (kk := zL_go) (nx := r8) (rest := []) (vr := []) (zL_go_ok hSt C0 hK) hn hH trivial (fun r w' g' q => q) hrun
    · intro w' hw'
      rcases List.mem_append.mp hw' with h9 | h9
      · simp only [List.mem_cons, List.not_mem_nil, or_false] at h9
        rcases h9 with rfl | rfl | rfl
        all_goals first | exact zb_in (zc_6 (List.mem_of_getElem? (i := 61) rfl)) rfl | exact zb_in (zc_6 (List.mem_of_getElem? (i := 62) rfl)) rfl | exact zb_in (zc_1 (List.mem_of_getElem? (i := 0) rfl)) rfl
      · rcases List.mem_cons.mp h9 with rfl | h9
        · exact zb_in (zc_6 (List.mem_of_getElem? (i := 63) rfl)) rfl
        · exact h9
  · cases h
theorem zL_case_one (hl : l.stackTraces = false) (hSt : ze_S (zL_sp b 5 a2 a3) (zL_A s) s) (C0 : lw_At p s m meth c b 5 xs) (hK : ze_K dC dI dA s) (hj : xs 0 &&& 63 = nI 7) (h : zL_run (zL_B3 (zL_to 507 zL_h_one) 7) 23 zp_L_law__0 (ze_il [eX 2] 8) [] (0, []) (zL_gL 5) 0 0 = true) : W p l e room_1 s m #[Value.ref b] below meth c s.heap [] 0 0 (lw_Z below #[Value.ref b] s) (entryFrame m ([Value.ref b] : List Value).toArray 8) :=
  zL_start (zL_GL (Nat.le_refl 5)) hSt (Nat.le_refl 5) C0 hK (zL_Bok3 C0 hj (zL_to_ok hSt C0 hK (zL_h_one_ok hl hSt C0 hK))) h
end ZL_one
theorem zT_7 : zL_run (zL_B3 (zL_to 507 zL_h_one) 7) 23 zp_L_law__0 (ze_il [eX 2] 8) [] (0, []) (zL_gL 5) 0 0 = true := by decide +kernel
noncomputable def zL_h_row : EKn := fun cs ls st w g nc ns => match cs, st with
  | e :: r, .inr (.inl (.inl ko)) :: .inl u1 :: .inr (.inl (.inl kx)) :: [] => cond (Nat.beq e.2.1 1766) (cond (zk_n r 1769) (cond (Nat.ble (Nat.add nc 1) 600002) (cond (Nat.ble (Nat.add ns 6) 7302232) (cond (ze_rc w 12 [eR kx, .inl u1]) (zx_run (zp_X11_row, 2, 0, 0) 17 9 20 [eR kx, .inl u1] w g (fun w g => zL_kh r ls nc ns (some (eC 1)) w g)) false) false) false) false) false
  | _, _ => false
section ZL_row
variable {p : Program} {l : Launch} {e : Env} {s : State} {m : MethodId} {below : List Frame} {meth : Method} {c : Code} {b a2 a3 : Nat} {xs : Nat → Int32} {dC : Nat → ClassId} {dI : Nat → Nat → Nat} {dA : Nat → ClassId}
theorem zL_h_row_ok (hl : l.stackTraces = false) (hSt : ze_S (zL_sp b 5 a2 a3) (zL_A s) s) (C0 : lw_At p s m meth c b 5 xs) (hK : ze_K dC dI dA s) : ze_KK p l e room_1 s m #[Value.ref b] below meth c (lw_Z below #[Value.ref b] s) ([], []) dC dI dA (zL_sp b 5 a2 a3) (zL_xs 5 xs) (zL_A s) 8 (fun cs => zk_code 15 code 8 ret false zp_L_law_ cs = true) zL_h_row := by
  intro cs ls st w g nc ns h pc hat ρ ws H locs la vs hH
  unfold zL_h_row at h
  split at h
  · rename_i e8 r8 ko u1 kx
    obtain ⟨hV, e9, r9, hcs, hpc⟩ := hat
    obtain ⟨rfl, rfl⟩ := List.cons.inj hcs
    obtain ⟨c1, h⟩ := ze_condf h
    obtain ⟨c2, h⟩ := ze_condf h
    obtain ⟨c3, h⟩ := ze_condf h
    obtain ⟨c4, h⟩ := ze_condf h
    obtain ⟨c5, hrn⟩ := ze_condf h
    have b1 : pc = 1766 := hpc.symm.trans (ze_beq c1)
    subst b1
    obtain ⟨-, hVr⟩ := zk_tail hV
    have hn := zk_nx hVr c2
    have L1 := hH.2.2.2.2.2.2.2.rev
    have hlen : vs.reverse.length = 3 := L1.len.symm
    have hX := zL_X hSt (Nat.le_refl 5) C0
    have hts : ∀ w ∈ zb_T, w.before #[Value.ref b] s = true := fun w hw => C0.2.2.2.2.2.1 w (zb_good w hw).1
    have hZ := zL_Zof C0
    obtain ⟨lv, hl9, -⟩ := hH.2.2.2.2.2.2.1
    have hM := zx_row (l := l) (dC := dC) (dI := dI) (dA := dA) (sp := zL_sp b 5 a2 a3) (xs := zL_xs 5 xs) (A := zL_A s) hl (d := 20) (ko := ko) (kh := zL_kh r8 ls nc ns) (by decide) c5 hrn hH.1 hH.2.1.1 hH.2.2.1 L1
    have hPs : PreS s H (va_Pc vs.reverse (zx_Pc dC dI dA (zL_sp b 5 a2 a3) (zL_xs 5 xs) (zL_A s) ws)) vs.reverse := ⟨zx_blind, fun U hU hWm => ⟨rfl, (ze_pre9 (avs := vs.reverse) hK hX (fun q hq => hq) hH U hU hWm).2, hZ.at (locs := locs) (by rw [hU]; exact hH.2.2.2.2.2.1) hWm⟩⟩
    have hrun := vx_runSW (R := room_1) (e := e) (below := below) (H := H) (locs := locs) (cells := nc) (slots := ns) (meth := meth) (As := vs.reverse) (rest := []) (g := F0 m 1766 la vs) ⟨C0.1, C0.2.1, C0.2.2.2.1, C0.2.2.2.2.1, hts⟩ hM (vx_cwSW (own := RL) (index := 249) 3 hts (zg_in ?_) rfl rfl rfl ⟨by decide, by decide, by decide +kernel⟩ ⟨by decide, by decide⟩) hPs rfl hlen hl9.1 (by rw [List.reverse_reverse, List.append_nil]) (by show 2 * 0 + 0 ≤ 8; decide) (show decode code 1766 = .ok (.invokestatic 249, 3) by decide +kernel) ⟨ze_ble' c3, ze_ble' c4⟩
    · exact zs_after (kk := zL_go) (nx := r8) (rest := []) (vr := []) (zL_go_ok hSt C0 hK) hn hH trivial (fun r w' g' q => q) hrun
    · intro w' hw'
      rcases List.mem_append.mp hw' with h9 | h9
      · simp only [List.mem_cons, List.not_mem_nil, or_false] at h9
        rcases h9 with rfl | rfl | rfl
        all_goals first | exact zb_in (zc_6 (List.mem_of_getElem? (i := 72) rfl)) rfl | exact zb_in (zc_6 (List.mem_of_getElem? (i := 73) rfl)) rfl | exact zb_in (zc_1 (List.mem_of_getElem? (i := 0) rfl)) rfl
      · rcases List.mem_cons.mp h9 with rfl | h9
        · exact zb_in (zc_6 (List.mem_of_getElem? (i := 74) rfl)) rfl
        · exact h9
  · cases h
theorem zL_case_row (hl : l.stackTraces = false) (hSt : ze_S (zL_sp b 5 a2 a3) (zL_A s) s) (C0 : lw_At p s m meth c b 5 xs) (hK : ze_K dC dI dA s) (hj : xs 0 &&& 63 = nI 53) (h : zL_run (zL_B3 (zL_to 1766 zL_h_row) 53) 23 zp_L_law__0 (ze_il [eX 2] 8) [] (0, []) (zL_gL 5) 0 0 = true) : W p l e room_1 s m #[Value.ref b] below meth c s.heap [] 0 0 (lw_Z below #[Value.ref b] s) (entryFrame m ([Value.ref b] : List Value).toArray 8) :=
  zL_start (zL_GL (Nat.le_refl 5)) hSt (Nat.le_refl 5) C0 hK (zL_Bok3 C0 hj (zL_to_ok hSt C0 hK (zL_h_row_ok hl hSt C0 hK))) h
end ZL_row
theorem zT_53 : zL_run (zL_B3 (zL_to 1766 zL_h_row) 53) 23 zp_L_law__0 (ze_il [eX 2] 8) [] (0, []) (zL_gL 5) 0 0 = true := by decide +kernel
