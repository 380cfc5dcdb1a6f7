/-! the law, all cases -/
theorem zL_j (x : Int32) : ∃ j, j < 64 ∧ x &&& 63 = nI j := by
  have h := zi_and (sp := fun _ => 0) (g := []) (ρ := [x]) (ad := []) (eU 0) (eC 63) x 63 ⟨x, rfl, rfl⟩ (congrArg Value.int (by decide +kernel))
  have h : 2147483648 ≤ ze_b (x &&& 63) ∧ ze_b (x &&& 63) ≤ 2147483711 := h
  refine ⟨ze_b (x &&& 63) - 2147483648, by omega, ?_⟩
  rw [ze_b_eq]
  have h2 := ze_b_int (nI (ze_b (x &&& 63) - 2147483648))
  rw [nI_toInt (by omega)] at h2
  omega
section ZAL
variable {p : Program} {l : Launch} {e : Env} {s : State} {m : MethodId} {below : List Frame} {meth : Method} {c : Code} {b L a2 a3 : Nat} {xs : Nat → Int32} {dC : Nat → ClassId} {dI : Nat → Nat → Nat} {dA : Nat → ClassId}
def zL_Goal (p : Program) (l : Launch) (e : Env) (s : State) (m : MethodId) (below : List Frame) (meth : Method) (c : Code) (b : Nat) : Prop := W p l e room_1 s m #[Value.ref b] below meth c s.heap [] 0 0 (lw_Z below #[Value.ref b] s) (entryFrame m ([Value.ref b] : List Value).toArray 8)
theorem zL_short (hSt : ze_S (zL_sp b L a2 a3) (zL_A s) s) (hL : L ≤ 5) (C0 : lw_At p s m meth c b L xs) (hK : ze_K dC dI dA s) (h : zL_run zL_no 100 zp_L_law__0 (ze_il [eX 2] 8) [] (0, []) (zL_gL L) 0 0 = true) : zL_Goal p l e s m below meth c b :=
  zL_start (zL_GL hL) hSt hL C0 hK zL_Kno h
theorem zL_plain {j : Nat} (hSt : ze_S (zL_sp b 5 a2 a3) (zL_A s) s) (C0 : lw_At p s m meth c b 5 xs) (hK : ze_K dC dI dA s) (hj : xs 0 &&& 63 = nI j) (h : zL_run (zL_B j 1000000) 23 zp_L_law__0 (ze_il [eX 2] 8) [] (0, []) (zL_gL 5) 0 0 = true) : zL_Goal p l e s m below meth c b :=
  zL_start (zL_GL (Nat.le_refl 5)) hSt (Nat.le_refl 5) C0 hK (zL_Bok hSt (Nat.le_refl 5) C0 hK hj) h
theorem zL_rng {j lo hi : Nat} (hSt : ze_S (zL_sp b 5 a2 a3) (zL_A s) s) (C0 : lw_At p s m meth c b 5 xs) (hK : ze_K dC dI dA s) (hj : xs 0 &&& 63 = nI j) (h : zT_r j lo hi = true) (h1 : lo ≤ ze_b (xs 1)) (h2 : ze_b (xs 1) ≤ hi) : zL_Goal p l e s m below meth c b :=
  zL_start (base := zL_B j 1000000) (n := 23) (g := zL_g1 lo hi) (zL_G1 h1 h2) hSt (Nat.le_refl 5) C0 hK (zL_Bok hSt (Nat.le_refl 5) C0 hK hj) h
theorem zL_spec {j : Nat} {SP : ECal} (hSP : ∀ D, 21 ≤ D → ∀ y q, zm y = some q → ze_Cal l dC dI dA (zL_sp b 5 a2 a3) (zL_xs 5 xs) (zL_A s) SP y D q.1 q.2.1 q.2.2.1 q.2.2.2.1 q.2.2.2.2.2.1 q.2.2.2.2.2.2) (hSt : ze_S (zL_sp b 5 a2 a3) (zL_A s) s) (C0 : lw_At p s m meth c b 5 xs) (hK : ze_K dC dI dA s) (hj : xs 0 &&& 63 = nI j) (h : zL_run (zL_B3 (zL_run2 (zX SP 5) zL_no 1000000) j) 23 zp_L_law__0 (ze_il [eX 2] 8) [] (0, []) (zL_gL 5) 0 0 = true) : zL_Goal p l e s m below meth c b :=
  zL_case (zX_ok hSP 5) hSt C0 hK hj (zL_GL (Nat.le_refl 5)) h
theorem zL_spr {j lo hi : Nat} {SP : ECal} (hSP : ∀ D, 21 ≤ D → ∀ y q, zm y = some q → ze_Cal l dC dI dA (zL_sp b 5 a2 a3) (zL_xs 5 xs) (zL_A s) SP y D q.1 q.2.1 q.2.2.1 q.2.2.2.1 q.2.2.2.2.2.1 q.2.2.2.2.2.2) (hSt : ze_S (zL_sp b 5 a2 a3) (zL_A s) s) (C0 : lw_At p s m meth c b 5 xs) (hK : ze_K dC dI dA s) (hj : xs 0 &&& 63 = nI j) (h : zL_run (zL_B3 (zL_run2 (zX SP 5) zL_no 1000000) j) 23 zp_L_law__0 (ze_il [eX 2] 8) [] (0, []) (zL_g1 lo hi) 0 0 = true) (h1 : lo ≤ ze_b (xs 1)) (h2 : ze_b (xs 1) ≤ hi) : zL_Goal p l e s m below meth c b :=
  zL_case (zX_ok hSP 5) hSt C0 hK hj (zL_G1 h1 h2) h
theorem zL_c46 (hSt : ze_S (zL_sp b 5 a2 a3) (zL_A s) s) (C0 : lw_At p s m meth c b 5 xs) (hK : ze_K dC dI dA s) (hj : xs 0 &&& 63 = nI 46) : zL_Goal p l e s m below meth c b := by
  have ht := ze_b_top (xs 1)
  by_cases h_zT_46_lo : ze_b (xs 1) ≤ 2147483647
  · exact zL_rng hSt C0 hK hj zT_46_lo (by omega) h_zT_46_lo
  by_cases h_zT_46_0 : ze_b (xs 1) ≤ 2147483657
  · exact zL_rng hSt C0 hK hj zT_46_0 (by omega) h_zT_46_0
  by_cases h_zT_46_1 : ze_b (xs 1) ≤ 2147483665
  · exact zL_rng hSt C0 hK hj zT_46_1 (by omega) h_zT_46_1
  by_cases h_zT_46_2 : ze_b (xs 1) ≤ 2147483671
  · exact zL_rng hSt C0 hK hj zT_46_2 (by omega) h_zT_46_2
  by_cases h_zT_46_3 : ze_b (xs 1) ≤ 2147483676
  · exact zL_rng hSt C0 hK hj zT_46_3 (by omega) h_zT_46_3
  by_cases h_zT_46_4 : ze_b (xs 1) ≤ 2147483681
  · exact zL_rng hSt C0 hK hj zT_46_4 (by omega) h_zT_46_4
  by_cases h_zT_46_5 : ze_b (xs 1) ≤ 2147483685
  · exact zL_rng hSt C0 hK hj zT_46_5 (by omega) h_zT_46_5
  by_cases h_zT_46_6 : ze_b (xs 1) ≤ 2147483689
  · exact zL_rng hSt C0 hK hj zT_46_6 (by omega) h_zT_46_6
  by_cases h_zT_46_7 : ze_b (xs 1) ≤ 2147483693
  · exact zL_rng hSt C0 hK hj zT_46_7 (by omega) h_zT_46_7
  by_cases h_zT_46_8 : ze_b (xs 1) ≤ 2147483697
  · exact zL_rng hSt C0 hK hj zT_46_8 (by omega) h_zT_46_8
  by_cases h_zT_46_9 : ze_b (xs 1) ≤ 2147483700
  · exact zL_rng hSt C0 hK hj zT_46_9 (by omega) h_zT_46_9
  by_cases h_zT_46_10 : ze_b (xs 1) ≤ 2147483703
  · exact zL_rng hSt C0 hK hj zT_46_10 (by omega) h_zT_46_10
  by_cases h_zT_46_11 : ze_b (xs 1) ≤ 2147483706
  · exact zL_rng hSt C0 hK hj zT_46_11 (by omega) h_zT_46_11
  by_cases h_zT_46_12 : ze_b (xs 1) ≤ 2147483708
  · exact zL_rng hSt C0 hK hj zT_46_12 (by omega) h_zT_46_12
  exact zL_rng hSt C0 hK hj zT_46_hi (by omega) (by omega)
theorem zL_c48 (hSt : ze_S (zL_sp b 5 a2 a3) (zL_A s) s) (C0 : lw_At p s m meth c b 5 xs) (hK : ze_K dC dI dA s) (hj : xs 0 &&& 63 = nI 48) : zL_Goal p l e s m below meth c b := by
  have ht := ze_b_top (xs 1)
  by_cases h_zT_48_lo : ze_b (xs 1) ≤ 2147483647
  · exact zL_rng hSt C0 hK hj zT_48_lo (by omega) h_zT_48_lo
  by_cases h_zT_48_0 : ze_b (xs 1) ≤ 2147483648
  · exact zL_spr (fun D hD => zcal_48_0_ok D hD) hSt C0 hK hj zT_48_0 (by omega) h_zT_48_0
  by_cases h_zT_48_1 : ze_b (xs 1) ≤ 2147483649
  · exact zL_spr (fun D hD => zcal_48_1_ok D hD) hSt C0 hK hj zT_48_1 (by omega) h_zT_48_1
  by_cases h_zT_48_2 : ze_b (xs 1) ≤ 2147483650
  · exact zL_spr (fun D hD => zcal_48_2_ok D hD) hSt C0 hK hj zT_48_2 (by omega) h_zT_48_2
  by_cases h_zT_48_3 : ze_b (xs 1) ≤ 2147483651
  · exact zL_spr (fun D hD => zcal_48_3_ok D hD) hSt C0 hK hj zT_48_3 (by omega) h_zT_48_3
  by_cases h_zT_48_4 : ze_b (xs 1) ≤ 2147483652
  · exact zL_spr (fun D hD => zcal_48_4_ok D hD) hSt C0 hK hj zT_48_4 (by omega) h_zT_48_4
  by_cases h_zT_48_5 : ze_b (xs 1) ≤ 2147483653
  · exact zL_spr (fun D hD => zcal_48_5_ok D hD) hSt C0 hK hj zT_48_5 (by omega) h_zT_48_5
  by_cases h_zT_48_6 : ze_b (xs 1) ≤ 2147483654
  · exact zL_spr (fun D hD => zcal_48_6_ok D hD) hSt C0 hK hj zT_48_6 (by omega) h_zT_48_6
  by_cases h_zT_48_7 : ze_b (xs 1) ≤ 2147483655
  · exact zL_spr (fun D hD => zcal_48_7_ok D hD) hSt C0 hK hj zT_48_7 (by omega) h_zT_48_7
  by_cases h_zT_48_8 : ze_b (xs 1) ≤ 2147483656
  · exact zL_spr (fun D hD => zcal_48_8_ok D hD) hSt C0 hK hj zT_48_8 (by omega) h_zT_48_8
  by_cases h_zT_48_9 : ze_b (xs 1) ≤ 2147483657
  · exact zL_rng hSt C0 hK hj zT_48_9 (by omega) h_zT_48_9
  by_cases h_zT_48_10 : ze_b (xs 1) ≤ 2147483658
  · exact zL_rng hSt C0 hK hj zT_48_10 (by omega) h_zT_48_10
  by_cases h_zT_48_11 : ze_b (xs 1) ≤ 2147483659
  · exact zL_rng hSt C0 hK hj zT_48_11 (by omega) h_zT_48_11
  by_cases h_zT_48_12 : ze_b (xs 1) ≤ 2147483660
  · exact zL_rng hSt C0 hK hj zT_48_12 (by omega) h_zT_48_12
  by_cases h_zT_48_13 : ze_b (xs 1) ≤ 2147483661
  · exact zL_rng hSt C0 hK hj zT_48_13 (by omega) h_zT_48_13
  by_cases h_zT_48_14 : ze_b (xs 1) ≤ 2147483662
  · exact zL_rng hSt C0 hK hj zT_48_14 (by omega) h_zT_48_14
  by_cases h_zT_48_15 : ze_b (xs 1) ≤ 2147483663
  · exact zL_rng hSt C0 hK hj zT_48_15 (by omega) h_zT_48_15
  by_cases h_zT_48_16 : ze_b (xs 1) ≤ 2147483664
  · exact zL_rng hSt C0 hK hj zT_48_16 (by omega) h_zT_48_16
  by_cases h_zT_48_17 : ze_b (xs 1) ≤ 2147483665
  · exact zL_rng hSt C0 hK hj zT_48_17 (by omega) h_zT_48_17
  by_cases h_zT_48_18 : ze_b (xs 1) ≤ 2147483666
  · exact zL_rng hSt C0 hK hj zT_48_18 (by omega) h_zT_48_18
  exact zL_rng hSt C0 hK hj zT_48_hi (by omega) (by omega)
theorem zL_all (hl : l.stackTraces = false) (hSt : ze_S (zL_sp b 5 a2 a3) (zL_A s) s) (C0 : lw_At p s m meth c b 5 xs) (hK : ze_K dC dI dA s) : zL_Goal p l e s m below meth c b := by
  obtain ⟨j, hj64, hj⟩ := zL_j (xs 0)
  match j, hj64, hj with
  | 0, _, hj => exact zL_plain hSt C0 hK hj zT_5_0
  | 1, _, hj => exact zL_plain hSt C0 hK hj zT_5_1
  | 2, _, hj => exact zL_plain hSt C0 hK hj zT_5_2
  | 3, _, hj => exact zL_plain hSt C0 hK hj zT_5_3
  | 4, _, hj => exact zL_plain hSt C0 hK hj zT_5_4
  | 5, _, hj => exact zL_case_law hl hSt C0 hK hj zT_5
  | 6, _, hj => exact zL_case_bit hl hSt C0 hK hj zT_6
  | 7, _, hj => exact zL_case_one hl hSt C0 hK hj zT_7
  | 8, _, hj => exact zL_plain hSt C0 hK hj zT_5_8
  | 9, _, hj => exact zL_plain hSt C0 hK hj zT_5_9
  | 10, _, hj => exact zL_plain hSt C0 hK hj zT_5_10
  | 11, _, hj => exact zL_plain hSt C0 hK hj zT_5_11
  | 12, _, hj => exact zL_spec (fun D hD => zcal_12_ok D hD) hSt C0 hK hj zT_12
  | 13, _, hj => exact zL_plain hSt C0 hK hj zT_5_13
  | 14, _, hj => exact zL_plain hSt C0 hK hj zT_5_14
  | 15, _, hj => exact zL_plain hSt C0 hK hj zT_5_15
  | 16, _, hj => exact zL_plain hSt C0 hK hj zT_5_16
  | 17, _, hj => exact zL_spec (fun D hD => zs_17_ok D hD) hSt C0 hK hj zT_17
  | 18, _, hj => exact zL_plain hSt C0 hK hj zT_5_18
  | 19, _, hj => exact zL_plain hSt C0 hK hj zT_5_19
  | 20, _, hj => exact zL_plain hSt C0 hK hj zT_5_20
  | 21, _, hj => exact zL_plain hSt C0 hK hj zT_5_21
  | 22, _, hj => exact zL_spec (fun D hD => zcal_22_ok D hD) hSt C0 hK hj zT_22
  | 23, _, hj => exact zL_plain hSt C0 hK hj zT_5_23
  | 24, _, hj => exact zL_plain hSt C0 hK hj zT_5_24
  | 25, _, hj => exact zL_plain hSt C0 hK hj zT_5_25
  | 26, _, hj => exact zL_plain hSt C0 hK hj zT_5_26
  | 27, _, hj => exact zL_plain hSt C0 hK hj zT_5_27
  | 28, _, hj => exact zL_plain hSt C0 hK hj zT_5_28
  | 29, _, hj => exact zL_plain hSt C0 hK hj zT_5_29
  | 30, _, hj => exact zL_plain hSt C0 hK hj zT_5_30
  | 31, _, hj => exact zL_plain hSt C0 hK hj zT_5_31
  | 32, _, hj => exact zL_plain hSt C0 hK hj zT_5_32
  | 33, _, hj => exact zL_plain hSt C0 hK hj zT_5_33
  | 34, _, hj => exact zL_plain hSt C0 hK hj zT_5_34
  | 35, _, hj => exact zL_plain hSt C0 hK hj zT_5_35
  | 36, _, hj => exact zL_plain hSt C0 hK hj zT_5_36
  | 37, _, hj => exact zL_plain hSt C0 hK hj zT_5_37
  | 38, _, hj => exact zL_plain hSt C0 hK hj zT_5_38
  | 39, _, hj => exact zL_plain hSt C0 hK hj zT_5_39
  | 40, _, hj => exact zL_plain hSt C0 hK hj zT_5_40
  | 41, _, hj => exact zL_plain hSt C0 hK hj zT_5_41
  | 42, _, hj => exact zL_plain hSt C0 hK hj zT_5_42
  | 43, _, hj => exact zL_plain hSt C0 hK hj zT_5_43
  | 44, _, hj => exact zL_plain hSt C0 hK hj zT_5_44
  | 45, _, hj => exact zL_spec (fun D hD => zcal_45_ok D hD) hSt C0 hK hj zT_45
  | 46, _, hj => exact zL_c46 hSt C0 hK hj
  | 47, _, hj => exact zL_plain hSt C0 hK hj zT_5_47
  | 48, _, hj => exact zL_c48 hSt C0 hK hj
  | 49, _, hj => exact zL_spec (fun D hD => zcal_49_ok D hD) hSt C0 hK hj zT_49
  | 50, _, hj => exact zL_plain hSt C0 hK hj zT_5_50
  | 51, _, hj => exact zL_plain hSt C0 hK hj zT_5_51
  | 52, _, hj => exact zL_plain hSt C0 hK hj zT_5_52
  | 53, _, hj => exact zL_case_row hl hSt C0 hK hj zT_53
  | 54, _, hj => exact zL_plain hSt C0 hK hj zT_5_54
  | 55, _, hj => exact zL_plain hSt C0 hK hj zT_5_55
  | 56, _, hj => exact zL_plain hSt C0 hK hj zT_5_56
  | 57, _, hj => exact zL_plain hSt C0 hK hj zT_5_57
  | 58, _, hj => exact zL_plain hSt C0 hK hj zT_5_58
  | 59, _, hj => exact zL_plain hSt C0 hK hj zT_5_59
  | 60, _, hj => exact zL_plain hSt C0 hK hj zT_5_60
  | 61, _, hj => exact zL_plain hSt C0 hK hj zT_5_61
  | 62, _, hj => exact zL_plain hSt C0 hK hj zT_5_62
  | 63, _, hj => exact zL_plain hSt C0 hK hj zT_5_63
  | j + 64, h, _ => omega
end ZAL
theorem whole_start {p : Program} {e : Env} {s : State} {m : MethodId} {below : List Frame} {meth : Method} {c : Code} (l : Launch) (hl : l.stackTraces = false) {b L : Nat} {xs : Nat → Int32} (hL : L ≤ 5) (C0 : lw_At p s m meth c b L xs) : W p l e room_1 s m #[Value.ref b] below meth c s.heap [] 0 0 (lw_Z below #[Value.ref b] s) (entryFrame m ([Value.ref b] : List Value).toArray 8) := by
  obtain ⟨dC, dI, dA, hK⟩ := zL_Ks C0.2.2.2.2.2.1
  obtain ⟨a2, a3, hSt⟩ := zL_Sof C0
  match L, hL, C0, hSt with
  | 0, hL, C0, hSt => exact zL_short hSt hL C0 hK zT_0
  | 1, hL, C0, hSt => exact zL_short hSt hL C0 hK zT_1
  | 2, hL, C0, hSt => exact zL_short hSt hL C0 hK zT_2
  | 3, hL, C0, hSt => exact zL_short hSt hL C0 hK zT_3
  | 4, hL, C0, hSt => exact zL_short hSt hL C0 hK zT_4
  | 5, hL, C0, hSt => exact zL_all hl hSt C0 hK
  | L + 6, hL, _, _ => omega
