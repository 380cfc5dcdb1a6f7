/-! the reading of rules -/
def zqw_p135 : List (Nat × Nat) := [(0, 11), (0, 13), (0, 19), (1, 0), (1, 1)]
noncomputable def zqw_e136 : EC := (12, [eU 10, eU 11, eX 42, eU 12, eU 13, eU 14, eX 43, eX 44, eX 45, eR 1, eU 17, eU 33, eU 19, eU 34, eX 46, eU 21, eX 47, eR 2, eU 24, eU 35, eX 48, eX 49, eU 26, eX 50, eX 51, eX 52, eX 53, eX 54, eX 55, eU 27, eX 56, eX 57, eU 28, eU 29, eX 58, eX 59, eU 30, eX 60, eX 61, eU 31, eX 62, eX 63, eX 64, eX 65, eX 66, eX 67, eU 32, eX 68, eX 69, eX 70])
noncomputable def zqw_e137 : EC := (1303, [eU 36, eU 37])
noncomputable def zqw_e138 : EC := (1301, [eU 22, eC 255, eU 35, eU 23, eC 0, eU 33, eU 18, eC 0])
noncomputable def zqw_c139 : List EC := [zqw_e136, zqw_e137, zqw_e138]
noncomputable def zqw_w140 : EW := (3, [zqw_c139])
noncomputable def zqw_g141 : EG := zqw_g112 ++ [(2147483648, 2147483688), (0, 4294967295), (2147483648, 2147483688), (2147483648, 2147483727), (2147483648, 2147483903)]
noncomputable def zqw_e142 : EC := (1301, [eU 22, eC 1, eU 35, eU 23, eC 0, eU 33, eU 18, eC 1])
noncomputable def zqw_c143 : List EC := [zqw_e136, zqw_e137, zqw_e142]
noncomputable def zqw_w144 : EW := (3, [zqw_c143])
noncomputable def zqw_g145 : EG := zqw_g112 ++ [(2147483649, 2147483688), (0, 4294967295), (2147483649, 2147483688), (2147483648, 2147483688), (2147483648, 2147483903)]
noncomputable def zqw_n146 : List ZN := [(some (eC 0), [], zqw_p135, zqw_w140, zqw_g141), (some (eC 1), [], zqw_p135, zqw_w144, zqw_g145)]
theorem zqG40_E : zy_spl (fun g => zy_en (zp_X12_readsThing, 2, 0, 0) (zX zEp 3) (zy_ends 33 zqw_n146) [] 100000 (zy_B 33 [] []) ([eR 0] : List EV) zqw_w111 g) [] (ze_s (2147483688, 2147483688) zqw_g112 18) = true := by decide +kernel
theorem zhG40 : ZH (yX12_readsThing, cX12_readsThing, 2, (some .boolean), 12, 0, 0) 25 ([eR 0] : List EV) zqw_w111 (ze_s (2147483688, 2147483688) zqw_g112 18) zqw_n146 := ZH.met (n := 3) (es := zqw_n146) (hd := []) (F := 100000) (KS := []) (js := []) (sp0 := []) (by decide) zEp_ok (y0 := 229) (q := (yX12_readsThing, cX12_readsThing, 2, (some .boolean), 12, 0, 0)) rfl (m9 := (zp_X12_readsThing, 2, 0, 0)) rfl rfl (N2 := 33) (by decide +kernel) (by decide) zqG40_E (fun i hi => absurd (show i < 0 from hi) (Nat.not_lt_zero i))
theorem zhI40 : ZH (yX12_readsThing, cX12_readsThing, 2, (some .boolean), 12, 0, 0) 25 ([eR 0] : List EV) zqw_w111 (ze_s (2147483688, 2147483688) zqw_g112 18) zqw_n146 := zhG40
noncomputable def zcI40 : ECal := zf_cal 229 10 [.inl 0, .inr (0, 9), .inr (0, 17)] [] zqw_p72 [(0, 2), (0, 6), (0, 7), (0, 8), (0, 14), (0, 16), (0, 20), (0, 21), (0, 23), (0, 24), (0, 25), (0, 26), (0, 27), (0, 28), (0, 30), (0, 31), (0, 34), (0, 35), (0, 37), (0, 38), (0, 40), (0, 41), (0, 42), (0, 43), (0, 44), (0, 45), (0, 47), (0, 48), (0, 49)] ([eR 0] : List EV) zqw_w111 (ze_s (2147483688, 2147483688) zqw_g112 18) zqw_n146
theorem zcI40_ok : ZE zcI40 25 := ZH.ze rfl ⟨rfl, rfl⟩ (zy_nx_ok (by decide +kernel)) zhI40
noncomputable def zdI40 : ECal := zr_w 229 17 11 0 0 false (zr_t 9 zcI40)
theorem zdI40_ok : ZE zdI40 25 := ZE.rd 229 17 9 11 0 0 false (by decide) zcI40_ok
noncomputable def zE_R2_40 : ECal := zS_or zdI40 (zEp)
theorem zE_R2_40_ok : ZE zE_R2_40 25 := (ZE.or zdI40_ok (zEp_ok) (by decide) (by decide) : ZE (zS_or zdI40 (zEp)) 25)
def zqw_g147 : EG := [(0, 4294967295), (0, 4294967295), (0, 4294967295), (0, 4294967295), (0, 4294967295), (0, 4294967295), (0, 4294967295), (0, 4294967295), (0, 4294967295), (0, 4294967295), (2147483648, 2147483649), (2147483648, 2147483672), (2147483648, 2147483653), (2147483648, 2147483653), (0, 4294967295), (2147483648, 2147483727), (2147483648, 2147483903), (2147483648, 2147483728), (2147483688, 2147483688), (2147483648, 2147483688), (0, 4294967295), (2147483648, 2147483653), (2147483648, 4294967295), (2147483648, 4294967295), (2147483648, 2147483688), (2147483648, 2147483688), (2147483648, 2147483663), (2147483648, 2147483708), (0, 4294967295), (2147483648, 2147483658), (2147483648, 2147483660), (2147483648, 2147483658), (0, 4294967295)]
noncomputable def zqw_g148 : EG := zqw_g147 ++ [(2147483688, 2147483688), (0, 4294967295), (2147483648, 2147483688), (2147483648, 2147483727), (2147483648, 2147483903)]
noncomputable def zqw_n149 : List ZN := [(some (eC 0), [], zqw_p135, zqw_w140, zqw_g148)]
noncomputable def zqR2_40_K : List ZC := []
noncomputable def zqR2_40_e : ERt := zy_ends 33 zqw_n149
theorem zqR2_40_E : zy_spl (fun g => zy_en (zp_X12_readsRank, 4, 0, 0) (zX zE_R2_40 2) zqR2_40_e [24] 100000 (zy_B 33 zqR2_40_K []) ([eR 0, eC 2] : List EV) zqw_w111 g) [] zqw_g147 = true := by decide +kernel
noncomputable def zqR2_40_f (i : Nat) : Bool := zy_f 33 zp_X12_readsRank (zX zE_R2_40 2) 0 0 zqR2_40_e [24] 100000 zqR2_40_K i
noncomputable def zcR2_40 : ECal := zf_cal 230 10 [.inl 0, .inr (0, 9), .inr (0, 17)] [] zqw_p72 [(0, 2), (0, 6), (0, 7), (0, 8), (0, 14), (0, 16), (0, 20), (0, 21), (0, 23), (0, 24), (0, 25), (0, 26), (0, 27), (0, 28), (0, 30), (0, 31), (0, 34), (0, 35), (0, 37), (0, 38), (0, 40), (0, 41), (0, 42), (0, 43), (0, 44), (0, 45), (0, 47), (0, 48), (0, 49)] ([eR 0, eC 2] : List EV) zqw_w111 zqw_g147 zqw_n149
theorem zcR2_40_ok : ZE zcR2_40 28 := ZE.met (n := 2) (es := zqw_n149) (hd := [24]) (F := 100000) (KS := zqR2_40_K) (js := []) (sp0 := []) (by decide) zE_R2_40_ok (y0 := 230) (q := (yX12_readsRank, cX12_readsRank, 4, (some .boolean), 12, 0, 0)) rfl ⟨rfl, rfl⟩ (m9 := (zp_X12_readsRank, 4, 0, 0)) rfl rfl (zy_nx_ok (by decide +kernel)) (N2 := 33) (by decide +kernel) (by decide) zqR2_40_E (fun i hi => absurd (show i < 0 from hi) (Nat.not_lt_zero i))
noncomputable def zdR2_40 : ECal := zr_w 230 17 11 0 0 false (zr_t 9 zcR2_40)
theorem zdR2_40_ok : ZE zdR2_40 28 := ZE.rd 230 17 9 11 0 0 false (by decide) zcR2_40_ok
noncomputable def zE_R1_40 : ECal := zS_or zdR2_40 (zEp)
theorem zE_R1_40_ok : ZE zE_R1_40 28 := (ZE.or zdR2_40_ok (zEp_ok) (by decide) (by decide) : ZE (zS_or zdR2_40 (zEp)) 28)
noncomputable def zqR1_40_K : List ZC := []
noncomputable def zqR1_40_e : ERt := zy_ends 33 zqw_n149
theorem zqR1_40_E : zy_spl (fun g => zy_en (zp_X12_readsRank, 4, 0, 0) (zX zE_R1_40 2) zqR1_40_e [24] 100000 (zy_B 33 zqR1_40_K []) ([eR 0, eC 1] : List EV) zqw_w111 g) [] zqw_g147 = true := by decide +kernel
noncomputable def zqR1_40_f (i : Nat) : Bool := zy_f 33 zp_X12_readsRank (zX zE_R1_40 2) 0 0 zqR1_40_e [24] 100000 zqR1_40_K i
noncomputable def zcR1_40 : ECal := zf_cal 230 10 [.inl 0, .inr (0, 9), .inr (0, 17)] [] zqw_p72 [(0, 2), (0, 6), (0, 7), (0, 8), (0, 14), (0, 16), (0, 20), (0, 21), (0, 23), (0, 24), (0, 25), (0, 26), (0, 27), (0, 28), (0, 30), (0, 31), (0, 34), (0, 35), (0, 37), (0, 38), (0, 40), (0, 41), (0, 42), (0, 43), (0, 44), (0, 45), (0, 47), (0, 48), (0, 49)] ([eR 0, eC 1] : List EV) zqw_w111 zqw_g147 zqw_n149
theorem zcR1_40_ok : ZE zcR1_40 31 := ZE.met (n := 2) (es := zqw_n149) (hd := [24]) (F := 100000) (KS := zqR1_40_K) (js := []) (sp0 := []) (by decide) zE_R1_40_ok (y0 := 230) (q := (yX12_readsRank, cX12_readsRank, 4, (some .boolean), 12, 0, 0)) rfl ⟨rfl, rfl⟩ (m9 := (zp_X12_readsRank, 4, 0, 0)) rfl rfl (zy_nx_ok (by decide +kernel)) (N2 := 33) (by decide +kernel) (by decide) zqR1_40_E (fun i hi => absurd (show i < 0 from hi) (Nat.not_lt_zero i))
noncomputable def zdR1_40 : ECal := zr_w 230 17 11 0 0 false (zr_t 9 zcR1_40)
theorem zdR1_40_ok : ZE zdR1_40 31 := ZE.rd 230 17 9 11 0 0 false (by decide) zcR1_40_ok
noncomputable def zE_R0_40 : ECal := zS_or zdR1_40 (zEp)
theorem zE_R0_40_ok : ZE zE_R0_40 31 := (ZE.or zdR1_40_ok (zEp_ok) (by decide) (by decide) : ZE (zS_or zdR1_40 (zEp)) 31)
noncomputable def zqR0_40_K : List ZC := []
noncomputable def zqR0_40_e : ERt := zy_ends 33 zqw_n149
theorem zqR0_40_E : zy_spl (fun g => zy_en (zp_X12_readsRank, 4, 0, 0) (zX zE_R0_40 2) zqR0_40_e [24] 100000 (zy_B 33 zqR0_40_K []) ([eR 0, eC 0] : List EV) zqw_w111 g) [] zqw_g147 = true := by decide +kernel
noncomputable def zqR0_40_f (i : Nat) : Bool := zy_f 33 zp_X12_readsRank (zX zE_R0_40 2) 0 0 zqR0_40_e [24] 100000 zqR0_40_K i
noncomputable def zcR0_40 : ECal := zf_cal 230 10 [.inl 0, .inr (0, 9), .inr (0, 17)] [] zqw_p72 [(0, 2), (0, 6), (0, 7), (0, 8), (0, 14), (0, 16), (0, 20), (0, 21), (0, 23), (0, 24), (0, 25), (0, 26), (0, 27), (0, 28), (0, 30), (0, 31), (0, 34), (0, 35), (0, 37), (0, 38), (0, 40), (0, 41), (0, 42), (0, 43), (0, 44), (0, 45), (0, 47), (0, 48), (0, 49)] ([eR 0, eC 0] : List EV) zqw_w111 zqw_g147 zqw_n149
theorem zcR0_40_ok : ZE zcR0_40 34 := ZE.met (n := 2) (es := zqw_n149) (hd := [24]) (F := 100000) (KS := zqR0_40_K) (js := []) (sp0 := []) (by decide) zE_R0_40_ok (y0 := 230) (q := (yX12_readsRank, cX12_readsRank, 4, (some .boolean), 12, 0, 0)) rfl ⟨rfl, rfl⟩ (m9 := (zp_X12_readsRank, 4, 0, 0)) rfl rfl (zy_nx_ok (by decide +kernel)) (N2 := 33) (by decide +kernel) (by decide) zqR0_40_E (fun i hi => absurd (show i < 0 from hi) (Nat.not_lt_zero i))
noncomputable def zdR0_40 : ECal := zr_w 230 17 11 0 0 false (zr_t 9 zcR0_40)
theorem zdR0_40_ok : ZE zdR0_40 34 := ZE.rd 230 17 9 11 0 0 false (by decide) zcR0_40_ok
noncomputable def zE_G39 : ECal := zS_or zdI40 (zS_or zdR0_40 (zEp))
theorem zE_G39_ok : ZE zE_G39 34 := (ZE.or zdI40_ok ((ZE.or zdR0_40_ok (zEp_ok) (by decide) (by decide) : ZE (zS_or zdR0_40 (zEp)) 34)) (by decide) (by decide) : ZE (zS_or zdI40 (zS_or zdR0_40 (zEp))) 34)
theorem zqG39_E : zy_spl (fun g => zy_en (zp_X12_readsThing, 2, 0, 0) (zX zE_G39 3) (zy_ends 33 zqw_n146) [] 100000 (zy_B 33 [] []) ([eR 0] : List EV) zqw_w111 g) [] (ze_s (2147483687, 2147483687) zqw_g112 18) = true := by decide +kernel
theorem zhG39 : ZH (yX12_readsThing, cX12_readsThing, 2, (some .boolean), 12, 0, 0) 38 ([eR 0] : List EV) zqw_w111 (ze_s (2147483687, 2147483687) zqw_g112 18) zqw_n146 := ZH.met (n := 3) (es := zqw_n146) (hd := []) (F := 100000) (KS := []) (js := []) (sp0 := []) (by decide) zE_G39_ok (y0 := 229) (q := (yX12_readsThing, cX12_readsThing, 2, (some .boolean), 12, 0, 0)) rfl (m9 := (zp_X12_readsThing, 2, 0, 0)) rfl rfl (N2 := 33) (by decide +kernel) (by decide) zqG39_E (fun i hi => absurd (show i < 0 from hi) (Nat.not_lt_zero i))
theorem zhI39 : ZH (yX12_readsThing, cX12_readsThing, 2, (some .boolean), 12, 0, 0) 38 ([eR 0] : List EV) zqw_w111 (ze_s (2147483687, 2147483688) zqw_g112 18) zqw_n146 := ZH.join (m := 2147483687) (by decide +kernel) zhG39 (zhI40.le (by decide))
noncomputable def zcI39 : ECal := zf_cal 229 10 [.inl 0, .inr (0, 9), .inr (0, 17)] [] zqw_p72 [(0, 2), (0, 6), (0, 7), (0, 8), (0, 14), (0, 16), (0, 20), (0, 21), (0, 23), (0, 24), (0, 25), (0, 26), (0, 27), (0, 28), (0, 30), (0, 31), (0, 34), (0, 35), (0, 37), (0, 38), (0, 40), (0, 41), (0, 42), (0, 43), (0, 44), (0, 45), (0, 47), (0, 48), (0, 49)] ([eR 0] : List EV) zqw_w111 (ze_s (2147483687, 2147483688) zqw_g112 18) zqw_n146
theorem zcI39_ok : ZE zcI39 38 := ZH.ze rfl ⟨rfl, rfl⟩ (zy_nx_ok (by decide +kernel)) zhI39
noncomputable def zdI39 : ECal := zr_w 229 17 11 0 0 false (zr_t 9 zcI39)
theorem zdI39_ok : ZE zdI39 38 := ZE.rd 229 17 9 11 0 0 false (by decide) zcI39_ok
noncomputable def zE_R2_39 : ECal := zS_or zdI39 (zEp)
theorem zE_R2_39_ok : ZE zE_R2_39 38 := (ZE.or zdI39_ok (zEp_ok) (by decide) (by decide) : ZE (zS_or zdI39 (zEp)) 38)
def zqw_g150 : EG := [(0, 4294967295), (0, 4294967295), (0, 4294967295), (0, 4294967295), (0, 4294967295), (0, 4294967295), (0, 4294967295), (0, 4294967295), (0, 4294967295), (0, 4294967295), (2147483648, 2147483649), (2147483648, 2147483672), (2147483648, 2147483653), (2147483648, 2147483653), (0, 4294967295), (2147483648, 2147483727), (2147483648, 2147483903), (2147483648, 2147483728), (2147483687, 2147483688), (2147483648, 2147483688), (0, 4294967295), (2147483648, 2147483653), (2147483648, 4294967295), (2147483648, 4294967295), (2147483648, 2147483688), (2147483648, 2147483688), (2147483648, 2147483663), (2147483648, 2147483708), (0, 4294967295), (2147483648, 2147483658), (2147483648, 2147483660), (2147483648, 2147483658), (0, 4294967295)]
noncomputable def zqw_g151 : EG := zqw_g150 ++ [(2147483687, 2147483688), (0, 4294967295), (2147483648, 2147483688), (2147483648, 2147483727), (2147483648, 2147483903)]
noncomputable def zqw_g152 : EG := zqw_g150 ++ [(2147483688, 2147483688), (0, 4294967295), (2147483649, 2147483688), (2147483648, 2147483727), (2147483648, 2147483903)]
noncomputable def zqw_n153 : List ZN := [(some (eC 0), [], zqw_p135, zqw_w140, zqw_g151), (some (eC 1), [], zqw_p135, zqw_w144, zqw_g152)]
noncomputable def zqw_g154 : EG := zqw_g150 ++ [(2147483688, 2147483688), (0, 4294967295), (2147483649, 2147483688), (2147483648, 2147483688), (2147483648, 2147483903)]
noncomputable def zqR2_39_S0 : List ZC := ((16, 24, [], zqw_p135, [eR 0, eC 2, eC 1, eX 1], zqw_w144, zqw_g154), [], []) :: []
noncomputable def zqR2_39_K : List ZC := zqR2_39_S0
noncomputable def zqR2_39_e : ERt := zy_ends 33 zqw_n153
theorem zqR2_39_E : zy_spl (fun g => zy_en (zp_X12_readsRank, 4, 0, 0) (zX zE_R2_39 2) zqR2_39_e [24] 100000 (zy_B 33 zqR2_39_K [0]) ([eR 0, eC 2] : List EV) zqw_w111 g) [] zqw_g150 = true := by decide +kernel
noncomputable def zqR2_39_f (i : Nat) : Bool := zy_f 33 zp_X12_readsRank (zX zE_R2_39 2) 0 0 zqR2_39_e [24] 100000 zqR2_39_K i
theorem zqR2_39_0 : zy_ch zqR2_39_f 0 1 = true := by decide +kernel
theorem zqR2_39_n : zqR2_39_K.length = 1 := by decide +kernel
noncomputable def zcR2_39 : ECal := zf_cal 230 10 [.inl 0, .inr (0, 9), .inr (0, 17)] [] zqw_p72 [(0, 2), (0, 6), (0, 7), (0, 8), (0, 14), (0, 16), (0, 20), (0, 21), (0, 23), (0, 24), (0, 25), (0, 26), (0, 27), (0, 28), (0, 30), (0, 31), (0, 34), (0, 35), (0, 37), (0, 38), (0, 40), (0, 41), (0, 42), (0, 43), (0, 44), (0, 45), (0, 47), (0, 48), (0, 49)] ([eR 0, eC 2] : List EV) zqw_w111 zqw_g150 zqw_n153
theorem zcR2_39_ok : ZE zcR2_39 41 := ZE.met (n := 2) (es := zqw_n153) (hd := [24]) (F := 100000) (KS := zqR2_39_K) (js := [0]) (sp0 := []) (by decide) zE_R2_39_ok (y0 := 230) (q := (yX12_readsRank, cX12_readsRank, 4, (some .boolean), 12, 0, 0)) rfl ⟨rfl, rfl⟩ (m9 := (zp_X12_readsRank, 4, 0, 0)) rfl rfl (zy_nx_ok (by decide +kernel)) (N2 := 33) (by decide +kernel) (by decide) zqR2_39_E (fun i hi => (show ∀ i, i < 1 → zqR2_39_f i = true from fun i hi => zy_ch_ok zqR2_39_0 i (by omega) (by omega)) i (by have h9 := hi; rw [zqR2_39_n] at h9; exact h9))
noncomputable def zdR2_39 : ECal := zr_w 230 17 11 0 0 false (zr_t 9 zcR2_39)
theorem zdR2_39_ok : ZE zdR2_39 41 := ZE.rd 230 17 9 11 0 0 false (by decide) zcR2_39_ok
noncomputable def zE_R1_39 : ECal := zS_or zdR2_39 (zEp)
theorem zE_R1_39_ok : ZE zE_R1_39 41 := (ZE.or zdR2_39_ok (zEp_ok) (by decide) (by decide) : ZE (zS_or zdR2_39 (zEp)) 41)
noncomputable def zqR1_39_S0 : List ZC := ((16, 24, [], zqw_p135, [eR 0, eC 1, eC 1, eX 1], zqw_w144, zqw_g152), [], []) :: []
noncomputable def zqR1_39_K : List ZC := zqR1_39_S0
noncomputable def zqR1_39_e : ERt := zy_ends 33 zqw_n153
theorem zqR1_39_E : zy_spl (fun g => zy_en (zp_X12_readsRank, 4, 0, 0) (zX zE_R1_39 2) zqR1_39_e [24] 100000 (zy_B 33 zqR1_39_K [0]) ([eR 0, eC 1] : List EV) zqw_w111 g) [] zqw_g150 = true := by decide +kernel
noncomputable def zqR1_39_f (i : Nat) : Bool := zy_f 33 zp_X12_readsRank (zX zE_R1_39 2) 0 0 zqR1_39_e [24] 100000 zqR1_39_K i
theorem zqR1_39_0 : zy_ch zqR1_39_f 0 1 = true := by decide +kernel
theorem zqR1_39_n : zqR1_39_K.length = 1 := by decide +kernel
noncomputable def zcR1_39 : ECal := zf_cal 230 10 [.inl 0, .inr (0, 9), .inr (0, 17)] [] zqw_p72 [(0, 2), (0, 6), (0, 7), (0, 8), (0, 14), (0, 16), (0, 20), (0, 21), (0, 23), (0, 24), (0, 25), (0, 26), (0, 27), (0, 28), (0, 30), (0, 31), (0, 34), (0, 35), (0, 37), (0, 38), (0, 40), (0, 41), (0, 42), (0, 43), (0, 44), (0, 45), (0, 47), (0, 48), (0, 49)] ([eR 0, eC 1] : List EV) zqw_w111 zqw_g150 zqw_n153
theorem zcR1_39_ok : ZE zcR1_39 44 := ZE.met (n := 2) (es := zqw_n153) (hd := [24]) (F := 100000) (KS := zqR1_39_K) (js := [0]) (sp0 := []) (by decide) zE_R1_39_ok (y0 := 230) (q := (yX12_readsRank, cX12_readsRank, 4, (some .boolean), 12, 0, 0)) rfl ⟨rfl, rfl⟩ (m9 := (zp_X12_readsRank, 4, 0, 0)) rfl rfl (zy_nx_ok (by decide +kernel)) (N2 := 33) (by decide +kernel) (by decide) zqR1_39_E (fun i hi => (show ∀ i, i < 1 → zqR1_39_f i = true from fun i hi => zy_ch_ok zqR1_39_0 i (by omega) (by omega)) i (by have h9 := hi; rw [zqR1_39_n] at h9; exact h9))
noncomputable def zdR1_39 : ECal := zr_w 230 17 11 0 0 false (zr_t 9 zcR1_39)
theorem zdR1_39_ok : ZE zdR1_39 44 := ZE.rd 230 17 9 11 0 0 false (by decide) zcR1_39_ok
noncomputable def zE_R0_39 : ECal := zS_or zdR1_39 (zEp)
theorem zE_R0_39_ok : ZE zE_R0_39 44 := (ZE.or zdR1_39_ok (zEp_ok) (by decide) (by decide) : ZE (zS_or zdR1_39 (zEp)) 44)
noncomputable def zqR0_39_S0 : List ZC := ((16, 24, [], zqw_p135, [eR 0, eC 0, eC 1, eX 1], zqw_w144, zqw_g152), [], []) :: []
noncomputable def zqR0_39_K : List ZC := zqR0_39_S0
noncomputable def zqR0_39_e : ERt := zy_ends 33 zqw_n153
theorem zqR0_39_E : zy_spl (fun g => zy_en (zp_X12_readsRank, 4, 0, 0) (zX zE_R0_39 2) zqR0_39_e [24] 100000 (zy_B 33 zqR0_39_K [0]) ([eR 0, eC 0] : List EV) zqw_w111 g) [] zqw_g150 = true := by decide +kernel
noncomputable def zqR0_39_f (i : Nat) : Bool := zy_f 33 zp_X12_readsRank (zX zE_R0_39 2) 0 0 zqR0_39_e [24] 100000 zqR0_39_K i
theorem zqR0_39_0 : zy_ch zqR0_39_f 0 1 = true := by decide +kernel
theorem zqR0_39_n : zqR0_39_K.length = 1 := by decide +kernel
noncomputable def zcR0_39 : ECal := zf_cal 230 10 [.inl 0, .inr (0, 9), .inr (0, 17)] [] zqw_p72 [(0, 2), (0, 6), (0, 7), (0, 8), (0, 14), (0, 16), (0, 20), (0, 21), (0, 23), (0, 24), (0, 25), (0, 26), (0, 27), (0, 28), (0, 30), (0, 31), (0, 34), (0, 35), (0, 37), (0, 38), (0, 40), (0, 41), (0, 42), (0, 43), (0, 44), (0, 45), (0, 47), (0, 48), (0, 49)] ([eR 0, eC 0] : List EV) zqw_w111 zqw_g150 zqw_n153
theorem zcR0_39_ok : ZE zcR0_39 47 := ZE.met (n := 2) (es := zqw_n153) (hd := [24]) (F := 100000) (KS := zqR0_39_K) (js := [0]) (sp0 := []) (by decide) zE_R0_39_ok (y0 := 230) (q := (yX12_readsRank, cX12_readsRank, 4, (some .boolean), 12, 0, 0)) rfl ⟨rfl, rfl⟩ (m9 := (zp_X12_readsRank, 4, 0, 0)) rfl rfl (zy_nx_ok (by decide +kernel)) (N2 := 33) (by decide +kernel) (by decide) zqR0_39_E (fun i hi => (show ∀ i, i < 1 → zqR0_39_f i = true from fun i hi => zy_ch_ok zqR0_39_0 i (by omega) (by omega)) i (by have h9 := hi; rw [zqR0_39_n] at h9; exact h9))
noncomputable def zdR0_39 : ECal := zr_w 230 17 11 0 0 false (zr_t 9 zcR0_39)
theorem zdR0_39_ok : ZE zdR0_39 47 := ZE.rd 230 17 9 11 0 0 false (by decide) zcR0_39_ok
noncomputable def zE_G38 : ECal := zS_or zdI39 (zS_or zdR0_39 (zEp))
theorem zE_G38_ok : ZE zE_G38 47 := (ZE.or zdI39_ok ((ZE.or zdR0_39_ok (zEp_ok) (by decide) (by decide) : ZE (zS_or zdR0_39 (zEp)) 47)) (by decide) (by decide) : ZE (zS_or zdI39 (zS_or zdR0_39 (zEp))) 47)
theorem zqG38_E : zy_spl (fun g => zy_en (zp_X12_readsThing, 2, 0, 0) (zX zE_G38 3) (zy_ends 33 zqw_n146) [] 100000 (zy_B 33 [] []) ([eR 0] : List EV) zqw_w111 g) [] (ze_s (2147483686, 2147483686) zqw_g112 18) = true := by decide +kernel
theorem zhG38 : ZH (yX12_readsThing, cX12_readsThing, 2, (some .boolean), 12, 0, 0) 51 ([eR 0] : List EV) zqw_w111 (ze_s (2147483686, 2147483686) zqw_g112 18) zqw_n146 := ZH.met (n := 3) (es := zqw_n146) (hd := []) (F := 100000) (KS := []) (js := []) (sp0 := []) (by decide) zE_G38_ok (y0 := 229) (q := (yX12_readsThing, cX12_readsThing, 2, (some .boolean), 12, 0, 0)) rfl (m9 := (zp_X12_readsThing, 2, 0, 0)) rfl rfl (N2 := 33) (by decide +kernel) (by decide) zqG38_E (fun i hi => absurd (show i < 0 from hi) (Nat.not_lt_zero i))
theorem zhI38 : ZH (yX12_readsThing, cX12_readsThing, 2, (some .boolean), 12, 0, 0) 51 ([eR 0] : List EV) zqw_w111 (ze_s (2147483686, 2147483688) zqw_g112 18) zqw_n146 := ZH.join (m := 2147483686) (by decide +kernel) zhG38 (zhI39.le (by decide))
noncomputable def zcI38 : ECal := zf_cal 229 10 [.inl 0, .inr (0, 9), .inr (0, 17)] [] zqw_p72 [(0, 2), (0, 6), (0, 7), (0, 8), (0, 14), (0, 16), (0, 20), (0, 21), (0, 23), (0, 24), (0, 25), (0, 26), (0, 27), (0, 28), (0, 30), (0, 31), (0, 34), (0, 35), (0, 37), (0, 38), (0, 40), (0, 41), (0, 42), (0, 43), (0, 44), (0, 45), (0, 47), (0, 48), (0, 49)] ([eR 0] : List EV) zqw_w111 (ze_s (2147483686, 2147483688) zqw_g112 18) zqw_n146
theorem zcI38_ok : ZE zcI38 51 := ZH.ze rfl ⟨rfl, rfl⟩ (zy_nx_ok (by decide +kernel)) zhI38
noncomputable def zdI38 : ECal := zr_w 229 17 11 0 0 false (zr_t 9 zcI38)
theorem zdI38_ok : ZE zdI38 51 := ZE.rd 229 17 9 11 0 0 false (by decide) zcI38_ok
noncomputable def zE_R2_38 : ECal := zS_or zdI38 (zEp)
theorem zE_R2_38_ok : ZE zE_R2_38 51 := (ZE.or zdI38_ok (zEp_ok) (by decide) (by decide) : ZE (zS_or zdI38 (zEp)) 51)
def zqw_g155 : EG := [(0, 4294967295), (0, 4294967295), (0, 4294967295), (0, 4294967295), (0, 4294967295), (0, 4294967295), (0, 4294967295), (0, 4294967295), (0, 4294967295), (0, 4294967295), (2147483648, 2147483649), (2147483648, 2147483672), (2147483648, 2147483653), (2147483648, 2147483653), (0, 4294967295), (2147483648, 2147483727), (2147483648, 2147483903), (2147483648, 2147483728), (2147483686, 2147483688), (2147483648, 2147483688), (0, 4294967295), (2147483648, 2147483653), (2147483648, 4294967295), (2147483648, 4294967295), (2147483648, 2147483688), (2147483648, 2147483688), (2147483648, 2147483663), (2147483648, 2147483708), (0, 4294967295), (2147483648, 2147483658), (2147483648, 2147483660), (2147483648, 2147483658), (0, 4294967295)]
noncomputable def zqw_g156 : EG := zqw_g155 ++ [(2147483686, 2147483688), (0, 4294967295), (2147483648, 2147483688), (2147483648, 2147483727), (2147483648, 2147483903)]
noncomputable def zqw_g157 : EG := zqw_g155 ++ [(2147483687, 2147483688), (0, 4294967295), (2147483649, 2147483688), (2147483648, 2147483727), (2147483648, 2147483903)]
noncomputable def zqw_n158 : List ZN := [(some (eC 0), [], zqw_p135, zqw_w140, zqw_g156), (some (eC 1), [], zqw_p135, zqw_w144, zqw_g157)]
noncomputable def zqw_g159 : EG := zqw_g155 ++ [(2147483687, 2147483688), (0, 4294967295), (2147483649, 2147483688), (2147483648, 2147483688), (2147483648, 2147483903)]
noncomputable def zqR2_38_S0 : List ZC := ((16, 24, [], zqw_p135, [eR 0, eC 2, eC 1, eX 1], zqw_w144, zqw_g159), [], []) :: []
noncomputable def zqR2_38_K : List ZC := zqR2_38_S0
noncomputable def zqR2_38_e : ERt := zy_ends 33 zqw_n158
theorem zqR2_38_E : zy_spl (fun g => zy_en (zp_X12_readsRank, 4, 0, 0) (zX zE_R2_38 2) zqR2_38_e [24] 100000 (zy_B 33 zqR2_38_K [0]) ([eR 0, eC 2] : List EV) zqw_w111 g) [] zqw_g155 = true := by decide +kernel
noncomputable def zqR2_38_f (i : Nat) : Bool := zy_f 33 zp_X12_readsRank (zX zE_R2_38 2) 0 0 zqR2_38_e [24] 100000 zqR2_38_K i
theorem zqR2_38_0 : zy_ch zqR2_38_f 0 1 = true := by decide +kernel
theorem zqR2_38_n : zqR2_38_K.length = 1 := by decide +kernel
noncomputable def zcR2_38 : ECal := zf_cal 230 10 [.inl 0, .inr (0, 9), .inr (0, 17)] [] zqw_p72 [(0, 2), (0, 6), (0, 7), (0, 8), (0, 14), (0, 16), (0, 20), (0, 21), (0, 23), (0, 24), (0, 25), (0, 26), (0, 27), (0, 28), (0, 30), (0, 31), (0, 34), (0, 35), (0, 37), (0, 38), (0, 40), (0, 41), (0, 42), (0, 43), (0, 44), (0, 45), (0, 47), (0, 48), (0, 49)] ([eR 0, eC 2] : List EV) zqw_w111 zqw_g155 zqw_n158
theorem zcR2_38_ok : ZE zcR2_38 54 := ZE.met (n := 2) (es := zqw_n158) (hd := [24]) (F := 100000) (KS := zqR2_38_K) (js := [0]) (sp0 := []) (by decide) zE_R2_38_ok (y0 := 230) (q := (yX12_readsRank, cX12_readsRank, 4, (some .boolean), 12, 0, 0)) rfl ⟨rfl, rfl⟩ (m9 := (zp_X12_readsRank, 4, 0, 0)) rfl rfl (zy_nx_ok (by decide +kernel)) (N2 := 33) (by decide +kernel) (by decide) zqR2_38_E (fun i hi => (show ∀ i, i < 1 → zqR2_38_f i = true from fun i hi => zy_ch_ok zqR2_38_0 i (by omega) (by omega)) i (by have h9 := hi; rw [zqR2_38_n] at h9; exact h9))
noncomputable def zdR2_38 : ECal := zr_w 230 17 11 0 0 false (zr_t 9 zcR2_38)
theorem zdR2_38_ok : ZE zdR2_38 54 := ZE.rd 230 17 9 11 0 0 false (by decide) zcR2_38_ok
noncomputable def zE_R1_38 : ECal := zS_or zdR2_38 (zEp)
theorem zE_R1_38_ok : ZE zE_R1_38 54 := (ZE.or zdR2_38_ok (zEp_ok) (by decide) (by decide) : ZE (zS_or zdR2_38 (zEp)) 54)
noncomputable def zqR1_38_S0 : List ZC := ((16, 24, [], zqw_p135, [eR 0, eC 1, eC 1, eX 1], zqw_w144, zqw_g157), [], []) :: []
noncomputable def zqR1_38_K : List ZC := zqR1_38_S0
noncomputable def zqR1_38_e : ERt := zy_ends 33 zqw_n158
theorem zqR1_38_E : zy_spl (fun g => zy_en (zp_X12_readsRank, 4, 0, 0) (zX zE_R1_38 2) zqR1_38_e [24] 100000 (zy_B 33 zqR1_38_K [0]) ([eR 0, eC 1] : List EV) zqw_w111 g) [] zqw_g155 = true := by decide +kernel
noncomputable def zqR1_38_f (i : Nat) : Bool := zy_f 33 zp_X12_readsRank (zX zE_R1_38 2) 0 0 zqR1_38_e [24] 100000 zqR1_38_K i
theorem zqR1_38_0 : zy_ch zqR1_38_f 0 1 = true := by decide +kernel
theorem zqR1_38_n : zqR1_38_K.length = 1 := by decide +kernel
noncomputable def zcR1_38 : ECal := zf_cal 230 10 [.inl 0, .inr (0, 9), .inr (0, 17)] [] zqw_p72 [(0, 2), (0, 6), (0, 7), (0, 8), (0, 14), (0, 16), (0, 20), (0, 21), (0, 23), (0, 24), (0, 25), (0, 26), (0, 27), (0, 28), (0, 30), (0, 31), (0, 34), (0, 35), (0, 37), (0, 38), (0, 40), (0, 41), (0, 42), (0, 43), (0, 44), (0, 45), (0, 47), (0, 48), (0, 49)] ([eR 0, eC 1] : List EV) zqw_w111 zqw_g155 zqw_n158
theorem zcR1_38_ok : ZE zcR1_38 57 := ZE.met (n := 2) (es := zqw_n158) (hd := [24]) (F := 100000) (KS := zqR1_38_K) (js := [0]) (sp0 := []) (by decide) zE_R1_38_ok (y0 := 230) (q := (yX12_readsRank, cX12_readsRank, 4, (some .boolean), 12, 0, 0)) rfl ⟨rfl, rfl⟩ (m9 := (zp_X12_readsRank, 4, 0, 0)) rfl rfl (zy_nx_ok (by decide +kernel)) (N2 := 33) (by decide +kernel) (by decide) zqR1_38_E (fun i hi => (show ∀ i, i < 1 → zqR1_38_f i = true from fun i hi => zy_ch_ok zqR1_38_0 i (by omega) (by omega)) i (by have h9 := hi; rw [zqR1_38_n] at h9; exact h9))
noncomputable def zdR1_38 : ECal := zr_w 230 17 11 0 0 false (zr_t 9 zcR1_38)
theorem zdR1_38_ok : ZE zdR1_38 57 := ZE.rd 230 17 9 11 0 0 false (by decide) zcR1_38_ok
noncomputable def zE_R0_38 : ECal := zS_or zdR1_38 (zEp)
theorem zE_R0_38_ok : ZE zE_R0_38 57 := (ZE.or zdR1_38_ok (zEp_ok) (by decide) (by decide) : ZE (zS_or zdR1_38 (zEp)) 57)
noncomputable def zqR0_38_S0 : List ZC := ((16, 24, [], zqw_p135, [eR 0, eC 0, eC 1, eX 1], zqw_w144, zqw_g157), [], []) :: []
noncomputable def zqR0_38_K : List ZC := zqR0_38_S0
noncomputable def zqR0_38_e : ERt := zy_ends 33 zqw_n158
theorem zqR0_38_E : zy_spl (fun g => zy_en (zp_X12_readsRank, 4, 0, 0) (zX zE_R0_38 2) zqR0_38_e [24] 100000 (zy_B 33 zqR0_38_K [0]) ([eR 0, eC 0] : List EV) zqw_w111 g) [] zqw_g155 = true := by decide +kernel
noncomputable def zqR0_38_f (i : Nat) : Bool := zy_f 33 zp_X12_readsRank (zX zE_R0_38 2) 0 0 zqR0_38_e [24] 100000 zqR0_38_K i
theorem zqR0_38_0 : zy_ch zqR0_38_f 0 1 = true := by decide +kernel
theorem zqR0_38_n : zqR0_38_K.length = 1 := by decide +kernel
noncomputable def zcR0_38 : ECal := zf_cal 230 10 [.inl 0, .inr (0, 9), .inr (0, 17)] [] zqw_p72 [(0, 2), (0, 6), (0, 7), (0, 8), (0, 14), (0, 16), (0, 20), (0, 21), (0, 23), (0, 24), (0, 25), (0, 26), (0, 27), (0, 28), (0, 30), (0, 31), (0, 34), (0, 35), (0, 37), (0, 38), (0, 40), (0, 41), (0, 42), (0, 43), (0, 44), (0, 45), (0, 47), (0, 48), (0, 49)] ([eR 0, eC 0] : List EV) zqw_w111 zqw_g155 zqw_n158
theorem zcR0_38_ok : ZE zcR0_38 60 := ZE.met (n := 2) (es := zqw_n158) (hd := [24]) (F := 100000) (KS := zqR0_38_K) (js := [0]) (sp0 := []) (by decide) zE_R0_38_ok (y0 := 230) (q := (yX12_readsRank, cX12_readsRank, 4, (some .boolean), 12, 0, 0)) rfl ⟨rfl, rfl⟩ (m9 := (zp_X12_readsRank, 4, 0, 0)) rfl rfl (zy_nx_ok (by decide +kernel)) (N2 := 33) (by decide +kernel) (by decide) zqR0_38_E (fun i hi => (show ∀ i, i < 1 → zqR0_38_f i = true from fun i hi => zy_ch_ok zqR0_38_0 i (by omega) (by omega)) i (by have h9 := hi; rw [zqR0_38_n] at h9; exact h9))
noncomputable def zdR0_38 : ECal := zr_w 230 17 11 0 0 false (zr_t 9 zcR0_38)
theorem zdR0_38_ok : ZE zdR0_38 60 := ZE.rd 230 17 9 11 0 0 false (by decide) zcR0_38_ok
noncomputable def zE_G37 : ECal := zS_or zdI38 (zS_or zdR0_38 (zEp))
theorem zE_G37_ok : ZE zE_G37 60 := (ZE.or zdI38_ok ((ZE.or zdR0_38_ok (zEp_ok) (by decide) (by decide) : ZE (zS_or zdR0_38 (zEp)) 60)) (by decide) (by decide) : ZE (zS_or zdI38 (zS_or zdR0_38 (zEp))) 60)
theorem zqG37_E : zy_spl (fun g => zy_en (zp_X12_readsThing, 2, 0, 0) (zX zE_G37 3) (zy_ends 33 zqw_n146) [] 100000 (zy_B 33 [] []) ([eR 0] : List EV) zqw_w111 g) [] (ze_s (2147483685, 2147483685) zqw_g112 18) = true := by decide +kernel
theorem zhG37 : ZH (yX12_readsThing, cX12_readsThing, 2, (some .boolean), 12, 0, 0) 64 ([eR 0] : List EV) zqw_w111 (ze_s (2147483685, 2147483685) zqw_g112 18) zqw_n146 := ZH.met (n := 3) (es := zqw_n146) (hd := []) (F := 100000) (KS := []) (js := []) (sp0 := []) (by decide) zE_G37_ok (y0 := 229) (q := (yX12_readsThing, cX12_readsThing, 2, (some .boolean), 12, 0, 0)) rfl (m9 := (zp_X12_readsThing, 2, 0, 0)) rfl rfl (N2 := 33) (by decide +kernel) (by decide) zqG37_E (fun i hi => absurd (show i < 0 from hi) (Nat.not_lt_zero i))
theorem zhI37 : ZH (yX12_readsThing, cX12_readsThing, 2, (some .boolean), 12, 0, 0) 64 ([eR 0] : List EV) zqw_w111 (ze_s (2147483685, 2147483688) zqw_g112 18) zqw_n146 := ZH.join (m := 2147483685) (by decide +kernel) zhG37 (zhI38.le (by decide))
noncomputable def zcI37 : ECal := zf_cal 229 10 [.inl 0, .inr (0, 9), .inr (0, 17)] [] zqw_p72 [(0, 2), (0, 6), (0, 7), (0, 8), (0, 14), (0, 16), (0, 20), (0, 21), (0, 23), (0, 24), (0, 25), (0, 26), (0, 27), (0, 28), (0, 30), (0, 31), (0, 34), (0, 35), (0, 37), (0, 38), (0, 40), (0, 41), (0, 42), (0, 43), (0, 44), (0, 45), (0, 47), (0, 48), (0, 49)] ([eR 0] : List EV) zqw_w111 (ze_s (2147483685, 2147483688) zqw_g112 18) zqw_n146
theorem zcI37_ok : ZE zcI37 64 := ZH.ze rfl ⟨rfl, rfl⟩ (zy_nx_ok (by decide +kernel)) zhI37
noncomputable def zdI37 : ECal := zr_w 229 17 11 0 0 false (zr_t 9 zcI37)
theorem zdI37_ok : ZE zdI37 64 := ZE.rd 229 17 9 11 0 0 false (by decide) zcI37_ok
noncomputable def zE_R2_37 : ECal := zS_or zdI37 (zEp)
theorem zE_R2_37_ok : ZE zE_R2_37 64 := (ZE.or zdI37_ok (zEp_ok) (by decide) (by decide) : ZE (zS_or zdI37 (zEp)) 64)
def zqw_g160 : EG := [(0, 4294967295), (0, 4294967295), (0, 4294967295), (0, 4294967295), (0, 4294967295), (0, 4294967295), (0, 4294967295), (0, 4294967295), (0, 4294967295), (0, 4294967295), (2147483648, 2147483649), (2147483648, 2147483672), (2147483648, 2147483653), (2147483648, 2147483653), (0, 4294967295), (2147483648, 2147483727), (2147483648, 2147483903), (2147483648, 2147483728), (2147483685, 2147483688), (2147483648, 2147483688), (0, 4294967295), (2147483648, 2147483653), (2147483648, 4294967295), (2147483648, 4294967295), (2147483648, 2147483688), (2147483648, 2147483688), (2147483648, 2147483663), (2147483648, 2147483708), (0, 4294967295), (2147483648, 2147483658), (2147483648, 2147483660), (2147483648, 2147483658), (0, 4294967295)]
noncomputable def zqw_g161 : EG := zqw_g160 ++ [(2147483685, 2147483688), (0, 4294967295), (2147483648, 2147483688), (2147483648, 2147483727), (2147483648, 2147483903)]
noncomputable def zqw_g162 : EG := zqw_g160 ++ [(2147483686, 2147483688), (0, 4294967295), (2147483649, 2147483688), (2147483648, 2147483727), (2147483648, 2147483903)]
noncomputable def zqw_n163 : List ZN := [(some (eC 0), [], zqw_p135, zqw_w140, zqw_g161), (some (eC 1), [], zqw_p135, zqw_w144, zqw_g162)]
noncomputable def zqw_g164 : EG := zqw_g160 ++ [(2147483686, 2147483688), (0, 4294967295), (2147483649, 2147483688), (2147483648, 2147483688), (2147483648, 2147483903)]
noncomputable def zqw_e165 : EC := (12, [eU 10, eU 11, eX 42, eU 12, eU 13, eU 14, eX 43, eX 44, eX 45, eR 1, eU 17, eU 34, eU 19, eU 35, eX 46, eU 21, eX 47, eR 2, eU 24, eU 36, eX 48, eX 49, eU 26, eX 50, eX 51, eX 52, eX 53, eX 54, eX 55, eU 27, eX 56, eX 57, eU 28, eU 29, eX 58, eX 59, eU 30, eX 60, eX 61, eU 31, eX 62, eX 63, eX 64, eX 65, eX 66, eX 67, eU 32, eX 68, eX 69, eX 70])
noncomputable def zqw_e166 : EC := (1303, [eU 37, eU 38])
noncomputable def zqw_e167 : EC := (1301, [eU 22, eC 1, eU 36, eU 23, eC 0, eU 34, eU 18, eC 3])
noncomputable def zqw_c168 : List EC := [zqw_e165, zqw_e166, zqw_e167]
noncomputable def zqw_w169 : EW := (3, [zqw_c168])
noncomputable def zqw_g170 : EG := zqw_g160 ++ [(2147483648, 2147483649), (2147483688, 2147483688), (0, 4294967295), (2147483649, 2147483688), (2147483648, 2147483688), (2147483648, 2147483903)]
noncomputable def zqR2_37_S0 : List ZC := ((16, 24, [], zqw_p135, [eR 0, eC 2, eC 1, eX 1], zqw_w144, zqw_g164), [1], []) :: ((16, 24, [3], zqw_p135, [eR 0, eC 2, eC 1, eU 33], zqw_w169, zqw_g170), [], []) :: []
noncomputable def zqR2_37_K : List ZC := zqR2_37_S0
noncomputable def zqR2_37_e : ERt := zy_ends 33 zqw_n163
theorem zqR2_37_E : zy_spl (fun g => zy_en (zp_X12_readsRank, 4, 0, 0) (zX zE_R2_37 2) zqR2_37_e [24] 100000 (zy_B 33 zqR2_37_K [0]) ([eR 0, eC 2] : List EV) zqw_w111 g) [] zqw_g160 = true := by decide +kernel
noncomputable def zqR2_37_f (i : Nat) : Bool := zy_f 33 zp_X12_readsRank (zX zE_R2_37 2) 0 0 zqR2_37_e [24] 100000 zqR2_37_K i
theorem zqR2_37_0 : zy_ch zqR2_37_f 0 2 = true := by decide +kernel
theorem zqR2_37_n : zqR2_37_K.length = 2 := by decide +kernel
noncomputable def zcR2_37 : ECal := zf_cal 230 10 [.inl 0, .inr (0, 9), .inr (0, 17)] [] zqw_p72 [(0, 2), (0, 6), (0, 7), (0, 8), (0, 14), (0, 16), (0, 20), (0, 21), (0, 23), (0, 24), (0, 25), (0, 26), (0, 27), (0, 28), (0, 30), (0, 31), (0, 34), (0, 35), (0, 37), (0, 38), (0, 40), (0, 41), (0, 42), (0, 43), (0, 44), (0, 45), (0, 47), (0, 48), (0, 49)] ([eR 0, eC 2] : List EV) zqw_w111 zqw_g160 zqw_n163
theorem zcR2_37_ok : ZE zcR2_37 67 := ZE.met (n := 2) (es := zqw_n163) (hd := [24]) (F := 100000) (KS := zqR2_37_K) (js := [0]) (sp0 := []) (by decide) zE_R2_37_ok (y0 := 230) (q := (yX12_readsRank, cX12_readsRank, 4, (some .boolean), 12, 0, 0)) rfl ⟨rfl, rfl⟩ (m9 := (zp_X12_readsRank, 4, 0, 0)) rfl rfl (zy_nx_ok (by decide +kernel)) (N2 := 33) (by decide +kernel) (by decide) zqR2_37_E (fun i hi => (show ∀ i, i < 2 → zqR2_37_f i = true from fun i hi => zy_ch_ok zqR2_37_0 i (by omega) (by omega)) i (by have h9 := hi; rw [zqR2_37_n] at h9; exact h9))
noncomputable def zdR2_37 : ECal := zr_w 230 17 11 0 0 false (zr_t 9 zcR2_37)
theorem zdR2_37_ok : ZE zdR2_37 67 := ZE.rd 230 17 9 11 0 0 false (by decide) zcR2_37_ok
noncomputable def zE_R1_37 : ECal := zS_or zdR2_37 (zEp)
theorem zE_R1_37_ok : ZE zE_R1_37 67 := (ZE.or zdR2_37_ok (zEp_ok) (by decide) (by decide) : ZE (zS_or zdR2_37 (zEp)) 67)
noncomputable def zqw_g171 : EG := zqw_g160 ++ [(2147483648, 2147483649), (2147483688, 2147483688), (0, 4294967295), (2147483649, 2147483688), (2147483648, 2147483727), (2147483648, 2147483903)]
noncomputable def zqR1_37_S0 : List ZC := ((16, 24, [], zqw_p135, [eR 0, eC 1, eC 1, eX 1], zqw_w144, zqw_g162), [1], []) :: ((16, 24, [3], zqw_p135, [eR 0, eC 1, eC 1, eU 33], zqw_w169, zqw_g171), [], []) :: []
noncomputable def zqR1_37_K : List ZC := zqR1_37_S0
noncomputable def zqR1_37_e : ERt := zy_ends 33 zqw_n163
theorem zqR1_37_E : zy_spl (fun g => zy_en (zp_X12_readsRank, 4, 0, 0) (zX zE_R1_37 2) zqR1_37_e [24] 100000 (zy_B 33 zqR1_37_K [0]) ([eR 0, eC 1] : List EV) zqw_w111 g) [] zqw_g160 = true := by decide +kernel
noncomputable def zqR1_37_f (i : Nat) : Bool := zy_f 33 zp_X12_readsRank (zX zE_R1_37 2) 0 0 zqR1_37_e [24] 100000 zqR1_37_K i
theorem zqR1_37_0 : zy_ch zqR1_37_f 0 2 = true := by decide +kernel
theorem zqR1_37_n : zqR1_37_K.length = 2 := by decide +kernel
noncomputable def zcR1_37 : ECal := zf_cal 230 10 [.inl 0, .inr (0, 9), .inr (0, 17)] [] zqw_p72 [(0, 2), (0, 6), (0, 7), (0, 8), (0, 14), (0, 16), (0, 20), (0, 21), (0, 23), (0, 24), (0, 25), (0, 26), (0, 27), (0, 28), (0, 30), (0, 31), (0, 34), (0, 35), (0, 37), (0, 38), (0, 40), (0, 41), (0, 42), (0, 43), (0, 44), (0, 45), (0, 47), (0, 48), (0, 49)] ([eR 0, eC 1] : List EV) zqw_w111 zqw_g160 zqw_n163
theorem zcR1_37_ok : ZE zcR1_37 70 := ZE.met (n := 2) (es := zqw_n163) (hd := [24]) (F := 100000) (KS := zqR1_37_K) (js := [0]) (sp0 := []) (by decide) zE_R1_37_ok (y0 := 230) (q := (yX12_readsRank, cX12_readsRank, 4, (some .boolean), 12, 0, 0)) rfl ⟨rfl, rfl⟩ (m9 := (zp_X12_readsRank, 4, 0, 0)) rfl rfl (zy_nx_ok (by decide +kernel)) (N2 := 33) (by decide +kernel) (by decide) zqR1_37_E (fun i hi => (show ∀ i, i < 2 → zqR1_37_f i = true from fun i hi => zy_ch_ok zqR1_37_0 i (by omega) (by omega)) i (by have h9 := hi; rw [zqR1_37_n] at h9; exact h9))
noncomputable def zdR1_37 : ECal := zr_w 230 17 11 0 0 false (zr_t 9 zcR1_37)
theorem zdR1_37_ok : ZE zdR1_37 70 := ZE.rd 230 17 9 11 0 0 false (by decide) zcR1_37_ok
noncomputable def zE_R0_37 : ECal := zS_or zdR1_37 (zEp)
theorem zE_R0_37_ok : ZE zE_R0_37 70 := (ZE.or zdR1_37_ok (zEp_ok) (by decide) (by decide) : ZE (zS_or zdR1_37 (zEp)) 70)
noncomputable def zqw_g172 : EG := zqw_g160 ++ [(2147483648, 2147483650), (2147483688, 2147483688), (0, 4294967295), (2147483649, 2147483688), (2147483648, 2147483727), (2147483648, 2147483903)]
noncomputable def zqR0_37_S0 : List ZC := ((16, 24, [], zqw_p135, [eR 0, eC 0, eC 1, eX 1], zqw_w144, zqw_g162), [1], []) :: ((16, 24, [3], zqw_p135, [eR 0, eC 0, eC 0, eU 33], zqw_w169, zqw_g172), [], []) :: []
noncomputable def zqR0_37_K : List ZC := zqR0_37_S0
noncomputable def zqR0_37_e : ERt := zy_ends 33 zqw_n163
theorem zqR0_37_E : zy_spl (fun g => zy_en (zp_X12_readsRank, 4, 0, 0) (zX zE_R0_37 2) zqR0_37_e [24] 100000 (zy_B 33 zqR0_37_K [0]) ([eR 0, eC 0] : List EV) zqw_w111 g) [] zqw_g160 = true := by decide +kernel
noncomputable def zqR0_37_f (i : Nat) : Bool := zy_f 33 zp_X12_readsRank (zX zE_R0_37 2) 0 0 zqR0_37_e [24] 100000 zqR0_37_K i
theorem zqR0_37_0 : zy_ch zqR0_37_f 0 2 = true := by decide +kernel
theorem zqR0_37_n : zqR0_37_K.length = 2 := by decide +kernel
noncomputable def zcR0_37 : ECal := zf_cal 230 10 [.inl 0, .inr (0, 9), .inr (0, 17)] [] zqw_p72 [(0, 2), (0, 6), (0, 7), (0, 8), (0, 14), (0, 16), (0, 20), (0, 21), (0, 23), (0, 24), (0, 25), (0, 26), (0, 27), (0, 28), (0, 30), (0, 31), (0, 34), (0, 35), (0, 37), (0, 38), (0, 40), (0, 41), (0, 42), (0, 43), (0, 44), (0, 45), (0, 47), (0, 48), (0, 49)] ([eR 0, eC 0] : List EV) zqw_w111 zqw_g160 zqw_n163
theorem zcR0_37_ok : ZE zcR0_37 73 := ZE.met (n := 2) (es := zqw_n163) (hd := [24]) (F := 100000) (KS := zqR0_37_K) (js := [0]) (sp0 := []) (by decide) zE_R0_37_ok (y0 := 230) (q := (yX12_readsRank, cX12_readsRank, 4, (some .boolean), 12, 0, 0)) rfl ⟨rfl, rfl⟩ (m9 := (zp_X12_readsRank, 4, 0, 0)) rfl rfl (zy_nx_ok (by decide +kernel)) (N2 := 33) (by decide +kernel) (by decide) zqR0_37_E (fun i hi => (show ∀ i, i < 2 → zqR0_37_f i = true from fun i hi => zy_ch_ok zqR0_37_0 i (by omega) (by omega)) i (by have h9 := hi; rw [zqR0_37_n] at h9; exact h9))
noncomputable def zdR0_37 : ECal := zr_w 230 17 11 0 0 false (zr_t 9 zcR0_37)
theorem zdR0_37_ok : ZE zdR0_37 73 := ZE.rd 230 17 9 11 0 0 false (by decide) zcR0_37_ok
noncomputable def zE_G36 : ECal := zS_or zdI37 (zS_or zdR0_37 (zEp))
theorem zE_G36_ok : ZE zE_G36 73 := (ZE.or zdI37_ok ((ZE.or zdR0_37_ok (zEp_ok) (by decide) (by decide) : ZE (zS_or zdR0_37 (zEp)) 73)) (by decide) (by decide) : ZE (zS_or zdI37 (zS_or zdR0_37 (zEp))) 73)
theorem zqG36_E : zy_spl (fun g => zy_en (zp_X12_readsThing, 2, 0, 0) (zX zE_G36 3) (zy_ends 33 zqw_n146) [] 100000 (zy_B 33 [] []) ([eR 0] : List EV) zqw_w111 g) [] (ze_s (2147483684, 2147483684) zqw_g112 18) = true := by decide +kernel
theorem zhG36 : ZH (yX12_readsThing, cX12_readsThing, 2, (some .boolean), 12, 0, 0) 77 ([eR 0] : List EV) zqw_w111 (ze_s (2147483684, 2147483684) zqw_g112 18) zqw_n146 := ZH.met (n := 3) (es := zqw_n146) (hd := []) (F := 100000) (KS := []) (js := []) (sp0 := []) (by decide) zE_G36_ok (y0 := 229) (q := (yX12_readsThing, cX12_readsThing, 2, (some .boolean), 12, 0, 0)) rfl (m9 := (zp_X12_readsThing, 2, 0, 0)) rfl rfl (N2 := 33) (by decide +kernel) (by decide) zqG36_E (fun i hi => absurd (show i < 0 from hi) (Nat.not_lt_zero i))
theorem zhI36 : ZH (yX12_readsThing, cX12_readsThing, 2, (some .boolean), 12, 0, 0) 77 ([eR 0] : List EV) zqw_w111 (ze_s (2147483684, 2147483688) zqw_g112 18) zqw_n146 := ZH.join (m := 2147483684) (by decide +kernel) zhG36 (zhI37.le (by decide))
noncomputable def zcI36 : ECal := zf_cal 229 10 [.inl 0, .inr (0, 9), .inr (0, 17)] [] zqw_p72 [(0, 2), (0, 6), (0, 7), (0, 8), (0, 14), (0, 16), (0, 20), (0, 21), (0, 23), (0, 24), (0, 25), (0, 26), (0, 27), (0, 28), (0, 30), (0, 31), (0, 34), (0, 35), (0, 37), (0, 38), (0, 40), (0, 41), (0, 42), (0, 43), (0, 44), (0, 45), (0, 47), (0, 48), (0, 49)] ([eR 0] : List EV) zqw_w111 (ze_s (2147483684, 2147483688) zqw_g112 18) zqw_n146
theorem zcI36_ok : ZE zcI36 77 := ZH.ze rfl ⟨rfl, rfl⟩ (zy_nx_ok (by decide +kernel)) zhI36
noncomputable def zdI36 : ECal := zr_w 229 17 11 0 0 false (zr_t 9 zcI36)
theorem zdI36_ok : ZE zdI36 77 := ZE.rd 229 17 9 11 0 0 false (by decide) zcI36_ok
noncomputable def zE_R2_36 : ECal := zS_or zdI36 (zEp)
theorem zE_R2_36_ok : ZE zE_R2_36 77 := (ZE.or zdI36_ok (zEp_ok) (by decide) (by decide) : ZE (zS_or zdI36 (zEp)) 77)
def zqw_g173 : EG := [(0, 4294967295), (0, 4294967295), (0, 4294967295), (0, 4294967295), (0, 4294967295), (0, 4294967295), (0, 4294967295), (0, 4294967295), (0, 4294967295), (0, 4294967295), (2147483648, 2147483649), (2147483648, 2147483672), (2147483648, 2147483653), (2147483648, 2147483653), (0, 4294967295), (2147483648, 2147483727), (2147483648, 2147483903), (2147483648, 2147483728), (2147483684, 2147483688), (2147483648, 2147483688), (0, 4294967295), (2147483648, 2147483653), (2147483648, 4294967295), (2147483648, 4294967295), (2147483648, 2147483688), (2147483648, 2147483688), (2147483648, 2147483663), (2147483648, 2147483708), (0, 4294967295), (2147483648, 2147483658), (2147483648, 2147483660), (2147483648, 2147483658), (0, 4294967295)]
noncomputable def zqw_g174 : EG := zqw_g173 ++ [(2147483684, 2147483688), (0, 4294967295), (2147483648, 2147483688), (2147483648, 2147483727), (2147483648, 2147483903)]
noncomputable def zqw_g175 : EG := zqw_g173 ++ [(2147483685, 2147483688), (0, 4294967295), (2147483649, 2147483688), (2147483648, 2147483727), (2147483648, 2147483903)]
noncomputable def zqw_n176 : List ZN := [(some (eC 0), [], zqw_p135, zqw_w140, zqw_g174), (some (eC 1), [], zqw_p135, zqw_w144, zqw_g175)]
noncomputable def zqw_g177 : EG := zqw_g173 ++ [(2147483685, 2147483688), (0, 4294967295), (2147483649, 2147483688), (2147483648, 2147483688), (2147483648, 2147483903)]
noncomputable def zqw_g178 : EG := zqw_g173 ++ [(2147483648, 2147483649), (2147483687, 2147483688), (0, 4294967295), (2147483649, 2147483688), (2147483648, 2147483688), (2147483648, 2147483903)]
noncomputable def zqR2_36_S0 : List ZC := ((16, 24, [], zqw_p135, [eR 0, eC 2, eC 1, eX 1], zqw_w144, zqw_g177), [1], []) :: ((16, 24, [3], zqw_p135, [eR 0, eC 2, eC 1, eU 33], zqw_w169, zqw_g178), [], []) :: []
noncomputable def zqR2_36_K : List ZC := zqR2_36_S0
noncomputable def zqR2_36_e : ERt := zy_ends 33 zqw_n176
theorem zqR2_36_E : zy_spl (fun g => zy_en (zp_X12_readsRank, 4, 0, 0) (zX zE_R2_36 2) zqR2_36_e [24] 100000 (zy_B 33 zqR2_36_K [0]) ([eR 0, eC 2] : List EV) zqw_w111 g) [] zqw_g173 = true := by decide +kernel
noncomputable def zqR2_36_f (i : Nat) : Bool := zy_f 33 zp_X12_readsRank (zX zE_R2_36 2) 0 0 zqR2_36_e [24] 100000 zqR2_36_K i
theorem zqR2_36_0 : zy_ch zqR2_36_f 0 2 = true := by decide +kernel
theorem zqR2_36_n : zqR2_36_K.length = 2 := by decide +kernel
noncomputable def zcR2_36 : ECal := zf_cal 230 10 [.inl 0, .inr (0, 9), .inr (0, 17)] [] zqw_p72 [(0, 2), (0, 6), (0, 7), (0, 8), (0, 14), (0, 16), (0, 20), (0, 21), (0, 23), (0, 24), (0, 25), (0, 26), (0, 27), (0, 28), (0, 30), (0, 31), (0, 34), (0, 35), (0, 37), (0, 38), (0, 40), (0, 41), (0, 42), (0, 43), (0, 44), (0, 45), (0, 47), (0, 48), (0, 49)] ([eR 0, eC 2] : List EV) zqw_w111 zqw_g173 zqw_n176
theorem zcR2_36_ok : ZE zcR2_36 80 := ZE.met (n := 2) (es := zqw_n176) (hd := [24]) (F := 100000) (KS := zqR2_36_K) (js := [0]) (sp0 := []) (by decide) zE_R2_36_ok (y0 := 230) (q := (yX12_readsRank, cX12_readsRank, 4, (some .boolean), 12, 0, 0)) rfl ⟨rfl, rfl⟩ (m9 := (zp_X12_readsRank, 4, 0, 0)) rfl rfl (zy_nx_ok (by decide +kernel)) (N2 := 33) (by decide +kernel) (by decide) zqR2_36_E (fun i hi => (show ∀ i, i < 2 → zqR2_36_f i = true from fun i hi => zy_ch_ok zqR2_36_0 i (by omega) (by omega)) i (by have h9 := hi; rw [zqR2_36_n] at h9; exact h9))
noncomputable def zdR2_36 : ECal := zr_w 230 17 11 0 0 false (zr_t 9 zcR2_36)
theorem zdR2_36_ok : ZE zdR2_36 80 := ZE.rd 230 17 9 11 0 0 false (by decide) zcR2_36_ok
noncomputable def zE_R1_36 : ECal := zS_or zdR2_36 (zEp)
theorem zE_R1_36_ok : ZE zE_R1_36 80 := (ZE.or zdR2_36_ok (zEp_ok) (by decide) (by decide) : ZE (zS_or zdR2_36 (zEp)) 80)
noncomputable def zqw_g179 : EG := zqw_g173 ++ [(2147483648, 2147483649), (2147483687, 2147483688), (0, 4294967295), (2147483649, 2147483688), (2147483648, 2147483727), (2147483648, 2147483903)]
noncomputable def zqR1_36_S0 : List ZC := ((16, 24, [], zqw_p135, [eR 0, eC 1, eC 1, eX 1], zqw_w144, zqw_g175), [1], []) :: ((16, 24, [3], zqw_p135, [eR 0, eC 1, eC 1, eU 33], zqw_w169, zqw_g179), [], []) :: []
noncomputable def zqR1_36_K : List ZC := zqR1_36_S0
noncomputable def zqR1_36_e : ERt := zy_ends 33 zqw_n176
theorem zqR1_36_E : zy_spl (fun g => zy_en (zp_X12_readsRank, 4, 0, 0) (zX zE_R1_36 2) zqR1_36_e [24] 100000 (zy_B 33 zqR1_36_K [0]) ([eR 0, eC 1] : List EV) zqw_w111 g) [] zqw_g173 = true := by decide +kernel
noncomputable def zqR1_36_f (i : Nat) : Bool := zy_f 33 zp_X12_readsRank (zX zE_R1_36 2) 0 0 zqR1_36_e [24] 100000 zqR1_36_K i
theorem zqR1_36_0 : zy_ch zqR1_36_f 0 2 = true := by decide +kernel
theorem zqR1_36_n : zqR1_36_K.length = 2 := by decide +kernel
noncomputable def zcR1_36 : ECal := zf_cal 230 10 [.inl 0, .inr (0, 9), .inr (0, 17)] [] zqw_p72 [(0, 2), (0, 6), (0, 7), (0, 8), (0, 14), (0, 16), (0, 20), (0, 21), (0, 23), (0, 24), (0, 25), (0, 26), (0, 27), (0, 28), (0, 30), (0, 31), (0, 34), (0, 35), (0, 37), (0, 38), (0, 40), (0, 41), (0, 42), (0, 43), (0, 44), (0, 45), (0, 47), (0, 48), (0, 49)] ([eR 0, eC 1] : List EV) zqw_w111 zqw_g173 zqw_n176
theorem zcR1_36_ok : ZE zcR1_36 83 := ZE.met (n := 2) (es := zqw_n176) (hd := [24]) (F := 100000) (KS := zqR1_36_K) (js := [0]) (sp0 := []) (by decide) zE_R1_36_ok (y0 := 230) (q := (yX12_readsRank, cX12_readsRank, 4, (some .boolean), 12, 0, 0)) rfl ⟨rfl, rfl⟩ (m9 := (zp_X12_readsRank, 4, 0, 0)) rfl rfl (zy_nx_ok (by decide +kernel)) (N2 := 33) (by decide +kernel) (by decide) zqR1_36_E (fun i hi => (show ∀ i, i < 2 → zqR1_36_f i = true from fun i hi => zy_ch_ok zqR1_36_0 i (by omega) (by omega)) i (by have h9 := hi; rw [zqR1_36_n] at h9; exact h9))
noncomputable def zdR1_36 : ECal := zr_w 230 17 11 0 0 false (zr_t 9 zcR1_36)
theorem zdR1_36_ok : ZE zdR1_36 83 := ZE.rd 230 17 9 11 0 0 false (by decide) zcR1_36_ok
noncomputable def zE_R0_36 : ECal := zS_or zdR1_36 (zEp)
theorem zE_R0_36_ok : ZE zE_R0_36 83 := (ZE.or zdR1_36_ok (zEp_ok) (by decide) (by decide) : ZE (zS_or zdR1_36 (zEp)) 83)
noncomputable def zqw_g180 : EG := zqw_g173 ++ [(2147483648, 2147483650), (2147483687, 2147483688), (0, 4294967295), (2147483649, 2147483688), (2147483648, 2147483727), (2147483648, 2147483903)]
noncomputable def zqR0_36_S0 : List ZC := ((16, 24, [], zqw_p135, [eR 0, eC 0, eC 1, eX 1], zqw_w144, zqw_g175), [1], []) :: ((16, 24, [3], zqw_p135, [eR 0, eC 0, eC 0, eU 33], zqw_w169, zqw_g180), [], []) :: []
noncomputable def zqR0_36_K : List ZC := zqR0_36_S0
noncomputable def zqR0_36_e : ERt := zy_ends 33 zqw_n176
theorem zqR0_36_E : zy_spl (fun g => zy_en (zp_X12_readsRank, 4, 0, 0) (zX zE_R0_36 2) zqR0_36_e [24] 100000 (zy_B 33 zqR0_36_K [0]) ([eR 0, eC 0] : List EV) zqw_w111 g) [] zqw_g173 = true := by decide +kernel
noncomputable def zqR0_36_f (i : Nat) : Bool := zy_f 33 zp_X12_readsRank (zX zE_R0_36 2) 0 0 zqR0_36_e [24] 100000 zqR0_36_K i
theorem zqR0_36_0 : zy_ch zqR0_36_f 0 2 = true := by decide +kernel
theorem zqR0_36_n : zqR0_36_K.length = 2 := by decide +kernel
noncomputable def zcR0_36 : ECal := zf_cal 230 10 [.inl 0, .inr (0, 9), .inr (0, 17)] [] zqw_p72 [(0, 2), (0, 6), (0, 7), (0, 8), (0, 14), (0, 16), (0, 20), (0, 21), (0, 23), (0, 24), (0, 25), (0, 26), (0, 27), (0, 28), (0, 30), (0, 31), (0, 34), (0, 35), (0, 37), (0, 38), (0, 40), (0, 41), (0, 42), (0, 43), (0, 44), (0, 45), (0, 47), (0, 48), (0, 49)] ([eR 0, eC 0] : List EV) zqw_w111 zqw_g173 zqw_n176
theorem zcR0_36_ok : ZE zcR0_36 86 := ZE.met (n := 2) (es := zqw_n176) (hd := [24]) (F := 100000) (KS := zqR0_36_K) (js := [0]) (sp0 := []) (by decide) zE_R0_36_ok (y0 := 230) (q := (yX12_readsRank, cX12_readsRank, 4, (some .boolean), 12, 0, 0)) rfl ⟨rfl, rfl⟩ (m9 := (zp_X12_readsRank, 4, 0, 0)) rfl rfl (zy_nx_ok (by decide +kernel)) (N2 := 33) (by decide +kernel) (by decide) zqR0_36_E (fun i hi => (show ∀ i, i < 2 → zqR0_36_f i = true from fun i hi => zy_ch_ok zqR0_36_0 i (by omega) (by omega)) i (by have h9 := hi; rw [zqR0_36_n] at h9; exact h9))
noncomputable def zdR0_36 : ECal := zr_w 230 17 11 0 0 false (zr_t 9 zcR0_36)
theorem zdR0_36_ok : ZE zdR0_36 86 := ZE.rd 230 17 9 11 0 0 false (by decide) zcR0_36_ok
noncomputable def zE_G35 : ECal := zS_or zdI36 (zS_or zdR0_36 (zEp))
theorem zE_G35_ok : ZE zE_G35 86 := (ZE.or zdI36_ok ((ZE.or zdR0_36_ok (zEp_ok) (by decide) (by decide) : ZE (zS_or zdR0_36 (zEp)) 86)) (by decide) (by decide) : ZE (zS_or zdI36 (zS_or zdR0_36 (zEp))) 86)
theorem zqG35_E : zy_spl (fun g => zy_en (zp_X12_readsThing, 2, 0, 0) (zX zE_G35 3) (zy_ends 33 zqw_n146) [] 100000 (zy_B 33 [] []) ([eR 0] : List EV) zqw_w111 g) [] (ze_s (2147483683, 2147483683) zqw_g112 18) = true := by decide +kernel
theorem zhG35 : ZH (yX12_readsThing, cX12_readsThing, 2, (some .boolean), 12, 0, 0) 90 ([eR 0] : List EV) zqw_w111 (ze_s (2147483683, 2147483683) zqw_g112 18) zqw_n146 := ZH.met (n := 3) (es := zqw_n146) (hd := []) (F := 100000) (KS := []) (js := []) (sp0 := []) (by decide) zE_G35_ok (y0 := 229) (q := (yX12_readsThing, cX12_readsThing, 2, (some .boolean), 12, 0, 0)) rfl (m9 := (zp_X12_readsThing, 2, 0, 0)) rfl rfl (N2 := 33) (by decide +kernel) (by decide) zqG35_E (fun i hi => absurd (show i < 0 from hi) (Nat.not_lt_zero i))
theorem zhI35 : ZH (yX12_readsThing, cX12_readsThing, 2, (some .boolean), 12, 0, 0) 90 ([eR 0] : List EV) zqw_w111 (ze_s (2147483683, 2147483688) zqw_g112 18) zqw_n146 := ZH.join (m := 2147483683) (by decide +kernel) zhG35 (zhI36.le (by decide))
noncomputable def zcI35 : ECal := zf_cal 229 10 [.inl 0, .inr (0, 9), .inr (0, 17)] [] zqw_p72 [(0, 2), (0, 6), (0, 7), (0, 8), (0, 14), (0, 16), (0, 20), (0, 21), (0, 23), (0, 24), (0, 25), (0, 26), (0, 27), (0, 28), (0, 30), (0, 31), (0, 34), (0, 35), (0, 37), (0, 38), (0, 40), (0, 41), (0, 42), (0, 43), (0, 44), (0, 45), (0, 47), (0, 48), (0, 49)] ([eR 0] : List EV) zqw_w111 (ze_s (2147483683, 2147483688) zqw_g112 18) zqw_n146
theorem zcI35_ok : ZE zcI35 90 := ZH.ze rfl ⟨rfl, rfl⟩ (zy_nx_ok (by decide +kernel)) zhI35
noncomputable def zdI35 : ECal := zr_w 229 17 11 0 0 false (zr_t 9 zcI35)
theorem zdI35_ok : ZE zdI35 90 := ZE.rd 229 17 9 11 0 0 false (by decide) zcI35_ok
noncomputable def zE_R2_35 : ECal := zS_or zdI35 (zEp)
theorem zE_R2_35_ok : ZE zE_R2_35 90 := (ZE.or zdI35_ok (zEp_ok) (by decide) (by decide) : ZE (zS_or zdI35 (zEp)) 90)
def zqw_g181 : EG := [(0, 4294967295), (0, 4294967295), (0, 4294967295), (0, 4294967295), (0, 4294967295), (0, 4294967295), (0, 4294967295), (0, 4294967295), (0, 4294967295), (0, 4294967295), (2147483648, 2147483649), (2147483648, 2147483672), (2147483648, 2147483653), (2147483648, 2147483653), (0, 4294967295), (2147483648, 2147483727), (2147483648, 2147483903), (2147483648, 2147483728), (2147483683, 2147483688), (2147483648, 2147483688), (0, 4294967295), (2147483648, 2147483653), (2147483648, 4294967295), (2147483648, 4294967295), (2147483648, 2147483688), (2147483648, 2147483688), (2147483648, 2147483663), (2147483648, 2147483708), (0, 4294967295), (2147483648, 2147483658), (2147483648, 2147483660), (2147483648, 2147483658), (0, 4294967295)]
noncomputable def zqw_g182 : EG := zqw_g181 ++ [(2147483683, 2147483688), (0, 4294967295), (2147483648, 2147483688), (2147483648, 2147483727), (2147483648, 2147483903)]
noncomputable def zqw_g183 : EG := zqw_g181 ++ [(2147483684, 2147483688), (0, 4294967295), (2147483649, 2147483688), (2147483648, 2147483727), (2147483648, 2147483903)]
noncomputable def zqw_n184 : List ZN := [(some (eC 0), [], zqw_p135, zqw_w140, zqw_g182), (some (eC 1), [], zqw_p135, zqw_w144, zqw_g183)]
noncomputable def zqw_g185 : EG := zqw_g181 ++ [(2147483684, 2147483688), (0, 4294967295), (2147483649, 2147483688), (2147483648, 2147483688), (2147483648, 2147483903)]
noncomputable def zqw_g186 : EG := zqw_g181 ++ [(2147483648, 2147483649), (2147483686, 2147483688), (0, 4294967295), (2147483649, 2147483688), (2147483648, 2147483688), (2147483648, 2147483903)]
noncomputable def zqw_e187 : EC := (1301, [eU 22, eC 1, eU 36, eU 23, eC 0, eU 34, eU 18, eC 5])
noncomputable def zqw_c188 : List EC := [zqw_e165, zqw_e166, zqw_e187]
noncomputable def zqw_w189 : EW := (3, [zqw_c188])
noncomputable def zqw_g190 : EG := zqw_g181 ++ [(2147483648, 2147483649), (2147483688, 2147483688), (0, 4294967295), (2147483649, 2147483688), (2147483648, 2147483688), (2147483648, 2147483903)]
noncomputable def zqR2_35_S0 : List ZC := ((16, 24, [], zqw_p135, [eR 0, eC 2, eC 1, eX 1], zqw_w144, zqw_g185), [1], []) :: ((16, 24, [3], zqw_p135, [eR 0, eC 2, eC 1, eU 33], zqw_w169, zqw_g186), [2], []) :: ((16, 24, [3], zqw_p135, [eR 0, eC 2, eC 1, eU 33], zqw_w189, zqw_g190), [], []) :: []
noncomputable def zqR2_35_K : List ZC := zqR2_35_S0
noncomputable def zqR2_35_e : ERt := zy_ends 33 zqw_n184
theorem zqR2_35_E : zy_spl (fun g => zy_en (zp_X12_readsRank, 4, 0, 0) (zX zE_R2_35 2) zqR2_35_e [24] 100000 (zy_B 33 zqR2_35_K [0]) ([eR 0, eC 2] : List EV) zqw_w111 g) [] zqw_g181 = true := by decide +kernel
noncomputable def zqR2_35_f (i : Nat) : Bool := zy_f 33 zp_X12_readsRank (zX zE_R2_35 2) 0 0 zqR2_35_e [24] 100000 zqR2_35_K i
theorem zqR2_35_0 : zy_ch zqR2_35_f 0 3 = true := by decide +kernel
theorem zqR2_35_n : zqR2_35_K.length = 3 := by decide +kernel
noncomputable def zcR2_35 : ECal := zf_cal 230 10 [.inl 0, .inr (0, 9), .inr (0, 17)] [] zqw_p72 [(0, 2), (0, 6), (0, 7), (0, 8), (0, 14), (0, 16), (0, 20), (0, 21), (0, 23), (0, 24), (0, 25), (0, 26), (0, 27), (0, 28), (0, 30), (0, 31), (0, 34), (0, 35), (0, 37), (0, 38), (0, 40), (0, 41), (0, 42), (0, 43), (0, 44), (0, 45), (0, 47), (0, 48), (0, 49)] ([eR 0, eC 2] : List EV) zqw_w111 zqw_g181 zqw_n184
theorem zcR2_35_ok : ZE zcR2_35 93 := ZE.met (n := 2) (es := zqw_n184) (hd := [24]) (F := 100000) (KS := zqR2_35_K) (js := [0]) (sp0 := []) (by decide) zE_R2_35_ok (y0 := 230) (q := (yX12_readsRank, cX12_readsRank, 4, (some .boolean), 12, 0, 0)) rfl ⟨rfl, rfl⟩ (m9 := (zp_X12_readsRank, 4, 0, 0)) rfl rfl (zy_nx_ok (by decide +kernel)) (N2 := 33) (by decide +kernel) (by decide) zqR2_35_E (fun i hi => (show ∀ i, i < 3 → zqR2_35_f i = true from fun i hi => zy_ch_ok zqR2_35_0 i (by omega) (by omega)) i (by have h9 := hi; rw [zqR2_35_n] at h9; exact h9))
noncomputable def zdR2_35 : ECal := zr_w 230 17 11 0 0 false (zr_t 9 zcR2_35)
theorem zdR2_35_ok : ZE zdR2_35 93 := ZE.rd 230 17 9 11 0 0 false (by decide) zcR2_35_ok
noncomputable def zE_R1_35 : ECal := zS_or zdR2_35 (zEp)
theorem zE_R1_35_ok : ZE zE_R1_35 93 := (ZE.or zdR2_35_ok (zEp_ok) (by decide) (by decide) : ZE (zS_or zdR2_35 (zEp)) 93)
noncomputable def zqw_g191 : EG := zqw_g181 ++ [(2147483648, 2147483649), (2147483686, 2147483688), (0, 4294967295), (2147483649, 2147483688), (2147483648, 2147483727), (2147483648, 2147483903)]
noncomputable def zqw_g192 : EG := zqw_g181 ++ [(2147483648, 2147483649), (2147483688, 2147483688), (0, 4294967295), (2147483649, 2147483688), (2147483648, 2147483727), (2147483648, 2147483903)]
noncomputable def zqR1_35_S0 : List ZC := ((16, 24, [], zqw_p135, [eR 0, eC 1, eC 1, eX 1], zqw_w144, zqw_g183), [1], []) :: ((16, 24, [3], zqw_p135, [eR 0, eC 1, eC 1, eU 33], zqw_w169, zqw_g191), [2], []) :: ((16, 24, [3], zqw_p135, [eR 0, eC 1, eC 1, eU 33], zqw_w189, zqw_g192), [], []) :: []
noncomputable def zqR1_35_K : List ZC := zqR1_35_S0
noncomputable def zqR1_35_e : ERt := zy_ends 33 zqw_n184
theorem zqR1_35_E : zy_spl (fun g => zy_en (zp_X12_readsRank, 4, 0, 0) (zX zE_R1_35 2) zqR1_35_e [24] 100000 (zy_B 33 zqR1_35_K [0]) ([eR 0, eC 1] : List EV) zqw_w111 g) [] zqw_g181 = true := by decide +kernel
noncomputable def zqR1_35_f (i : Nat) : Bool := zy_f 33 zp_X12_readsRank (zX zE_R1_35 2) 0 0 zqR1_35_e [24] 100000 zqR1_35_K i
theorem zqR1_35_0 : zy_ch zqR1_35_f 0 3 = true := by decide +kernel
theorem zqR1_35_n : zqR1_35_K.length = 3 := by decide +kernel
noncomputable def zcR1_35 : ECal := zf_cal 230 10 [.inl 0, .inr (0, 9), .inr (0, 17)] [] zqw_p72 [(0, 2), (0, 6), (0, 7), (0, 8), (0, 14), (0, 16), (0, 20), (0, 21), (0, 23), (0, 24), (0, 25), (0, 26), (0, 27), (0, 28), (0, 30), (0, 31), (0, 34), (0, 35), (0, 37), (0, 38), (0, 40), (0, 41), (0, 42), (0, 43), (0, 44), (0, 45), (0, 47), (0, 48), (0, 49)] ([eR 0, eC 1] : List EV) zqw_w111 zqw_g181 zqw_n184
theorem zcR1_35_ok : ZE zcR1_35 96 := ZE.met (n := 2) (es := zqw_n184) (hd := [24]) (F := 100000) (KS := zqR1_35_K) (js := [0]) (sp0 := []) (by decide) zE_R1_35_ok (y0 := 230) (q := (yX12_readsRank, cX12_readsRank, 4, (some .boolean), 12, 0, 0)) rfl ⟨rfl, rfl⟩ (m9 := (zp_X12_readsRank, 4, 0, 0)) rfl rfl (zy_nx_ok (by decide +kernel)) (N2 := 33) (by decide +kernel) (by decide) zqR1_35_E (fun i hi => (show ∀ i, i < 3 → zqR1_35_f i = true from fun i hi => zy_ch_ok zqR1_35_0 i (by omega) (by omega)) i (by have h9 := hi; rw [zqR1_35_n] at h9; exact h9))
noncomputable def zdR1_35 : ECal := zr_w 230 17 11 0 0 false (zr_t 9 zcR1_35)
theorem zdR1_35_ok : ZE zdR1_35 96 := ZE.rd 230 17 9 11 0 0 false (by decide) zcR1_35_ok
noncomputable def zE_R0_35 : ECal := zS_or zdR1_35 (zEp)
theorem zE_R0_35_ok : ZE zE_R0_35 96 := (ZE.or zdR1_35_ok (zEp_ok) (by decide) (by decide) : ZE (zS_or zdR1_35 (zEp)) 96)
noncomputable def zqw_g193 : EG := zqw_g181 ++ [(2147483648, 2147483650), (2147483686, 2147483688), (0, 4294967295), (2147483649, 2147483688), (2147483648, 2147483727), (2147483648, 2147483903)]
noncomputable def zqR0_35_S0 : List ZC := ((16, 24, [], zqw_p135, [eR 0, eC 0, eC 1, eX 1], zqw_w144, zqw_g183), [1], []) :: ((16, 24, [3], zqw_p135, [eR 0, eC 0, eC 0, eU 33], zqw_w169, zqw_g193), [], []) :: []
noncomputable def zqR0_35_K : List ZC := zqR0_35_S0
noncomputable def zqR0_35_e : ERt := zy_ends 33 zqw_n184
theorem zqR0_35_E : zy_spl (fun g => zy_en (zp_X12_readsRank, 4, 0, 0) (zX zE_R0_35 2) zqR0_35_e [24] 100000 (zy_B 33 zqR0_35_K [0]) ([eR 0, eC 0] : List EV) zqw_w111 g) [] zqw_g181 = true := by decide +kernel
noncomputable def zqR0_35_f (i : Nat) : Bool := zy_f 33 zp_X12_readsRank (zX zE_R0_35 2) 0 0 zqR0_35_e [24] 100000 zqR0_35_K i
theorem zqR0_35_0 : zy_ch zqR0_35_f 0 2 = true := by decide +kernel
theorem zqR0_35_n : zqR0_35_K.length = 2 := by decide +kernel
noncomputable def zcR0_35 : ECal := zf_cal 230 10 [.inl 0, .inr (0, 9), .inr (0, 17)] [] zqw_p72 [(0, 2), (0, 6), (0, 7), (0, 8), (0, 14), (0, 16), (0, 20), (0, 21), (0, 23), (0, 24), (0, 25), (0, 26), (0, 27), (0, 28), (0, 30), (0, 31), (0, 34), (0, 35), (0, 37), (0, 38), (0, 40), (0, 41), (0, 42), (0, 43), (0, 44), (0, 45), (0, 47), (0, 48), (0, 49)] ([eR 0, eC 0] : List EV) zqw_w111 zqw_g181 zqw_n184
theorem zcR0_35_ok : ZE zcR0_35 99 := ZE.met (n := 2) (es := zqw_n184) (hd := [24]) (F := 100000) (KS := zqR0_35_K) (js := [0]) (sp0 := []) (by decide) zE_R0_35_ok (y0 := 230) (q := (yX12_readsRank, cX12_readsRank, 4, (some .boolean), 12, 0, 0)) rfl ⟨rfl, rfl⟩ (m9 := (zp_X12_readsRank, 4, 0, 0)) rfl rfl (zy_nx_ok (by decide +kernel)) (N2 := 33) (by decide +kernel) (by decide) zqR0_35_E (fun i hi => (show ∀ i, i < 2 → zqR0_35_f i = true from fun i hi => zy_ch_ok zqR0_35_0 i (by omega) (by omega)) i (by have h9 := hi; rw [zqR0_35_n] at h9; exact h9))
noncomputable def zdR0_35 : ECal := zr_w 230 17 11 0 0 false (zr_t 9 zcR0_35)
theorem zdR0_35_ok : ZE zdR0_35 99 := ZE.rd 230 17 9 11 0 0 false (by decide) zcR0_35_ok
noncomputable def zE_G34 : ECal := zS_or zdI35 (zS_or zdR0_35 (zEp))
theorem zE_G34_ok : ZE zE_G34 99 := (ZE.or zdI35_ok ((ZE.or zdR0_35_ok (zEp_ok) (by decide) (by decide) : ZE (zS_or zdR0_35 (zEp)) 99)) (by decide) (by decide) : ZE (zS_or zdI35 (zS_or zdR0_35 (zEp))) 99)
theorem zqG34_E : zy_spl (fun g => zy_en (zp_X12_readsThing, 2, 0, 0) (zX zE_G34 3) (zy_ends 33 zqw_n146) [] 100000 (zy_B 33 [] []) ([eR 0] : List EV) zqw_w111 g) [] (ze_s (2147483682, 2147483682) zqw_g112 18) = true := by decide +kernel
theorem zhG34 : ZH (yX12_readsThing, cX12_readsThing, 2, (some .boolean), 12, 0, 0) 103 ([eR 0] : List EV) zqw_w111 (ze_s (2147483682, 2147483682) zqw_g112 18) zqw_n146 := ZH.met (n := 3) (es := zqw_n146) (hd := []) (F := 100000) (KS := []) (js := []) (sp0 := []) (by decide) zE_G34_ok (y0 := 229) (q := (yX12_readsThing, cX12_readsThing, 2, (some .boolean), 12, 0, 0)) rfl (m9 := (zp_X12_readsThing, 2, 0, 0)) rfl rfl (N2 := 33) (by decide +kernel) (by decide) zqG34_E (fun i hi => absurd (show i < 0 from hi) (Nat.not_lt_zero i))
theorem zhI34 : ZH (yX12_readsThing, cX12_readsThing, 2, (some .boolean), 12, 0, 0) 103 ([eR 0] : List EV) zqw_w111 (ze_s (2147483682, 2147483688) zqw_g112 18) zqw_n146 := ZH.join (m := 2147483682) (by decide +kernel) zhG34 (zhI35.le (by decide))
noncomputable def zcI34 : ECal := zf_cal 229 10 [.inl 0, .inr (0, 9), .inr (0, 17)] [] zqw_p72 [(0, 2), (0, 6), (0, 7), (0, 8), (0, 14), (0, 16), (0, 20), (0, 21), (0, 23), (0, 24), (0, 25), (0, 26), (0, 27), (0, 28), (0, 30), (0, 31), (0, 34), (0, 35), (0, 37), (0, 38), (0, 40), (0, 41), (0, 42), (0, 43), (0, 44), (0, 45), (0, 47), (0, 48), (0, 49)] ([eR 0] : List EV) zqw_w111 (ze_s (2147483682, 2147483688) zqw_g112 18) zqw_n146
theorem zcI34_ok : ZE zcI34 103 := ZH.ze rfl ⟨rfl, rfl⟩ (zy_nx_ok (by decide +kernel)) zhI34
noncomputable def zdI34 : ECal := zr_w 229 17 11 0 0 false (zr_t 9 zcI34)
theorem zdI34_ok : ZE zdI34 103 := ZE.rd 229 17 9 11 0 0 false (by decide) zcI34_ok
noncomputable def zE_R2_34 : ECal := zS_or zdI34 (zEp)
theorem zE_R2_34_ok : ZE zE_R2_34 103 := (ZE.or zdI34_ok (zEp_ok) (by decide) (by decide) : ZE (zS_or zdI34 (zEp)) 103)
def zqw_g194 : EG := [(0, 4294967295), (0, 4294967295), (0, 4294967295), (0, 4294967295), (0, 4294967295), (0, 4294967295), (0, 4294967295), (0, 4294967295), (0, 4294967295), (0, 4294967295), (2147483648, 2147483649), (2147483648, 2147483672), (2147483648, 2147483653), (2147483648, 2147483653), (0, 4294967295), (2147483648, 2147483727), (2147483648, 2147483903), (2147483648, 2147483728), (2147483682, 2147483688), (2147483648, 2147483688), (0, 4294967295), (2147483648, 2147483653), (2147483648, 4294967295), (2147483648, 4294967295), (2147483648, 2147483688), (2147483648, 2147483688), (2147483648, 2147483663), (2147483648, 2147483708), (0, 4294967295), (2147483648, 2147483658), (2147483648, 2147483660), (2147483648, 2147483658), (0, 4294967295)]
noncomputable def zqw_g195 : EG := zqw_g194 ++ [(2147483682, 2147483688), (0, 4294967295), (2147483648, 2147483688), (2147483648, 2147483727), (2147483648, 2147483903)]
noncomputable def zqw_g196 : EG := zqw_g194 ++ [(2147483683, 2147483688), (0, 4294967295), (2147483649, 2147483688), (2147483648, 2147483727), (2147483648, 2147483903)]
noncomputable def zqw_n197 : List ZN := [(some (eC 0), [], zqw_p135, zqw_w140, zqw_g195), (some (eC 1), [], zqw_p135, zqw_w144, zqw_g196)]
noncomputable def zqw_g198 : EG := zqw_g194 ++ [(2147483683, 2147483688), (0, 4294967295), (2147483649, 2147483688), (2147483648, 2147483688), (2147483648, 2147483903)]
noncomputable def zqw_g199 : EG := zqw_g194 ++ [(2147483648, 2147483649), (2147483685, 2147483688), (0, 4294967295), (2147483649, 2147483688), (2147483648, 2147483688), (2147483648, 2147483903)]
noncomputable def zqw_g200 : EG := zqw_g194 ++ [(2147483648, 2147483649), (2147483687, 2147483688), (0, 4294967295), (2147483649, 2147483688), (2147483648, 2147483688), (2147483648, 2147483903)]
noncomputable def zqR2_34_S0 : List ZC := ((16, 24, [], zqw_p135, [eR 0, eC 2, eC 1, eX 1], zqw_w144, zqw_g198), [1], []) :: ((16, 24, [3], zqw_p135, [eR 0, eC 2, eC 1, eU 33], zqw_w169, zqw_g199), [2], []) :: ((16, 24, [3], zqw_p135, [eR 0, eC 2, eC 1, eU 33], zqw_w189, zqw_g200), [], []) :: []
noncomputable def zqR2_34_K : List ZC := zqR2_34_S0
noncomputable def zqR2_34_e : ERt := zy_ends 33 zqw_n197
theorem zqR2_34_E : zy_spl (fun g => zy_en (zp_X12_readsRank, 4, 0, 0) (zX zE_R2_34 2) zqR2_34_e [24] 100000 (zy_B 33 zqR2_34_K [0]) ([eR 0, eC 2] : List EV) zqw_w111 g) [] zqw_g194 = true := by decide +kernel
noncomputable def zqR2_34_f (i : Nat) : Bool := zy_f 33 zp_X12_readsRank (zX zE_R2_34 2) 0 0 zqR2_34_e [24] 100000 zqR2_34_K i
theorem zqR2_34_0 : zy_ch zqR2_34_f 0 3 = true := by decide +kernel
theorem zqR2_34_n : zqR2_34_K.length = 3 := by decide +kernel
noncomputable def zcR2_34 : ECal := zf_cal 230 10 [.inl 0, .inr (0, 9), .inr (0, 17)] [] zqw_p72 [(0, 2), (0, 6), (0, 7), (0, 8), (0, 14), (0, 16), (0, 20), (0, 21), (0, 23), (0, 24), (0, 25), (0, 26), (0, 27), (0, 28), (0, 30), (0, 31), (0, 34), (0, 35), (0, 37), (0, 38), (0, 40), (0, 41), (0, 42), (0, 43), (0, 44), (0, 45), (0, 47), (0, 48), (0, 49)] ([eR 0, eC 2] : List EV) zqw_w111 zqw_g194 zqw_n197
theorem zcR2_34_ok : ZE zcR2_34 106 := ZE.met (n := 2) (es := zqw_n197) (hd := [24]) (F := 100000) (KS := zqR2_34_K) (js := [0]) (sp0 := []) (by decide) zE_R2_34_ok (y0 := 230) (q := (yX12_readsRank, cX12_readsRank, 4, (some .boolean), 12, 0, 0)) rfl ⟨rfl, rfl⟩ (m9 := (zp_X12_readsRank, 4, 0, 0)) rfl rfl (zy_nx_ok (by decide +kernel)) (N2 := 33) (by decide +kernel) (by decide) zqR2_34_E (fun i hi => (show ∀ i, i < 3 → zqR2_34_f i = true from fun i hi => zy_ch_ok zqR2_34_0 i (by omega) (by omega)) i (by have h9 := hi; rw [zqR2_34_n] at h9; exact h9))
noncomputable def zdR2_34 : ECal := zr_w 230 17 11 0 0 false (zr_t 9 zcR2_34)
theorem zdR2_34_ok : ZE zdR2_34 106 := ZE.rd 230 17 9 11 0 0 false (by decide) zcR2_34_ok
noncomputable def zE_R1_34 : ECal := zS_or zdR2_34 (zEp)
theorem zE_R1_34_ok : ZE zE_R1_34 106 := (ZE.or zdR2_34_ok (zEp_ok) (by decide) (by decide) : ZE (zS_or zdR2_34 (zEp)) 106)
noncomputable def zqw_g201 : EG := zqw_g194 ++ [(2147483648, 2147483649), (2147483685, 2147483688), (0, 4294967295), (2147483649, 2147483688), (2147483648, 2147483727), (2147483648, 2147483903)]
noncomputable def zqw_g202 : EG := zqw_g194 ++ [(2147483648, 2147483649), (2147483687, 2147483688), (0, 4294967295), (2147483649, 2147483688), (2147483648, 2147483727), (2147483648, 2147483903)]
noncomputable def zqR1_34_S0 : List ZC := ((16, 24, [], zqw_p135, [eR 0, eC 1, eC 1, eX 1], zqw_w144, zqw_g196), [1], []) :: ((16, 24, [3], zqw_p135, [eR 0, eC 1, eC 1, eU 33], zqw_w169, zqw_g201), [2], []) :: ((16, 24, [3], zqw_p135, [eR 0, eC 1, eC 1, eU 33], zqw_w189, zqw_g202), [], []) :: []
noncomputable def zqR1_34_K : List ZC := zqR1_34_S0
noncomputable def zqR1_34_e : ERt := zy_ends 33 zqw_n197
theorem zqR1_34_E : zy_spl (fun g => zy_en (zp_X12_readsRank, 4, 0, 0) (zX zE_R1_34 2) zqR1_34_e [24] 100000 (zy_B 33 zqR1_34_K [0]) ([eR 0, eC 1] : List EV) zqw_w111 g) [] zqw_g194 = true := by decide +kernel
noncomputable def zqR1_34_f (i : Nat) : Bool := zy_f 33 zp_X12_readsRank (zX zE_R1_34 2) 0 0 zqR1_34_e [24] 100000 zqR1_34_K i
theorem zqR1_34_0 : zy_ch zqR1_34_f 0 3 = true := by decide +kernel
theorem zqR1_34_n : zqR1_34_K.length = 3 := by decide +kernel
noncomputable def zcR1_34 : ECal := zf_cal 230 10 [.inl 0, .inr (0, 9), .inr (0, 17)] [] zqw_p72 [(0, 2), (0, 6), (0, 7), (0, 8), (0, 14), (0, 16), (0, 20), (0, 21), (0, 23), (0, 24), (0, 25), (0, 26), (0, 27), (0, 28), (0, 30), (0, 31), (0, 34), (0, 35), (0, 37), (0, 38), (0, 40), (0, 41), (0, 42), (0, 43), (0, 44), (0, 45), (0, 47), (0, 48), (0, 49)] ([eR 0, eC 1] : List EV) zqw_w111 zqw_g194 zqw_n197
theorem zcR1_34_ok : ZE zcR1_34 109 := ZE.met (n := 2) (es := zqw_n197) (hd := [24]) (F := 100000) (KS := zqR1_34_K) (js := [0]) (sp0 := []) (by decide) zE_R1_34_ok (y0 := 230) (q := (yX12_readsRank, cX12_readsRank, 4, (some .boolean), 12, 0, 0)) rfl ⟨rfl, rfl⟩ (m9 := (zp_X12_readsRank, 4, 0, 0)) rfl rfl (zy_nx_ok (by decide +kernel)) (N2 := 33) (by decide +kernel) (by decide) zqR1_34_E (fun i hi => (show ∀ i, i < 3 → zqR1_34_f i = true from fun i hi => zy_ch_ok zqR1_34_0 i (by omega) (by omega)) i (by have h9 := hi; rw [zqR1_34_n] at h9; exact h9))
noncomputable def zdR1_34 : ECal := zr_w 230 17 11 0 0 false (zr_t 9 zcR1_34)
theorem zdR1_34_ok : ZE zdR1_34 109 := ZE.rd 230 17 9 11 0 0 false (by decide) zcR1_34_ok
noncomputable def zE_R0_34 : ECal := zS_or zdR1_34 (zEp)
theorem zE_R0_34_ok : ZE zE_R0_34 109 := (ZE.or zdR1_34_ok (zEp_ok) (by decide) (by decide) : ZE (zS_or zdR1_34 (zEp)) 109)
noncomputable def zqw_g203 : EG := zqw_g194 ++ [(2147483648, 2147483650), (2147483685, 2147483688), (0, 4294967295), (2147483649, 2147483688), (2147483648, 2147483727), (2147483648, 2147483903)]
noncomputable def zqR0_34_S0 : List ZC := ((16, 24, [], zqw_p135, [eR 0, eC 0, eC 1, eX 1], zqw_w144, zqw_g196), [1], []) :: ((16, 24, [3], zqw_p135, [eR 0, eC 0, eC 0, eU 33], zqw_w169, zqw_g203), [], []) :: []
noncomputable def zqR0_34_K : List ZC := zqR0_34_S0
noncomputable def zqR0_34_e : ERt := zy_ends 33 zqw_n197
theorem zqR0_34_E : zy_spl (fun g => zy_en (zp_X12_readsRank, 4, 0, 0) (zX zE_R0_34 2) zqR0_34_e [24] 100000 (zy_B 33 zqR0_34_K [0]) ([eR 0, eC 0] : List EV) zqw_w111 g) [] zqw_g194 = true := by decide +kernel
noncomputable def zqR0_34_f (i : Nat) : Bool := zy_f 33 zp_X12_readsRank (zX zE_R0_34 2) 0 0 zqR0_34_e [24] 100000 zqR0_34_K i
theorem zqR0_34_0 : zy_ch zqR0_34_f 0 2 = true := by decide +kernel
theorem zqR0_34_n : zqR0_34_K.length = 2 := by decide +kernel
noncomputable def zcR0_34 : ECal := zf_cal 230 10 [.inl 0, .inr (0, 9), .inr (0, 17)] [] zqw_p72 [(0, 2), (0, 6), (0, 7), (0, 8), (0, 14), (0, 16), (0, 20), (0, 21), (0, 23), (0, 24), (0, 25), (0, 26), (0, 27), (0, 28), (0, 30), (0, 31), (0, 34), (0, 35), (0, 37), (0, 38), (0, 40), (0, 41), (0, 42), (0, 43), (0, 44), (0, 45), (0, 47), (0, 48), (0, 49)] ([eR 0, eC 0] : List EV) zqw_w111 zqw_g194 zqw_n197
theorem zcR0_34_ok : ZE zcR0_34 112 := ZE.met (n := 2) (es := zqw_n197) (hd := [24]) (F := 100000) (KS := zqR0_34_K) (js := [0]) (sp0 := []) (by decide) zE_R0_34_ok (y0 := 230) (q := (yX12_readsRank, cX12_readsRank, 4, (some .boolean), 12, 0, 0)) rfl ⟨rfl, rfl⟩ (m9 := (zp_X12_readsRank, 4, 0, 0)) rfl rfl (zy_nx_ok (by decide +kernel)) (N2 := 33) (by decide +kernel) (by decide) zqR0_34_E (fun i hi => (show ∀ i, i < 2 → zqR0_34_f i = true from fun i hi => zy_ch_ok zqR0_34_0 i (by omega) (by omega)) i (by have h9 := hi; rw [zqR0_34_n] at h9; exact h9))
noncomputable def zdR0_34 : ECal := zr_w 230 17 11 0 0 false (zr_t 9 zcR0_34)
theorem zdR0_34_ok : ZE zdR0_34 112 := ZE.rd 230 17 9 11 0 0 false (by decide) zcR0_34_ok
noncomputable def zE_G33 : ECal := zS_or zdI34 (zS_or zdR0_34 (zEp))
theorem zE_G33_ok : ZE zE_G33 112 := (ZE.or zdI34_ok ((ZE.or zdR0_34_ok (zEp_ok) (by decide) (by decide) : ZE (zS_or zdR0_34 (zEp)) 112)) (by decide) (by decide) : ZE (zS_or zdI34 (zS_or zdR0_34 (zEp))) 112)
theorem zqG33_E : zy_spl (fun g => zy_en (zp_X12_readsThing, 2, 0, 0) (zX zE_G33 3) (zy_ends 33 zqw_n146) [] 100000 (zy_B 33 [] []) ([eR 0] : List EV) zqw_w111 g) [] (ze_s (2147483681, 2147483681) zqw_g112 18) = true := by decide +kernel
theorem zhG33 : ZH (yX12_readsThing, cX12_readsThing, 2, (some .boolean), 12, 0, 0) 116 ([eR 0] : List EV) zqw_w111 (ze_s (2147483681, 2147483681) zqw_g112 18) zqw_n146 := ZH.met (n := 3) (es := zqw_n146) (hd := []) (F := 100000) (KS := []) (js := []) (sp0 := []) (by decide) zE_G33_ok (y0 := 229) (q := (yX12_readsThing, cX12_readsThing, 2, (some .boolean), 12, 0, 0)) rfl (m9 := (zp_X12_readsThing, 2, 0, 0)) rfl rfl (N2 := 33) (by decide +kernel) (by decide) zqG33_E (fun i hi => absurd (show i < 0 from hi) (Nat.not_lt_zero i))
theorem zhI33 : ZH (yX12_readsThing, cX12_readsThing, 2, (some .boolean), 12, 0, 0) 116 ([eR 0] : List EV) zqw_w111 (ze_s (2147483681, 2147483688) zqw_g112 18) zqw_n146 := ZH.join (m := 2147483681) (by decide +kernel) zhG33 (zhI34.le (by decide))
noncomputable def zcI33 : ECal := zf_cal 229 10 [.inl 0, .inr (0, 9), .inr (0, 17)] [] zqw_p72 [(0, 2), (0, 6), (0, 7), (0, 8), (0, 14), (0, 16), (0, 20), (0, 21), (0, 23), (0, 24), (0, 25), (0, 26), (0, 27), (0, 28), (0, 30), (0, 31), (0, 34), (0, 35), (0, 37), (0, 38), (0, 40), (0, 41), (0, 42), (0, 43), (0, 44), (0, 45), (0, 47), (0, 48), (0, 49)] ([eR 0] : List EV) zqw_w111 (ze_s (2147483681, 2147483688) zqw_g112 18) zqw_n146
theorem zcI33_ok : ZE zcI33 116 := ZH.ze rfl ⟨rfl, rfl⟩ (zy_nx_ok (by decide +kernel)) zhI33
noncomputable def zdI33 : ECal := zr_w 229 17 11 0 0 false (zr_t 9 zcI33)
theorem zdI33_ok : ZE zdI33 116 := ZE.rd 229 17 9 11 0 0 false (by decide) zcI33_ok
noncomputable def zE_R2_33 : ECal := zS_or zdI33 (zEp)
theorem zE_R2_33_ok : ZE zE_R2_33 116 := (ZE.or zdI33_ok (zEp_ok) (by decide) (by decide) : ZE (zS_or zdI33 (zEp)) 116)
def zqw_g204 : EG := [(0, 4294967295), (0, 4294967295), (0, 4294967295), (0, 4294967295), (0, 4294967295), (0, 4294967295), (0, 4294967295), (0, 4294967295), (0, 4294967295), (0, 4294967295), (2147483648, 2147483649), (2147483648, 2147483672), (2147483648, 2147483653), (2147483648, 2147483653), (0, 4294967295), (2147483648, 2147483727), (2147483648, 2147483903), (2147483648, 2147483728), (2147483681, 2147483688), (2147483648, 2147483688), (0, 4294967295), (2147483648, 2147483653), (2147483648, 4294967295), (2147483648, 4294967295), (2147483648, 2147483688), (2147483648, 2147483688), (2147483648, 2147483663), (2147483648, 2147483708), (0, 4294967295), (2147483648, 2147483658), (2147483648, 2147483660), (2147483648, 2147483658), (0, 4294967295)]
noncomputable def zqw_g205 : EG := zqw_g204 ++ [(2147483681, 2147483688), (0, 4294967295), (2147483648, 2147483688), (2147483648, 2147483727), (2147483648, 2147483903)]
noncomputable def zqw_g206 : EG := zqw_g204 ++ [(2147483682, 2147483688), (0, 4294967295), (2147483649, 2147483688), (2147483648, 2147483727), (2147483648, 2147483903)]
noncomputable def zqw_n207 : List ZN := [(some (eC 0), [], zqw_p135, zqw_w140, zqw_g205), (some (eC 1), [], zqw_p135, zqw_w144, zqw_g206)]
noncomputable def zqw_g208 : EG := zqw_g204 ++ [(2147483682, 2147483688), (0, 4294967295), (2147483649, 2147483688), (2147483648, 2147483688), (2147483648, 2147483903)]
noncomputable def zqw_g209 : EG := zqw_g204 ++ [(2147483648, 2147483649), (2147483684, 2147483688), (0, 4294967295), (2147483649, 2147483688), (2147483648, 2147483688), (2147483648, 2147483903)]
noncomputable def zqw_g210 : EG := zqw_g204 ++ [(2147483648, 2147483649), (2147483686, 2147483688), (0, 4294967295), (2147483649, 2147483688), (2147483648, 2147483688), (2147483648, 2147483903)]
noncomputable def zqw_e211 : EC := (1301, [eU 22, eC 1, eU 36, eU 23, eC 0, eU 34, eU 18, eC 7])
noncomputable def zqw_c212 : List EC := [zqw_e165, zqw_e166, zqw_e211]
noncomputable def zqw_w213 : EW := (3, [zqw_c212])
noncomputable def zqw_g214 : EG := zqw_g204 ++ [(2147483648, 2147483649), (2147483688, 2147483688), (0, 4294967295), (2147483649, 2147483688), (2147483648, 2147483688), (2147483648, 2147483903)]
noncomputable def zqR2_33_S0 : List ZC := ((16, 24, [], zqw_p135, [eR 0, eC 2, eC 1, eX 1], zqw_w144, zqw_g208), [1], []) :: ((16, 24, [3], zqw_p135, [eR 0, eC 2, eC 1, eU 33], zqw_w169, zqw_g209), [2], []) :: ((16, 24, [3], zqw_p135, [eR 0, eC 2, eC 1, eU 33], zqw_w189, zqw_g210), [3], []) :: ((16, 24, [3], zqw_p135, [eR 0, eC 2, eC 1, eU 33], zqw_w213, zqw_g214), [], []) :: []
noncomputable def zqR2_33_K : List ZC := zqR2_33_S0
noncomputable def zqR2_33_e : ERt := zy_ends 33 zqw_n207
theorem zqR2_33_E : zy_spl (fun g => zy_en (zp_X12_readsRank, 4, 0, 0) (zX zE_R2_33 2) zqR2_33_e [24] 100000 (zy_B 33 zqR2_33_K [0]) ([eR 0, eC 2] : List EV) zqw_w111 g) [] zqw_g204 = true := by decide +kernel
noncomputable def zqR2_33_f (i : Nat) : Bool := zy_f 33 zp_X12_readsRank (zX zE_R2_33 2) 0 0 zqR2_33_e [24] 100000 zqR2_33_K i
theorem zqR2_33_0 : zy_ch zqR2_33_f 0 4 = true := by decide +kernel
theorem zqR2_33_n : zqR2_33_K.length = 4 := by decide +kernel
noncomputable def zcR2_33 : ECal := zf_cal 230 10 [.inl 0, .inr (0, 9), .inr (0, 17)] [] zqw_p72 [(0, 2), (0, 6), (0, 7), (0, 8), (0, 14), (0, 16), (0, 20), (0, 21), (0, 23), (0, 24), (0, 25), (0, 26), (0, 27), (0, 28), (0, 30), (0, 31), (0, 34), (0, 35), (0, 37), (0, 38), (0, 40), (0, 41), (0, 42), (0, 43), (0, 44), (0, 45), (0, 47), (0, 48), (0, 49)] ([eR 0, eC 2] : List EV) zqw_w111 zqw_g204 zqw_n207
theorem zcR2_33_ok : ZE zcR2_33 119 := ZE.met (n := 2) (es := zqw_n207) (hd := [24]) (F := 100000) (KS := zqR2_33_K) (js := [0]) (sp0 := []) (by decide) zE_R2_33_ok (y0 := 230) (q := (yX12_readsRank, cX12_readsRank, 4, (some .boolean), 12, 0, 0)) rfl ⟨rfl, rfl⟩ (m9 := (zp_X12_readsRank, 4, 0, 0)) rfl rfl (zy_nx_ok (by decide +kernel)) (N2 := 33) (by decide +kernel) (by decide) zqR2_33_E (fun i hi => (show ∀ i, i < 4 → zqR2_33_f i = true from fun i hi => zy_ch_ok zqR2_33_0 i (by omega) (by omega)) i (by have h9 := hi; rw [zqR2_33_n] at h9; exact h9))
noncomputable def zdR2_33 : ECal := zr_w 230 17 11 0 0 false (zr_t 9 zcR2_33)
theorem zdR2_33_ok : ZE zdR2_33 119 := ZE.rd 230 17 9 11 0 0 false (by decide) zcR2_33_ok
noncomputable def zE_R1_33 : ECal := zS_or zdR2_33 (zEp)
theorem zE_R1_33_ok : ZE zE_R1_33 119 := (ZE.or zdR2_33_ok (zEp_ok) (by decide) (by decide) : ZE (zS_or zdR2_33 (zEp)) 119)
noncomputable def zqw_g215 : EG := zqw_g204 ++ [(2147483648, 2147483649), (2147483684, 2147483688), (0, 4294967295), (2147483649, 2147483688), (2147483648, 2147483727), (2147483648, 2147483903)]
noncomputable def zqw_g216 : EG := zqw_g204 ++ [(2147483648, 2147483649), (2147483686, 2147483688), (0, 4294967295), (2147483649, 2147483688), (2147483648, 2147483727), (2147483648, 2147483903)]
noncomputable def zqw_g217 : EG := zqw_g204 ++ [(2147483648, 2147483649), (2147483688, 2147483688), (0, 4294967295), (2147483649, 2147483688), (2147483648, 2147483727), (2147483648, 2147483903)]
noncomputable def zqR1_33_S0 : List ZC := ((16, 24, [], zqw_p135, [eR 0, eC 1, eC 1, eX 1], zqw_w144, zqw_g206), [1], []) :: ((16, 24, [3], zqw_p135, [eR 0, eC 1, eC 1, eU 33], zqw_w169, zqw_g215), [2], []) :: ((16, 24, [3], zqw_p135, [eR 0, eC 1, eC 1, eU 33], zqw_w189, zqw_g216), [3], []) :: ((16, 24, [3], zqw_p135, [eR 0, eC 1, eC 1, eU 33], zqw_w213, zqw_g217), [], []) :: []
noncomputable def zqR1_33_K : List ZC := zqR1_33_S0
noncomputable def zqR1_33_e : ERt := zy_ends 33 zqw_n207
theorem zqR1_33_E : zy_spl (fun g => zy_en (zp_X12_readsRank, 4, 0, 0) (zX zE_R1_33 2) zqR1_33_e [24] 100000 (zy_B 33 zqR1_33_K [0]) ([eR 0, eC 1] : List EV) zqw_w111 g) [] zqw_g204 = true := by decide +kernel
noncomputable def zqR1_33_f (i : Nat) : Bool := zy_f 33 zp_X12_readsRank (zX zE_R1_33 2) 0 0 zqR1_33_e [24] 100000 zqR1_33_K i
theorem zqR1_33_0 : zy_ch zqR1_33_f 0 4 = true := by decide +kernel
theorem zqR1_33_n : zqR1_33_K.length = 4 := by decide +kernel
noncomputable def zcR1_33 : ECal := zf_cal 230 10 [.inl 0, .inr (0, 9), .inr (0, 17)] [] zqw_p72 [(0, 2), (0, 6), (0, 7), (0, 8), (0, 14), (0, 16), (0, 20), (0, 21), (0, 23), (0, 24), (0, 25), (0, 26), (0, 27), (0, 28), (0, 30), (0, 31), (0, 34), (0, 35), (0, 37), (0, 38), (0, 40), (0, 41), (0, 42), (0, 43), (0, 44), (0, 45), (0, 47), (0, 48), (0, 49)] ([eR 0, eC 1] : List EV) zqw_w111 zqw_g204 zqw_n207
theorem zcR1_33_ok : ZE zcR1_33 122 := ZE.met (n := 2) (es := zqw_n207) (hd := [24]) (F := 100000) (KS := zqR1_33_K) (js := [0]) (sp0 := []) (by decide) zE_R1_33_ok (y0 := 230) (q := (yX12_readsRank, cX12_readsRank, 4, (some .boolean), 12, 0, 0)) rfl ⟨rfl, rfl⟩ (m9 := (zp_X12_readsRank, 4, 0, 0)) rfl rfl (zy_nx_ok (by decide +kernel)) (N2 := 33) (by decide +kernel) (by decide) zqR1_33_E (fun i hi => (show ∀ i, i < 4 → zqR1_33_f i = true from fun i hi => zy_ch_ok zqR1_33_0 i (by omega) (by omega)) i (by have h9 := hi; rw [zqR1_33_n] at h9; exact h9))
noncomputable def zdR1_33 : ECal := zr_w 230 17 11 0 0 false (zr_t 9 zcR1_33)
theorem zdR1_33_ok : ZE zdR1_33 122 := ZE.rd 230 17 9 11 0 0 false (by decide) zcR1_33_ok
noncomputable def zE_R0_33 : ECal := zS_or zdR1_33 (zEp)
theorem zE_R0_33_ok : ZE zE_R0_33 122 := (ZE.or zdR1_33_ok (zEp_ok) (by decide) (by decide) : ZE (zS_or zdR1_33 (zEp)) 122)
noncomputable def zqw_g218 : EG := zqw_g204 ++ [(2147483648, 2147483650), (2147483684, 2147483688), (0, 4294967295), (2147483649, 2147483688), (2147483648, 2147483727), (2147483648, 2147483903)]
noncomputable def zqR0_33_S0 : List ZC := ((16, 24, [], zqw_p135, [eR 0, eC 0, eC 1, eX 1], zqw_w144, zqw_g206), [1], []) :: ((16, 24, [3], zqw_p135, [eR 0, eC 0, eC 0, eU 33], zqw_w169, zqw_g218), [], []) :: []
noncomputable def zqR0_33_K : List ZC := zqR0_33_S0
noncomputable def zqR0_33_e : ERt := zy_ends 33 zqw_n207
theorem zqR0_33_E : zy_spl (fun g => zy_en (zp_X12_readsRank, 4, 0, 0) (zX zE_R0_33 2) zqR0_33_e [24] 100000 (zy_B 33 zqR0_33_K [0]) ([eR 0, eC 0] : List EV) zqw_w111 g) [] zqw_g204 = true := by decide +kernel
noncomputable def zqR0_33_f (i : Nat) : Bool := zy_f 33 zp_X12_readsRank (zX zE_R0_33 2) 0 0 zqR0_33_e [24] 100000 zqR0_33_K i
theorem zqR0_33_0 : zy_ch zqR0_33_f 0 2 = true := by decide +kernel
theorem zqR0_33_n : zqR0_33_K.length = 2 := by decide +kernel
noncomputable def zcR0_33 : ECal := zf_cal 230 10 [.inl 0, .inr (0, 9), .inr (0, 17)] [] zqw_p72 [(0, 2), (0, 6), (0, 7), (0, 8), (0, 14), (0, 16), (0, 20), (0, 21), (0, 23), (0, 24), (0, 25), (0, 26), (0, 27), (0, 28), (0, 30), (0, 31), (0, 34), (0, 35), (0, 37), (0, 38), (0, 40), (0, 41), (0, 42), (0, 43), (0, 44), (0, 45), (0, 47), (0, 48), (0, 49)] ([eR 0, eC 0] : List EV) zqw_w111 zqw_g204 zqw_n207
theorem zcR0_33_ok : ZE zcR0_33 125 := ZE.met (n := 2) (es := zqw_n207) (hd := [24]) (F := 100000) (KS := zqR0_33_K) (js := [0]) (sp0 := []) (by decide) zE_R0_33_ok (y0 := 230) (q := (yX12_readsRank, cX12_readsRank, 4, (some .boolean), 12, 0, 0)) rfl ⟨rfl, rfl⟩ (m9 := (zp_X12_readsRank, 4, 0, 0)) rfl rfl (zy_nx_ok (by decide +kernel)) (N2 := 33) (by decide +kernel) (by decide) zqR0_33_E (fun i hi => (show ∀ i, i < 2 → zqR0_33_f i = true from fun i hi => zy_ch_ok zqR0_33_0 i (by omega) (by omega)) i (by have h9 := hi; rw [zqR0_33_n] at h9; exact h9))
noncomputable def zdR0_33 : ECal := zr_w 230 17 11 0 0 false (zr_t 9 zcR0_33)
theorem zdR0_33_ok : ZE zdR0_33 125 := ZE.rd 230 17 9 11 0 0 false (by decide) zcR0_33_ok
noncomputable def zE_G32 : ECal := zS_or zdI33 (zS_or zdR0_33 (zEp))
theorem zE_G32_ok : ZE zE_G32 125 := (ZE.or zdI33_ok ((ZE.or zdR0_33_ok (zEp_ok) (by decide) (by decide) : ZE (zS_or zdR0_33 (zEp)) 125)) (by decide) (by decide) : ZE (zS_or zdI33 (zS_or zdR0_33 (zEp))) 125)
theorem zqG32_E : zy_spl (fun g => zy_en (zp_X12_readsThing, 2, 0, 0) (zX zE_G32 3) (zy_ends 33 zqw_n146) [] 100000 (zy_B 33 [] []) ([eR 0] : List EV) zqw_w111 g) [] (ze_s (2147483680, 2147483680) zqw_g112 18) = true := by decide +kernel
theorem zhG32 : ZH (yX12_readsThing, cX12_readsThing, 2, (some .boolean), 12, 0, 0) 129 ([eR 0] : List EV) zqw_w111 (ze_s (2147483680, 2147483680) zqw_g112 18) zqw_n146 := ZH.met (n := 3) (es := zqw_n146) (hd := []) (F := 100000) (KS := []) (js := []) (sp0 := []) (by decide) zE_G32_ok (y0 := 229) (q := (yX12_readsThing, cX12_readsThing, 2, (some .boolean), 12, 0, 0)) rfl (m9 := (zp_X12_readsThing, 2, 0, 0)) rfl rfl (N2 := 33) (by decide +kernel) (by decide) zqG32_E (fun i hi => absurd (show i < 0 from hi) (Nat.not_lt_zero i))
theorem zhI32 : ZH (yX12_readsThing, cX12_readsThing, 2, (some .boolean), 12, 0, 0) 129 ([eR 0] : List EV) zqw_w111 (ze_s (2147483680, 2147483688) zqw_g112 18) zqw_n146 := ZH.join (m := 2147483680) (by decide +kernel) zhG32 (zhI33.le (by decide))
noncomputable def zcI32 : ECal := zf_cal 229 10 [.inl 0, .inr (0, 9), .inr (0, 17)] [] zqw_p72 [(0, 2), (0, 6), (0, 7), (0, 8), (0, 14), (0, 16), (0, 20), (0, 21), (0, 23), (0, 24), (0, 25), (0, 26), (0, 27), (0, 28), (0, 30), (0, 31), (0, 34), (0, 35), (0, 37), (0, 38), (0, 40), (0, 41), (0, 42), (0, 43), (0, 44), (0, 45), (0, 47), (0, 48), (0, 49)] ([eR 0] : List EV) zqw_w111 (ze_s (2147483680, 2147483688) zqw_g112 18) zqw_n146
theorem zcI32_ok : ZE zcI32 129 := ZH.ze rfl ⟨rfl, rfl⟩ (zy_nx_ok (by decide +kernel)) zhI32
noncomputable def zdI32 : ECal := zr_w 229 17 11 0 0 false (zr_t 9 zcI32)
theorem zdI32_ok : ZE zdI32 129 := ZE.rd 229 17 9 11 0 0 false (by decide) zcI32_ok
noncomputable def zE_R2_32 : ECal := zS_or zdI32 (zEp)
theorem zE_R2_32_ok : ZE zE_R2_32 129 := (ZE.or zdI32_ok (zEp_ok) (by decide) (by decide) : ZE (zS_or zdI32 (zEp)) 129)
def zqw_g219 : EG := [(0, 4294967295), (0, 4294967295), (0, 4294967295), (0, 4294967295), (0, 4294967295), (0, 4294967295), (0, 4294967295), (0, 4294967295), (0, 4294967295), (0, 4294967295), (2147483648, 2147483649), (2147483648, 2147483672), (2147483648, 2147483653), (2147483648, 2147483653), (0, 4294967295), (2147483648, 2147483727), (2147483648, 2147483903), (2147483648, 2147483728), (2147483680, 2147483688), (2147483648, 2147483688), (0, 4294967295), (2147483648, 2147483653), (2147483648, 4294967295), (2147483648, 4294967295), (2147483648, 2147483688), (2147483648, 2147483688), (2147483648, 2147483663), (2147483648, 2147483708), (0, 4294967295), (2147483648, 2147483658), (2147483648, 2147483660), (2147483648, 2147483658), (0, 4294967295)]
noncomputable def zqw_g220 : EG := zqw_g219 ++ [(2147483680, 2147483688), (0, 4294967295), (2147483648, 2147483688), (2147483648, 2147483727), (2147483648, 2147483903)]
noncomputable def zqw_g221 : EG := zqw_g219 ++ [(2147483681, 2147483688), (0, 4294967295), (2147483649, 2147483688), (2147483648, 2147483727), (2147483648, 2147483903)]
noncomputable def zqw_n222 : List ZN := [(some (eC 0), [], zqw_p135, zqw_w140, zqw_g220), (some (eC 1), [], zqw_p135, zqw_w144, zqw_g221)]
noncomputable def zqw_g223 : EG := zqw_g219 ++ [(2147483681, 2147483688), (0, 4294967295), (2147483649, 2147483688), (2147483648, 2147483688), (2147483648, 2147483903)]
noncomputable def zqw_g224 : EG := zqw_g219 ++ [(2147483648, 2147483649), (2147483683, 2147483688), (0, 4294967295), (2147483649, 2147483688), (2147483648, 2147483688), (2147483648, 2147483903)]
noncomputable def zqw_g225 : EG := zqw_g219 ++ [(2147483648, 2147483649), (2147483685, 2147483688), (0, 4294967295), (2147483649, 2147483688), (2147483648, 2147483688), (2147483648, 2147483903)]
noncomputable def zqw_g226 : EG := zqw_g219 ++ [(2147483648, 2147483649), (2147483687, 2147483688), (0, 4294967295), (2147483649, 2147483688), (2147483648, 2147483688), (2147483648, 2147483903)]
noncomputable def zqR2_32_S0 : List ZC := ((16, 24, [], zqw_p135, [eR 0, eC 2, eC 1, eX 1], zqw_w144, zqw_g223), [1], []) :: ((16, 24, [3], zqw_p135, [eR 0, eC 2, eC 1, eU 33], zqw_w169, zqw_g224), [2], []) :: ((16, 24, [3], zqw_p135, [eR 0, eC 2, eC 1, eU 33], zqw_w189, zqw_g225), [3], []) :: ((16, 24, [3], zqw_p135, [eR 0, eC 2, eC 1, eU 33], zqw_w213, zqw_g226), [], []) :: []
noncomputable def zqR2_32_K : List ZC := zqR2_32_S0
noncomputable def zqR2_32_e : ERt := zy_ends 33 zqw_n222
theorem zqR2_32_E : zy_spl (fun g => zy_en (zp_X12_readsRank, 4, 0, 0) (zX zE_R2_32 2) zqR2_32_e [24] 100000 (zy_B 33 zqR2_32_K [0]) ([eR 0, eC 2] : List EV) zqw_w111 g) [] zqw_g219 = true := by decide +kernel
noncomputable def zqR2_32_f (i : Nat) : Bool := zy_f 33 zp_X12_readsRank (zX zE_R2_32 2) 0 0 zqR2_32_e [24] 100000 zqR2_32_K i
theorem zqR2_32_0 : zy_ch zqR2_32_f 0 4 = true := by decide +kernel
theorem zqR2_32_n : zqR2_32_K.length = 4 := by decide +kernel
noncomputable def zcR2_32 : ECal := zf_cal 230 10 [.inl 0, .inr (0, 9), .inr (0, 17)] [] zqw_p72 [(0, 2), (0, 6), (0, 7), (0, 8), (0, 14), (0, 16), (0, 20), (0, 21), (0, 23), (0, 24), (0, 25), (0, 26), (0, 27), (0, 28), (0, 30), (0, 31), (0, 34), (0, 35), (0, 37), (0, 38), (0, 40), (0, 41), (0, 42), (0, 43), (0, 44), (0, 45), (0, 47), (0, 48), (0, 49)] ([eR 0, eC 2] : List EV) zqw_w111 zqw_g219 zqw_n222
theorem zcR2_32_ok : ZE zcR2_32 132 := ZE.met (n := 2) (es := zqw_n222) (hd := [24]) (F := 100000) (KS := zqR2_32_K) (js := [0]) (sp0 := []) (by decide) zE_R2_32_ok (y0 := 230) (q := (yX12_readsRank, cX12_readsRank, 4, (some .boolean), 12, 0, 0)) rfl ⟨rfl, rfl⟩ (m9 := (zp_X12_readsRank, 4, 0, 0)) rfl rfl (zy_nx_ok (by decide +kernel)) (N2 := 33) (by decide +kernel) (by decide) zqR2_32_E (fun i hi => (show ∀ i, i < 4 → zqR2_32_f i = true from fun i hi => zy_ch_ok zqR2_32_0 i (by omega) (by omega)) i (by have h9 := hi; rw [zqR2_32_n] at h9; exact h9))
noncomputable def zdR2_32 : ECal := zr_w 230 17 11 0 0 false (zr_t 9 zcR2_32)
theorem zdR2_32_ok : ZE zdR2_32 132 := ZE.rd 230 17 9 11 0 0 false (by decide) zcR2_32_ok
noncomputable def zE_R1_32 : ECal := zS_or zdR2_32 (zEp)
theorem zE_R1_32_ok : ZE zE_R1_32 132 := (ZE.or zdR2_32_ok (zEp_ok) (by decide) (by decide) : ZE (zS_or zdR2_32 (zEp)) 132)
noncomputable def zqw_g227 : EG := zqw_g219 ++ [(2147483648, 2147483649), (2147483683, 2147483688), (0, 4294967295), (2147483649, 2147483688), (2147483648, 2147483727), (2147483648, 2147483903)]
noncomputable def zqw_g228 : EG := zqw_g219 ++ [(2147483648, 2147483649), (2147483685, 2147483688), (0, 4294967295), (2147483649, 2147483688), (2147483648, 2147483727), (2147483648, 2147483903)]
noncomputable def zqw_g229 : EG := zqw_g219 ++ [(2147483648, 2147483649), (2147483687, 2147483688), (0, 4294967295), (2147483649, 2147483688), (2147483648, 2147483727), (2147483648, 2147483903)]
noncomputable def zqR1_32_S0 : List ZC := ((16, 24, [], zqw_p135, [eR 0, eC 1, eC 1, eX 1], zqw_w144, zqw_g221), [1], []) :: ((16, 24, [3], zqw_p135, [eR 0, eC 1, eC 1, eU 33], zqw_w169, zqw_g227), [2], []) :: ((16, 24, [3], zqw_p135, [eR 0, eC 1, eC 1, eU 33], zqw_w189, zqw_g228), [3], []) :: ((16, 24, [3], zqw_p135, [eR 0, eC 1, eC 1, eU 33], zqw_w213, zqw_g229), [], []) :: []
noncomputable def zqR1_32_K : List ZC := zqR1_32_S0
noncomputable def zqR1_32_e : ERt := zy_ends 33 zqw_n222
theorem zqR1_32_E : zy_spl (fun g => zy_en (zp_X12_readsRank, 4, 0, 0) (zX zE_R1_32 2) zqR1_32_e [24] 100000 (zy_B 33 zqR1_32_K [0]) ([eR 0, eC 1] : List EV) zqw_w111 g) [] zqw_g219 = true := by decide +kernel
noncomputable def zqR1_32_f (i : Nat) : Bool := zy_f 33 zp_X12_readsRank (zX zE_R1_32 2) 0 0 zqR1_32_e [24] 100000 zqR1_32_K i
theorem zqR1_32_0 : zy_ch zqR1_32_f 0 4 = true := by decide +kernel
theorem zqR1_32_n : zqR1_32_K.length = 4 := by decide +kernel
noncomputable def zcR1_32 : ECal := zf_cal 230 10 [.inl 0, .inr (0, 9), .inr (0, 17)] [] zqw_p72 [(0, 2), (0, 6), (0, 7), (0, 8), (0, 14), (0, 16), (0, 20), (0, 21), (0, 23), (0, 24), (0, 25), (0, 26), (0, 27), (0, 28), (0, 30), (0, 31), (0, 34), (0, 35), (0, 37), (0, 38), (0, 40), (0, 41), (0, 42), (0, 43), (0, 44), (0, 45), (0, 47), (0, 48), (0, 49)] ([eR 0, eC 1] : List EV) zqw_w111 zqw_g219 zqw_n222
theorem zcR1_32_ok : ZE zcR1_32 135 := ZE.met (n := 2) (es := zqw_n222) (hd := [24]) (F := 100000) (KS := zqR1_32_K) (js := [0]) (sp0 := []) (by decide) zE_R1_32_ok (y0 := 230) (q := (yX12_readsRank, cX12_readsRank, 4, (some .boolean), 12, 0, 0)) rfl ⟨rfl, rfl⟩ (m9 := (zp_X12_readsRank, 4, 0, 0)) rfl rfl (zy_nx_ok (by decide +kernel)) (N2 := 33) (by decide +kernel) (by decide) zqR1_32_E (fun i hi => (show ∀ i, i < 4 → zqR1_32_f i = true from fun i hi => zy_ch_ok zqR1_32_0 i (by omega) (by omega)) i (by have h9 := hi; rw [zqR1_32_n] at h9; exact h9))
noncomputable def zdR1_32 : ECal := zr_w 230 17 11 0 0 false (zr_t 9 zcR1_32)
theorem zdR1_32_ok : ZE zdR1_32 135 := ZE.rd 230 17 9 11 0 0 false (by decide) zcR1_32_ok
noncomputable def zE_R0_32 : ECal := zS_or zdR1_32 (zEp)
theorem zE_R0_32_ok : ZE zE_R0_32 135 := (ZE.or zdR1_32_ok (zEp_ok) (by decide) (by decide) : ZE (zS_or zdR1_32 (zEp)) 135)
noncomputable def zqw_g230 : EG := zqw_g219 ++ [(2147483648, 2147483650), (2147483683, 2147483688), (0, 4294967295), (2147483649, 2147483688), (2147483648, 2147483727), (2147483648, 2147483903)]
noncomputable def zqR0_32_S0 : List ZC := ((16, 24, [], zqw_p135, [eR 0, eC 0, eC 1, eX 1], zqw_w144, zqw_g221), [1], []) :: ((16, 24, [3], zqw_p135, [eR 0, eC 0, eC 0, eU 33], zqw_w169, zqw_g230), [], []) :: []
noncomputable def zqR0_32_K : List ZC := zqR0_32_S0
noncomputable def zqR0_32_e : ERt := zy_ends 33 zqw_n222
theorem zqR0_32_E : zy_spl (fun g => zy_en (zp_X12_readsRank, 4, 0, 0) (zX zE_R0_32 2) zqR0_32_e [24] 100000 (zy_B 33 zqR0_32_K [0]) ([eR 0, eC 0] : List EV) zqw_w111 g) [] zqw_g219 = true := by decide +kernel
noncomputable def zqR0_32_f (i : Nat) : Bool := zy_f 33 zp_X12_readsRank (zX zE_R0_32 2) 0 0 zqR0_32_e [24] 100000 zqR0_32_K i
theorem zqR0_32_0 : zy_ch zqR0_32_f 0 2 = true := by decide +kernel
theorem zqR0_32_n : zqR0_32_K.length = 2 := by decide +kernel
noncomputable def zcR0_32 : ECal := zf_cal 230 10 [.inl 0, .inr (0, 9), .inr (0, 17)] [] zqw_p72 [(0, 2), (0, 6), (0, 7), (0, 8), (0, 14), (0, 16), (0, 20), (0, 21), (0, 23), (0, 24), (0, 25), (0, 26), (0, 27), (0, 28), (0, 30), (0, 31), (0, 34), (0, 35), (0, 37), (0, 38), (0, 40), (0, 41), (0, 42), (0, 43), (0, 44), (0, 45), (0, 47), (0, 48), (0, 49)] ([eR 0, eC 0] : List EV) zqw_w111 zqw_g219 zqw_n222
theorem zcR0_32_ok : ZE zcR0_32 138 := ZE.met (n := 2) (es := zqw_n222) (hd := [24]) (F := 100000) (KS := zqR0_32_K) (js := [0]) (sp0 := []) (by decide) zE_R0_32_ok (y0 := 230) (q := (yX12_readsRank, cX12_readsRank, 4, (some .boolean), 12, 0, 0)) rfl ⟨rfl, rfl⟩ (m9 := (zp_X12_readsRank, 4, 0, 0)) rfl rfl (zy_nx_ok (by decide +kernel)) (N2 := 33) (by decide +kernel) (by decide) zqR0_32_E (fun i hi => (show ∀ i, i < 2 → zqR0_32_f i = true from fun i hi => zy_ch_ok zqR0_32_0 i (by omega) (by omega)) i (by have h9 := hi; rw [zqR0_32_n] at h9; exact h9))
noncomputable def zdR0_32 : ECal := zr_w 230 17 11 0 0 false (zr_t 9 zcR0_32)
theorem zdR0_32_ok : ZE zdR0_32 138 := ZE.rd 230 17 9 11 0 0 false (by decide) zcR0_32_ok
noncomputable def zE_G31 : ECal := zS_or zdI32 (zS_or zdR0_32 (zEp))
theorem zE_G31_ok : ZE zE_G31 138 := (ZE.or zdI32_ok ((ZE.or zdR0_32_ok (zEp_ok) (by decide) (by decide) : ZE (zS_or zdR0_32 (zEp)) 138)) (by decide) (by decide) : ZE (zS_or zdI32 (zS_or zdR0_32 (zEp))) 138)
theorem zqG31_E : zy_spl (fun g => zy_en (zp_X12_readsThing, 2, 0, 0) (zX zE_G31 3) (zy_ends 33 zqw_n146) [] 100000 (zy_B 33 [] []) ([eR 0] : List EV) zqw_w111 g) [] (ze_s (2147483679, 2147483679) zqw_g112 18) = true := by decide +kernel
theorem zhG31 : ZH (yX12_readsThing, cX12_readsThing, 2, (some .boolean), 12, 0, 0) 142 ([eR 0] : List EV) zqw_w111 (ze_s (2147483679, 2147483679) zqw_g112 18) zqw_n146 := ZH.met (n := 3) (es := zqw_n146) (hd := []) (F := 100000) (KS := []) (js := []) (sp0 := []) (by decide) zE_G31_ok (y0 := 229) (q := (yX12_readsThing, cX12_readsThing, 2, (some .boolean), 12, 0, 0)) rfl (m9 := (zp_X12_readsThing, 2, 0, 0)) rfl rfl (N2 := 33) (by decide +kernel) (by decide) zqG31_E (fun i hi => absurd (show i < 0 from hi) (Nat.not_lt_zero i))
theorem zhI31 : ZH (yX12_readsThing, cX12_readsThing, 2, (some .boolean), 12, 0, 0) 142 ([eR 0] : List EV) zqw_w111 (ze_s (2147483679, 2147483688) zqw_g112 18) zqw_n146 := ZH.join (m := 2147483679) (by decide +kernel) zhG31 (zhI32.le (by decide))
noncomputable def zcI31 : ECal := zf_cal 229 10 [.inl 0, .inr (0, 9), .inr (0, 17)] [] zqw_p72 [(0, 2), (0, 6), (0, 7), (0, 8), (0, 14), (0, 16), (0, 20), (0, 21), (0, 23), (0, 24), (0, 25), (0, 26), (0, 27), (0, 28), (0, 30), (0, 31), (0, 34), (0, 35), (0, 37), (0, 38), (0, 40), (0, 41), (0, 42), (0, 43), (0, 44), (0, 45), (0, 47), (0, 48), (0, 49)] ([eR 0] : List EV) zqw_w111 (ze_s (2147483679, 2147483688) zqw_g112 18) zqw_n146
theorem zcI31_ok : ZE zcI31 142 := ZH.ze rfl ⟨rfl, rfl⟩ (zy_nx_ok (by decide +kernel)) zhI31
noncomputable def zdI31 : ECal := zr_w 229 17 11 0 0 false (zr_t 9 zcI31)
theorem zdI31_ok : ZE zdI31 142 := ZE.rd 229 17 9 11 0 0 false (by decide) zcI31_ok
noncomputable def zE_R2_31 : ECal := zS_or zdI31 (zEp)
theorem zE_R2_31_ok : ZE zE_R2_31 142 := (ZE.or zdI31_ok (zEp_ok) (by decide) (by decide) : ZE (zS_or zdI31 (zEp)) 142)
def zqw_g231 : EG := [(0, 4294967295), (0, 4294967295), (0, 4294967295), (0, 4294967295), (0, 4294967295), (0, 4294967295), (0, 4294967295), (0, 4294967295), (0, 4294967295), (0, 4294967295), (2147483648, 2147483649), (2147483648, 2147483672), (2147483648, 2147483653), (2147483648, 2147483653), (0, 4294967295), (2147483648, 2147483727), (2147483648, 2147483903), (2147483648, 2147483728), (2147483679, 2147483688), (2147483648, 2147483688), (0, 4294967295), (2147483648, 2147483653), (2147483648, 4294967295), (2147483648, 4294967295), (2147483648, 2147483688), (2147483648, 2147483688), (2147483648, 2147483663), (2147483648, 2147483708), (0, 4294967295), (2147483648, 2147483658), (2147483648, 2147483660), (2147483648, 2147483658), (0, 4294967295)]
noncomputable def zqw_g232 : EG := zqw_g231 ++ [(2147483679, 2147483688), (0, 4294967295), (2147483648, 2147483688), (2147483648, 2147483727), (2147483648, 2147483903)]
noncomputable def zqw_g233 : EG := zqw_g231 ++ [(2147483680, 2147483688), (0, 4294967295), (2147483649, 2147483688), (2147483648, 2147483727), (2147483648, 2147483903)]
noncomputable def zqw_n234 : List ZN := [(some (eC 0), [], zqw_p135, zqw_w140, zqw_g232), (some (eC 1), [], zqw_p135, zqw_w144, zqw_g233)]
noncomputable def zqw_g235 : EG := zqw_g231 ++ [(2147483680, 2147483688), (0, 4294967295), (2147483649, 2147483688), (2147483648, 2147483688), (2147483648, 2147483903)]
noncomputable def zqw_g236 : EG := zqw_g231 ++ [(2147483648, 2147483649), (2147483682, 2147483688), (0, 4294967295), (2147483649, 2147483688), (2147483648, 2147483688), (2147483648, 2147483903)]
noncomputable def zqw_g237 : EG := zqw_g231 ++ [(2147483648, 2147483649), (2147483684, 2147483688), (0, 4294967295), (2147483649, 2147483688), (2147483648, 2147483688), (2147483648, 2147483903)]
noncomputable def zqw_g238 : EG := zqw_g231 ++ [(2147483648, 2147483649), (2147483686, 2147483688), (0, 4294967295), (2147483649, 2147483688), (2147483648, 2147483688), (2147483648, 2147483903)]
noncomputable def zqw_e239 : EC := (1301, [eU 22, eC 1, eU 36, eU 23, eC 0, eU 34, eU 18, eC 9])
noncomputable def zqw_c240 : List EC := [zqw_e165, zqw_e166, zqw_e239]
noncomputable def zqw_w241 : EW := (3, [zqw_c240])
noncomputable def zqw_g242 : EG := zqw_g231 ++ [(2147483648, 2147483649), (2147483688, 2147483688), (0, 4294967295), (2147483649, 2147483688), (2147483648, 2147483688), (2147483648, 2147483903)]
noncomputable def zqR2_31_S0 : List ZC := ((16, 24, [], zqw_p135, [eR 0, eC 2, eC 1, eX 1], zqw_w144, zqw_g235), [1], []) :: ((16, 24, [3], zqw_p135, [eR 0, eC 2, eC 1, eU 33], zqw_w169, zqw_g236), [2], []) :: ((16, 24, [3], zqw_p135, [eR 0, eC 2, eC 1, eU 33], zqw_w189, zqw_g237), [3], []) :: ((16, 24, [3], zqw_p135, [eR 0, eC 2, eC 1, eU 33], zqw_w213, zqw_g238), [4], []) :: ((16, 24, [3], zqw_p135, [eR 0, eC 2, eC 1, eU 33], zqw_w241, zqw_g242), [], []) :: []
noncomputable def zqR2_31_K : List ZC := zqR2_31_S0
noncomputable def zqR2_31_e : ERt := zy_ends 33 zqw_n234
theorem zqR2_31_E : zy_spl (fun g => zy_en (zp_X12_readsRank, 4, 0, 0) (zX zE_R2_31 2) zqR2_31_e [24] 100000 (zy_B 33 zqR2_31_K [0]) ([eR 0, eC 2] : List EV) zqw_w111 g) [] zqw_g231 = true := by decide +kernel
noncomputable def zqR2_31_f (i : Nat) : Bool := zy_f 33 zp_X12_readsRank (zX zE_R2_31 2) 0 0 zqR2_31_e [24] 100000 zqR2_31_K i
theorem zqR2_31_0 : zy_ch zqR2_31_f 0 5 = true := by decide +kernel
theorem zqR2_31_n : zqR2_31_K.length = 5 := by decide +kernel
noncomputable def zcR2_31 : ECal := zf_cal 230 10 [.inl 0, .inr (0, 9), .inr (0, 17)] [] zqw_p72 [(0, 2), (0, 6), (0, 7), (0, 8), (0, 14), (0, 16), (0, 20), (0, 21), (0, 23), (0, 24), (0, 25), (0, 26), (0, 27), (0, 28), (0, 30), (0, 31), (0, 34), (0, 35), (0, 37), (0, 38), (0, 40), (0, 41), (0, 42), (0, 43), (0, 44), (0, 45), (0, 47), (0, 48), (0, 49)] ([eR 0, eC 2] : List EV) zqw_w111 zqw_g231 zqw_n234
theorem zcR2_31_ok : ZE zcR2_31 145 := ZE.met (n := 2) (es := zqw_n234) (hd := [24]) (F := 100000) (KS := zqR2_31_K) (js := [0]) (sp0 := []) (by decide) zE_R2_31_ok (y0 := 230) (q := (yX12_readsRank, cX12_readsRank, 4, (some .boolean), 12, 0, 0)) rfl ⟨rfl, rfl⟩ (m9 := (zp_X12_readsRank, 4, 0, 0)) rfl rfl (zy_nx_ok (by decide +kernel)) (N2 := 33) (by decide +kernel) (by decide) zqR2_31_E (fun i hi => (show ∀ i, i < 5 → zqR2_31_f i = true from fun i hi => zy_ch_ok zqR2_31_0 i (by omega) (by omega)) i (by have h9 := hi; rw [zqR2_31_n] at h9; exact h9))
noncomputable def zdR2_31 : ECal := zr_w 230 17 11 0 0 false (zr_t 9 zcR2_31)
theorem zdR2_31_ok : ZE zdR2_31 145 := ZE.rd 230 17 9 11 0 0 false (by decide) zcR2_31_ok
noncomputable def zE_R1_31 : ECal := zS_or zdR2_31 (zEp)
theorem zE_R1_31_ok : ZE zE_R1_31 145 := (ZE.or zdR2_31_ok (zEp_ok) (by decide) (by decide) : ZE (zS_or zdR2_31 (zEp)) 145)
noncomputable def zqw_g243 : EG := zqw_g231 ++ [(2147483648, 2147483649), (2147483682, 2147483688), (0, 4294967295), (2147483649, 2147483688), (2147483648, 2147483727), (2147483648, 2147483903)]
noncomputable def zqw_g244 : EG := zqw_g231 ++ [(2147483648, 2147483649), (2147483684, 2147483688), (0, 4294967295), (2147483649, 2147483688), (2147483648, 2147483727), (2147483648, 2147483903)]
noncomputable def zqw_g245 : EG := zqw_g231 ++ [(2147483648, 2147483649), (2147483686, 2147483688), (0, 4294967295), (2147483649, 2147483688), (2147483648, 2147483727), (2147483648, 2147483903)]
noncomputable def zqw_g246 : EG := zqw_g231 ++ [(2147483648, 2147483649), (2147483688, 2147483688), (0, 4294967295), (2147483649, 2147483688), (2147483648, 2147483727), (2147483648, 2147483903)]
noncomputable def zqR1_31_S0 : List ZC := ((16, 24, [], zqw_p135, [eR 0, eC 1, eC 1, eX 1], zqw_w144, zqw_g233), [1], []) :: ((16, 24, [3], zqw_p135, [eR 0, eC 1, eC 1, eU 33], zqw_w169, zqw_g243), [2], []) :: ((16, 24, [3], zqw_p135, [eR 0, eC 1, eC 1, eU 33], zqw_w189, zqw_g244), [3], []) :: ((16, 24, [3], zqw_p135, [eR 0, eC 1, eC 1, eU 33], zqw_w213, zqw_g245), [4], []) :: ((16, 24, [3], zqw_p135, [eR 0, eC 1, eC 1, eU 33], zqw_w241, zqw_g246), [], []) :: []
noncomputable def zqR1_31_K : List ZC := zqR1_31_S0
noncomputable def zqR1_31_e : ERt := zy_ends 33 zqw_n234
theorem zqR1_31_E : zy_spl (fun g => zy_en (zp_X12_readsRank, 4, 0, 0) (zX zE_R1_31 2) zqR1_31_e [24] 100000 (zy_B 33 zqR1_31_K [0]) ([eR 0, eC 1] : List EV) zqw_w111 g) [] zqw_g231 = true := by decide +kernel
noncomputable def zqR1_31_f (i : Nat) : Bool := zy_f 33 zp_X12_readsRank (zX zE_R1_31 2) 0 0 zqR1_31_e [24] 100000 zqR1_31_K i
theorem zqR1_31_0 : zy_ch zqR1_31_f 0 5 = true := by decide +kernel
theorem zqR1_31_n : zqR1_31_K.length = 5 := by decide +kernel
noncomputable def zcR1_31 : ECal := zf_cal 230 10 [.inl 0, .inr (0, 9), .inr (0, 17)] [] zqw_p72 [(0, 2), (0, 6), (0, 7), (0, 8), (0, 14), (0, 16), (0, 20), (0, 21), (0, 23), (0, 24), (0, 25), (0, 26), (0, 27), (0, 28), (0, 30), (0, 31), (0, 34), (0, 35), (0, 37), (0, 38), (0, 40), (0, 41), (0, 42), (0, 43), (0, 44), (0, 45), (0, 47), (0, 48), (0, 49)] ([eR 0, eC 1] : List EV) zqw_w111 zqw_g231 zqw_n234
theorem zcR1_31_ok : ZE zcR1_31 148 := ZE.met (n := 2) (es := zqw_n234) (hd := [24]) (F := 100000) (KS := zqR1_31_K) (js := [0]) (sp0 := []) (by decide) zE_R1_31_ok (y0 := 230) (q := (yX12_readsRank, cX12_readsRank, 4, (some .boolean), 12, 0, 0)) rfl ⟨rfl, rfl⟩ (m9 := (zp_X12_readsRank, 4, 0, 0)) rfl rfl (zy_nx_ok (by decide +kernel)) (N2 := 33) (by decide +kernel) (by decide) zqR1_31_E (fun i hi => (show ∀ i, i < 5 → zqR1_31_f i = true from fun i hi => zy_ch_ok zqR1_31_0 i (by omega) (by omega)) i (by have h9 := hi; rw [zqR1_31_n] at h9; exact h9))
noncomputable def zdR1_31 : ECal := zr_w 230 17 11 0 0 false (zr_t 9 zcR1_31)
theorem zdR1_31_ok : ZE zdR1_31 148 := ZE.rd 230 17 9 11 0 0 false (by decide) zcR1_31_ok
noncomputable def zE_R0_31 : ECal := zS_or zdR1_31 (zEp)
theorem zE_R0_31_ok : ZE zE_R0_31 148 := (ZE.or zdR1_31_ok (zEp_ok) (by decide) (by decide) : ZE (zS_or zdR1_31 (zEp)) 148)
noncomputable def zqw_g247 : EG := zqw_g231 ++ [(2147483648, 2147483650), (2147483682, 2147483688), (0, 4294967295), (2147483649, 2147483688), (2147483648, 2147483727), (2147483648, 2147483903)]
noncomputable def zqR0_31_S0 : List ZC := ((16, 24, [], zqw_p135, [eR 0, eC 0, eC 1, eX 1], zqw_w144, zqw_g233), [1], []) :: ((16, 24, [3], zqw_p135, [eR 0, eC 0, eC 0, eU 33], zqw_w169, zqw_g247), [], []) :: []
noncomputable def zqR0_31_K : List ZC := zqR0_31_S0
noncomputable def zqR0_31_e : ERt := zy_ends 33 zqw_n234
theorem zqR0_31_E : zy_spl (fun g => zy_en (zp_X12_readsRank, 4, 0, 0) (zX zE_R0_31 2) zqR0_31_e [24] 100000 (zy_B 33 zqR0_31_K [0]) ([eR 0, eC 0] : List EV) zqw_w111 g) [] zqw_g231 = true := by decide +kernel
noncomputable def zqR0_31_f (i : Nat) : Bool := zy_f 33 zp_X12_readsRank (zX zE_R0_31 2) 0 0 zqR0_31_e [24] 100000 zqR0_31_K i
theorem zqR0_31_0 : zy_ch zqR0_31_f 0 2 = true := by decide +kernel
theorem zqR0_31_n : zqR0_31_K.length = 2 := by decide +kernel
noncomputable def zcR0_31 : ECal := zf_cal 230 10 [.inl 0, .inr (0, 9), .inr (0, 17)] [] zqw_p72 [(0, 2), (0, 6), (0, 7), (0, 8), (0, 14), (0, 16), (0, 20), (0, 21), (0, 23), (0, 24), (0, 25), (0, 26), (0, 27), (0, 28), (0, 30), (0, 31), (0, 34), (0, 35), (0, 37), (0, 38), (0, 40), (0, 41), (0, 42), (0, 43), (0, 44), (0, 45), (0, 47), (0, 48), (0, 49)] ([eR 0, eC 0] : List EV) zqw_w111 zqw_g231 zqw_n234
theorem zcR0_31_ok : ZE zcR0_31 151 := ZE.met (n := 2) (es := zqw_n234) (hd := [24]) (F := 100000) (KS := zqR0_31_K) (js := [0]) (sp0 := []) (by decide) zE_R0_31_ok (y0 := 230) (q := (yX12_readsRank, cX12_readsRank, 4, (some .boolean), 12, 0, 0)) rfl ⟨rfl, rfl⟩ (m9 := (zp_X12_readsRank, 4, 0, 0)) rfl rfl (zy_nx_ok (by decide +kernel)) (N2 := 33) (by decide +kernel) (by decide) zqR0_31_E (fun i hi => (show ∀ i, i < 2 → zqR0_31_f i = true from fun i hi => zy_ch_ok zqR0_31_0 i (by omega) (by omega)) i (by have h9 := hi; rw [zqR0_31_n] at h9; exact h9))
noncomputable def zdR0_31 : ECal := zr_w 230 17 11 0 0 false (zr_t 9 zcR0_31)
theorem zdR0_31_ok : ZE zdR0_31 151 := ZE.rd 230 17 9 11 0 0 false (by decide) zcR0_31_ok
noncomputable def zE_G30 : ECal := zS_or zdI31 (zS_or zdR0_31 (zEp))
theorem zE_G30_ok : ZE zE_G30 151 := (ZE.or zdI31_ok ((ZE.or zdR0_31_ok (zEp_ok) (by decide) (by decide) : ZE (zS_or zdR0_31 (zEp)) 151)) (by decide) (by decide) : ZE (zS_or zdI31 (zS_or zdR0_31 (zEp))) 151)
theorem zqG30_E : zy_spl (fun g => zy_en (zp_X12_readsThing, 2, 0, 0) (zX zE_G30 3) (zy_ends 33 zqw_n146) [] 100000 (zy_B 33 [] []) ([eR 0] : List EV) zqw_w111 g) [] (ze_s (2147483678, 2147483678) zqw_g112 18) = true := by decide +kernel
theorem zhG30 : ZH (yX12_readsThing, cX12_readsThing, 2, (some .boolean), 12, 0, 0) 155 ([eR 0] : List EV) zqw_w111 (ze_s (2147483678, 2147483678) zqw_g112 18) zqw_n146 := ZH.met (n := 3) (es := zqw_n146) (hd := []) (F := 100000) (KS := []) (js := []) (sp0 := []) (by decide) zE_G30_ok (y0 := 229) (q := (yX12_readsThing, cX12_readsThing, 2, (some .boolean), 12, 0, 0)) rfl (m9 := (zp_X12_readsThing, 2, 0, 0)) rfl rfl (N2 := 33) (by decide +kernel) (by decide) zqG30_E (fun i hi => absurd (show i < 0 from hi) (Nat.not_lt_zero i))
theorem zhI30 : ZH (yX12_readsThing, cX12_readsThing, 2, (some .boolean), 12, 0, 0) 155 ([eR 0] : List EV) zqw_w111 (ze_s (2147483678, 2147483688) zqw_g112 18) zqw_n146 := ZH.join (m := 2147483678) (by decide +kernel) zhG30 (zhI31.le (by decide))
noncomputable def zcI30 : ECal := zf_cal 229 10 [.inl 0, .inr (0, 9), .inr (0, 17)] [] zqw_p72 [(0, 2), (0, 6), (0, 7), (0, 8), (0, 14), (0, 16), (0, 20), (0, 21), (0, 23), (0, 24), (0, 25), (0, 26), (0, 27), (0, 28), (0, 30), (0, 31), (0, 34), (0, 35), (0, 37), (0, 38), (0, 40), (0, 41), (0, 42), (0, 43), (0, 44), (0, 45), (0, 47), (0, 48), (0, 49)] ([eR 0] : List EV) zqw_w111 (ze_s (2147483678, 2147483688) zqw_g112 18) zqw_n146
theorem zcI30_ok : ZE zcI30 155 := ZH.ze rfl ⟨rfl, rfl⟩ (zy_nx_ok (by decide +kernel)) zhI30
noncomputable def zdI30 : ECal := zr_w 229 17 11 0 0 false (zr_t 9 zcI30)
theorem zdI30_ok : ZE zdI30 155 := ZE.rd 229 17 9 11 0 0 false (by decide) zcI30_ok
noncomputable def zE_R2_30 : ECal := zS_or zdI30 (zEp)
theorem zE_R2_30_ok : ZE zE_R2_30 155 := (ZE.or zdI30_ok (zEp_ok) (by decide) (by decide) : ZE (zS_or zdI30 (zEp)) 155)
def zqw_g248 : EG := [(0, 4294967295), (0, 4294967295), (0, 4294967295), (0, 4294967295), (0, 4294967295), (0, 4294967295), (0, 4294967295), (0, 4294967295), (0, 4294967295), (0, 4294967295), (2147483648, 2147483649), (2147483648, 2147483672), (2147483648, 2147483653), (2147483648, 2147483653), (0, 4294967295), (2147483648, 2147483727), (2147483648, 2147483903), (2147483648, 2147483728), (2147483678, 2147483688), (2147483648, 2147483688), (0, 4294967295), (2147483648, 2147483653), (2147483648, 4294967295), (2147483648, 4294967295), (2147483648, 2147483688), (2147483648, 2147483688), (2147483648, 2147483663), (2147483648, 2147483708), (0, 4294967295), (2147483648, 2147483658), (2147483648, 2147483660), (2147483648, 2147483658), (0, 4294967295)]
noncomputable def zqw_g249 : EG := zqw_g248 ++ [(2147483678, 2147483688), (0, 4294967295), (2147483648, 2147483688), (2147483648, 2147483727), (2147483648, 2147483903)]
noncomputable def zqw_g250 : EG := zqw_g248 ++ [(2147483679, 2147483688), (0, 4294967295), (2147483649, 2147483688), (2147483648, 2147483727), (2147483648, 2147483903)]
noncomputable def zqw_n251 : List ZN := [(some (eC 0), [], zqw_p135, zqw_w140, zqw_g249), (some (eC 1), [], zqw_p135, zqw_w144, zqw_g250)]
noncomputable def zqw_g252 : EG := zqw_g248 ++ [(2147483679, 2147483688), (0, 4294967295), (2147483649, 2147483688), (2147483648, 2147483688), (2147483648, 2147483903)]
noncomputable def zqw_g253 : EG := zqw_g248 ++ [(2147483648, 2147483649), (2147483681, 2147483688), (0, 4294967295), (2147483649, 2147483688), (2147483648, 2147483688), (2147483648, 2147483903)]
noncomputable def zqw_g254 : EG := zqw_g248 ++ [(2147483648, 2147483649), (2147483683, 2147483688), (0, 4294967295), (2147483649, 2147483688), (2147483648, 2147483688), (2147483648, 2147483903)]
noncomputable def zqw_g255 : EG := zqw_g248 ++ [(2147483648, 2147483649), (2147483685, 2147483688), (0, 4294967295), (2147483649, 2147483688), (2147483648, 2147483688), (2147483648, 2147483903)]
noncomputable def zqw_g256 : EG := zqw_g248 ++ [(2147483648, 2147483649), (2147483687, 2147483688), (0, 4294967295), (2147483649, 2147483688), (2147483648, 2147483688), (2147483648, 2147483903)]
noncomputable def zqR2_30_S0 : List ZC := ((16, 24, [], zqw_p135, [eR 0, eC 2, eC 1, eX 1], zqw_w144, zqw_g252), [1], []) :: ((16, 24, [3], zqw_p135, [eR 0, eC 2, eC 1, eU 33], zqw_w169, zqw_g253), [2], []) :: ((16, 24, [3], zqw_p135, [eR 0, eC 2, eC 1, eU 33], zqw_w189, zqw_g254), [3], []) :: ((16, 24, [3], zqw_p135, [eR 0, eC 2, eC 1, eU 33], zqw_w213, zqw_g255), [4], []) :: ((16, 24, [3], zqw_p135, [eR 0, eC 2, eC 1, eU 33], zqw_w241, zqw_g256), [], []) :: []
noncomputable def zqR2_30_K : List ZC := zqR2_30_S0
noncomputable def zqR2_30_e : ERt := zy_ends 33 zqw_n251
theorem zqR2_30_E : zy_spl (fun g => zy_en (zp_X12_readsRank, 4, 0, 0) (zX zE_R2_30 2) zqR2_30_e [24] 100000 (zy_B 33 zqR2_30_K [0]) ([eR 0, eC 2] : List EV) zqw_w111 g) [] zqw_g248 = true := by decide +kernel
noncomputable def zqR2_30_f (i : Nat) : Bool := zy_f 33 zp_X12_readsRank (zX zE_R2_30 2) 0 0 zqR2_30_e [24] 100000 zqR2_30_K i
theorem zqR2_30_0 : zy_ch zqR2_30_f 0 5 = true := by decide +kernel
theorem zqR2_30_n : zqR2_30_K.length = 5 := by decide +kernel
noncomputable def zcR2_30 : ECal := zf_cal 230 10 [.inl 0, .inr (0, 9), .inr (0, 17)] [] zqw_p72 [(0, 2), (0, 6), (0, 7), (0, 8), (0, 14), (0, 16), (0, 20), (0, 21), (0, 23), (0, 24), (0, 25), (0, 26), (0, 27), (0, 28), (0, 30), (0, 31), (0, 34), (0, 35), (0, 37), (0, 38), (0, 40), (0, 41), (0, 42), (0, 43), (0, 44), (0, 45), (0, 47), (0, 48), (0, 49)] ([eR 0, eC 2] : List EV) zqw_w111 zqw_g248 zqw_n251
theorem zcR2_30_ok : ZE zcR2_30 158 := ZE.met (n := 2) (es := zqw_n251) (hd := [24]) (F := 100000) (KS := zqR2_30_K) (js := [0]) (sp0 := []) (by decide) zE_R2_30_ok (y0 := 230) (q := (yX12_readsRank, cX12_readsRank, 4, (some .boolean), 12, 0, 0)) rfl ⟨rfl, rfl⟩ (m9 := (zp_X12_readsRank, 4, 0, 0)) rfl rfl (zy_nx_ok (by decide +kernel)) (N2 := 33) (by decide +kernel) (by decide) zqR2_30_E (fun i hi => (show ∀ i, i < 5 → zqR2_30_f i = true from fun i hi => zy_ch_ok zqR2_30_0 i (by omega) (by omega)) i (by have h9 := hi; rw [zqR2_30_n] at h9; exact h9))
noncomputable def zdR2_30 : ECal := zr_w 230 17 11 0 0 false (zr_t 9 zcR2_30)
theorem zdR2_30_ok : ZE zdR2_30 158 := ZE.rd 230 17 9 11 0 0 false (by decide) zcR2_30_ok
noncomputable def zE_R1_30 : ECal := zS_or zdR2_30 (zEp)
theorem zE_R1_30_ok : ZE zE_R1_30 158 := (ZE.or zdR2_30_ok (zEp_ok) (by decide) (by decide) : ZE (zS_or zdR2_30 (zEp)) 158)
noncomputable def zqw_g257 : EG := zqw_g248 ++ [(2147483648, 2147483649), (2147483681, 2147483688), (0, 4294967295), (2147483649, 2147483688), (2147483648, 2147483727), (2147483648, 2147483903)]
noncomputable def zqw_g258 : EG := zqw_g248 ++ [(2147483648, 2147483649), (2147483683, 2147483688), (0, 4294967295), (2147483649, 2147483688), (2147483648, 2147483727), (2147483648, 2147483903)]
noncomputable def zqw_g259 : EG := zqw_g248 ++ [(2147483648, 2147483649), (2147483685, 2147483688), (0, 4294967295), (2147483649, 2147483688), (2147483648, 2147483727), (2147483648, 2147483903)]
noncomputable def zqw_g260 : EG := zqw_g248 ++ [(2147483648, 2147483649), (2147483687, 2147483688), (0, 4294967295), (2147483649, 2147483688), (2147483648, 2147483727), (2147483648, 2147483903)]
noncomputable def zqR1_30_S0 : List ZC := ((16, 24, [], zqw_p135, [eR 0, eC 1, eC 1, eX 1], zqw_w144, zqw_g250), [1], []) :: ((16, 24, [3], zqw_p135, [eR 0, eC 1, eC 1, eU 33], zqw_w169, zqw_g257), [2], []) :: ((16, 24, [3], zqw_p135, [eR 0, eC 1, eC 1, eU 33], zqw_w189, zqw_g258), [3], []) :: ((16, 24, [3], zqw_p135, [eR 0, eC 1, eC 1, eU 33], zqw_w213, zqw_g259), [4], []) :: ((16, 24, [3], zqw_p135, [eR 0, eC 1, eC 1, eU 33], zqw_w241, zqw_g260), [], []) :: []
noncomputable def zqR1_30_K : List ZC := zqR1_30_S0
noncomputable def zqR1_30_e : ERt := zy_ends 33 zqw_n251
theorem zqR1_30_E : zy_spl (fun g => zy_en (zp_X12_readsRank, 4, 0, 0) (zX zE_R1_30 2) zqR1_30_e [24] 100000 (zy_B 33 zqR1_30_K [0]) ([eR 0, eC 1] : List EV) zqw_w111 g) [] zqw_g248 = true := by decide +kernel
noncomputable def zqR1_30_f (i : Nat) : Bool := zy_f 33 zp_X12_readsRank (zX zE_R1_30 2) 0 0 zqR1_30_e [24] 100000 zqR1_30_K i
theorem zqR1_30_0 : zy_ch zqR1_30_f 0 5 = true := by decide +kernel
theorem zqR1_30_n : zqR1_30_K.length = 5 := by decide +kernel
noncomputable def zcR1_30 : ECal := zf_cal 230 10 [.inl 0, .inr (0, 9), .inr (0, 17)] [] zqw_p72 [(0, 2), (0, 6), (0, 7), (0, 8), (0, 14), (0, 16), (0, 20), (0, 21), (0, 23), (0, 24), (0, 25), (0, 26), (0, 27), (0, 28), (0, 30), (0, 31), (0, 34), (0, 35), (0, 37), (0, 38), (0, 40), (0, 41), (0, 42), (0, 43), (0, 44), (0, 45), (0, 47), (0, 48), (0, 49)] ([eR 0, eC 1] : List EV) zqw_w111 zqw_g248 zqw_n251
theorem zcR1_30_ok : ZE zcR1_30 161 := ZE.met (n := 2) (es := zqw_n251) (hd := [24]) (F := 100000) (KS := zqR1_30_K) (js := [0]) (sp0 := []) (by decide) zE_R1_30_ok (y0 := 230) (q := (yX12_readsRank, cX12_readsRank, 4, (some .boolean), 12, 0, 0)) rfl ⟨rfl, rfl⟩ (m9 := (zp_X12_readsRank, 4, 0, 0)) rfl rfl (zy_nx_ok (by decide +kernel)) (N2 := 33) (by decide +kernel) (by decide) zqR1_30_E (fun i hi => (show ∀ i, i < 5 → zqR1_30_f i = true from fun i hi => zy_ch_ok zqR1_30_0 i (by omega) (by omega)) i (by have h9 := hi; rw [zqR1_30_n] at h9; exact h9))
noncomputable def zdR1_30 : ECal := zr_w 230 17 11 0 0 false (zr_t 9 zcR1_30)
theorem zdR1_30_ok : ZE zdR1_30 161 := ZE.rd 230 17 9 11 0 0 false (by decide) zcR1_30_ok
noncomputable def zE_R0_30 : ECal := zS_or zdR1_30 (zEp)
theorem zE_R0_30_ok : ZE zE_R0_30 161 := (ZE.or zdR1_30_ok (zEp_ok) (by decide) (by decide) : ZE (zS_or zdR1_30 (zEp)) 161)
noncomputable def zqw_g261 : EG := zqw_g248 ++ [(2147483648, 2147483650), (2147483681, 2147483688), (0, 4294967295), (2147483649, 2147483688), (2147483648, 2147483727), (2147483648, 2147483903)]
noncomputable def zqR0_30_S0 : List ZC := ((16, 24, [], zqw_p135, [eR 0, eC 0, eC 1, eX 1], zqw_w144, zqw_g250), [1], []) :: ((16, 24, [3], zqw_p135, [eR 0, eC 0, eC 0, eU 33], zqw_w169, zqw_g261), [], []) :: []
noncomputable def zqR0_30_K : List ZC := zqR0_30_S0
noncomputable def zqR0_30_e : ERt := zy_ends 33 zqw_n251
theorem zqR0_30_E : zy_spl (fun g => zy_en (zp_X12_readsRank, 4, 0, 0) (zX zE_R0_30 2) zqR0_30_e [24] 100000 (zy_B 33 zqR0_30_K [0]) ([eR 0, eC 0] : List EV) zqw_w111 g) [] zqw_g248 = true := by decide +kernel
noncomputable def zqR0_30_f (i : Nat) : Bool := zy_f 33 zp_X12_readsRank (zX zE_R0_30 2) 0 0 zqR0_30_e [24] 100000 zqR0_30_K i
theorem zqR0_30_0 : zy_ch zqR0_30_f 0 2 = true := by decide +kernel
theorem zqR0_30_n : zqR0_30_K.length = 2 := by decide +kernel
noncomputable def zcR0_30 : ECal := zf_cal 230 10 [.inl 0, .inr (0, 9), .inr (0, 17)] [] zqw_p72 [(0, 2), (0, 6), (0, 7), (0, 8), (0, 14), (0, 16), (0, 20), (0, 21), (0, 23), (0, 24), (0, 25), (0, 26), (0, 27), (0, 28), (0, 30), (0, 31), (0, 34), (0, 35), (0, 37), (0, 38), (0, 40), (0, 41), (0, 42), (0, 43), (0, 44), (0, 45), (0, 47), (0, 48), (0, 49)] ([eR 0, eC 0] : List EV) zqw_w111 zqw_g248 zqw_n251
theorem zcR0_30_ok : ZE zcR0_30 164 := ZE.met (n := 2) (es := zqw_n251) (hd := [24]) (F := 100000) (KS := zqR0_30_K) (js := [0]) (sp0 := []) (by decide) zE_R0_30_ok (y0 := 230) (q := (yX12_readsRank, cX12_readsRank, 4, (some .boolean), 12, 0, 0)) rfl ⟨rfl, rfl⟩ (m9 := (zp_X12_readsRank, 4, 0, 0)) rfl rfl (zy_nx_ok (by decide +kernel)) (N2 := 33) (by decide +kernel) (by decide) zqR0_30_E (fun i hi => (show ∀ i, i < 2 → zqR0_30_f i = true from fun i hi => zy_ch_ok zqR0_30_0 i (by omega) (by omega)) i (by have h9 := hi; rw [zqR0_30_n] at h9; exact h9))
noncomputable def zdR0_30 : ECal := zr_w 230 17 11 0 0 false (zr_t 9 zcR0_30)
theorem zdR0_30_ok : ZE zdR0_30 164 := ZE.rd 230 17 9 11 0 0 false (by decide) zcR0_30_ok
noncomputable def zE_G29 : ECal := zS_or zdI30 (zS_or zdR0_30 (zEp))
theorem zE_G29_ok : ZE zE_G29 164 := (ZE.or zdI30_ok ((ZE.or zdR0_30_ok (zEp_ok) (by decide) (by decide) : ZE (zS_or zdR0_30 (zEp)) 164)) (by decide) (by decide) : ZE (zS_or zdI30 (zS_or zdR0_30 (zEp))) 164)
theorem zqG29_E : zy_spl (fun g => zy_en (zp_X12_readsThing, 2, 0, 0) (zX zE_G29 3) (zy_ends 33 zqw_n146) [] 100000 (zy_B 33 [] []) ([eR 0] : List EV) zqw_w111 g) [] (ze_s (2147483677, 2147483677) zqw_g112 18) = true := by decide +kernel
theorem zhG29 : ZH (yX12_readsThing, cX12_readsThing, 2, (some .boolean), 12, 0, 0) 168 ([eR 0] : List EV) zqw_w111 (ze_s (2147483677, 2147483677) zqw_g112 18) zqw_n146 := ZH.met (n := 3) (es := zqw_n146) (hd := []) (F := 100000) (KS := []) (js := []) (sp0 := []) (by decide) zE_G29_ok (y0 := 229) (q := (yX12_readsThing, cX12_readsThing, 2, (some .boolean), 12, 0, 0)) rfl (m9 := (zp_X12_readsThing, 2, 0, 0)) rfl rfl (N2 := 33) (by decide +kernel) (by decide) zqG29_E (fun i hi => absurd (show i < 0 from hi) (Nat.not_lt_zero i))
theorem zhI29 : ZH (yX12_readsThing, cX12_readsThing, 2, (some .boolean), 12, 0, 0) 168 ([eR 0] : List EV) zqw_w111 (ze_s (2147483677, 2147483688) zqw_g112 18) zqw_n146 := ZH.join (m := 2147483677) (by decide +kernel) zhG29 (zhI30.le (by decide))
noncomputable def zcI29 : ECal := zf_cal 229 10 [.inl 0, .inr (0, 9), .inr (0, 17)] [] zqw_p72 [(0, 2), (0, 6), (0, 7), (0, 8), (0, 14), (0, 16), (0, 20), (0, 21), (0, 23), (0, 24), (0, 25), (0, 26), (0, 27), (0, 28), (0, 30), (0, 31), (0, 34), (0, 35), (0, 37), (0, 38), (0, 40), (0, 41), (0, 42), (0, 43), (0, 44), (0, 45), (0, 47), (0, 48), (0, 49)] ([eR 0] : List EV) zqw_w111 (ze_s (2147483677, 2147483688) zqw_g112 18) zqw_n146
theorem zcI29_ok : ZE zcI29 168 := ZH.ze rfl ⟨rfl, rfl⟩ (zy_nx_ok (by decide +kernel)) zhI29
noncomputable def zdI29 : ECal := zr_w 229 17 11 0 0 false (zr_t 9 zcI29)
theorem zdI29_ok : ZE zdI29 168 := ZE.rd 229 17 9 11 0 0 false (by decide) zcI29_ok
noncomputable def zE_R2_29 : ECal := zS_or zdI29 (zEp)
theorem zE_R2_29_ok : ZE zE_R2_29 168 := (ZE.or zdI29_ok (zEp_ok) (by decide) (by decide) : ZE (zS_or zdI29 (zEp)) 168)
def zqw_g262 : EG := [(0, 4294967295), (0, 4294967295), (0, 4294967295), (0, 4294967295), (0, 4294967295), (0, 4294967295), (0, 4294967295), (0, 4294967295), (0, 4294967295), (0, 4294967295), (2147483648, 2147483649), (2147483648, 2147483672), (2147483648, 2147483653), (2147483648, 2147483653), (0, 4294967295), (2147483648, 2147483727), (2147483648, 2147483903), (2147483648, 2147483728), (2147483677, 2147483688), (2147483648, 2147483688), (0, 4294967295), (2147483648, 2147483653), (2147483648, 4294967295), (2147483648, 4294967295), (2147483648, 2147483688), (2147483648, 2147483688), (2147483648, 2147483663), (2147483648, 2147483708), (0, 4294967295), (2147483648, 2147483658), (2147483648, 2147483660), (2147483648, 2147483658), (0, 4294967295)]
noncomputable def zqw_g263 : EG := zqw_g262 ++ [(2147483677, 2147483688), (0, 4294967295), (2147483648, 2147483688), (2147483648, 2147483727), (2147483648, 2147483903)]
noncomputable def zqw_g264 : EG := zqw_g262 ++ [(2147483678, 2147483688), (0, 4294967295), (2147483649, 2147483688), (2147483648, 2147483727), (2147483648, 2147483903)]
noncomputable def zqw_n265 : List ZN := [(some (eC 0), [], zqw_p135, zqw_w140, zqw_g263), (some (eC 1), [], zqw_p135, zqw_w144, zqw_g264)]
noncomputable def zqw_g266 : EG := zqw_g262 ++ [(2147483678, 2147483688), (0, 4294967295), (2147483649, 2147483688), (2147483648, 2147483688), (2147483648, 2147483903)]
noncomputable def zqw_g267 : EG := zqw_g262 ++ [(2147483648, 2147483649), (2147483680, 2147483688), (0, 4294967295), (2147483649, 2147483688), (2147483648, 2147483688), (2147483648, 2147483903)]
noncomputable def zqw_g268 : EG := zqw_g262 ++ [(2147483648, 2147483649), (2147483682, 2147483688), (0, 4294967295), (2147483649, 2147483688), (2147483648, 2147483688), (2147483648, 2147483903)]
noncomputable def zqw_g269 : EG := zqw_g262 ++ [(2147483648, 2147483649), (2147483684, 2147483688), (0, 4294967295), (2147483649, 2147483688), (2147483648, 2147483688), (2147483648, 2147483903)]
noncomputable def zqw_g270 : EG := zqw_g262 ++ [(2147483648, 2147483649), (2147483686, 2147483688), (0, 4294967295), (2147483649, 2147483688), (2147483648, 2147483688), (2147483648, 2147483903)]
noncomputable def zqw_e271 : EC := (1301, [eU 22, eC 1, eU 36, eU 23, eC 0, eU 34, eU 18, eC 11])
noncomputable def zqw_c272 : List EC := [zqw_e165, zqw_e166, zqw_e271]
noncomputable def zqw_w273 : EW := (3, [zqw_c272])
noncomputable def zqw_g274 : EG := zqw_g262 ++ [(2147483648, 2147483649), (2147483688, 2147483688), (0, 4294967295), (2147483649, 2147483688), (2147483648, 2147483688), (2147483648, 2147483903)]
noncomputable def zqR2_29_S0 : List ZC := ((16, 24, [], zqw_p135, [eR 0, eC 2, eC 1, eX 1], zqw_w144, zqw_g266), [1], []) :: ((16, 24, [3], zqw_p135, [eR 0, eC 2, eC 1, eU 33], zqw_w169, zqw_g267), [2], []) :: ((16, 24, [3], zqw_p135, [eR 0, eC 2, eC 1, eU 33], zqw_w189, zqw_g268), [3], []) :: ((16, 24, [3], zqw_p135, [eR 0, eC 2, eC 1, eU 33], zqw_w213, zqw_g269), [4], []) :: ((16, 24, [3], zqw_p135, [eR 0, eC 2, eC 1, eU 33], zqw_w241, zqw_g270), [5], []) :: ((16, 24, [3], zqw_p135, [eR 0, eC 2, eC 1, eU 33], zqw_w273, zqw_g274), [], []) :: []
noncomputable def zqR2_29_K : List ZC := zqR2_29_S0
noncomputable def zqR2_29_e : ERt := zy_ends 33 zqw_n265
theorem zqR2_29_E : zy_spl (fun g => zy_en (zp_X12_readsRank, 4, 0, 0) (zX zE_R2_29 2) zqR2_29_e [24] 100000 (zy_B 33 zqR2_29_K [0]) ([eR 0, eC 2] : List EV) zqw_w111 g) [] zqw_g262 = true := by decide +kernel
noncomputable def zqR2_29_f (i : Nat) : Bool := zy_f 33 zp_X12_readsRank (zX zE_R2_29 2) 0 0 zqR2_29_e [24] 100000 zqR2_29_K i
theorem zqR2_29_0 : zy_ch zqR2_29_f 0 6 = true := by decide +kernel
theorem zqR2_29_n : zqR2_29_K.length = 6 := by decide +kernel
noncomputable def zcR2_29 : ECal := zf_cal 230 10 [.inl 0, .inr (0, 9), .inr (0, 17)] [] zqw_p72 [(0, 2), (0, 6), (0, 7), (0, 8), (0, 14), (0, 16), (0, 20), (0, 21), (0, 23), (0, 24), (0, 25), (0, 26), (0, 27), (0, 28), (0, 30), (0, 31), (0, 34), (0, 35), (0, 37), (0, 38), (0, 40), (0, 41), (0, 42), (0, 43), (0, 44), (0, 45), (0, 47), (0, 48), (0, 49)] ([eR 0, eC 2] : List EV) zqw_w111 zqw_g262 zqw_n265
theorem zcR2_29_ok : ZE zcR2_29 171 := ZE.met (n := 2) (es := zqw_n265) (hd := [24]) (F := 100000) (KS := zqR2_29_K) (js := [0]) (sp0 := []) (by decide) zE_R2_29_ok (y0 := 230) (q := (yX12_readsRank, cX12_readsRank, 4, (some .boolean), 12, 0, 0)) rfl ⟨rfl, rfl⟩ (m9 := (zp_X12_readsRank, 4, 0, 0)) rfl rfl (zy_nx_ok (by decide +kernel)) (N2 := 33) (by decide +kernel) (by decide) zqR2_29_E (fun i hi => (show ∀ i, i < 6 → zqR2_29_f i = true from fun i hi => zy_ch_ok zqR2_29_0 i (by omega) (by omega)) i (by have h9 := hi; rw [zqR2_29_n] at h9; exact h9))
noncomputable def zdR2_29 : ECal := zr_w 230 17 11 0 0 false (zr_t 9 zcR2_29)
theorem zdR2_29_ok : ZE zdR2_29 171 := ZE.rd 230 17 9 11 0 0 false (by decide) zcR2_29_ok
noncomputable def zE_R1_29 : ECal := zS_or zdR2_29 (zEp)
theorem zE_R1_29_ok : ZE zE_R1_29 171 := (ZE.or zdR2_29_ok (zEp_ok) (by decide) (by decide) : ZE (zS_or zdR2_29 (zEp)) 171)
noncomputable def zqw_g275 : EG := zqw_g262 ++ [(2147483648, 2147483649), (2147483680, 2147483688), (0, 4294967295), (2147483649, 2147483688), (2147483648, 2147483727), (2147483648, 2147483903)]
noncomputable def zqw_g276 : EG := zqw_g262 ++ [(2147483648, 2147483649), (2147483682, 2147483688), (0, 4294967295), (2147483649, 2147483688), (2147483648, 2147483727), (2147483648, 2147483903)]
noncomputable def zqw_g277 : EG := zqw_g262 ++ [(2147483648, 2147483649), (2147483684, 2147483688), (0, 4294967295), (2147483649, 2147483688), (2147483648, 2147483727), (2147483648, 2147483903)]
noncomputable def zqw_g278 : EG := zqw_g262 ++ [(2147483648, 2147483649), (2147483686, 2147483688), (0, 4294967295), (2147483649, 2147483688), (2147483648, 2147483727), (2147483648, 2147483903)]
noncomputable def zqw_g279 : EG := zqw_g262 ++ [(2147483648, 2147483649), (2147483688, 2147483688), (0, 4294967295), (2147483649, 2147483688), (2147483648, 2147483727), (2147483648, 2147483903)]
noncomputable def zqR1_29_S0 : List ZC := ((16, 24, [], zqw_p135, [eR 0, eC 1, eC 1, eX 1], zqw_w144, zqw_g264), [1], []) :: ((16, 24, [3], zqw_p135, [eR 0, eC 1, eC 1, eU 33], zqw_w169, zqw_g275), [2], []) :: ((16, 24, [3], zqw_p135, [eR 0, eC 1, eC 1, eU 33], zqw_w189, zqw_g276), [3], []) :: ((16, 24, [3], zqw_p135, [eR 0, eC 1, eC 1, eU 33], zqw_w213, zqw_g277), [4], []) :: ((16, 24, [3], zqw_p135, [eR 0, eC 1, eC 1, eU 33], zqw_w241, zqw_g278), [5], []) :: ((16, 24, [3], zqw_p135, [eR 0, eC 1, eC 1, eU 33], zqw_w273, zqw_g279), [], []) :: []
noncomputable def zqR1_29_K : List ZC := zqR1_29_S0
noncomputable def zqR1_29_e : ERt := zy_ends 33 zqw_n265
theorem zqR1_29_E : zy_spl (fun g => zy_en (zp_X12_readsRank, 4, 0, 0) (zX zE_R1_29 2) zqR1_29_e [24] 100000 (zy_B 33 zqR1_29_K [0]) ([eR 0, eC 1] : List EV) zqw_w111 g) [] zqw_g262 = true := by decide +kernel
noncomputable def zqR1_29_f (i : Nat) : Bool := zy_f 33 zp_X12_readsRank (zX zE_R1_29 2) 0 0 zqR1_29_e [24] 100000 zqR1_29_K i
theorem zqR1_29_0 : zy_ch zqR1_29_f 0 6 = true := by decide +kernel
theorem zqR1_29_n : zqR1_29_K.length = 6 := by decide +kernel
noncomputable def zcR1_29 : ECal := zf_cal 230 10 [.inl 0, .inr (0, 9), .inr (0, 17)] [] zqw_p72 [(0, 2), (0, 6), (0, 7), (0, 8), (0, 14), (0, 16), (0, 20), (0, 21), (0, 23), (0, 24), (0, 25), (0, 26), (0, 27), (0, 28), (0, 30), (0, 31), (0, 34), (0, 35), (0, 37), (0, 38), (0, 40), (0, 41), (0, 42), (0, 43), (0, 44), (0, 45), (0, 47), (0, 48), (0, 49)] ([eR 0, eC 1] : List EV) zqw_w111 zqw_g262 zqw_n265
theorem zcR1_29_ok : ZE zcR1_29 174 := ZE.met (n := 2) (es := zqw_n265) (hd := [24]) (F := 100000) (KS := zqR1_29_K) (js := [0]) (sp0 := []) (by decide) zE_R1_29_ok (y0 := 230) (q := (yX12_readsRank, cX12_readsRank, 4, (some .boolean), 12, 0, 0)) rfl ⟨rfl, rfl⟩ (m9 := (zp_X12_readsRank, 4, 0, 0)) rfl rfl (zy_nx_ok (by decide +kernel)) (N2 := 33) (by decide +kernel) (by decide) zqR1_29_E (fun i hi => (show ∀ i, i < 6 → zqR1_29_f i = true from fun i hi => zy_ch_ok zqR1_29_0 i (by omega) (by omega)) i (by have h9 := hi; rw [zqR1_29_n] at h9; exact h9))
noncomputable def zdR1_29 : ECal := zr_w 230 17 11 0 0 false (zr_t 9 zcR1_29)
theorem zdR1_29_ok : ZE zdR1_29 174 := ZE.rd 230 17 9 11 0 0 false (by decide) zcR1_29_ok
noncomputable def zE_R0_29 : ECal := zS_or zdR1_29 (zEp)
theorem zE_R0_29_ok : ZE zE_R0_29 174 := (ZE.or zdR1_29_ok (zEp_ok) (by decide) (by decide) : ZE (zS_or zdR1_29 (zEp)) 174)
noncomputable def zqw_g280 : EG := zqw_g262 ++ [(2147483648, 2147483650), (2147483680, 2147483688), (0, 4294967295), (2147483649, 2147483688), (2147483648, 2147483727), (2147483648, 2147483903)]
noncomputable def zqR0_29_S0 : List ZC := ((16, 24, [], zqw_p135, [eR 0, eC 0, eC 1, eX 1], zqw_w144, zqw_g264), [1], []) :: ((16, 24, [3], zqw_p135, [eR 0, eC 0, eC 0, eU 33], zqw_w169, zqw_g280), [], []) :: []
noncomputable def zqR0_29_K : List ZC := zqR0_29_S0
noncomputable def zqR0_29_e : ERt := zy_ends 33 zqw_n265
theorem zqR0_29_E : zy_spl (fun g => zy_en (zp_X12_readsRank, 4, 0, 0) (zX zE_R0_29 2) zqR0_29_e [24] 100000 (zy_B 33 zqR0_29_K [0]) ([eR 0, eC 0] : List EV) zqw_w111 g) [] zqw_g262 = true := by decide +kernel
noncomputable def zqR0_29_f (i : Nat) : Bool := zy_f 33 zp_X12_readsRank (zX zE_R0_29 2) 0 0 zqR0_29_e [24] 100000 zqR0_29_K i
theorem zqR0_29_0 : zy_ch zqR0_29_f 0 2 = true := by decide +kernel
theorem zqR0_29_n : zqR0_29_K.length = 2 := by decide +kernel
noncomputable def zcR0_29 : ECal := zf_cal 230 10 [.inl 0, .inr (0, 9), .inr (0, 17)] [] zqw_p72 [(0, 2), (0, 6), (0, 7), (0, 8), (0, 14), (0, 16), (0, 20), (0, 21), (0, 23), (0, 24), (0, 25), (0, 26), (0, 27), (0, 28), (0, 30), (0, 31), (0, 34), (0, 35), (0, 37), (0, 38), (0, 40), (0, 41), (0, 42), (0, 43), (0, 44), (0, 45), (0, 47), (0, 48), (0, 49)] ([eR 0, eC 0] : List EV) zqw_w111 zqw_g262 zqw_n265
theorem zcR0_29_ok : ZE zcR0_29 177 := ZE.met (n := 2) (es := zqw_n265) (hd := [24]) (F := 100000) (KS := zqR0_29_K) (js := [0]) (sp0 := []) (by decide) zE_R0_29_ok (y0 := 230) (q := (yX12_readsRank, cX12_readsRank, 4, (some .boolean), 12, 0, 0)) rfl ⟨rfl, rfl⟩ (m9 := (zp_X12_readsRank, 4, 0, 0)) rfl rfl (zy_nx_ok (by decide +kernel)) (N2 := 33) (by decide +kernel) (by decide) zqR0_29_E (fun i hi => (show ∀ i, i < 2 → zqR0_29_f i = true from fun i hi => zy_ch_ok zqR0_29_0 i (by omega) (by omega)) i (by have h9 := hi; rw [zqR0_29_n] at h9; exact h9))
noncomputable def zdR0_29 : ECal := zr_w 230 17 11 0 0 false (zr_t 9 zcR0_29)
theorem zdR0_29_ok : ZE zdR0_29 177 := ZE.rd 230 17 9 11 0 0 false (by decide) zcR0_29_ok
noncomputable def zE_G28 : ECal := zS_or zdI29 (zS_or zdR0_29 (zEp))
theorem zE_G28_ok : ZE zE_G28 177 := (ZE.or zdI29_ok ((ZE.or zdR0_29_ok (zEp_ok) (by decide) (by decide) : ZE (zS_or zdR0_29 (zEp)) 177)) (by decide) (by decide) : ZE (zS_or zdI29 (zS_or zdR0_29 (zEp))) 177)
theorem zqG28_E : zy_spl (fun g => zy_en (zp_X12_readsThing, 2, 0, 0) (zX zE_G28 3) (zy_ends 33 zqw_n146) [] 100000 (zy_B 33 [] []) ([eR 0] : List EV) zqw_w111 g) [] (ze_s (2147483676, 2147483676) zqw_g112 18) = true := by decide +kernel
theorem zhG28 : ZH (yX12_readsThing, cX12_readsThing, 2, (some .boolean), 12, 0, 0) 181 ([eR 0] : List EV) zqw_w111 (ze_s (2147483676, 2147483676) zqw_g112 18) zqw_n146 := ZH.met (n := 3) (es := zqw_n146) (hd := []) (F := 100000) (KS := []) (js := []) (sp0 := []) (by decide) zE_G28_ok (y0 := 229) (q := (yX12_readsThing, cX12_readsThing, 2, (some .boolean), 12, 0, 0)) rfl (m9 := (zp_X12_readsThing, 2, 0, 0)) rfl rfl (N2 := 33) (by decide +kernel) (by decide) zqG28_E (fun i hi => absurd (show i < 0 from hi) (Nat.not_lt_zero i))
theorem zhI28 : ZH (yX12_readsThing, cX12_readsThing, 2, (some .boolean), 12, 0, 0) 181 ([eR 0] : List EV) zqw_w111 (ze_s (2147483676, 2147483688) zqw_g112 18) zqw_n146 := ZH.join (m := 2147483676) (by decide +kernel) zhG28 (zhI29.le (by decide))
noncomputable def zcI28 : ECal := zf_cal 229 10 [.inl 0, .inr (0, 9), .inr (0, 17)] [] zqw_p72 [(0, 2), (0, 6), (0, 7), (0, 8), (0, 14), (0, 16), (0, 20), (0, 21), (0, 23), (0, 24), (0, 25), (0, 26), (0, 27), (0, 28), (0, 30), (0, 31), (0, 34), (0, 35), (0, 37), (0, 38), (0, 40), (0, 41), (0, 42), (0, 43), (0, 44), (0, 45), (0, 47), (0, 48), (0, 49)] ([eR 0] : List EV) zqw_w111 (ze_s (2147483676, 2147483688) zqw_g112 18) zqw_n146
theorem zcI28_ok : ZE zcI28 181 := ZH.ze rfl ⟨rfl, rfl⟩ (zy_nx_ok (by decide +kernel)) zhI28
noncomputable def zdI28 : ECal := zr_w 229 17 11 0 0 false (zr_t 9 zcI28)
theorem zdI28_ok : ZE zdI28 181 := ZE.rd 229 17 9 11 0 0 false (by decide) zcI28_ok
noncomputable def zE_R2_28 : ECal := zS_or zdI28 (zEp)
theorem zE_R2_28_ok : ZE zE_R2_28 181 := (ZE.or zdI28_ok (zEp_ok) (by decide) (by decide) : ZE (zS_or zdI28 (zEp)) 181)
def zqw_g281 : EG := [(0, 4294967295), (0, 4294967295), (0, 4294967295), (0, 4294967295), (0, 4294967295), (0, 4294967295), (0, 4294967295), (0, 4294967295), (0, 4294967295), (0, 4294967295), (2147483648, 2147483649), (2147483648, 2147483672), (2147483648, 2147483653), (2147483648, 2147483653), (0, 4294967295), (2147483648, 2147483727), (2147483648, 2147483903), (2147483648, 2147483728), (2147483676, 2147483688), (2147483648, 2147483688), (0, 4294967295), (2147483648, 2147483653), (2147483648, 4294967295), (2147483648, 4294967295), (2147483648, 2147483688), (2147483648, 2147483688), (2147483648, 2147483663), (2147483648, 2147483708), (0, 4294967295), (2147483648, 2147483658), (2147483648, 2147483660), (2147483648, 2147483658), (0, 4294967295)]
noncomputable def zqw_g282 : EG := zqw_g281 ++ [(2147483676, 2147483688), (0, 4294967295), (2147483648, 2147483688), (2147483648, 2147483727), (2147483648, 2147483903)]
noncomputable def zqw_g283 : EG := zqw_g281 ++ [(2147483677, 2147483688), (0, 4294967295), (2147483649, 2147483688), (2147483648, 2147483727), (2147483648, 2147483903)]
noncomputable def zqw_n284 : List ZN := [(some (eC 0), [], zqw_p135, zqw_w140, zqw_g282), (some (eC 1), [], zqw_p135, zqw_w144, zqw_g283)]
noncomputable def zqw_g285 : EG := zqw_g281 ++ [(2147483677, 2147483688), (0, 4294967295), (2147483649, 2147483688), (2147483648, 2147483688), (2147483648, 2147483903)]
noncomputable def zqw_g286 : EG := zqw_g281 ++ [(2147483648, 2147483649), (2147483679, 2147483688), (0, 4294967295), (2147483649, 2147483688), (2147483648, 2147483688), (2147483648, 2147483903)]
noncomputable def zqw_g287 : EG := zqw_g281 ++ [(2147483648, 2147483649), (2147483681, 2147483688), (0, 4294967295), (2147483649, 2147483688), (2147483648, 2147483688), (2147483648, 2147483903)]
noncomputable def zqw_g288 : EG := zqw_g281 ++ [(2147483648, 2147483649), (2147483683, 2147483688), (0, 4294967295), (2147483649, 2147483688), (2147483648, 2147483688), (2147483648, 2147483903)]
noncomputable def zqw_g289 : EG := zqw_g281 ++ [(2147483648, 2147483649), (2147483685, 2147483688), (0, 4294967295), (2147483649, 2147483688), (2147483648, 2147483688), (2147483648, 2147483903)]
noncomputable def zqw_g290 : EG := zqw_g281 ++ [(2147483648, 2147483649), (2147483687, 2147483688), (0, 4294967295), (2147483649, 2147483688), (2147483648, 2147483688), (2147483648, 2147483903)]
noncomputable def zqR2_28_S0 : List ZC := ((16, 24, [], zqw_p135, [eR 0, eC 2, eC 1, eX 1], zqw_w144, zqw_g285), [1], []) :: ((16, 24, [3], zqw_p135, [eR 0, eC 2, eC 1, eU 33], zqw_w169, zqw_g286), [2], []) :: ((16, 24, [3], zqw_p135, [eR 0, eC 2, eC 1, eU 33], zqw_w189, zqw_g287), [3], []) :: ((16, 24, [3], zqw_p135, [eR 0, eC 2, eC 1, eU 33], zqw_w213, zqw_g288), [4], []) :: ((16, 24, [3], zqw_p135, [eR 0, eC 2, eC 1, eU 33], zqw_w241, zqw_g289), [5], []) :: ((16, 24, [3], zqw_p135, [eR 0, eC 2, eC 1, eU 33], zqw_w273, zqw_g290), [], []) :: []
noncomputable def zqR2_28_K : List ZC := zqR2_28_S0
noncomputable def zqR2_28_e : ERt := zy_ends 33 zqw_n284
theorem zqR2_28_E : zy_spl (fun g => zy_en (zp_X12_readsRank, 4, 0, 0) (zX zE_R2_28 2) zqR2_28_e [24] 100000 (zy_B 33 zqR2_28_K [0]) ([eR 0, eC 2] : List EV) zqw_w111 g) [] zqw_g281 = true := by decide +kernel
noncomputable def zqR2_28_f (i : Nat) : Bool := zy_f 33 zp_X12_readsRank (zX zE_R2_28 2) 0 0 zqR2_28_e [24] 100000 zqR2_28_K i
theorem zqR2_28_0 : zy_ch zqR2_28_f 0 6 = true := by decide +kernel
theorem zqR2_28_n : zqR2_28_K.length = 6 := by decide +kernel
noncomputable def zcR2_28 : ECal := zf_cal 230 10 [.inl 0, .inr (0, 9), .inr (0, 17)] [] zqw_p72 [(0, 2), (0, 6), (0, 7), (0, 8), (0, 14), (0, 16), (0, 20), (0, 21), (0, 23), (0, 24), (0, 25), (0, 26), (0, 27), (0, 28), (0, 30), (0, 31), (0, 34), (0, 35), (0, 37), (0, 38), (0, 40), (0, 41), (0, 42), (0, 43), (0, 44), (0, 45), (0, 47), (0, 48), (0, 49)] ([eR 0, eC 2] : List EV) zqw_w111 zqw_g281 zqw_n284
theorem zcR2_28_ok : ZE zcR2_28 184 := ZE.met (n := 2) (es := zqw_n284) (hd := [24]) (F := 100000) (KS := zqR2_28_K) (js := [0]) (sp0 := []) (by decide) zE_R2_28_ok (y0 := 230) (q := (yX12_readsRank, cX12_readsRank, 4, (some .boolean), 12, 0, 0)) rfl ⟨rfl, rfl⟩ (m9 := (zp_X12_readsRank, 4, 0, 0)) rfl rfl (zy_nx_ok (by decide +kernel)) (N2 := 33) (by decide +kernel) (by decide) zqR2_28_E (fun i hi => (show ∀ i, i < 6 → zqR2_28_f i = true from fun i hi => zy_ch_ok zqR2_28_0 i (by omega) (by omega)) i (by have h9 := hi; rw [zqR2_28_n] at h9; exact h9))
noncomputable def zdR2_28 : ECal := zr_w 230 17 11 0 0 false (zr_t 9 zcR2_28)
theorem zdR2_28_ok : ZE zdR2_28 184 := ZE.rd 230 17 9 11 0 0 false (by decide) zcR2_28_ok
noncomputable def zE_R1_28 : ECal := zS_or zdR2_28 (zEp)
theorem zE_R1_28_ok : ZE zE_R1_28 184 := (ZE.or zdR2_28_ok (zEp_ok) (by decide) (by decide) : ZE (zS_or zdR2_28 (zEp)) 184)
noncomputable def zqw_g291 : EG := zqw_g281 ++ [(2147483648, 2147483649), (2147483679, 2147483688), (0, 4294967295), (2147483649, 2147483688), (2147483648, 2147483727), (2147483648, 2147483903)]
noncomputable def zqw_g292 : EG := zqw_g281 ++ [(2147483648, 2147483649), (2147483681, 2147483688), (0, 4294967295), (2147483649, 2147483688), (2147483648, 2147483727), (2147483648, 2147483903)]
noncomputable def zqw_g293 : EG := zqw_g281 ++ [(2147483648, 2147483649), (2147483683, 2147483688), (0, 4294967295), (2147483649, 2147483688), (2147483648, 2147483727), (2147483648, 2147483903)]
noncomputable def zqw_g294 : EG := zqw_g281 ++ [(2147483648, 2147483649), (2147483685, 2147483688), (0, 4294967295), (2147483649, 2147483688), (2147483648, 2147483727), (2147483648, 2147483903)]
noncomputable def zqw_g295 : EG := zqw_g281 ++ [(2147483648, 2147483649), (2147483687, 2147483688), (0, 4294967295), (2147483649, 2147483688), (2147483648, 2147483727), (2147483648, 2147483903)]
noncomputable def zqR1_28_S0 : List ZC := ((16, 24, [], zqw_p135, [eR 0, eC 1, eC 1, eX 1], zqw_w144, zqw_g283), [1], []) :: ((16, 24, [3], zqw_p135, [eR 0, eC 1, eC 1, eU 33], zqw_w169, zqw_g291), [2], []) :: ((16, 24, [3], zqw_p135, [eR 0, eC 1, eC 1, eU 33], zqw_w189, zqw_g292), [3], []) :: ((16, 24, [3], zqw_p135, [eR 0, eC 1, eC 1, eU 33], zqw_w213, zqw_g293), [4], []) :: ((16, 24, [3], zqw_p135, [eR 0, eC 1, eC 1, eU 33], zqw_w241, zqw_g294), [5], []) :: ((16, 24, [3], zqw_p135, [eR 0, eC 1, eC 1, eU 33], zqw_w273, zqw_g295), [], []) :: []
noncomputable def zqR1_28_K : List ZC := zqR1_28_S0
noncomputable def zqR1_28_e : ERt := zy_ends 33 zqw_n284
theorem zqR1_28_E : zy_spl (fun g => zy_en (zp_X12_readsRank, 4, 0, 0) (zX zE_R1_28 2) zqR1_28_e [24] 100000 (zy_B 33 zqR1_28_K [0]) ([eR 0, eC 1] : List EV) zqw_w111 g) [] zqw_g281 = true := by decide +kernel
noncomputable def zqR1_28_f (i : Nat) : Bool := zy_f 33 zp_X12_readsRank (zX zE_R1_28 2) 0 0 zqR1_28_e [24] 100000 zqR1_28_K i
theorem zqR1_28_0 : zy_ch zqR1_28_f 0 6 = true := by decide +kernel
theorem zqR1_28_n : zqR1_28_K.length = 6 := by decide +kernel
noncomputable def zcR1_28 : ECal := zf_cal 230 10 [.inl 0, .inr (0, 9), .inr (0, 17)] [] zqw_p72 [(0, 2), (0, 6), (0, 7), (0, 8), (0, 14), (0, 16), (0, 20), (0, 21), (0, 23), (0, 24), (0, 25), (0, 26), (0, 27), (0, 28), (0, 30), (0, 31), (0, 34), (0, 35), (0, 37), (0, 38), (0, 40), (0, 41), (0, 42), (0, 43), (0, 44), (0, 45), (0, 47), (0, 48), (0, 49)] ([eR 0, eC 1] : List EV) zqw_w111 zqw_g281 zqw_n284
theorem zcR1_28_ok : ZE zcR1_28 187 := ZE.met (n := 2) (es := zqw_n284) (hd := [24]) (F := 100000) (KS := zqR1_28_K) (js := [0]) (sp0 := []) (by decide) zE_R1_28_ok (y0 := 230) (q := (yX12_readsRank, cX12_readsRank, 4, (some .boolean), 12, 0, 0)) rfl ⟨rfl, rfl⟩ (m9 := (zp_X12_readsRank, 4, 0, 0)) rfl rfl (zy_nx_ok (by decide +kernel)) (N2 := 33) (by decide +kernel) (by decide) zqR1_28_E (fun i hi => (show ∀ i, i < 6 → zqR1_28_f i = true from fun i hi => zy_ch_ok zqR1_28_0 i (by omega) (by omega)) i (by have h9 := hi; rw [zqR1_28_n] at h9; exact h9))
noncomputable def zdR1_28 : ECal := zr_w 230 17 11 0 0 false (zr_t 9 zcR1_28)
theorem zdR1_28_ok : ZE zdR1_28 187 := ZE.rd 230 17 9 11 0 0 false (by decide) zcR1_28_ok
noncomputable def zE_R0_28 : ECal := zS_or zdR1_28 (zEp)
theorem zE_R0_28_ok : ZE zE_R0_28 187 := (ZE.or zdR1_28_ok (zEp_ok) (by decide) (by decide) : ZE (zS_or zdR1_28 (zEp)) 187)
noncomputable def zqw_g296 : EG := zqw_g281 ++ [(2147483648, 2147483650), (2147483679, 2147483688), (0, 4294967295), (2147483649, 2147483688), (2147483648, 2147483727), (2147483648, 2147483903)]
noncomputable def zqR0_28_S0 : List ZC := ((16, 24, [], zqw_p135, [eR 0, eC 0, eC 1, eX 1], zqw_w144, zqw_g283), [1], []) :: ((16, 24, [3], zqw_p135, [eR 0, eC 0, eC 0, eU 33], zqw_w169, zqw_g296), [], []) :: []
noncomputable def zqR0_28_K : List ZC := zqR0_28_S0
noncomputable def zqR0_28_e : ERt := zy_ends 33 zqw_n284
theorem zqR0_28_E : zy_spl (fun g => zy_en (zp_X12_readsRank, 4, 0, 0) (zX zE_R0_28 2) zqR0_28_e [24] 100000 (zy_B 33 zqR0_28_K [0]) ([eR 0, eC 0] : List EV) zqw_w111 g) [] zqw_g281 = true := by decide +kernel
noncomputable def zqR0_28_f (i : Nat) : Bool := zy_f 33 zp_X12_readsRank (zX zE_R0_28 2) 0 0 zqR0_28_e [24] 100000 zqR0_28_K i
theorem zqR0_28_0 : zy_ch zqR0_28_f 0 2 = true := by decide +kernel
theorem zqR0_28_n : zqR0_28_K.length = 2 := by decide +kernel
noncomputable def zcR0_28 : ECal := zf_cal 230 10 [.inl 0, .inr (0, 9), .inr (0, 17)] [] zqw_p72 [(0, 2), (0, 6), (0, 7), (0, 8), (0, 14), (0, 16), (0, 20), (0, 21), (0, 23), (0, 24), (0, 25), (0, 26), (0, 27), (0, 28), (0, 30), (0, 31), (0, 34), (0, 35), (0, 37), (0, 38), (0, 40), (0, 41), (0, 42), (0, 43), (0, 44), (0, 45), (0, 47), (0, 48), (0, 49)] ([eR 0, eC 0] : List EV) zqw_w111 zqw_g281 zqw_n284
theorem zcR0_28_ok : ZE zcR0_28 190 := ZE.met (n := 2) (es := zqw_n284) (hd := [24]) (F := 100000) (KS := zqR0_28_K) (js := [0]) (sp0 := []) (by decide) zE_R0_28_ok (y0 := 230) (q := (yX12_readsRank, cX12_readsRank, 4, (some .boolean), 12, 0, 0)) rfl ⟨rfl, rfl⟩ (m9 := (zp_X12_readsRank, 4, 0, 0)) rfl rfl (zy_nx_ok (by decide +kernel)) (N2 := 33) (by decide +kernel) (by decide) zqR0_28_E (fun i hi => (show ∀ i, i < 2 → zqR0_28_f i = true from fun i hi => zy_ch_ok zqR0_28_0 i (by omega) (by omega)) i (by have h9 := hi; rw [zqR0_28_n] at h9; exact h9))
noncomputable def zdR0_28 : ECal := zr_w 230 17 11 0 0 false (zr_t 9 zcR0_28)
theorem zdR0_28_ok : ZE zdR0_28 190 := ZE.rd 230 17 9 11 0 0 false (by decide) zcR0_28_ok
noncomputable def zE_G27 : ECal := zS_or zdI28 (zS_or zdR0_28 (zEp))
theorem zE_G27_ok : ZE zE_G27 190 := (ZE.or zdI28_ok ((ZE.or zdR0_28_ok (zEp_ok) (by decide) (by decide) : ZE (zS_or zdR0_28 (zEp)) 190)) (by decide) (by decide) : ZE (zS_or zdI28 (zS_or zdR0_28 (zEp))) 190)
theorem zqG27_E : zy_spl (fun g => zy_en (zp_X12_readsThing, 2, 0, 0) (zX zE_G27 3) (zy_ends 33 zqw_n146) [] 100000 (zy_B 33 [] []) ([eR 0] : List EV) zqw_w111 g) [] (ze_s (2147483675, 2147483675) zqw_g112 18) = true := by decide +kernel
theorem zhG27 : ZH (yX12_readsThing, cX12_readsThing, 2, (some .boolean), 12, 0, 0) 194 ([eR 0] : List EV) zqw_w111 (ze_s (2147483675, 2147483675) zqw_g112 18) zqw_n146 := ZH.met (n := 3) (es := zqw_n146) (hd := []) (F := 100000) (KS := []) (js := []) (sp0 := []) (by decide) zE_G27_ok (y0 := 229) (q := (yX12_readsThing, cX12_readsThing, 2, (some .boolean), 12, 0, 0)) rfl (m9 := (zp_X12_readsThing, 2, 0, 0)) rfl rfl (N2 := 33) (by decide +kernel) (by decide) zqG27_E (fun i hi => absurd (show i < 0 from hi) (Nat.not_lt_zero i))
theorem zhI27 : ZH (yX12_readsThing, cX12_readsThing, 2, (some .boolean), 12, 0, 0) 194 ([eR 0] : List EV) zqw_w111 (ze_s (2147483675, 2147483688) zqw_g112 18) zqw_n146 := ZH.join (m := 2147483675) (by decide +kernel) zhG27 (zhI28.le (by decide))
noncomputable def zcI27 : ECal := zf_cal 229 10 [.inl 0, .inr (0, 9), .inr (0, 17)] [] zqw_p72 [(0, 2), (0, 6), (0, 7), (0, 8), (0, 14), (0, 16), (0, 20), (0, 21), (0, 23), (0, 24), (0, 25), (0, 26), (0, 27), (0, 28), (0, 30), (0, 31), (0, 34), (0, 35), (0, 37), (0, 38), (0, 40), (0, 41), (0, 42), (0, 43), (0, 44), (0, 45), (0, 47), (0, 48), (0, 49)] ([eR 0] : List EV) zqw_w111 (ze_s (2147483675, 2147483688) zqw_g112 18) zqw_n146
theorem zcI27_ok : ZE zcI27 194 := ZH.ze rfl ⟨rfl, rfl⟩ (zy_nx_ok (by decide +kernel)) zhI27
noncomputable def zdI27 : ECal := zr_w 229 17 11 0 0 false (zr_t 9 zcI27)
theorem zdI27_ok : ZE zdI27 194 := ZE.rd 229 17 9 11 0 0 false (by decide) zcI27_ok
noncomputable def zE_R2_27 : ECal := zS_or zdI27 (zEp)
theorem zE_R2_27_ok : ZE zE_R2_27 194 := (ZE.or zdI27_ok (zEp_ok) (by decide) (by decide) : ZE (zS_or zdI27 (zEp)) 194)
def zqw_g297 : EG := [(0, 4294967295), (0, 4294967295), (0, 4294967295), (0, 4294967295), (0, 4294967295), (0, 4294967295), (0, 4294967295), (0, 4294967295), (0, 4294967295), (0, 4294967295), (2147483648, 2147483649), (2147483648, 2147483672), (2147483648, 2147483653), (2147483648, 2147483653), (0, 4294967295), (2147483648, 2147483727), (2147483648, 2147483903), (2147483648, 2147483728), (2147483675, 2147483688), (2147483648, 2147483688), (0, 4294967295), (2147483648, 2147483653), (2147483648, 4294967295), (2147483648, 4294967295), (2147483648, 2147483688), (2147483648, 2147483688), (2147483648, 2147483663), (2147483648, 2147483708), (0, 4294967295), (2147483648, 2147483658), (2147483648, 2147483660), (2147483648, 2147483658), (0, 4294967295)]
noncomputable def zqw_g298 : EG := zqw_g297 ++ [(2147483675, 2147483688), (0, 4294967295), (2147483648, 2147483688), (2147483648, 2147483727), (2147483648, 2147483903)]
noncomputable def zqw_g299 : EG := zqw_g297 ++ [(2147483676, 2147483688), (0, 4294967295), (2147483649, 2147483688), (2147483648, 2147483727), (2147483648, 2147483903)]
noncomputable def zqw_n300 : List ZN := [(some (eC 0), [], zqw_p135, zqw_w140, zqw_g298), (some (eC 1), [], zqw_p135, zqw_w144, zqw_g299)]
noncomputable def zqw_g301 : EG := zqw_g297 ++ [(2147483676, 2147483688), (0, 4294967295), (2147483649, 2147483688), (2147483648, 2147483688), (2147483648, 2147483903)]
noncomputable def zqw_g302 : EG := zqw_g297 ++ [(2147483648, 2147483649), (2147483678, 2147483688), (0, 4294967295), (2147483649, 2147483688), (2147483648, 2147483688), (2147483648, 2147483903)]
noncomputable def zqw_g303 : EG := zqw_g297 ++ [(2147483648, 2147483649), (2147483680, 2147483688), (0, 4294967295), (2147483649, 2147483688), (2147483648, 2147483688), (2147483648, 2147483903)]
noncomputable def zqw_g304 : EG := zqw_g297 ++ [(2147483648, 2147483649), (2147483682, 2147483688), (0, 4294967295), (2147483649, 2147483688), (2147483648, 2147483688), (2147483648, 2147483903)]
noncomputable def zqw_g305 : EG := zqw_g297 ++ [(2147483648, 2147483649), (2147483684, 2147483688), (0, 4294967295), (2147483649, 2147483688), (2147483648, 2147483688), (2147483648, 2147483903)]
noncomputable def zqw_g306 : EG := zqw_g297 ++ [(2147483648, 2147483649), (2147483686, 2147483688), (0, 4294967295), (2147483649, 2147483688), (2147483648, 2147483688), (2147483648, 2147483903)]
noncomputable def zqw_e307 : EC := (1301, [eU 22, eC 1, eU 36, eU 23, eC 0, eU 34, eU 18, eC 13])
noncomputable def zqw_c308 : List EC := [zqw_e165, zqw_e166, zqw_e307]
noncomputable def zqw_w309 : EW := (3, [zqw_c308])
noncomputable def zqw_g310 : EG := zqw_g297 ++ [(2147483648, 2147483649), (2147483688, 2147483688), (0, 4294967295), (2147483649, 2147483688), (2147483648, 2147483688), (2147483648, 2147483903)]
noncomputable def zqR2_27_S0 : List ZC := ((16, 24, [], zqw_p135, [eR 0, eC 2, eC 1, eX 1], zqw_w144, zqw_g301), [1], []) :: ((16, 24, [3], zqw_p135, [eR 0, eC 2, eC 1, eU 33], zqw_w169, zqw_g302), [2], []) :: ((16, 24, [3], zqw_p135, [eR 0, eC 2, eC 1, eU 33], zqw_w189, zqw_g303), [3], []) :: ((16, 24, [3], zqw_p135, [eR 0, eC 2, eC 1, eU 33], zqw_w213, zqw_g304), [4], []) :: ((16, 24, [3], zqw_p135, [eR 0, eC 2, eC 1, eU 33], zqw_w241, zqw_g305), [5], []) :: ((16, 24, [3], zqw_p135, [eR 0, eC 2, eC 1, eU 33], zqw_w273, zqw_g306), [6], []) :: ((16, 24, [3], zqw_p135, [eR 0, eC 2, eC 1, eU 33], zqw_w309, zqw_g310), [], []) :: []
noncomputable def zqR2_27_K : List ZC := zqR2_27_S0
noncomputable def zqR2_27_e : ERt := zy_ends 33 zqw_n300
theorem zqR2_27_E : zy_spl (fun g => zy_en (zp_X12_readsRank, 4, 0, 0) (zX zE_R2_27 2) zqR2_27_e [24] 100000 (zy_B 33 zqR2_27_K [0]) ([eR 0, eC 2] : List EV) zqw_w111 g) [] zqw_g297 = true := by decide +kernel
noncomputable def zqR2_27_f (i : Nat) : Bool := zy_f 33 zp_X12_readsRank (zX zE_R2_27 2) 0 0 zqR2_27_e [24] 100000 zqR2_27_K i
theorem zqR2_27_0 : zy_ch zqR2_27_f 0 7 = true := by decide +kernel
theorem zqR2_27_n : zqR2_27_K.length = 7 := by decide +kernel
noncomputable def zcR2_27 : ECal := zf_cal 230 10 [.inl 0, .inr (0, 9), .inr (0, 17)] [] zqw_p72 [(0, 2), (0, 6), (0, 7), (0, 8), (0, 14), (0, 16), (0, 20), (0, 21), (0, 23), (0, 24), (0, 25), (0, 26), (0, 27), (0, 28), (0, 30), (0, 31), (0, 34), (0, 35), (0, 37), (0, 38), (0, 40), (0, 41), (0, 42), (0, 43), (0, 44), (0, 45), (0, 47), (0, 48), (0, 49)] ([eR 0, eC 2] : List EV) zqw_w111 zqw_g297 zqw_n300
theorem zcR2_27_ok : ZE zcR2_27 197 := ZE.met (n := 2) (es := zqw_n300) (hd := [24]) (F := 100000) (KS := zqR2_27_K) (js := [0]) (sp0 := []) (by decide) zE_R2_27_ok (y0 := 230) (q := (yX12_readsRank, cX12_readsRank, 4, (some .boolean), 12, 0, 0)) rfl ⟨rfl, rfl⟩ (m9 := (zp_X12_readsRank, 4, 0, 0)) rfl rfl (zy_nx_ok (by decide +kernel)) (N2 := 33) (by decide +kernel) (by decide) zqR2_27_E (fun i hi => (show ∀ i, i < 7 → zqR2_27_f i = true from fun i hi => zy_ch_ok zqR2_27_0 i (by omega) (by omega)) i (by have h9 := hi; rw [zqR2_27_n] at h9; exact h9))
noncomputable def zdR2_27 : ECal := zr_w 230 17 11 0 0 false (zr_t 9 zcR2_27)
theorem zdR2_27_ok : ZE zdR2_27 197 := ZE.rd 230 17 9 11 0 0 false (by decide) zcR2_27_ok
noncomputable def zE_R1_27 : ECal := zS_or zdR2_27 (zEp)
theorem zE_R1_27_ok : ZE zE_R1_27 197 := (ZE.or zdR2_27_ok (zEp_ok) (by decide) (by decide) : ZE (zS_or zdR2_27 (zEp)) 197)
noncomputable def zqw_g311 : EG := zqw_g297 ++ [(2147483648, 2147483649), (2147483678, 2147483688), (0, 4294967295), (2147483649, 2147483688), (2147483648, 2147483727), (2147483648, 2147483903)]
noncomputable def zqw_g312 : EG := zqw_g297 ++ [(2147483648, 2147483649), (2147483680, 2147483688), (0, 4294967295), (2147483649, 2147483688), (2147483648, 2147483727), (2147483648, 2147483903)]
noncomputable def zqw_g313 : EG := zqw_g297 ++ [(2147483648, 2147483649), (2147483682, 2147483688), (0, 4294967295), (2147483649, 2147483688), (2147483648, 2147483727), (2147483648, 2147483903)]
noncomputable def zqw_g314 : EG := zqw_g297 ++ [(2147483648, 2147483649), (2147483684, 2147483688), (0, 4294967295), (2147483649, 2147483688), (2147483648, 2147483727), (2147483648, 2147483903)]
noncomputable def zqw_g315 : EG := zqw_g297 ++ [(2147483648, 2147483649), (2147483686, 2147483688), (0, 4294967295), (2147483649, 2147483688), (2147483648, 2147483727), (2147483648, 2147483903)]
noncomputable def zqw_g316 : EG := zqw_g297 ++ [(2147483648, 2147483649), (2147483688, 2147483688), (0, 4294967295), (2147483649, 2147483688), (2147483648, 2147483727), (2147483648, 2147483903)]
noncomputable def zqR1_27_S0 : List ZC := ((16, 24, [], zqw_p135, [eR 0, eC 1, eC 1, eX 1], zqw_w144, zqw_g299), [1], []) :: ((16, 24, [3], zqw_p135, [eR 0, eC 1, eC 1, eU 33], zqw_w169, zqw_g311), [2], []) :: ((16, 24, [3], zqw_p135, [eR 0, eC 1, eC 1, eU 33], zqw_w189, zqw_g312), [3], []) :: ((16, 24, [3], zqw_p135, [eR 0, eC 1, eC 1, eU 33], zqw_w213, zqw_g313), [4], []) :: ((16, 24, [3], zqw_p135, [eR 0, eC 1, eC 1, eU 33], zqw_w241, zqw_g314), [5], []) :: ((16, 24, [3], zqw_p135, [eR 0, eC 1, eC 1, eU 33], zqw_w273, zqw_g315), [6], []) :: ((16, 24, [3], zqw_p135, [eR 0, eC 1, eC 1, eU 33], zqw_w309, zqw_g316), [], []) :: []
noncomputable def zqR1_27_K : List ZC := zqR1_27_S0
noncomputable def zqR1_27_e : ERt := zy_ends 33 zqw_n300
theorem zqR1_27_E : zy_spl (fun g => zy_en (zp_X12_readsRank, 4, 0, 0) (zX zE_R1_27 2) zqR1_27_e [24] 100000 (zy_B 33 zqR1_27_K [0]) ([eR 0, eC 1] : List EV) zqw_w111 g) [] zqw_g297 = true := by decide +kernel
noncomputable def zqR1_27_f (i : Nat) : Bool := zy_f 33 zp_X12_readsRank (zX zE_R1_27 2) 0 0 zqR1_27_e [24] 100000 zqR1_27_K i
theorem zqR1_27_0 : zy_ch zqR1_27_f 0 7 = true := by decide +kernel
theorem zqR1_27_n : zqR1_27_K.length = 7 := by decide +kernel
noncomputable def zcR1_27 : ECal := zf_cal 230 10 [.inl 0, .inr (0, 9), .inr (0, 17)] [] zqw_p72 [(0, 2), (0, 6), (0, 7), (0, 8), (0, 14), (0, 16), (0, 20), (0, 21), (0, 23), (0, 24), (0, 25), (0, 26), (0, 27), (0, 28), (0, 30), (0, 31), (0, 34), (0, 35), (0, 37), (0, 38), (0, 40), (0, 41), (0, 42), (0, 43), (0, 44), (0, 45), (0, 47), (0, 48), (0, 49)] ([eR 0, eC 1] : List EV) zqw_w111 zqw_g297 zqw_n300
theorem zcR1_27_ok : ZE zcR1_27 200 := ZE.met (n := 2) (es := zqw_n300) (hd := [24]) (F := 100000) (KS := zqR1_27_K) (js := [0]) (sp0 := []) (by decide) zE_R1_27_ok (y0 := 230) (q := (yX12_readsRank, cX12_readsRank, 4, (some .boolean), 12, 0, 0)) rfl ⟨rfl, rfl⟩ (m9 := (zp_X12_readsRank, 4, 0, 0)) rfl rfl (zy_nx_ok (by decide +kernel)) (N2 := 33) (by decide +kernel) (by decide) zqR1_27_E (fun i hi => (show ∀ i, i < 7 → zqR1_27_f i = true from fun i hi => zy_ch_ok zqR1_27_0 i (by omega) (by omega)) i (by have h9 := hi; rw [zqR1_27_n] at h9; exact h9))
noncomputable def zdR1_27 : ECal := zr_w 230 17 11 0 0 false (zr_t 9 zcR1_27)
theorem zdR1_27_ok : ZE zdR1_27 200 := ZE.rd 230 17 9 11 0 0 false (by decide) zcR1_27_ok
noncomputable def zE_R0_27 : ECal := zS_or zdR1_27 (zEp)
theorem zE_R0_27_ok : ZE zE_R0_27 200 := (ZE.or zdR1_27_ok (zEp_ok) (by decide) (by decide) : ZE (zS_or zdR1_27 (zEp)) 200)
noncomputable def zqw_g317 : EG := zqw_g297 ++ [(2147483648, 2147483650), (2147483678, 2147483688), (0, 4294967295), (2147483649, 2147483688), (2147483648, 2147483727), (2147483648, 2147483903)]
noncomputable def zqR0_27_S0 : List ZC := ((16, 24, [], zqw_p135, [eR 0, eC 0, eC 1, eX 1], zqw_w144, zqw_g299), [1], []) :: ((16, 24, [3], zqw_p135, [eR 0, eC 0, eC 0, eU 33], zqw_w169, zqw_g317), [], []) :: []
noncomputable def zqR0_27_K : List ZC := zqR0_27_S0
noncomputable def zqR0_27_e : ERt := zy_ends 33 zqw_n300
theorem zqR0_27_E : zy_spl (fun g => zy_en (zp_X12_readsRank, 4, 0, 0) (zX zE_R0_27 2) zqR0_27_e [24] 100000 (zy_B 33 zqR0_27_K [0]) ([eR 0, eC 0] : List EV) zqw_w111 g) [] zqw_g297 = true := by decide +kernel
noncomputable def zqR0_27_f (i : Nat) : Bool := zy_f 33 zp_X12_readsRank (zX zE_R0_27 2) 0 0 zqR0_27_e [24] 100000 zqR0_27_K i
theorem zqR0_27_0 : zy_ch zqR0_27_f 0 2 = true := by decide +kernel
theorem zqR0_27_n : zqR0_27_K.length = 2 := by decide +kernel
noncomputable def zcR0_27 : ECal := zf_cal 230 10 [.inl 0, .inr (0, 9), .inr (0, 17)] [] zqw_p72 [(0, 2), (0, 6), (0, 7), (0, 8), (0, 14), (0, 16), (0, 20), (0, 21), (0, 23), (0, 24), (0, 25), (0, 26), (0, 27), (0, 28), (0, 30), (0, 31), (0, 34), (0, 35), (0, 37), (0, 38), (0, 40), (0, 41), (0, 42), (0, 43), (0, 44), (0, 45), (0, 47), (0, 48), (0, 49)] ([eR 0, eC 0] : List EV) zqw_w111 zqw_g297 zqw_n300
theorem zcR0_27_ok : ZE zcR0_27 203 := ZE.met (n := 2) (es := zqw_n300) (hd := [24]) (F := 100000) (KS := zqR0_27_K) (js := [0]) (sp0 := []) (by decide) zE_R0_27_ok (y0 := 230) (q := (yX12_readsRank, cX12_readsRank, 4, (some .boolean), 12, 0, 0)) rfl ⟨rfl, rfl⟩ (m9 := (zp_X12_readsRank, 4, 0, 0)) rfl rfl (zy_nx_ok (by decide +kernel)) (N2 := 33) (by decide +kernel) (by decide) zqR0_27_E (fun i hi => (show ∀ i, i < 2 → zqR0_27_f i = true from fun i hi => zy_ch_ok zqR0_27_0 i (by omega) (by omega)) i (by have h9 := hi; rw [zqR0_27_n] at h9; exact h9))
noncomputable def zdR0_27 : ECal := zr_w 230 17 11 0 0 false (zr_t 9 zcR0_27)
theorem zdR0_27_ok : ZE zdR0_27 203 := ZE.rd 230 17 9 11 0 0 false (by decide) zcR0_27_ok
noncomputable def zE_G26 : ECal := zS_or zdI27 (zS_or zdR0_27 (zEp))
theorem zE_G26_ok : ZE zE_G26 203 := (ZE.or zdI27_ok ((ZE.or zdR0_27_ok (zEp_ok) (by decide) (by decide) : ZE (zS_or zdR0_27 (zEp)) 203)) (by decide) (by decide) : ZE (zS_or zdI27 (zS_or zdR0_27 (zEp))) 203)
theorem zqG26_E : zy_spl (fun g => zy_en (zp_X12_readsThing, 2, 0, 0) (zX zE_G26 3) (zy_ends 33 zqw_n146) [] 100000 (zy_B 33 [] []) ([eR 0] : List EV) zqw_w111 g) [] (ze_s (2147483674, 2147483674) zqw_g112 18) = true := by decide +kernel
theorem zhG26 : ZH (yX12_readsThing, cX12_readsThing, 2, (some .boolean), 12, 0, 0) 207 ([eR 0] : List EV) zqw_w111 (ze_s (2147483674, 2147483674) zqw_g112 18) zqw_n146 := ZH.met (n := 3) (es := zqw_n146) (hd := []) (F := 100000) (KS := []) (js := []) (sp0 := []) (by decide) zE_G26_ok (y0 := 229) (q := (yX12_readsThing, cX12_readsThing, 2, (some .boolean), 12, 0, 0)) rfl (m9 := (zp_X12_readsThing, 2, 0, 0)) rfl rfl (N2 := 33) (by decide +kernel) (by decide) zqG26_E (fun i hi => absurd (show i < 0 from hi) (Nat.not_lt_zero i))
theorem zhI26 : ZH (yX12_readsThing, cX12_readsThing, 2, (some .boolean), 12, 0, 0) 207 ([eR 0] : List EV) zqw_w111 (ze_s (2147483674, 2147483688) zqw_g112 18) zqw_n146 := ZH.join (m := 2147483674) (by decide +kernel) zhG26 (zhI27.le (by decide))
noncomputable def zcI26 : ECal := zf_cal 229 10 [.inl 0, .inr (0, 9), .inr (0, 17)] [] zqw_p72 [(0, 2), (0, 6), (0, 7), (0, 8), (0, 14), (0, 16), (0, 20), (0, 21), (0, 23), (0, 24), (0, 25), (0, 26), (0, 27), (0, 28), (0, 30), (0, 31), (0, 34), (0, 35), (0, 37), (0, 38), (0, 40), (0, 41), (0, 42), (0, 43), (0, 44), (0, 45), (0, 47), (0, 48), (0, 49)] ([eR 0] : List EV) zqw_w111 (ze_s (2147483674, 2147483688) zqw_g112 18) zqw_n146
theorem zcI26_ok : ZE zcI26 207 := ZH.ze rfl ⟨rfl, rfl⟩ (zy_nx_ok (by decide +kernel)) zhI26
noncomputable def zdI26 : ECal := zr_w 229 17 11 0 0 false (zr_t 9 zcI26)
theorem zdI26_ok : ZE zdI26 207 := ZE.rd 229 17 9 11 0 0 false (by decide) zcI26_ok
noncomputable def zE_R2_26 : ECal := zS_or zdI26 (zEp)
theorem zE_R2_26_ok : ZE zE_R2_26 207 := (ZE.or zdI26_ok (zEp_ok) (by decide) (by decide) : ZE (zS_or zdI26 (zEp)) 207)
def zqw_g318 : EG := [(0, 4294967295), (0, 4294967295), (0, 4294967295), (0, 4294967295), (0, 4294967295), (0, 4294967295), (0, 4294967295), (0, 4294967295), (0, 4294967295), (0, 4294967295), (2147483648, 2147483649), (2147483648, 2147483672), (2147483648, 2147483653), (2147483648, 2147483653), (0, 4294967295), (2147483648, 2147483727), (2147483648, 2147483903), (2147483648, 2147483728), (2147483674, 2147483688), (2147483648, 2147483688), (0, 4294967295), (2147483648, 2147483653), (2147483648, 4294967295), (2147483648, 4294967295), (2147483648, 2147483688), (2147483648, 2147483688), (2147483648, 2147483663), (2147483648, 2147483708), (0, 4294967295), (2147483648, 2147483658), (2147483648, 2147483660), (2147483648, 2147483658), (0, 4294967295)]
noncomputable def zqw_g319 : EG := zqw_g318 ++ [(2147483674, 2147483688), (0, 4294967295), (2147483648, 2147483688), (2147483648, 2147483727), (2147483648, 2147483903)]
noncomputable def zqw_g320 : EG := zqw_g318 ++ [(2147483675, 2147483688), (0, 4294967295), (2147483649, 2147483688), (2147483648, 2147483727), (2147483648, 2147483903)]
noncomputable def zqw_n321 : List ZN := [(some (eC 0), [], zqw_p135, zqw_w140, zqw_g319), (some (eC 1), [], zqw_p135, zqw_w144, zqw_g320)]
noncomputable def zqw_g322 : EG := zqw_g318 ++ [(2147483675, 2147483688), (0, 4294967295), (2147483649, 2147483688), (2147483648, 2147483688), (2147483648, 2147483903)]
noncomputable def zqw_g323 : EG := zqw_g318 ++ [(2147483648, 2147483649), (2147483677, 2147483688), (0, 4294967295), (2147483649, 2147483688), (2147483648, 2147483688), (2147483648, 2147483903)]
noncomputable def zqw_g324 : EG := zqw_g318 ++ [(2147483648, 2147483649), (2147483679, 2147483688), (0, 4294967295), (2147483649, 2147483688), (2147483648, 2147483688), (2147483648, 2147483903)]
noncomputable def zqw_g325 : EG := zqw_g318 ++ [(2147483648, 2147483649), (2147483681, 2147483688), (0, 4294967295), (2147483649, 2147483688), (2147483648, 2147483688), (2147483648, 2147483903)]
noncomputable def zqw_g326 : EG := zqw_g318 ++ [(2147483648, 2147483649), (2147483683, 2147483688), (0, 4294967295), (2147483649, 2147483688), (2147483648, 2147483688), (2147483648, 2147483903)]
noncomputable def zqw_g327 : EG := zqw_g318 ++ [(2147483648, 2147483649), (2147483685, 2147483688), (0, 4294967295), (2147483649, 2147483688), (2147483648, 2147483688), (2147483648, 2147483903)]
noncomputable def zqw_g328 : EG := zqw_g318 ++ [(2147483648, 2147483649), (2147483687, 2147483688), (0, 4294967295), (2147483649, 2147483688), (2147483648, 2147483688), (2147483648, 2147483903)]
noncomputable def zqR2_26_S0 : List ZC := ((16, 24, [], zqw_p135, [eR 0, eC 2, eC 1, eX 1], zqw_w144, zqw_g322), [1], []) :: ((16, 24, [3], zqw_p135, [eR 0, eC 2, eC 1, eU 33], zqw_w169, zqw_g323), [2], []) :: ((16, 24, [3], zqw_p135, [eR 0, eC 2, eC 1, eU 33], zqw_w189, zqw_g324), [3], []) :: ((16, 24, [3], zqw_p135, [eR 0, eC 2, eC 1, eU 33], zqw_w213, zqw_g325), [4], []) :: ((16, 24, [3], zqw_p135, [eR 0, eC 2, eC 1, eU 33], zqw_w241, zqw_g326), [5], []) :: ((16, 24, [3], zqw_p135, [eR 0, eC 2, eC 1, eU 33], zqw_w273, zqw_g327), [6], []) :: ((16, 24, [3], zqw_p135, [eR 0, eC 2, eC 1, eU 33], zqw_w309, zqw_g328), [], []) :: []
noncomputable def zqR2_26_K : List ZC := zqR2_26_S0
noncomputable def zqR2_26_e : ERt := zy_ends 33 zqw_n321
theorem zqR2_26_E : zy_spl (fun g => zy_en (zp_X12_readsRank, 4, 0, 0) (zX zE_R2_26 2) zqR2_26_e [24] 100000 (zy_B 33 zqR2_26_K [0]) ([eR 0, eC 2] : List EV) zqw_w111 g) [] zqw_g318 = true := by decide +kernel
noncomputable def zqR2_26_f (i : Nat) : Bool := zy_f 33 zp_X12_readsRank (zX zE_R2_26 2) 0 0 zqR2_26_e [24] 100000 zqR2_26_K i
theorem zqR2_26_0 : zy_ch zqR2_26_f 0 7 = true := by decide +kernel
theorem zqR2_26_n : zqR2_26_K.length = 7 := by decide +kernel
noncomputable def zcR2_26 : ECal := zf_cal 230 10 [.inl 0, .inr (0, 9), .inr (0, 17)] [] zqw_p72 [(0, 2), (0, 6), (0, 7), (0, 8), (0, 14), (0, 16), (0, 20), (0, 21), (0, 23), (0, 24), (0, 25), (0, 26), (0, 27), (0, 28), (0, 30), (0, 31), (0, 34), (0, 35), (0, 37), (0, 38), (0, 40), (0, 41), (0, 42), (0, 43), (0, 44), (0, 45), (0, 47), (0, 48), (0, 49)] ([eR 0, eC 2] : List EV) zqw_w111 zqw_g318 zqw_n321
theorem zcR2_26_ok : ZE zcR2_26 210 := ZE.met (n := 2) (es := zqw_n321) (hd := [24]) (F := 100000) (KS := zqR2_26_K) (js := [0]) (sp0 := []) (by decide) zE_R2_26_ok (y0 := 230) (q := (yX12_readsRank, cX12_readsRank, 4, (some .boolean), 12, 0, 0)) rfl ⟨rfl, rfl⟩ (m9 := (zp_X12_readsRank, 4, 0, 0)) rfl rfl (zy_nx_ok (by decide +kernel)) (N2 := 33) (by decide +kernel) (by decide) zqR2_26_E (fun i hi => (show ∀ i, i < 7 → zqR2_26_f i = true from fun i hi => zy_ch_ok zqR2_26_0 i (by omega) (by omega)) i (by have h9 := hi; rw [zqR2_26_n] at h9; exact h9))
noncomputable def zdR2_26 : ECal := zr_w 230 17 11 0 0 false (zr_t 9 zcR2_26)
theorem zdR2_26_ok : ZE zdR2_26 210 := ZE.rd 230 17 9 11 0 0 false (by decide) zcR2_26_ok
noncomputable def zE_R1_26 : ECal := zS_or zdR2_26 (zEp)
theorem zE_R1_26_ok : ZE zE_R1_26 210 := (ZE.or zdR2_26_ok (zEp_ok) (by decide) (by decide) : ZE (zS_or zdR2_26 (zEp)) 210)
noncomputable def zqw_g329 : EG := zqw_g318 ++ [(2147483648, 2147483649), (2147483677, 2147483688), (0, 4294967295), (2147483649, 2147483688), (2147483648, 2147483727), (2147483648, 2147483903)]
noncomputable def zqw_g330 : EG := zqw_g318 ++ [(2147483648, 2147483649), (2147483679, 2147483688), (0, 4294967295), (2147483649, 2147483688), (2147483648, 2147483727), (2147483648, 2147483903)]
noncomputable def zqw_g331 : EG := zqw_g318 ++ [(2147483648, 2147483649), (2147483681, 2147483688), (0, 4294967295), (2147483649, 2147483688), (2147483648, 2147483727), (2147483648, 2147483903)]
noncomputable def zqw_g332 : EG := zqw_g318 ++ [(2147483648, 2147483649), (2147483683, 2147483688), (0, 4294967295), (2147483649, 2147483688), (2147483648, 2147483727), (2147483648, 2147483903)]
noncomputable def zqw_g333 : EG := zqw_g318 ++ [(2147483648, 2147483649), (2147483685, 2147483688), (0, 4294967295), (2147483649, 2147483688), (2147483648, 2147483727), (2147483648, 2147483903)]
noncomputable def zqw_g334 : EG := zqw_g318 ++ [(2147483648, 2147483649), (2147483687, 2147483688), (0, 4294967295), (2147483649, 2147483688), (2147483648, 2147483727), (2147483648, 2147483903)]
noncomputable def zqR1_26_S0 : List ZC := ((16, 24, [], zqw_p135, [eR 0, eC 1, eC 1, eX 1], zqw_w144, zqw_g320), [1], []) :: ((16, 24, [3], zqw_p135, [eR 0, eC 1, eC 1, eU 33], zqw_w169, zqw_g329), [2], []) :: ((16, 24, [3], zqw_p135, [eR 0, eC 1, eC 1, eU 33], zqw_w189, zqw_g330), [3], []) :: ((16, 24, [3], zqw_p135, [eR 0, eC 1, eC 1, eU 33], zqw_w213, zqw_g331), [4], []) :: ((16, 24, [3], zqw_p135, [eR 0, eC 1, eC 1, eU 33], zqw_w241, zqw_g332), [5], []) :: ((16, 24, [3], zqw_p135, [eR 0, eC 1, eC 1, eU 33], zqw_w273, zqw_g333), [6], []) :: ((16, 24, [3], zqw_p135, [eR 0, eC 1, eC 1, eU 33], zqw_w309, zqw_g334), [], []) :: []
noncomputable def zqR1_26_K : List ZC := zqR1_26_S0
noncomputable def zqR1_26_e : ERt := zy_ends 33 zqw_n321
theorem zqR1_26_E : zy_spl (fun g => zy_en (zp_X12_readsRank, 4, 0, 0) (zX zE_R1_26 2) zqR1_26_e [24] 100000 (zy_B 33 zqR1_26_K [0]) ([eR 0, eC 1] : List EV) zqw_w111 g) [] zqw_g318 = true := by decide +kernel
noncomputable def zqR1_26_f (i : Nat) : Bool := zy_f 33 zp_X12_readsRank (zX zE_R1_26 2) 0 0 zqR1_26_e [24] 100000 zqR1_26_K i
theorem zqR1_26_0 : zy_ch zqR1_26_f 0 7 = true := by decide +kernel
theorem zqR1_26_n : zqR1_26_K.length = 7 := by decide +kernel
noncomputable def zcR1_26 : ECal := zf_cal 230 10 [.inl 0, .inr (0, 9), .inr (0, 17)] [] zqw_p72 [(0, 2), (0, 6), (0, 7), (0, 8), (0, 14), (0, 16), (0, 20), (0, 21), (0, 23), (0, 24), (0, 25), (0, 26), (0, 27), (0, 28), (0, 30), (0, 31), (0, 34), (0, 35), (0, 37), (0, 38), (0, 40), (0, 41), (0, 42), (0, 43), (0, 44), (0, 45), (0, 47), (0, 48), (0, 49)] ([eR 0, eC 1] : List EV) zqw_w111 zqw_g318 zqw_n321
theorem zcR1_26_ok : ZE zcR1_26 213 := ZE.met (n := 2) (es := zqw_n321) (hd := [24]) (F := 100000) (KS := zqR1_26_K) (js := [0]) (sp0 := []) (by decide) zE_R1_26_ok (y0 := 230) (q := (yX12_readsRank, cX12_readsRank, 4, (some .boolean), 12, 0, 0)) rfl ⟨rfl, rfl⟩ (m9 := (zp_X12_readsRank, 4, 0, 0)) rfl rfl (zy_nx_ok (by decide +kernel)) (N2 := 33) (by decide +kernel) (by decide) zqR1_26_E (fun i hi => (show ∀ i, i < 7 → zqR1_26_f i = true from fun i hi => zy_ch_ok zqR1_26_0 i (by omega) (by omega)) i (by have h9 := hi; rw [zqR1_26_n] at h9; exact h9))
noncomputable def zdR1_26 : ECal := zr_w 230 17 11 0 0 false (zr_t 9 zcR1_26)
theorem zdR1_26_ok : ZE zdR1_26 213 := ZE.rd 230 17 9 11 0 0 false (by decide) zcR1_26_ok
noncomputable def zE_R0_26 : ECal := zS_or zdR1_26 (zEp)
theorem zE_R0_26_ok : ZE zE_R0_26 213 := (ZE.or zdR1_26_ok (zEp_ok) (by decide) (by decide) : ZE (zS_or zdR1_26 (zEp)) 213)
noncomputable def zqw_g335 : EG := zqw_g318 ++ [(2147483648, 2147483650), (2147483677, 2147483688), (0, 4294967295), (2147483649, 2147483688), (2147483648, 2147483727), (2147483648, 2147483903)]
noncomputable def zqR0_26_S0 : List ZC := ((16, 24, [], zqw_p135, [eR 0, eC 0, eC 1, eX 1], zqw_w144, zqw_g320), [1], []) :: ((16, 24, [3], zqw_p135, [eR 0, eC 0, eC 0, eU 33], zqw_w169, zqw_g335), [], []) :: []
noncomputable def zqR0_26_K : List ZC := zqR0_26_S0
noncomputable def zqR0_26_e : ERt := zy_ends 33 zqw_n321
theorem zqR0_26_E : zy_spl (fun g => zy_en (zp_X12_readsRank, 4, 0, 0) (zX zE_R0_26 2) zqR0_26_e [24] 100000 (zy_B 33 zqR0_26_K [0]) ([eR 0, eC 0] : List EV) zqw_w111 g) [] zqw_g318 = true := by decide +kernel
noncomputable def zqR0_26_f (i : Nat) : Bool := zy_f 33 zp_X12_readsRank (zX zE_R0_26 2) 0 0 zqR0_26_e [24] 100000 zqR0_26_K i
theorem zqR0_26_0 : zy_ch zqR0_26_f 0 2 = true := by decide +kernel
theorem zqR0_26_n : zqR0_26_K.length = 2 := by decide +kernel
noncomputable def zcR0_26 : ECal := zf_cal 230 10 [.inl 0, .inr (0, 9), .inr (0, 17)] [] zqw_p72 [(0, 2), (0, 6), (0, 7), (0, 8), (0, 14), (0, 16), (0, 20), (0, 21), (0, 23), (0, 24), (0, 25), (0, 26), (0, 27), (0, 28), (0, 30), (0, 31), (0, 34), (0, 35), (0, 37), (0, 38), (0, 40), (0, 41), (0, 42), (0, 43), (0, 44), (0, 45), (0, 47), (0, 48), (0, 49)] ([eR 0, eC 0] : List EV) zqw_w111 zqw_g318 zqw_n321
theorem zcR0_26_ok : ZE zcR0_26 216 := ZE.met (n := 2) (es := zqw_n321) (hd := [24]) (F := 100000) (KS := zqR0_26_K) (js := [0]) (sp0 := []) (by decide) zE_R0_26_ok (y0 := 230) (q := (yX12_readsRank, cX12_readsRank, 4, (some .boolean), 12, 0, 0)) rfl ⟨rfl, rfl⟩ (m9 := (zp_X12_readsRank, 4, 0, 0)) rfl rfl (zy_nx_ok (by decide +kernel)) (N2 := 33) (by decide +kernel) (by decide) zqR0_26_E (fun i hi => (show ∀ i, i < 2 → zqR0_26_f i = true from fun i hi => zy_ch_ok zqR0_26_0 i (by omega) (by omega)) i (by have h9 := hi; rw [zqR0_26_n] at h9; exact h9))
noncomputable def zdR0_26 : ECal := zr_w 230 17 11 0 0 false (zr_t 9 zcR0_26)
theorem zdR0_26_ok : ZE zdR0_26 216 := ZE.rd 230 17 9 11 0 0 false (by decide) zcR0_26_ok
noncomputable def zE_G25 : ECal := zS_or zdI26 (zS_or zdR0_26 (zEp))
theorem zE_G25_ok : ZE zE_G25 216 := (ZE.or zdI26_ok ((ZE.or zdR0_26_ok (zEp_ok) (by decide) (by decide) : ZE (zS_or zdR0_26 (zEp)) 216)) (by decide) (by decide) : ZE (zS_or zdI26 (zS_or zdR0_26 (zEp))) 216)
theorem zqG25_E : zy_spl (fun g => zy_en (zp_X12_readsThing, 2, 0, 0) (zX zE_G25 3) (zy_ends 33 zqw_n146) [] 100000 (zy_B 33 [] []) ([eR 0] : List EV) zqw_w111 g) [] (ze_s (2147483673, 2147483673) zqw_g112 18) = true := by decide +kernel
theorem zhG25 : ZH (yX12_readsThing, cX12_readsThing, 2, (some .boolean), 12, 0, 0) 220 ([eR 0] : List EV) zqw_w111 (ze_s (2147483673, 2147483673) zqw_g112 18) zqw_n146 := ZH.met (n := 3) (es := zqw_n146) (hd := []) (F := 100000) (KS := []) (js := []) (sp0 := []) (by decide) zE_G25_ok (y0 := 229) (q := (yX12_readsThing, cX12_readsThing, 2, (some .boolean), 12, 0, 0)) rfl (m9 := (zp_X12_readsThing, 2, 0, 0)) rfl rfl (N2 := 33) (by decide +kernel) (by decide) zqG25_E (fun i hi => absurd (show i < 0 from hi) (Nat.not_lt_zero i))
theorem zhI25 : ZH (yX12_readsThing, cX12_readsThing, 2, (some .boolean), 12, 0, 0) 220 ([eR 0] : List EV) zqw_w111 (ze_s (2147483673, 2147483688) zqw_g112 18) zqw_n146 := ZH.join (m := 2147483673) (by decide +kernel) zhG25 (zhI26.le (by decide))
noncomputable def zcI25 : ECal := zf_cal 229 10 [.inl 0, .inr (0, 9), .inr (0, 17)] [] zqw_p72 [(0, 2), (0, 6), (0, 7), (0, 8), (0, 14), (0, 16), (0, 20), (0, 21), (0, 23), (0, 24), (0, 25), (0, 26), (0, 27), (0, 28), (0, 30), (0, 31), (0, 34), (0, 35), (0, 37), (0, 38), (0, 40), (0, 41), (0, 42), (0, 43), (0, 44), (0, 45), (0, 47), (0, 48), (0, 49)] ([eR 0] : List EV) zqw_w111 (ze_s (2147483673, 2147483688) zqw_g112 18) zqw_n146
theorem zcI25_ok : ZE zcI25 220 := ZH.ze rfl ⟨rfl, rfl⟩ (zy_nx_ok (by decide +kernel)) zhI25
noncomputable def zdI25 : ECal := zr_w 229 17 11 0 0 false (zr_t 9 zcI25)
theorem zdI25_ok : ZE zdI25 220 := ZE.rd 229 17 9 11 0 0 false (by decide) zcI25_ok
noncomputable def zE_R2_25 : ECal := zS_or zdI25 (zEp)
theorem zE_R2_25_ok : ZE zE_R2_25 220 := (ZE.or zdI25_ok (zEp_ok) (by decide) (by decide) : ZE (zS_or zdI25 (zEp)) 220)
def zqw_g336 : EG := [(0, 4294967295), (0, 4294967295), (0, 4294967295), (0, 4294967295), (0, 4294967295), (0, 4294967295), (0, 4294967295), (0, 4294967295), (0, 4294967295), (0, 4294967295), (2147483648, 2147483649), (2147483648, 2147483672), (2147483648, 2147483653), (2147483648, 2147483653), (0, 4294967295), (2147483648, 2147483727), (2147483648, 2147483903), (2147483648, 2147483728), (2147483673, 2147483688), (2147483648, 2147483688), (0, 4294967295), (2147483648, 2147483653), (2147483648, 4294967295), (2147483648, 4294967295), (2147483648, 2147483688), (2147483648, 2147483688), (2147483648, 2147483663), (2147483648, 2147483708), (0, 4294967295), (2147483648, 2147483658), (2147483648, 2147483660), (2147483648, 2147483658), (0, 4294967295)]
noncomputable def zqw_g337 : EG := zqw_g336 ++ [(2147483673, 2147483688), (0, 4294967295), (2147483648, 2147483688), (2147483648, 2147483727), (2147483648, 2147483903)]
noncomputable def zqw_g338 : EG := zqw_g336 ++ [(2147483674, 2147483688), (0, 4294967295), (2147483649, 2147483688), (2147483648, 2147483727), (2147483648, 2147483903)]
noncomputable def zqw_n339 : List ZN := [(some (eC 0), [], zqw_p135, zqw_w140, zqw_g337), (some (eC 1), [], zqw_p135, zqw_w144, zqw_g338)]
noncomputable def zqw_g340 : EG := zqw_g336 ++ [(2147483674, 2147483688), (0, 4294967295), (2147483649, 2147483688), (2147483648, 2147483688), (2147483648, 2147483903)]
noncomputable def zqw_g341 : EG := zqw_g336 ++ [(2147483648, 2147483649), (2147483676, 2147483688), (0, 4294967295), (2147483649, 2147483688), (2147483648, 2147483688), (2147483648, 2147483903)]
noncomputable def zqw_g342 : EG := zqw_g336 ++ [(2147483648, 2147483649), (2147483678, 2147483688), (0, 4294967295), (2147483649, 2147483688), (2147483648, 2147483688), (2147483648, 2147483903)]
noncomputable def zqw_g343 : EG := zqw_g336 ++ [(2147483648, 2147483649), (2147483680, 2147483688), (0, 4294967295), (2147483649, 2147483688), (2147483648, 2147483688), (2147483648, 2147483903)]
noncomputable def zqw_g344 : EG := zqw_g336 ++ [(2147483648, 2147483649), (2147483682, 2147483688), (0, 4294967295), (2147483649, 2147483688), (2147483648, 2147483688), (2147483648, 2147483903)]
noncomputable def zqw_g345 : EG := zqw_g336 ++ [(2147483648, 2147483649), (2147483684, 2147483688), (0, 4294967295), (2147483649, 2147483688), (2147483648, 2147483688), (2147483648, 2147483903)]
noncomputable def zqw_g346 : EG := zqw_g336 ++ [(2147483648, 2147483649), (2147483686, 2147483688), (0, 4294967295), (2147483649, 2147483688), (2147483648, 2147483688), (2147483648, 2147483903)]
noncomputable def zqw_e347 : EC := (1301, [eU 22, eC 1, eU 36, eU 23, eC 0, eU 34, eU 18, eC 15])
noncomputable def zqw_c348 : List EC := [zqw_e165, zqw_e166, zqw_e347]
noncomputable def zqw_w349 : EW := (3, [zqw_c348])
noncomputable def zqw_g350 : EG := zqw_g336 ++ [(2147483648, 2147483649), (2147483688, 2147483688), (0, 4294967295), (2147483649, 2147483688), (2147483648, 2147483688), (2147483648, 2147483903)]
noncomputable def zqR2_25_S0 : List ZC := ((16, 24, [], zqw_p135, [eR 0, eC 2, eC 1, eX 1], zqw_w144, zqw_g340), [1], []) :: ((16, 24, [3], zqw_p135, [eR 0, eC 2, eC 1, eU 33], zqw_w169, zqw_g341), [2], []) :: ((16, 24, [3], zqw_p135, [eR 0, eC 2, eC 1, eU 33], zqw_w189, zqw_g342), [3], []) :: ((16, 24, [3], zqw_p135, [eR 0, eC 2, eC 1, eU 33], zqw_w213, zqw_g343), [4], []) :: ((16, 24, [3], zqw_p135, [eR 0, eC 2, eC 1, eU 33], zqw_w241, zqw_g344), [5], []) :: ((16, 24, [3], zqw_p135, [eR 0, eC 2, eC 1, eU 33], zqw_w273, zqw_g345), [6], []) :: ((16, 24, [3], zqw_p135, [eR 0, eC 2, eC 1, eU 33], zqw_w309, zqw_g346), [7], []) :: ((16, 24, [3], zqw_p135, [eR 0, eC 2, eC 1, eU 33], zqw_w349, zqw_g350), [], []) :: []
noncomputable def zqR2_25_K : List ZC := zqR2_25_S0
noncomputable def zqR2_25_e : ERt := zy_ends 33 zqw_n339
theorem zqR2_25_E : zy_spl (fun g => zy_en (zp_X12_readsRank, 4, 0, 0) (zX zE_R2_25 2) zqR2_25_e [24] 100000 (zy_B 33 zqR2_25_K [0]) ([eR 0, eC 2] : List EV) zqw_w111 g) [] zqw_g336 = true := by decide +kernel
noncomputable def zqR2_25_f (i : Nat) : Bool := zy_f 33 zp_X12_readsRank (zX zE_R2_25 2) 0 0 zqR2_25_e [24] 100000 zqR2_25_K i
theorem zqR2_25_0 : zy_ch zqR2_25_f 0 8 = true := by decide +kernel
theorem zqR2_25_n : zqR2_25_K.length = 8 := by decide +kernel
noncomputable def zcR2_25 : ECal := zf_cal 230 10 [.inl 0, .inr (0, 9), .inr (0, 17)] [] zqw_p72 [(0, 2), (0, 6), (0, 7), (0, 8), (0, 14), (0, 16), (0, 20), (0, 21), (0, 23), (0, 24), (0, 25), (0, 26), (0, 27), (0, 28), (0, 30), (0, 31), (0, 34), (0, 35), (0, 37), (0, 38), (0, 40), (0, 41), (0, 42), (0, 43), (0, 44), (0, 45), (0, 47), (0, 48), (0, 49)] ([eR 0, eC 2] : List EV) zqw_w111 zqw_g336 zqw_n339
theorem zcR2_25_ok : ZE zcR2_25 223 := ZE.met (n := 2) (es := zqw_n339) (hd := [24]) (F := 100000) (KS := zqR2_25_K) (js := [0]) (sp0 := []) (by decide) zE_R2_25_ok (y0 := 230) (q := (yX12_readsRank, cX12_readsRank, 4, (some .boolean), 12, 0, 0)) rfl ⟨rfl, rfl⟩ (m9 := (zp_X12_readsRank, 4, 0, 0)) rfl rfl (zy_nx_ok (by decide +kernel)) (N2 := 33) (by decide +kernel) (by decide) zqR2_25_E (fun i hi => (show ∀ i, i < 8 → zqR2_25_f i = true from fun i hi => zy_ch_ok zqR2_25_0 i (by omega) (by omega)) i (by have h9 := hi; rw [zqR2_25_n] at h9; exact h9))
noncomputable def zdR2_25 : ECal := zr_w 230 17 11 0 0 false (zr_t 9 zcR2_25)
theorem zdR2_25_ok : ZE zdR2_25 223 := ZE.rd 230 17 9 11 0 0 false (by decide) zcR2_25_ok
noncomputable def zE_R1_25 : ECal := zS_or zdR2_25 (zEp)
theorem zE_R1_25_ok : ZE zE_R1_25 223 := (ZE.or zdR2_25_ok (zEp_ok) (by decide) (by decide) : ZE (zS_or zdR2_25 (zEp)) 223)
noncomputable def zqw_g351 : EG := zqw_g336 ++ [(2147483648, 2147483649), (2147483676, 2147483688), (0, 4294967295), (2147483649, 2147483688), (2147483648, 2147483727), (2147483648, 2147483903)]
noncomputable def zqw_g352 : EG := zqw_g336 ++ [(2147483648, 2147483649), (2147483678, 2147483688), (0, 4294967295), (2147483649, 2147483688), (2147483648, 2147483727), (2147483648, 2147483903)]
noncomputable def zqw_g353 : EG := zqw_g336 ++ [(2147483648, 2147483649), (2147483680, 2147483688), (0, 4294967295), (2147483649, 2147483688), (2147483648, 2147483727), (2147483648, 2147483903)]
noncomputable def zqw_g354 : EG := zqw_g336 ++ [(2147483648, 2147483649), (2147483682, 2147483688), (0, 4294967295), (2147483649, 2147483688), (2147483648, 2147483727), (2147483648, 2147483903)]
noncomputable def zqw_g355 : EG := zqw_g336 ++ [(2147483648, 2147483649), (2147483684, 2147483688), (0, 4294967295), (2147483649, 2147483688), (2147483648, 2147483727), (2147483648, 2147483903)]
noncomputable def zqw_g356 : EG := zqw_g336 ++ [(2147483648, 2147483649), (2147483686, 2147483688), (0, 4294967295), (2147483649, 2147483688), (2147483648, 2147483727), (2147483648, 2147483903)]
noncomputable def zqw_g357 : EG := zqw_g336 ++ [(2147483648, 2147483649), (2147483688, 2147483688), (0, 4294967295), (2147483649, 2147483688), (2147483648, 2147483727), (2147483648, 2147483903)]
noncomputable def zqR1_25_S0 : List ZC := ((16, 24, [], zqw_p135, [eR 0, eC 1, eC 1, eX 1], zqw_w144, zqw_g338), [1], []) :: ((16, 24, [3], zqw_p135, [eR 0, eC 1, eC 1, eU 33], zqw_w169, zqw_g351), [2], []) :: ((16, 24, [3], zqw_p135, [eR 0, eC 1, eC 1, eU 33], zqw_w189, zqw_g352), [3], []) :: ((16, 24, [3], zqw_p135, [eR 0, eC 1, eC 1, eU 33], zqw_w213, zqw_g353), [4], []) :: ((16, 24, [3], zqw_p135, [eR 0, eC 1, eC 1, eU 33], zqw_w241, zqw_g354), [5], []) :: ((16, 24, [3], zqw_p135, [eR 0, eC 1, eC 1, eU 33], zqw_w273, zqw_g355), [6], []) :: ((16, 24, [3], zqw_p135, [eR 0, eC 1, eC 1, eU 33], zqw_w309, zqw_g356), [7], []) :: ((16, 24, [3], zqw_p135, [eR 0, eC 1, eC 1, eU 33], zqw_w349, zqw_g357), [], []) :: []
noncomputable def zqR1_25_K : List ZC := zqR1_25_S0
noncomputable def zqR1_25_e : ERt := zy_ends 33 zqw_n339
theorem zqR1_25_E : zy_spl (fun g => zy_en (zp_X12_readsRank, 4, 0, 0) (zX zE_R1_25 2) zqR1_25_e [24] 100000 (zy_B 33 zqR1_25_K [0]) ([eR 0, eC 1] : List EV) zqw_w111 g) [] zqw_g336 = true := by decide +kernel
noncomputable def zqR1_25_f (i : Nat) : Bool := zy_f 33 zp_X12_readsRank (zX zE_R1_25 2) 0 0 zqR1_25_e [24] 100000 zqR1_25_K i
theorem zqR1_25_0 : zy_ch zqR1_25_f 0 8 = true := by decide +kernel
theorem zqR1_25_n : zqR1_25_K.length = 8 := by decide +kernel
noncomputable def zcR1_25 : ECal := zf_cal 230 10 [.inl 0, .inr (0, 9), .inr (0, 17)] [] zqw_p72 [(0, 2), (0, 6), (0, 7), (0, 8), (0, 14), (0, 16), (0, 20), (0, 21), (0, 23), (0, 24), (0, 25), (0, 26), (0, 27), (0, 28), (0, 30), (0, 31), (0, 34), (0, 35), (0, 37), (0, 38), (0, 40), (0, 41), (0, 42), (0, 43), (0, 44), (0, 45), (0, 47), (0, 48), (0, 49)] ([eR 0, eC 1] : List EV) zqw_w111 zqw_g336 zqw_n339
theorem zcR1_25_ok : ZE zcR1_25 226 := ZE.met (n := 2) (es := zqw_n339) (hd := [24]) (F := 100000) (KS := zqR1_25_K) (js := [0]) (sp0 := []) (by decide) zE_R1_25_ok (y0 := 230) (q := (yX12_readsRank, cX12_readsRank, 4, (some .boolean), 12, 0, 0)) rfl ⟨rfl, rfl⟩ (m9 := (zp_X12_readsRank, 4, 0, 0)) rfl rfl (zy_nx_ok (by decide +kernel)) (N2 := 33) (by decide +kernel) (by decide) zqR1_25_E (fun i hi => (show ∀ i, i < 8 → zqR1_25_f i = true from fun i hi => zy_ch_ok zqR1_25_0 i (by omega) (by omega)) i (by have h9 := hi; rw [zqR1_25_n] at h9; exact h9))
noncomputable def zdR1_25 : ECal := zr_w 230 17 11 0 0 false (zr_t 9 zcR1_25)
theorem zdR1_25_ok : ZE zdR1_25 226 := ZE.rd 230 17 9 11 0 0 false (by decide) zcR1_25_ok
noncomputable def zE_R0_25 : ECal := zS_or zdR1_25 (zEp)
theorem zE_R0_25_ok : ZE zE_R0_25 226 := (ZE.or zdR1_25_ok (zEp_ok) (by decide) (by decide) : ZE (zS_or zdR1_25 (zEp)) 226)
noncomputable def zqw_g358 : EG := zqw_g336 ++ [(2147483648, 2147483650), (2147483676, 2147483688), (0, 4294967295), (2147483649, 2147483688), (2147483648, 2147483727), (2147483648, 2147483903)]
noncomputable def zqR0_25_S0 : List ZC := ((16, 24, [], zqw_p135, [eR 0, eC 0, eC 1, eX 1], zqw_w144, zqw_g338), [1], []) :: ((16, 24, [3], zqw_p135, [eR 0, eC 0, eC 0, eU 33], zqw_w169, zqw_g358), [], []) :: []
noncomputable def zqR0_25_K : List ZC := zqR0_25_S0
noncomputable def zqR0_25_e : ERt := zy_ends 33 zqw_n339
theorem zqR0_25_E : zy_spl (fun g => zy_en (zp_X12_readsRank, 4, 0, 0) (zX zE_R0_25 2) zqR0_25_e [24] 100000 (zy_B 33 zqR0_25_K [0]) ([eR 0, eC 0] : List EV) zqw_w111 g) [] zqw_g336 = true := by decide +kernel
noncomputable def zqR0_25_f (i : Nat) : Bool := zy_f 33 zp_X12_readsRank (zX zE_R0_25 2) 0 0 zqR0_25_e [24] 100000 zqR0_25_K i
theorem zqR0_25_0 : zy_ch zqR0_25_f 0 2 = true := by decide +kernel
theorem zqR0_25_n : zqR0_25_K.length = 2 := by decide +kernel
noncomputable def zcR0_25 : ECal := zf_cal 230 10 [.inl 0, .inr (0, 9), .inr (0, 17)] [] zqw_p72 [(0, 2), (0, 6), (0, 7), (0, 8), (0, 14), (0, 16), (0, 20), (0, 21), (0, 23), (0, 24), (0, 25), (0, 26), (0, 27), (0, 28), (0, 30), (0, 31), (0, 34), (0, 35), (0, 37), (0, 38), (0, 40), (0, 41), (0, 42), (0, 43), (0, 44), (0, 45), (0, 47), (0, 48), (0, 49)] ([eR 0, eC 0] : List EV) zqw_w111 zqw_g336 zqw_n339
theorem zcR0_25_ok : ZE zcR0_25 229 := ZE.met (n := 2) (es := zqw_n339) (hd := [24]) (F := 100000) (KS := zqR0_25_K) (js := [0]) (sp0 := []) (by decide) zE_R0_25_ok (y0 := 230) (q := (yX12_readsRank, cX12_readsRank, 4, (some .boolean), 12, 0, 0)) rfl ⟨rfl, rfl⟩ (m9 := (zp_X12_readsRank, 4, 0, 0)) rfl rfl (zy_nx_ok (by decide +kernel)) (N2 := 33) (by decide +kernel) (by decide) zqR0_25_E (fun i hi => (show ∀ i, i < 2 → zqR0_25_f i = true from fun i hi => zy_ch_ok zqR0_25_0 i (by omega) (by omega)) i (by have h9 := hi; rw [zqR0_25_n] at h9; exact h9))
noncomputable def zdR0_25 : ECal := zr_w 230 17 11 0 0 false (zr_t 9 zcR0_25)
theorem zdR0_25_ok : ZE zdR0_25 229 := ZE.rd 230 17 9 11 0 0 false (by decide) zcR0_25_ok
noncomputable def zE_G24 : ECal := zS_or zdI25 (zS_or zdR0_25 (zEp))
theorem zE_G24_ok : ZE zE_G24 229 := (ZE.or zdI25_ok ((ZE.or zdR0_25_ok (zEp_ok) (by decide) (by decide) : ZE (zS_or zdR0_25 (zEp)) 229)) (by decide) (by decide) : ZE (zS_or zdI25 (zS_or zdR0_25 (zEp))) 229)
theorem zqG24_E : zy_spl (fun g => zy_en (zp_X12_readsThing, 2, 0, 0) (zX zE_G24 3) (zy_ends 33 zqw_n146) [] 100000 (zy_B 33 [] []) ([eR 0] : List EV) zqw_w111 g) [] (ze_s (2147483672, 2147483672) zqw_g112 18) = true := by decide +kernel
theorem zhG24 : ZH (yX12_readsThing, cX12_readsThing, 2, (some .boolean), 12, 0, 0) 233 ([eR 0] : List EV) zqw_w111 (ze_s (2147483672, 2147483672) zqw_g112 18) zqw_n146 := ZH.met (n := 3) (es := zqw_n146) (hd := []) (F := 100000) (KS := []) (js := []) (sp0 := []) (by decide) zE_G24_ok (y0 := 229) (q := (yX12_readsThing, cX12_readsThing, 2, (some .boolean), 12, 0, 0)) rfl (m9 := (zp_X12_readsThing, 2, 0, 0)) rfl rfl (N2 := 33) (by decide +kernel) (by decide) zqG24_E (fun i hi => absurd (show i < 0 from hi) (Nat.not_lt_zero i))
theorem zhI24 : ZH (yX12_readsThing, cX12_readsThing, 2, (some .boolean), 12, 0, 0) 233 ([eR 0] : List EV) zqw_w111 (ze_s (2147483672, 2147483688) zqw_g112 18) zqw_n146 := ZH.join (m := 2147483672) (by decide +kernel) zhG24 (zhI25.le (by decide))
noncomputable def zcI24 : ECal := zf_cal 229 10 [.inl 0, .inr (0, 9), .inr (0, 17)] [] zqw_p72 [(0, 2), (0, 6), (0, 7), (0, 8), (0, 14), (0, 16), (0, 20), (0, 21), (0, 23), (0, 24), (0, 25), (0, 26), (0, 27), (0, 28), (0, 30), (0, 31), (0, 34), (0, 35), (0, 37), (0, 38), (0, 40), (0, 41), (0, 42), (0, 43), (0, 44), (0, 45), (0, 47), (0, 48), (0, 49)] ([eR 0] : List EV) zqw_w111 (ze_s (2147483672, 2147483688) zqw_g112 18) zqw_n146
theorem zcI24_ok : ZE zcI24 233 := ZH.ze rfl ⟨rfl, rfl⟩ (zy_nx_ok (by decide +kernel)) zhI24
noncomputable def zdI24 : ECal := zr_w 229 17 11 0 0 false (zr_t 9 zcI24)
theorem zdI24_ok : ZE zdI24 233 := ZE.rd 229 17 9 11 0 0 false (by decide) zcI24_ok
noncomputable def zE_R2_24 : ECal := zS_or zdI24 (zEp)
theorem zE_R2_24_ok : ZE zE_R2_24 233 := (ZE.or zdI24_ok (zEp_ok) (by decide) (by decide) : ZE (zS_or zdI24 (zEp)) 233)
def zqw_g359 : EG := [(0, 4294967295), (0, 4294967295), (0, 4294967295), (0, 4294967295), (0, 4294967295), (0, 4294967295), (0, 4294967295), (0, 4294967295), (0, 4294967295), (0, 4294967295), (2147483648, 2147483649), (2147483648, 2147483672), (2147483648, 2147483653), (2147483648, 2147483653), (0, 4294967295), (2147483648, 2147483727), (2147483648, 2147483903), (2147483648, 2147483728), (2147483672, 2147483688), (2147483648, 2147483688), (0, 4294967295), (2147483648, 2147483653), (2147483648, 4294967295), (2147483648, 4294967295), (2147483648, 2147483688), (2147483648, 2147483688), (2147483648, 2147483663), (2147483648, 2147483708), (0, 4294967295), (2147483648, 2147483658), (2147483648, 2147483660), (2147483648, 2147483658), (0, 4294967295)]
noncomputable def zqw_g360 : EG := zqw_g359 ++ [(2147483672, 2147483688), (0, 4294967295), (2147483648, 2147483688), (2147483648, 2147483727), (2147483648, 2147483903)]
noncomputable def zqw_g361 : EG := zqw_g359 ++ [(2147483673, 2147483688), (0, 4294967295), (2147483649, 2147483688), (2147483648, 2147483727), (2147483648, 2147483903)]
noncomputable def zqw_n362 : List ZN := [(some (eC 0), [], zqw_p135, zqw_w140, zqw_g360), (some (eC 1), [], zqw_p135, zqw_w144, zqw_g361)]
noncomputable def zqw_g363 : EG := zqw_g359 ++ [(2147483673, 2147483688), (0, 4294967295), (2147483649, 2147483688), (2147483648, 2147483688), (2147483648, 2147483903)]
noncomputable def zqw_g364 : EG := zqw_g359 ++ [(2147483648, 2147483649), (2147483675, 2147483688), (0, 4294967295), (2147483649, 2147483688), (2147483648, 2147483688), (2147483648, 2147483903)]
noncomputable def zqw_g365 : EG := zqw_g359 ++ [(2147483648, 2147483649), (2147483677, 2147483688), (0, 4294967295), (2147483649, 2147483688), (2147483648, 2147483688), (2147483648, 2147483903)]
noncomputable def zqw_g366 : EG := zqw_g359 ++ [(2147483648, 2147483649), (2147483679, 2147483688), (0, 4294967295), (2147483649, 2147483688), (2147483648, 2147483688), (2147483648, 2147483903)]
noncomputable def zqw_g367 : EG := zqw_g359 ++ [(2147483648, 2147483649), (2147483681, 2147483688), (0, 4294967295), (2147483649, 2147483688), (2147483648, 2147483688), (2147483648, 2147483903)]
noncomputable def zqw_g368 : EG := zqw_g359 ++ [(2147483648, 2147483649), (2147483683, 2147483688), (0, 4294967295), (2147483649, 2147483688), (2147483648, 2147483688), (2147483648, 2147483903)]
noncomputable def zqw_g369 : EG := zqw_g359 ++ [(2147483648, 2147483649), (2147483685, 2147483688), (0, 4294967295), (2147483649, 2147483688), (2147483648, 2147483688), (2147483648, 2147483903)]
noncomputable def zqw_g370 : EG := zqw_g359 ++ [(2147483648, 2147483649), (2147483687, 2147483688), (0, 4294967295), (2147483649, 2147483688), (2147483648, 2147483688), (2147483648, 2147483903)]
noncomputable def zqR2_24_S0 : List ZC := ((16, 24, [], zqw_p135, [eR 0, eC 2, eC 1, eX 1], zqw_w144, zqw_g363), [1], []) :: ((16, 24, [3], zqw_p135, [eR 0, eC 2, eC 1, eU 33], zqw_w169, zqw_g364), [2], []) :: ((16, 24, [3], zqw_p135, [eR 0, eC 2, eC 1, eU 33], zqw_w189, zqw_g365), [3], []) :: ((16, 24, [3], zqw_p135, [eR 0, eC 2, eC 1, eU 33], zqw_w213, zqw_g366), [4], []) :: ((16, 24, [3], zqw_p135, [eR 0, eC 2, eC 1, eU 33], zqw_w241, zqw_g367), [5], []) :: ((16, 24, [3], zqw_p135, [eR 0, eC 2, eC 1, eU 33], zqw_w273, zqw_g368), [6], []) :: ((16, 24, [3], zqw_p135, [eR 0, eC 2, eC 1, eU 33], zqw_w309, zqw_g369), [7], []) :: ((16, 24, [3], zqw_p135, [eR 0, eC 2, eC 1, eU 33], zqw_w349, zqw_g370), [], []) :: []
noncomputable def zqR2_24_K : List ZC := zqR2_24_S0
noncomputable def zqR2_24_e : ERt := zy_ends 33 zqw_n362
theorem zqR2_24_E : zy_spl (fun g => zy_en (zp_X12_readsRank, 4, 0, 0) (zX zE_R2_24 2) zqR2_24_e [24] 100000 (zy_B 33 zqR2_24_K [0]) ([eR 0, eC 2] : List EV) zqw_w111 g) [] zqw_g359 = true := by decide +kernel
noncomputable def zqR2_24_f (i : Nat) : Bool := zy_f 33 zp_X12_readsRank (zX zE_R2_24 2) 0 0 zqR2_24_e [24] 100000 zqR2_24_K i
theorem zqR2_24_0 : zy_ch zqR2_24_f 0 8 = true := by decide +kernel
theorem zqR2_24_n : zqR2_24_K.length = 8 := by decide +kernel
noncomputable def zcR2_24 : ECal := zf_cal 230 10 [.inl 0, .inr (0, 9), .inr (0, 17)] [] zqw_p72 [(0, 2), (0, 6), (0, 7), (0, 8), (0, 14), (0, 16), (0, 20), (0, 21), (0, 23), (0, 24), (0, 25), (0, 26), (0, 27), (0, 28), (0, 30), (0, 31), (0, 34), (0, 35), (0, 37), (0, 38), (0, 40), (0, 41), (0, 42), (0, 43), (0, 44), (0, 45), (0, 47), (0, 48), (0, 49)] ([eR 0, eC 2] : List EV) zqw_w111 zqw_g359 zqw_n362
theorem zcR2_24_ok : ZE zcR2_24 236 := ZE.met (n := 2) (es := zqw_n362) (hd := [24]) (F := 100000) (KS := zqR2_24_K) (js := [0]) (sp0 := []) (by decide) zE_R2_24_ok (y0 := 230) (q := (yX12_readsRank, cX12_readsRank, 4, (some .boolean), 12, 0, 0)) rfl ⟨rfl, rfl⟩ (m9 := (zp_X12_readsRank, 4, 0, 0)) rfl rfl (zy_nx_ok (by decide +kernel)) (N2 := 33) (by decide +kernel) (by decide) zqR2_24_E (fun i hi => (show ∀ i, i < 8 → zqR2_24_f i = true from fun i hi => zy_ch_ok zqR2_24_0 i (by omega) (by omega)) i (by have h9 := hi; rw [zqR2_24_n] at h9; exact h9))
noncomputable def zdR2_24 : ECal := zr_w 230 17 11 0 0 false (zr_t 9 zcR2_24)
theorem zdR2_24_ok : ZE zdR2_24 236 := ZE.rd 230 17 9 11 0 0 false (by decide) zcR2_24_ok
noncomputable def zE_R1_24 : ECal := zS_or zdR2_24 (zEp)
theorem zE_R1_24_ok : ZE zE_R1_24 236 := (ZE.or zdR2_24_ok (zEp_ok) (by decide) (by decide) : ZE (zS_or zdR2_24 (zEp)) 236)
noncomputable def zqw_g371 : EG := zqw_g359 ++ [(2147483648, 2147483649), (2147483675, 2147483688), (0, 4294967295), (2147483649, 2147483688), (2147483648, 2147483727), (2147483648, 2147483903)]
noncomputable def zqw_g372 : EG := zqw_g359 ++ [(2147483648, 2147483649), (2147483677, 2147483688), (0, 4294967295), (2147483649, 2147483688), (2147483648, 2147483727), (2147483648, 2147483903)]
noncomputable def zqw_g373 : EG := zqw_g359 ++ [(2147483648, 2147483649), (2147483679, 2147483688), (0, 4294967295), (2147483649, 2147483688), (2147483648, 2147483727), (2147483648, 2147483903)]
noncomputable def zqw_g374 : EG := zqw_g359 ++ [(2147483648, 2147483649), (2147483681, 2147483688), (0, 4294967295), (2147483649, 2147483688), (2147483648, 2147483727), (2147483648, 2147483903)]
noncomputable def zqw_g375 : EG := zqw_g359 ++ [(2147483648, 2147483649), (2147483683, 2147483688), (0, 4294967295), (2147483649, 2147483688), (2147483648, 2147483727), (2147483648, 2147483903)]
noncomputable def zqw_g376 : EG := zqw_g359 ++ [(2147483648, 2147483649), (2147483685, 2147483688), (0, 4294967295), (2147483649, 2147483688), (2147483648, 2147483727), (2147483648, 2147483903)]
noncomputable def zqw_g377 : EG := zqw_g359 ++ [(2147483648, 2147483649), (2147483687, 2147483688), (0, 4294967295), (2147483649, 2147483688), (2147483648, 2147483727), (2147483648, 2147483903)]
noncomputable def zqR1_24_S0 : List ZC := ((16, 24, [], zqw_p135, [eR 0, eC 1, eC 1, eX 1], zqw_w144, zqw_g361), [1], []) :: ((16, 24, [3], zqw_p135, [eR 0, eC 1, eC 1, eU 33], zqw_w169, zqw_g371), [2], []) :: ((16, 24, [3], zqw_p135, [eR 0, eC 1, eC 1, eU 33], zqw_w189, zqw_g372), [3], []) :: ((16, 24, [3], zqw_p135, [eR 0, eC 1, eC 1, eU 33], zqw_w213, zqw_g373), [4], []) :: ((16, 24, [3], zqw_p135, [eR 0, eC 1, eC 1, eU 33], zqw_w241, zqw_g374), [5], []) :: ((16, 24, [3], zqw_p135, [eR 0, eC 1, eC 1, eU 33], zqw_w273, zqw_g375), [6], []) :: ((16, 24, [3], zqw_p135, [eR 0, eC 1, eC 1, eU 33], zqw_w309, zqw_g376), [7], []) :: ((16, 24, [3], zqw_p135, [eR 0, eC 1, eC 1, eU 33], zqw_w349, zqw_g377), [], []) :: []
noncomputable def zqR1_24_K : List ZC := zqR1_24_S0
noncomputable def zqR1_24_e : ERt := zy_ends 33 zqw_n362
theorem zqR1_24_E : zy_spl (fun g => zy_en (zp_X12_readsRank, 4, 0, 0) (zX zE_R1_24 2) zqR1_24_e [24] 100000 (zy_B 33 zqR1_24_K [0]) ([eR 0, eC 1] : List EV) zqw_w111 g) [] zqw_g359 = true := by decide +kernel
noncomputable def zqR1_24_f (i : Nat) : Bool := zy_f 33 zp_X12_readsRank (zX zE_R1_24 2) 0 0 zqR1_24_e [24] 100000 zqR1_24_K i
theorem zqR1_24_0 : zy_ch zqR1_24_f 0 8 = true := by decide +kernel
theorem zqR1_24_n : zqR1_24_K.length = 8 := by decide +kernel
noncomputable def zcR1_24 : ECal := zf_cal 230 10 [.inl 0, .inr (0, 9), .inr (0, 17)] [] zqw_p72 [(0, 2), (0, 6), (0, 7), (0, 8), (0, 14), (0, 16), (0, 20), (0, 21), (0, 23), (0, 24), (0, 25), (0, 26), (0, 27), (0, 28), (0, 30), (0, 31), (0, 34), (0, 35), (0, 37), (0, 38), (0, 40), (0, 41), (0, 42), (0, 43), (0, 44), (0, 45), (0, 47), (0, 48), (0, 49)] ([eR 0, eC 1] : List EV) zqw_w111 zqw_g359 zqw_n362
theorem zcR1_24_ok : ZE zcR1_24 239 := ZE.met (n := 2) (es := zqw_n362) (hd := [24]) (F := 100000) (KS := zqR1_24_K) (js := [0]) (sp0 := []) (by decide) zE_R1_24_ok (y0 := 230) (q := (yX12_readsRank, cX12_readsRank, 4, (some .boolean), 12, 0, 0)) rfl ⟨rfl, rfl⟩ (m9 := (zp_X12_readsRank, 4, 0, 0)) rfl rfl (zy_nx_ok (by decide +kernel)) (N2 := 33) (by decide +kernel) (by decide) zqR1_24_E (fun i hi => (show ∀ i, i < 8 → zqR1_24_f i = true from fun i hi => zy_ch_ok zqR1_24_0 i (by omega) (by omega)) i (by have h9 := hi; rw [zqR1_24_n] at h9; exact h9))
noncomputable def zdR1_24 : ECal := zr_w 230 17 11 0 0 false (zr_t 9 zcR1_24)
theorem zdR1_24_ok : ZE zdR1_24 239 := ZE.rd 230 17 9 11 0 0 false (by decide) zcR1_24_ok
noncomputable def zE_R0_24 : ECal := zS_or zdR1_24 (zEp)
theorem zE_R0_24_ok : ZE zE_R0_24 239 := (ZE.or zdR1_24_ok (zEp_ok) (by decide) (by decide) : ZE (zS_or zdR1_24 (zEp)) 239)
noncomputable def zqw_g378 : EG := zqw_g359 ++ [(2147483648, 2147483650), (2147483675, 2147483688), (0, 4294967295), (2147483649, 2147483688), (2147483648, 2147483727), (2147483648, 2147483903)]
noncomputable def zqR0_24_S0 : List ZC := ((16, 24, [], zqw_p135, [eR 0, eC 0, eC 1, eX 1], zqw_w144, zqw_g361), [1], []) :: ((16, 24, [3], zqw_p135, [eR 0, eC 0, eC 0, eU 33], zqw_w169, zqw_g378), [], []) :: []
noncomputable def zqR0_24_K : List ZC := zqR0_24_S0
noncomputable def zqR0_24_e : ERt := zy_ends 33 zqw_n362
theorem zqR0_24_E : zy_spl (fun g => zy_en (zp_X12_readsRank, 4, 0, 0) (zX zE_R0_24 2) zqR0_24_e [24] 100000 (zy_B 33 zqR0_24_K [0]) ([eR 0, eC 0] : List EV) zqw_w111 g) [] zqw_g359 = true := by decide +kernel
noncomputable def zqR0_24_f (i : Nat) : Bool := zy_f 33 zp_X12_readsRank (zX zE_R0_24 2) 0 0 zqR0_24_e [24] 100000 zqR0_24_K i
theorem zqR0_24_0 : zy_ch zqR0_24_f 0 2 = true := by decide +kernel
theorem zqR0_24_n : zqR0_24_K.length = 2 := by decide +kernel
noncomputable def zcR0_24 : ECal := zf_cal 230 10 [.inl 0, .inr (0, 9), .inr (0, 17)] [] zqw_p72 [(0, 2), (0, 6), (0, 7), (0, 8), (0, 14), (0, 16), (0, 20), (0, 21), (0, 23), (0, 24), (0, 25), (0, 26), (0, 27), (0, 28), (0, 30), (0, 31), (0, 34), (0, 35), (0, 37), (0, 38), (0, 40), (0, 41), (0, 42), (0, 43), (0, 44), (0, 45), (0, 47), (0, 48), (0, 49)] ([eR 0, eC 0] : List EV) zqw_w111 zqw_g359 zqw_n362
theorem zcR0_24_ok : ZE zcR0_24 242 := ZE.met (n := 2) (es := zqw_n362) (hd := [24]) (F := 100000) (KS := zqR0_24_K) (js := [0]) (sp0 := []) (by decide) zE_R0_24_ok (y0 := 230) (q := (yX12_readsRank, cX12_readsRank, 4, (some .boolean), 12, 0, 0)) rfl ⟨rfl, rfl⟩ (m9 := (zp_X12_readsRank, 4, 0, 0)) rfl rfl (zy_nx_ok (by decide +kernel)) (N2 := 33) (by decide +kernel) (by decide) zqR0_24_E (fun i hi => (show ∀ i, i < 2 → zqR0_24_f i = true from fun i hi => zy_ch_ok zqR0_24_0 i (by omega) (by omega)) i (by have h9 := hi; rw [zqR0_24_n] at h9; exact h9))
noncomputable def zdR0_24 : ECal := zr_w 230 17 11 0 0 false (zr_t 9 zcR0_24)
theorem zdR0_24_ok : ZE zdR0_24 242 := ZE.rd 230 17 9 11 0 0 false (by decide) zcR0_24_ok
noncomputable def zE_G23 : ECal := zS_or zdI24 (zS_or zdR0_24 (zEp))
theorem zE_G23_ok : ZE zE_G23 242 := (ZE.or zdI24_ok ((ZE.or zdR0_24_ok (zEp_ok) (by decide) (by decide) : ZE (zS_or zdR0_24 (zEp)) 242)) (by decide) (by decide) : ZE (zS_or zdI24 (zS_or zdR0_24 (zEp))) 242)
theorem zqG23_E : zy_spl (fun g => zy_en (zp_X12_readsThing, 2, 0, 0) (zX zE_G23 3) (zy_ends 33 zqw_n146) [] 100000 (zy_B 33 [] []) ([eR 0] : List EV) zqw_w111 g) [] (ze_s (2147483671, 2147483671) zqw_g112 18) = true := by decide +kernel
theorem zhG23 : ZH (yX12_readsThing, cX12_readsThing, 2, (some .boolean), 12, 0, 0) 246 ([eR 0] : List EV) zqw_w111 (ze_s (2147483671, 2147483671) zqw_g112 18) zqw_n146 := ZH.met (n := 3) (es := zqw_n146) (hd := []) (F := 100000) (KS := []) (js := []) (sp0 := []) (by decide) zE_G23_ok (y0 := 229) (q := (yX12_readsThing, cX12_readsThing, 2, (some .boolean), 12, 0, 0)) rfl (m9 := (zp_X12_readsThing, 2, 0, 0)) rfl rfl (N2 := 33) (by decide +kernel) (by decide) zqG23_E (fun i hi => absurd (show i < 0 from hi) (Nat.not_lt_zero i))
theorem zhI23 : ZH (yX12_readsThing, cX12_readsThing, 2, (some .boolean), 12, 0, 0) 246 ([eR 0] : List EV) zqw_w111 (ze_s (2147483671, 2147483688) zqw_g112 18) zqw_n146 := ZH.join (m := 2147483671) (by decide +kernel) zhG23 (zhI24.le (by decide))
noncomputable def zcI23 : ECal := zf_cal 229 10 [.inl 0, .inr (0, 9), .inr (0, 17)] [] zqw_p72 [(0, 2), (0, 6), (0, 7), (0, 8), (0, 14), (0, 16), (0, 20), (0, 21), (0, 23), (0, 24), (0, 25), (0, 26), (0, 27), (0, 28), (0, 30), (0, 31), (0, 34), (0, 35), (0, 37), (0, 38), (0, 40), (0, 41), (0, 42), (0, 43), (0, 44), (0, 45), (0, 47), (0, 48), (0, 49)] ([eR 0] : List EV) zqw_w111 (ze_s (2147483671, 2147483688) zqw_g112 18) zqw_n146
theorem zcI23_ok : ZE zcI23 246 := ZH.ze rfl ⟨rfl, rfl⟩ (zy_nx_ok (by decide +kernel)) zhI23
noncomputable def zdI23 : ECal := zr_w 229 17 11 0 0 false (zr_t 9 zcI23)
theorem zdI23_ok : ZE zdI23 246 := ZE.rd 229 17 9 11 0 0 false (by decide) zcI23_ok
noncomputable def zE_R2_23 : ECal := zS_or zdI23 (zEp)
theorem zE_R2_23_ok : ZE zE_R2_23 246 := (ZE.or zdI23_ok (zEp_ok) (by decide) (by decide) : ZE (zS_or zdI23 (zEp)) 246)
def zqw_g379 : EG := [(0, 4294967295), (0, 4294967295), (0, 4294967295), (0, 4294967295), (0, 4294967295), (0, 4294967295), (0, 4294967295), (0, 4294967295), (0, 4294967295), (0, 4294967295), (2147483648, 2147483649), (2147483648, 2147483672), (2147483648, 2147483653), (2147483648, 2147483653), (0, 4294967295), (2147483648, 2147483727), (2147483648, 2147483903), (2147483648, 2147483728), (2147483671, 2147483688), (2147483648, 2147483688), (0, 4294967295), (2147483648, 2147483653), (2147483648, 4294967295), (2147483648, 4294967295), (2147483648, 2147483688), (2147483648, 2147483688), (2147483648, 2147483663), (2147483648, 2147483708), (0, 4294967295), (2147483648, 2147483658), (2147483648, 2147483660), (2147483648, 2147483658), (0, 4294967295)]
noncomputable def zqw_g380 : EG := zqw_g379 ++ [(2147483671, 2147483688), (0, 4294967295), (2147483648, 2147483688), (2147483648, 2147483727), (2147483648, 2147483903)]
noncomputable def zqw_g381 : EG := zqw_g379 ++ [(2147483672, 2147483688), (0, 4294967295), (2147483649, 2147483688), (2147483648, 2147483727), (2147483648, 2147483903)]
noncomputable def zqw_n382 : List ZN := [(some (eC 0), [], zqw_p135, zqw_w140, zqw_g380), (some (eC 1), [], zqw_p135, zqw_w144, zqw_g381)]
noncomputable def zqw_g383 : EG := zqw_g379 ++ [(2147483672, 2147483688), (0, 4294967295), (2147483649, 2147483688), (2147483648, 2147483688), (2147483648, 2147483903)]
noncomputable def zqw_g384 : EG := zqw_g379 ++ [(2147483648, 2147483649), (2147483674, 2147483688), (0, 4294967295), (2147483649, 2147483688), (2147483648, 2147483688), (2147483648, 2147483903)]
noncomputable def zqw_g385 : EG := zqw_g379 ++ [(2147483648, 2147483649), (2147483676, 2147483688), (0, 4294967295), (2147483649, 2147483688), (2147483648, 2147483688), (2147483648, 2147483903)]
noncomputable def zqw_g386 : EG := zqw_g379 ++ [(2147483648, 2147483649), (2147483678, 2147483688), (0, 4294967295), (2147483649, 2147483688), (2147483648, 2147483688), (2147483648, 2147483903)]
noncomputable def zqw_g387 : EG := zqw_g379 ++ [(2147483648, 2147483649), (2147483680, 2147483688), (0, 4294967295), (2147483649, 2147483688), (2147483648, 2147483688), (2147483648, 2147483903)]
noncomputable def zqw_g388 : EG := zqw_g379 ++ [(2147483648, 2147483649), (2147483682, 2147483688), (0, 4294967295), (2147483649, 2147483688), (2147483648, 2147483688), (2147483648, 2147483903)]
noncomputable def zqw_g389 : EG := zqw_g379 ++ [(2147483648, 2147483649), (2147483684, 2147483688), (0, 4294967295), (2147483649, 2147483688), (2147483648, 2147483688), (2147483648, 2147483903)]
noncomputable def zqw_g390 : EG := zqw_g379 ++ [(2147483648, 2147483649), (2147483686, 2147483688), (0, 4294967295), (2147483649, 2147483688), (2147483648, 2147483688), (2147483648, 2147483903)]
noncomputable def zqw_e391 : EC := (1301, [eU 22, eC 1, eU 36, eU 23, eC 0, eU 34, eU 18, eC 17])
noncomputable def zqw_c392 : List EC := [zqw_e165, zqw_e166, zqw_e391]
noncomputable def zqw_w393 : EW := (3, [zqw_c392])
noncomputable def zqw_g394 : EG := zqw_g379 ++ [(2147483648, 2147483649), (2147483688, 2147483688), (0, 4294967295), (2147483649, 2147483688), (2147483648, 2147483688), (2147483648, 2147483903)]
noncomputable def zqR2_23_S0 : List ZC := ((16, 24, [], zqw_p135, [eR 0, eC 2, eC 1, eX 1], zqw_w144, zqw_g383), [1], []) :: ((16, 24, [3], zqw_p135, [eR 0, eC 2, eC 1, eU 33], zqw_w169, zqw_g384), [2], []) :: ((16, 24, [3], zqw_p135, [eR 0, eC 2, eC 1, eU 33], zqw_w189, zqw_g385), [3], []) :: ((16, 24, [3], zqw_p135, [eR 0, eC 2, eC 1, eU 33], zqw_w213, zqw_g386), [4], []) :: ((16, 24, [3], zqw_p135, [eR 0, eC 2, eC 1, eU 33], zqw_w241, zqw_g387), [5], []) :: ((16, 24, [3], zqw_p135, [eR 0, eC 2, eC 1, eU 33], zqw_w273, zqw_g388), [6], []) :: ((16, 24, [3], zqw_p135, [eR 0, eC 2, eC 1, eU 33], zqw_w309, zqw_g389), [7], []) :: ((16, 24, [3], zqw_p135, [eR 0, eC 2, eC 1, eU 33], zqw_w349, zqw_g390), [8], []) :: ((16, 24, [3], zqw_p135, [eR 0, eC 2, eC 1, eU 33], zqw_w393, zqw_g394), [], []) :: []
noncomputable def zqR2_23_K : List ZC := zqR2_23_S0
noncomputable def zqR2_23_e : ERt := zy_ends 33 zqw_n382
theorem zqR2_23_E : zy_spl (fun g => zy_en (zp_X12_readsRank, 4, 0, 0) (zX zE_R2_23 2) zqR2_23_e [24] 100000 (zy_B 33 zqR2_23_K [0]) ([eR 0, eC 2] : List EV) zqw_w111 g) [] zqw_g379 = true := by decide +kernel
noncomputable def zqR2_23_f (i : Nat) : Bool := zy_f 33 zp_X12_readsRank (zX zE_R2_23 2) 0 0 zqR2_23_e [24] 100000 zqR2_23_K i
theorem zqR2_23_0 : zy_ch zqR2_23_f 0 9 = true := by decide +kernel
theorem zqR2_23_n : zqR2_23_K.length = 9 := by decide +kernel
noncomputable def zcR2_23 : ECal := zf_cal 230 10 [.inl 0, .inr (0, 9), .inr (0, 17)] [] zqw_p72 [(0, 2), (0, 6), (0, 7), (0, 8), (0, 14), (0, 16), (0, 20), (0, 21), (0, 23), (0, 24), (0, 25), (0, 26), (0, 27), (0, 28), (0, 30), (0, 31), (0, 34), (0, 35), (0, 37), (0, 38), (0, 40), (0, 41), (0, 42), (0, 43), (0, 44), (0, 45), (0, 47), (0, 48), (0, 49)] ([eR 0, eC 2] : List EV) zqw_w111 zqw_g379 zqw_n382
theorem zcR2_23_ok : ZE zcR2_23 249 := ZE.met (n := 2) (es := zqw_n382) (hd := [24]) (F := 100000) (KS := zqR2_23_K) (js := [0]) (sp0 := []) (by decide) zE_R2_23_ok (y0 := 230) (q := (yX12_readsRank, cX12_readsRank, 4, (some .boolean), 12, 0, 0)) rfl ⟨rfl, rfl⟩ (m9 := (zp_X12_readsRank, 4, 0, 0)) rfl rfl (zy_nx_ok (by decide +kernel)) (N2 := 33) (by decide +kernel) (by decide) zqR2_23_E (fun i hi => (show ∀ i, i < 9 → zqR2_23_f i = true from fun i hi => zy_ch_ok zqR2_23_0 i (by omega) (by omega)) i (by have h9 := hi; rw [zqR2_23_n] at h9; exact h9))
noncomputable def zdR2_23 : ECal := zr_w 230 17 11 0 0 false (zr_t 9 zcR2_23)
theorem zdR2_23_ok : ZE zdR2_23 249 := ZE.rd 230 17 9 11 0 0 false (by decide) zcR2_23_ok
noncomputable def zE_R1_23 : ECal := zS_or zdR2_23 (zEp)
theorem zE_R1_23_ok : ZE zE_R1_23 249 := (ZE.or zdR2_23_ok (zEp_ok) (by decide) (by decide) : ZE (zS_or zdR2_23 (zEp)) 249)
noncomputable def zqw_g395 : EG := zqw_g379 ++ [(2147483648, 2147483649), (2147483674, 2147483688), (0, 4294967295), (2147483649, 2147483688), (2147483648, 2147483727), (2147483648, 2147483903)]
noncomputable def zqw_g396 : EG := zqw_g379 ++ [(2147483648, 2147483649), (2147483676, 2147483688), (0, 4294967295), (2147483649, 2147483688), (2147483648, 2147483727), (2147483648, 2147483903)]
noncomputable def zqw_g397 : EG := zqw_g379 ++ [(2147483648, 2147483649), (2147483678, 2147483688), (0, 4294967295), (2147483649, 2147483688), (2147483648, 2147483727), (2147483648, 2147483903)]
noncomputable def zqw_g398 : EG := zqw_g379 ++ [(2147483648, 2147483649), (2147483680, 2147483688), (0, 4294967295), (2147483649, 2147483688), (2147483648, 2147483727), (2147483648, 2147483903)]
noncomputable def zqw_g399 : EG := zqw_g379 ++ [(2147483648, 2147483649), (2147483682, 2147483688), (0, 4294967295), (2147483649, 2147483688), (2147483648, 2147483727), (2147483648, 2147483903)]
noncomputable def zqw_g400 : EG := zqw_g379 ++ [(2147483648, 2147483649), (2147483684, 2147483688), (0, 4294967295), (2147483649, 2147483688), (2147483648, 2147483727), (2147483648, 2147483903)]
noncomputable def zqw_g401 : EG := zqw_g379 ++ [(2147483648, 2147483649), (2147483686, 2147483688), (0, 4294967295), (2147483649, 2147483688), (2147483648, 2147483727), (2147483648, 2147483903)]
noncomputable def zqw_g402 : EG := zqw_g379 ++ [(2147483648, 2147483649), (2147483688, 2147483688), (0, 4294967295), (2147483649, 2147483688), (2147483648, 2147483727), (2147483648, 2147483903)]
noncomputable def zqR1_23_S0 : List ZC := ((16, 24, [], zqw_p135, [eR 0, eC 1, eC 1, eX 1], zqw_w144, zqw_g381), [1], []) :: ((16, 24, [3], zqw_p135, [eR 0, eC 1, eC 1, eU 33], zqw_w169, zqw_g395), [2], []) :: ((16, 24, [3], zqw_p135, [eR 0, eC 1, eC 1, eU 33], zqw_w189, zqw_g396), [3], []) :: ((16, 24, [3], zqw_p135, [eR 0, eC 1, eC 1, eU 33], zqw_w213, zqw_g397), [4], []) :: ((16, 24, [3], zqw_p135, [eR 0, eC 1, eC 1, eU 33], zqw_w241, zqw_g398), [5], []) :: ((16, 24, [3], zqw_p135, [eR 0, eC 1, eC 1, eU 33], zqw_w273, zqw_g399), [6], []) :: ((16, 24, [3], zqw_p135, [eR 0, eC 1, eC 1, eU 33], zqw_w309, zqw_g400), [7], []) :: ((16, 24, [3], zqw_p135, [eR 0, eC 1, eC 1, eU 33], zqw_w349, zqw_g401), [8], []) :: ((16, 24, [3], zqw_p135, [eR 0, eC 1, eC 1, eU 33], zqw_w393, zqw_g402), [], []) :: []
noncomputable def zqR1_23_K : List ZC := zqR1_23_S0
noncomputable def zqR1_23_e : ERt := zy_ends 33 zqw_n382
theorem zqR1_23_E : zy_spl (fun g => zy_en (zp_X12_readsRank, 4, 0, 0) (zX zE_R1_23 2) zqR1_23_e [24] 100000 (zy_B 33 zqR1_23_K [0]) ([eR 0, eC 1] : List EV) zqw_w111 g) [] zqw_g379 = true := by decide +kernel
noncomputable def zqR1_23_f (i : Nat) : Bool := zy_f 33 zp_X12_readsRank (zX zE_R1_23 2) 0 0 zqR1_23_e [24] 100000 zqR1_23_K i
theorem zqR1_23_0 : zy_ch zqR1_23_f 0 9 = true := by decide +kernel
theorem zqR1_23_n : zqR1_23_K.length = 9 := by decide +kernel
noncomputable def zcR1_23 : ECal := zf_cal 230 10 [.inl 0, .inr (0, 9), .inr (0, 17)] [] zqw_p72 [(0, 2), (0, 6), (0, 7), (0, 8), (0, 14), (0, 16), (0, 20), (0, 21), (0, 23), (0, 24), (0, 25), (0, 26), (0, 27), (0, 28), (0, 30), (0, 31), (0, 34), (0, 35), (0, 37), (0, 38), (0, 40), (0, 41), (0, 42), (0, 43), (0, 44), (0, 45), (0, 47), (0, 48), (0, 49)] ([eR 0, eC 1] : List EV) zqw_w111 zqw_g379 zqw_n382
theorem zcR1_23_ok : ZE zcR1_23 252 := ZE.met (n := 2) (es := zqw_n382) (hd := [24]) (F := 100000) (KS := zqR1_23_K) (js := [0]) (sp0 := []) (by decide) zE_R1_23_ok (y0 := 230) (q := (yX12_readsRank, cX12_readsRank, 4, (some .boolean), 12, 0, 0)) rfl ⟨rfl, rfl⟩ (m9 := (zp_X12_readsRank, 4, 0, 0)) rfl rfl (zy_nx_ok (by decide +kernel)) (N2 := 33) (by decide +kernel) (by decide) zqR1_23_E (fun i hi => (show ∀ i, i < 9 → zqR1_23_f i = true from fun i hi => zy_ch_ok zqR1_23_0 i (by omega) (by omega)) i (by have h9 := hi; rw [zqR1_23_n] at h9; exact h9))
noncomputable def zdR1_23 : ECal := zr_w 230 17 11 0 0 false (zr_t 9 zcR1_23)
theorem zdR1_23_ok : ZE zdR1_23 252 := ZE.rd 230 17 9 11 0 0 false (by decide) zcR1_23_ok
noncomputable def zE_R0_23 : ECal := zS_or zdR1_23 (zEp)
theorem zE_R0_23_ok : ZE zE_R0_23 252 := (ZE.or zdR1_23_ok (zEp_ok) (by decide) (by decide) : ZE (zS_or zdR1_23 (zEp)) 252)
noncomputable def zqw_g403 : EG := zqw_g379 ++ [(2147483648, 2147483650), (2147483674, 2147483688), (0, 4294967295), (2147483649, 2147483688), (2147483648, 2147483727), (2147483648, 2147483903)]
noncomputable def zqR0_23_S0 : List ZC := ((16, 24, [], zqw_p135, [eR 0, eC 0, eC 1, eX 1], zqw_w144, zqw_g381), [1], []) :: ((16, 24, [3], zqw_p135, [eR 0, eC 0, eC 0, eU 33], zqw_w169, zqw_g403), [], []) :: []
noncomputable def zqR0_23_K : List ZC := zqR0_23_S0
noncomputable def zqR0_23_e : ERt := zy_ends 33 zqw_n382
theorem zqR0_23_E : zy_spl (fun g => zy_en (zp_X12_readsRank, 4, 0, 0) (zX zE_R0_23 2) zqR0_23_e [24] 100000 (zy_B 33 zqR0_23_K [0]) ([eR 0, eC 0] : List EV) zqw_w111 g) [] zqw_g379 = true := by decide +kernel
noncomputable def zqR0_23_f (i : Nat) : Bool := zy_f 33 zp_X12_readsRank (zX zE_R0_23 2) 0 0 zqR0_23_e [24] 100000 zqR0_23_K i
theorem zqR0_23_0 : zy_ch zqR0_23_f 0 2 = true := by decide +kernel
theorem zqR0_23_n : zqR0_23_K.length = 2 := by decide +kernel
noncomputable def zcR0_23 : ECal := zf_cal 230 10 [.inl 0, .inr (0, 9), .inr (0, 17)] [] zqw_p72 [(0, 2), (0, 6), (0, 7), (0, 8), (0, 14), (0, 16), (0, 20), (0, 21), (0, 23), (0, 24), (0, 25), (0, 26), (0, 27), (0, 28), (0, 30), (0, 31), (0, 34), (0, 35), (0, 37), (0, 38), (0, 40), (0, 41), (0, 42), (0, 43), (0, 44), (0, 45), (0, 47), (0, 48), (0, 49)] ([eR 0, eC 0] : List EV) zqw_w111 zqw_g379 zqw_n382
theorem zcR0_23_ok : ZE zcR0_23 255 := ZE.met (n := 2) (es := zqw_n382) (hd := [24]) (F := 100000) (KS := zqR0_23_K) (js := [0]) (sp0 := []) (by decide) zE_R0_23_ok (y0 := 230) (q := (yX12_readsRank, cX12_readsRank, 4, (some .boolean), 12, 0, 0)) rfl ⟨rfl, rfl⟩ (m9 := (zp_X12_readsRank, 4, 0, 0)) rfl rfl (zy_nx_ok (by decide +kernel)) (N2 := 33) (by decide +kernel) (by decide) zqR0_23_E (fun i hi => (show ∀ i, i < 2 → zqR0_23_f i = true from fun i hi => zy_ch_ok zqR0_23_0 i (by omega) (by omega)) i (by have h9 := hi; rw [zqR0_23_n] at h9; exact h9))
noncomputable def zdR0_23 : ECal := zr_w 230 17 11 0 0 false (zr_t 9 zcR0_23)
theorem zdR0_23_ok : ZE zdR0_23 255 := ZE.rd 230 17 9 11 0 0 false (by decide) zcR0_23_ok
noncomputable def zE_G22 : ECal := zS_or zdI23 (zS_or zdR0_23 (zEp))
theorem zE_G22_ok : ZE zE_G22 255 := (ZE.or zdI23_ok ((ZE.or zdR0_23_ok (zEp_ok) (by decide) (by decide) : ZE (zS_or zdR0_23 (zEp)) 255)) (by decide) (by decide) : ZE (zS_or zdI23 (zS_or zdR0_23 (zEp))) 255)
theorem zqG22_E : zy_spl (fun g => zy_en (zp_X12_readsThing, 2, 0, 0) (zX zE_G22 3) (zy_ends 33 zqw_n146) [] 100000 (zy_B 33 [] []) ([eR 0] : List EV) zqw_w111 g) [] (ze_s (2147483670, 2147483670) zqw_g112 18) = true := by decide +kernel
theorem zhG22 : ZH (yX12_readsThing, cX12_readsThing, 2, (some .boolean), 12, 0, 0) 259 ([eR 0] : List EV) zqw_w111 (ze_s (2147483670, 2147483670) zqw_g112 18) zqw_n146 := ZH.met (n := 3) (es := zqw_n146) (hd := []) (F := 100000) (KS := []) (js := []) (sp0 := []) (by decide) zE_G22_ok (y0 := 229) (q := (yX12_readsThing, cX12_readsThing, 2, (some .boolean), 12, 0, 0)) rfl (m9 := (zp_X12_readsThing, 2, 0, 0)) rfl rfl (N2 := 33) (by decide +kernel) (by decide) zqG22_E (fun i hi => absurd (show i < 0 from hi) (Nat.not_lt_zero i))
theorem zhI22 : ZH (yX12_readsThing, cX12_readsThing, 2, (some .boolean), 12, 0, 0) 259 ([eR 0] : List EV) zqw_w111 (ze_s (2147483670, 2147483688) zqw_g112 18) zqw_n146 := ZH.join (m := 2147483670) (by decide +kernel) zhG22 (zhI23.le (by decide))
noncomputable def zcI22 : ECal := zf_cal 229 10 [.inl 0, .inr (0, 9), .inr (0, 17)] [] zqw_p72 [(0, 2), (0, 6), (0, 7), (0, 8), (0, 14), (0, 16), (0, 20), (0, 21), (0, 23), (0, 24), (0, 25), (0, 26), (0, 27), (0, 28), (0, 30), (0, 31), (0, 34), (0, 35), (0, 37), (0, 38), (0, 40), (0, 41), (0, 42), (0, 43), (0, 44), (0, 45), (0, 47), (0, 48), (0, 49)] ([eR 0] : List EV) zqw_w111 (ze_s (2147483670, 2147483688) zqw_g112 18) zqw_n146
theorem zcI22_ok : ZE zcI22 259 := ZH.ze rfl ⟨rfl, rfl⟩ (zy_nx_ok (by decide +kernel)) zhI22
noncomputable def zdI22 : ECal := zr_w 229 17 11 0 0 false (zr_t 9 zcI22)
theorem zdI22_ok : ZE zdI22 259 := ZE.rd 229 17 9 11 0 0 false (by decide) zcI22_ok
noncomputable def zE_R2_22 : ECal := zS_or zdI22 (zEp)
theorem zE_R2_22_ok : ZE zE_R2_22 259 := (ZE.or zdI22_ok (zEp_ok) (by decide) (by decide) : ZE (zS_or zdI22 (zEp)) 259)
def zqw_g404 : EG := [(0, 4294967295), (0, 4294967295), (0, 4294967295), (0, 4294967295), (0, 4294967295), (0, 4294967295), (0, 4294967295), (0, 4294967295), (0, 4294967295), (0, 4294967295), (2147483648, 2147483649), (2147483648, 2147483672), (2147483648, 2147483653), (2147483648, 2147483653), (0, 4294967295), (2147483648, 2147483727), (2147483648, 2147483903), (2147483648, 2147483728), (2147483670, 2147483688), (2147483648, 2147483688), (0, 4294967295), (2147483648, 2147483653), (2147483648, 4294967295), (2147483648, 4294967295), (2147483648, 2147483688), (2147483648, 2147483688), (2147483648, 2147483663), (2147483648, 2147483708), (0, 4294967295), (2147483648, 2147483658), (2147483648, 2147483660), (2147483648, 2147483658), (0, 4294967295)]
noncomputable def zqw_g405 : EG := zqw_g404 ++ [(2147483670, 2147483688), (0, 4294967295), (2147483648, 2147483688), (2147483648, 2147483727), (2147483648, 2147483903)]
noncomputable def zqw_g406 : EG := zqw_g404 ++ [(2147483671, 2147483688), (0, 4294967295), (2147483649, 2147483688), (2147483648, 2147483727), (2147483648, 2147483903)]
noncomputable def zqw_n407 : List ZN := [(some (eC 0), [], zqw_p135, zqw_w140, zqw_g405), (some (eC 1), [], zqw_p135, zqw_w144, zqw_g406)]
noncomputable def zqw_g408 : EG := zqw_g404 ++ [(2147483671, 2147483688), (0, 4294967295), (2147483649, 2147483688), (2147483648, 2147483688), (2147483648, 2147483903)]
noncomputable def zqw_g409 : EG := zqw_g404 ++ [(2147483648, 2147483649), (2147483673, 2147483688), (0, 4294967295), (2147483649, 2147483688), (2147483648, 2147483688), (2147483648, 2147483903)]
noncomputable def zqw_g410 : EG := zqw_g404 ++ [(2147483648, 2147483649), (2147483675, 2147483688), (0, 4294967295), (2147483649, 2147483688), (2147483648, 2147483688), (2147483648, 2147483903)]
noncomputable def zqw_g411 : EG := zqw_g404 ++ [(2147483648, 2147483649), (2147483677, 2147483688), (0, 4294967295), (2147483649, 2147483688), (2147483648, 2147483688), (2147483648, 2147483903)]
noncomputable def zqw_g412 : EG := zqw_g404 ++ [(2147483648, 2147483649), (2147483679, 2147483688), (0, 4294967295), (2147483649, 2147483688), (2147483648, 2147483688), (2147483648, 2147483903)]
noncomputable def zqw_g413 : EG := zqw_g404 ++ [(2147483648, 2147483649), (2147483681, 2147483688), (0, 4294967295), (2147483649, 2147483688), (2147483648, 2147483688), (2147483648, 2147483903)]
noncomputable def zqw_g414 : EG := zqw_g404 ++ [(2147483648, 2147483649), (2147483683, 2147483688), (0, 4294967295), (2147483649, 2147483688), (2147483648, 2147483688), (2147483648, 2147483903)]
noncomputable def zqw_g415 : EG := zqw_g404 ++ [(2147483648, 2147483649), (2147483685, 2147483688), (0, 4294967295), (2147483649, 2147483688), (2147483648, 2147483688), (2147483648, 2147483903)]
noncomputable def zqw_g416 : EG := zqw_g404 ++ [(2147483648, 2147483649), (2147483687, 2147483688), (0, 4294967295), (2147483649, 2147483688), (2147483648, 2147483688), (2147483648, 2147483903)]
noncomputable def zqR2_22_S0 : List ZC := ((16, 24, [], zqw_p135, [eR 0, eC 2, eC 1, eX 1], zqw_w144, zqw_g408), [1], []) :: ((16, 24, [3], zqw_p135, [eR 0, eC 2, eC 1, eU 33], zqw_w169, zqw_g409), [2], []) :: ((16, 24, [3], zqw_p135, [eR 0, eC 2, eC 1, eU 33], zqw_w189, zqw_g410), [3], []) :: ((16, 24, [3], zqw_p135, [eR 0, eC 2, eC 1, eU 33], zqw_w213, zqw_g411), [4], []) :: ((16, 24, [3], zqw_p135, [eR 0, eC 2, eC 1, eU 33], zqw_w241, zqw_g412), [5], []) :: ((16, 24, [3], zqw_p135, [eR 0, eC 2, eC 1, eU 33], zqw_w273, zqw_g413), [6], []) :: ((16, 24, [3], zqw_p135, [eR 0, eC 2, eC 1, eU 33], zqw_w309, zqw_g414), [7], []) :: ((16, 24, [3], zqw_p135, [eR 0, eC 2, eC 1, eU 33], zqw_w349, zqw_g415), [8], []) :: ((16, 24, [3], zqw_p135, [eR 0, eC 2, eC 1, eU 33], zqw_w393, zqw_g416), [], []) :: []
noncomputable def zqR2_22_K : List ZC := zqR2_22_S0
noncomputable def zqR2_22_e : ERt := zy_ends 33 zqw_n407
theorem zqR2_22_E : zy_spl (fun g => zy_en (zp_X12_readsRank, 4, 0, 0) (zX zE_R2_22 2) zqR2_22_e [24] 100000 (zy_B 33 zqR2_22_K [0]) ([eR 0, eC 2] : List EV) zqw_w111 g) [] zqw_g404 = true := by decide +kernel
noncomputable def zqR2_22_f (i : Nat) : Bool := zy_f 33 zp_X12_readsRank (zX zE_R2_22 2) 0 0 zqR2_22_e [24] 100000 zqR2_22_K i
theorem zqR2_22_0 : zy_ch zqR2_22_f 0 9 = true := by decide +kernel
theorem zqR2_22_n : zqR2_22_K.length = 9 := by decide +kernel
noncomputable def zcR2_22 : ECal := zf_cal 230 10 [.inl 0, .inr (0, 9), .inr (0, 17)] [] zqw_p72 [(0, 2), (0, 6), (0, 7), (0, 8), (0, 14), (0, 16), (0, 20), (0, 21), (0, 23), (0, 24), (0, 25), (0, 26), (0, 27), (0, 28), (0, 30), (0, 31), (0, 34), (0, 35), (0, 37), (0, 38), (0, 40), (0, 41), (0, 42), (0, 43), (0, 44), (0, 45), (0, 47), (0, 48), (0, 49)] ([eR 0, eC 2] : List EV) zqw_w111 zqw_g404 zqw_n407
theorem zcR2_22_ok : ZE zcR2_22 262 := ZE.met (n := 2) (es := zqw_n407) (hd := [24]) (F := 100000) (KS := zqR2_22_K) (js := [0]) (sp0 := []) (by decide) zE_R2_22_ok (y0 := 230) (q := (yX12_readsRank, cX12_readsRank, 4, (some .boolean), 12, 0, 0)) rfl ⟨rfl, rfl⟩ (m9 := (zp_X12_readsRank, 4, 0, 0)) rfl rfl (zy_nx_ok (by decide +kernel)) (N2 := 33) (by decide +kernel) (by decide) zqR2_22_E (fun i hi => (show ∀ i, i < 9 → zqR2_22_f i = true from fun i hi => zy_ch_ok zqR2_22_0 i (by omega) (by omega)) i (by have h9 := hi; rw [zqR2_22_n] at h9; exact h9))
noncomputable def zdR2_22 : ECal := zr_w 230 17 11 0 0 false (zr_t 9 zcR2_22)
theorem zdR2_22_ok : ZE zdR2_22 262 := ZE.rd 230 17 9 11 0 0 false (by decide) zcR2_22_ok
noncomputable def zE_R1_22 : ECal := zS_or zdR2_22 (zEp)
theorem zE_R1_22_ok : ZE zE_R1_22 262 := (ZE.or zdR2_22_ok (zEp_ok) (by decide) (by decide) : ZE (zS_or zdR2_22 (zEp)) 262)
noncomputable def zqw_g417 : EG := zqw_g404 ++ [(2147483648, 2147483649), (2147483673, 2147483688), (0, 4294967295), (2147483649, 2147483688), (2147483648, 2147483727), (2147483648, 2147483903)]
noncomputable def zqw_g418 : EG := zqw_g404 ++ [(2147483648, 2147483649), (2147483675, 2147483688), (0, 4294967295), (2147483649, 2147483688), (2147483648, 2147483727), (2147483648, 2147483903)]
noncomputable def zqw_g419 : EG := zqw_g404 ++ [(2147483648, 2147483649), (2147483677, 2147483688), (0, 4294967295), (2147483649, 2147483688), (2147483648, 2147483727), (2147483648, 2147483903)]
noncomputable def zqw_g420 : EG := zqw_g404 ++ [(2147483648, 2147483649), (2147483679, 2147483688), (0, 4294967295), (2147483649, 2147483688), (2147483648, 2147483727), (2147483648, 2147483903)]
noncomputable def zqw_g421 : EG := zqw_g404 ++ [(2147483648, 2147483649), (2147483681, 2147483688), (0, 4294967295), (2147483649, 2147483688), (2147483648, 2147483727), (2147483648, 2147483903)]
noncomputable def zqw_g422 : EG := zqw_g404 ++ [(2147483648, 2147483649), (2147483683, 2147483688), (0, 4294967295), (2147483649, 2147483688), (2147483648, 2147483727), (2147483648, 2147483903)]
noncomputable def zqw_g423 : EG := zqw_g404 ++ [(2147483648, 2147483649), (2147483685, 2147483688), (0, 4294967295), (2147483649, 2147483688), (2147483648, 2147483727), (2147483648, 2147483903)]
noncomputable def zqw_g424 : EG := zqw_g404 ++ [(2147483648, 2147483649), (2147483687, 2147483688), (0, 4294967295), (2147483649, 2147483688), (2147483648, 2147483727), (2147483648, 2147483903)]
noncomputable def zqR1_22_S0 : List ZC := ((16, 24, [], zqw_p135, [eR 0, eC 1, eC 1, eX 1], zqw_w144, zqw_g406), [1], []) :: ((16, 24, [3], zqw_p135, [eR 0, eC 1, eC 1, eU 33], zqw_w169, zqw_g417), [2], []) :: ((16, 24, [3], zqw_p135, [eR 0, eC 1, eC 1, eU 33], zqw_w189, zqw_g418), [3], []) :: ((16, 24, [3], zqw_p135, [eR 0, eC 1, eC 1, eU 33], zqw_w213, zqw_g419), [4], []) :: ((16, 24, [3], zqw_p135, [eR 0, eC 1, eC 1, eU 33], zqw_w241, zqw_g420), [5], []) :: ((16, 24, [3], zqw_p135, [eR 0, eC 1, eC 1, eU 33], zqw_w273, zqw_g421), [6], []) :: ((16, 24, [3], zqw_p135, [eR 0, eC 1, eC 1, eU 33], zqw_w309, zqw_g422), [7], []) :: ((16, 24, [3], zqw_p135, [eR 0, eC 1, eC 1, eU 33], zqw_w349, zqw_g423), [8], []) :: ((16, 24, [3], zqw_p135, [eR 0, eC 1, eC 1, eU 33], zqw_w393, zqw_g424), [], []) :: []
noncomputable def zqR1_22_K : List ZC := zqR1_22_S0
noncomputable def zqR1_22_e : ERt := zy_ends 33 zqw_n407
theorem zqR1_22_E : zy_spl (fun g => zy_en (zp_X12_readsRank, 4, 0, 0) (zX zE_R1_22 2) zqR1_22_e [24] 100000 (zy_B 33 zqR1_22_K [0]) ([eR 0, eC 1] : List EV) zqw_w111 g) [] zqw_g404 = true := by decide +kernel
noncomputable def zqR1_22_f (i : Nat) : Bool := zy_f 33 zp_X12_readsRank (zX zE_R1_22 2) 0 0 zqR1_22_e [24] 100000 zqR1_22_K i
theorem zqR1_22_0 : zy_ch zqR1_22_f 0 9 = true := by decide +kernel
theorem zqR1_22_n : zqR1_22_K.length = 9 := by decide +kernel
noncomputable def zcR1_22 : ECal := zf_cal 230 10 [.inl 0, .inr (0, 9), .inr (0, 17)] [] zqw_p72 [(0, 2), (0, 6), (0, 7), (0, 8), (0, 14), (0, 16), (0, 20), (0, 21), (0, 23), (0, 24), (0, 25), (0, 26), (0, 27), (0, 28), (0, 30), (0, 31), (0, 34), (0, 35), (0, 37), (0, 38), (0, 40), (0, 41), (0, 42), (0, 43), (0, 44), (0, 45), (0, 47), (0, 48), (0, 49)] ([eR 0, eC 1] : List EV) zqw_w111 zqw_g404 zqw_n407
theorem zcR1_22_ok : ZE zcR1_22 265 := ZE.met (n := 2) (es := zqw_n407) (hd := [24]) (F := 100000) (KS := zqR1_22_K) (js := [0]) (sp0 := []) (by decide) zE_R1_22_ok (y0 := 230) (q := (yX12_readsRank, cX12_readsRank, 4, (some .boolean), 12, 0, 0)) rfl ⟨rfl, rfl⟩ (m9 := (zp_X12_readsRank, 4, 0, 0)) rfl rfl (zy_nx_ok (by decide +kernel)) (N2 := 33) (by decide +kernel) (by decide) zqR1_22_E (fun i hi => (show ∀ i, i < 9 → zqR1_22_f i = true from fun i hi => zy_ch_ok zqR1_22_0 i (by omega) (by omega)) i (by have h9 := hi; rw [zqR1_22_n] at h9; exact h9))
noncomputable def zdR1_22 : ECal := zr_w 230 17 11 0 0 false (zr_t 9 zcR1_22)
theorem zdR1_22_ok : ZE zdR1_22 265 := ZE.rd 230 17 9 11 0 0 false (by decide) zcR1_22_ok
noncomputable def zE_R0_22 : ECal := zS_or zdR1_22 (zEp)
theorem zE_R0_22_ok : ZE zE_R0_22 265 := (ZE.or zdR1_22_ok (zEp_ok) (by decide) (by decide) : ZE (zS_or zdR1_22 (zEp)) 265)
noncomputable def zqw_g425 : EG := zqw_g404 ++ [(2147483648, 2147483650), (2147483673, 2147483688), (0, 4294967295), (2147483649, 2147483688), (2147483648, 2147483727), (2147483648, 2147483903)]
noncomputable def zqR0_22_S0 : List ZC := ((16, 24, [], zqw_p135, [eR 0, eC 0, eC 1, eX 1], zqw_w144, zqw_g406), [1], []) :: ((16, 24, [3], zqw_p135, [eR 0, eC 0, eC 0, eU 33], zqw_w169, zqw_g425), [], []) :: []
noncomputable def zqR0_22_K : List ZC := zqR0_22_S0
noncomputable def zqR0_22_e : ERt := zy_ends 33 zqw_n407
theorem zqR0_22_E : zy_spl (fun g => zy_en (zp_X12_readsRank, 4, 0, 0) (zX zE_R0_22 2) zqR0_22_e [24] 100000 (zy_B 33 zqR0_22_K [0]) ([eR 0, eC 0] : List EV) zqw_w111 g) [] zqw_g404 = true := by decide +kernel
noncomputable def zqR0_22_f (i : Nat) : Bool := zy_f 33 zp_X12_readsRank (zX zE_R0_22 2) 0 0 zqR0_22_e [24] 100000 zqR0_22_K i
theorem zqR0_22_0 : zy_ch zqR0_22_f 0 2 = true := by decide +kernel
theorem zqR0_22_n : zqR0_22_K.length = 2 := by decide +kernel
noncomputable def zcR0_22 : ECal := zf_cal 230 10 [.inl 0, .inr (0, 9), .inr (0, 17)] [] zqw_p72 [(0, 2), (0, 6), (0, 7), (0, 8), (0, 14), (0, 16), (0, 20), (0, 21), (0, 23), (0, 24), (0, 25), (0, 26), (0, 27), (0, 28), (0, 30), (0, 31), (0, 34), (0, 35), (0, 37), (0, 38), (0, 40), (0, 41), (0, 42), (0, 43), (0, 44), (0, 45), (0, 47), (0, 48), (0, 49)] ([eR 0, eC 0] : List EV) zqw_w111 zqw_g404 zqw_n407
theorem zcR0_22_ok : ZE zcR0_22 268 := ZE.met (n := 2) (es := zqw_n407) (hd := [24]) (F := 100000) (KS := zqR0_22_K) (js := [0]) (sp0 := []) (by decide) zE_R0_22_ok (y0 := 230) (q := (yX12_readsRank, cX12_readsRank, 4, (some .boolean), 12, 0, 0)) rfl ⟨rfl, rfl⟩ (m9 := (zp_X12_readsRank, 4, 0, 0)) rfl rfl (zy_nx_ok (by decide +kernel)) (N2 := 33) (by decide +kernel) (by decide) zqR0_22_E (fun i hi => (show ∀ i, i < 2 → zqR0_22_f i = true from fun i hi => zy_ch_ok zqR0_22_0 i (by omega) (by omega)) i (by have h9 := hi; rw [zqR0_22_n] at h9; exact h9))
noncomputable def zdR0_22 : ECal := zr_w 230 17 11 0 0 false (zr_t 9 zcR0_22)
theorem zdR0_22_ok : ZE zdR0_22 268 := ZE.rd 230 17 9 11 0 0 false (by decide) zcR0_22_ok
