/-! the reading of rules -/
noncomputable def zqw_w0 : EW := (0, [])
def zqw_g1 : EG := [(0, 4294967295), (0, 4294967295), (0, 4294967295), (0, 4294967295), (0, 4294967295), (0, 4294967295), (0, 4294967295), (0, 4294967295), (0, 4294967295), (0, 4294967295), (2147483696, 2147483705)]
def zqw_p2 : List (Nat × Nat) := []
noncomputable def zqw_n3 : List ZN := [(some (eC 1), [], zqw_p2, zqw_w0, zqw_g1)]
noncomputable def zqIN0_K : List ZC := []
noncomputable def zqIN0_e : ERt := zy_ends 11 zqw_n3
theorem zqIN0_E : zy_spl (fun g => zy_en (zp_X12_in, 6, 0, 0) (zX zS_no 8) zqIN0_e [] 100000 (zy_B 11 zqIN0_K []) ([eLU 10, eL 48, eL 57] : List EV) zqw_w0 g) [] zqw_g1 = true := by decide +kernel
noncomputable def zqIN0_f (i : Nat) : Bool := zy_f 11 zp_X12_in (zX zS_no 8) 0 0 zqIN0_e [] 100000 zqIN0_K i
noncomputable def zcIN0 : ECal := zf_cal 195 10 [] [0] zqw_p2 ([eLU 10, eL 48, eL 57] : List EV) zqw_w0 zqw_g1 zqw_n3
theorem zcIN0_ok : ZE zcIN0 12 := ZE.met (n := 8) (es := zqw_n3) (hd := []) (F := 100000) (KS := zqIN0_K) (js := []) (sp0 := []) (by decide) zS_no_ok (y0 := 195) (q := (yX12_in, cX12_in, 6, (some .boolean), 12, 0, 0)) rfl ⟨rfl, rfl⟩ (m9 := (zp_X12_in, 6, 0, 0)) rfl rfl (fun e h => by simp only [zqw_n3, List.mem_cons, List.not_mem_nil, or_false] at h; rcases h with rfl <;> (intro q; cases q)) (N2 := 11) (by decide +kernel) (by decide) zqIN0_E (fun i hi => absurd (show i < 0 from hi) (Nat.not_lt_zero i))
def zqw_g4 : EG := [(0, 4294967295), (0, 4294967295), (0, 4294967295), (0, 4294967295), (0, 4294967295), (0, 4294967295), (0, 4294967295), (0, 4294967295), (0, 4294967295), (0, 4294967295), (0, 4294967295)]
noncomputable def zqw_g5 : EG := zy_su [(10, 2147483696, 2147483705)] zqw_g4
noncomputable def zqw_n6 : List ZN := [(some (eC 0), [], zqw_p2, zqw_w0, zqw_g4), (some (eC 1), [], zqw_p2, zqw_w0, zqw_g5)]
noncomputable def zqIN1_K : List ZC := []
noncomputable def zqIN1_e : ERt := zy_ends 11 zqw_n6
theorem zqIN1_E : zy_spl (fun g => zy_en (zp_X12_in, 6, 0, 0) (zX zS_no 8) zqIN1_e [] 100000 (zy_B 11 zqIN1_K []) ([eLU 10, eL 48, eL 57] : List EV) zqw_w0 g) [] zqw_g4 = true := by decide +kernel
noncomputable def zqIN1_f (i : Nat) : Bool := zy_f 11 zp_X12_in (zX zS_no 8) 0 0 zqIN1_e [] 100000 zqIN1_K i
noncomputable def zcIN1 : ECal := zf_cal 195 10 [] [0] zqw_p2 ([eLU 10, eL 48, eL 57] : List EV) zqw_w0 zqw_g4 zqw_n6
theorem zcIN1_ok : ZE zcIN1 12 := ZE.met (n := 8) (es := zqw_n6) (hd := []) (F := 100000) (KS := zqIN1_K) (js := []) (sp0 := []) (by decide) zS_no_ok (y0 := 195) (q := (yX12_in, cX12_in, 6, (some .boolean), 12, 0, 0)) rfl ⟨rfl, rfl⟩ (m9 := (zp_X12_in, 6, 0, 0)) rfl rfl (fun e h => by simp only [zqw_n6, List.mem_cons, List.not_mem_nil, or_false] at h; rcases h with rfl | rfl <;> (intro q; cases q)) (N2 := 11) (by decide +kernel) (by decide) zqIN1_E (fun i hi => absurd (show i < 0 from hi) (Nat.not_lt_zero i))
noncomputable def zqw_g7 : EG := zy_su [(10, 2147483648, 2147483655)] zqw_g4
noncomputable def zqw_n8 : List ZN := [(some (eC 0), [], zqw_p2, zqw_w0, zqw_g4), (some (eC 1), [], zqw_p2, zqw_w0, zqw_g7)]
noncomputable def zqIN2_K : List ZC := []
noncomputable def zqIN2_e : ERt := zy_ends 11 zqw_n8
theorem zqIN2_E : zy_spl (fun g => zy_en (zp_X12_in, 6, 0, 0) (zX zS_no 8) zqIN2_e [] 100000 (zy_B 11 zqIN2_K []) ([eLU 10, eL 0, eL 7] : List EV) zqw_w0 g) [] zqw_g4 = true := by decide +kernel
noncomputable def zqIN2_f (i : Nat) : Bool := zy_f 11 zp_X12_in (zX zS_no 8) 0 0 zqIN2_e [] 100000 zqIN2_K i
noncomputable def zcIN2 : ECal := zf_cal 195 10 [] [0] zqw_p2 ([eLU 10, eL 0, eL 7] : List EV) zqw_w0 zqw_g4 zqw_n8
theorem zcIN2_ok : ZE zcIN2 12 := ZE.met (n := 8) (es := zqw_n8) (hd := []) (F := 100000) (KS := zqIN2_K) (js := []) (sp0 := []) (by decide) zS_no_ok (y0 := 195) (q := (yX12_in, cX12_in, 6, (some .boolean), 12, 0, 0)) rfl ⟨rfl, rfl⟩ (m9 := (zp_X12_in, 6, 0, 0)) rfl rfl (fun e h => by simp only [zqw_n8, List.mem_cons, List.not_mem_nil, or_false] at h; rcases h with rfl | rfl <;> (intro q; cases q)) (N2 := 11) (by decide +kernel) (by decide) zqIN2_E (fun i hi => absurd (show i < 0 from hi) (Nat.not_lt_zero i))
noncomputable def zqw_g9 : EG := zy_su [(10, 2147483648, 2147483657)] zqw_g4
noncomputable def zqw_n10 : List ZN := [(some (eC 0), [], zqw_p2, zqw_w0, zqw_g4), (some (eC 1), [], zqw_p2, zqw_w0, zqw_g9)]
noncomputable def zqIN3_K : List ZC := []
noncomputable def zqIN3_e : ERt := zy_ends 11 zqw_n10
theorem zqIN3_E : zy_spl (fun g => zy_en (zp_X12_in, 6, 0, 0) (zX zS_no 8) zqIN3_e [] 100000 (zy_B 11 zqIN3_K []) ([eLU 10, eL 0, eL 9] : List EV) zqw_w0 g) [] zqw_g4 = true := by decide +kernel
noncomputable def zqIN3_f (i : Nat) : Bool := zy_f 11 zp_X12_in (zX zS_no 8) 0 0 zqIN3_e [] 100000 zqIN3_K i
noncomputable def zcIN3 : ECal := zf_cal 195 10 [] [0] zqw_p2 ([eLU 10, eL 0, eL 9] : List EV) zqw_w0 zqw_g4 zqw_n10
theorem zcIN3_ok : ZE zcIN3 12 := ZE.met (n := 8) (es := zqw_n10) (hd := []) (F := 100000) (KS := zqIN3_K) (js := []) (sp0 := []) (by decide) zS_no_ok (y0 := 195) (q := (yX12_in, cX12_in, 6, (some .boolean), 12, 0, 0)) rfl ⟨rfl, rfl⟩ (m9 := (zp_X12_in, 6, 0, 0)) rfl rfl (fun e h => by simp only [zqw_n10, List.mem_cons, List.not_mem_nil, or_false] at h; rcases h with rfl | rfl <;> (intro q; cases q)) (N2 := 11) (by decide +kernel) (by decide) zqIN3_E (fun i hi => absurd (show i < 0 from hi) (Nat.not_lt_zero i))
noncomputable def zqw_g11 : EG := zy_su [(10, 2147483648, 2147483651)] zqw_g4
noncomputable def zqw_n12 : List ZN := [(some (eC 0), [], zqw_p2, zqw_w0, zqw_g4), (some (eC 1), [], zqw_p2, zqw_w0, zqw_g11)]
noncomputable def zqIN4_K : List ZC := []
noncomputable def zqIN4_e : ERt := zy_ends 11 zqw_n12
theorem zqIN4_E : zy_spl (fun g => zy_en (zp_X12_in, 6, 0, 0) (zX zS_no 8) zqIN4_e [] 100000 (zy_B 11 zqIN4_K []) ([eLU 10, eL 0, eL 3] : List EV) zqw_w0 g) [] zqw_g4 = true := by decide +kernel
noncomputable def zqIN4_f (i : Nat) : Bool := zy_f 11 zp_X12_in (zX zS_no 8) 0 0 zqIN4_e [] 100000 zqIN4_K i
noncomputable def zcIN4 : ECal := zf_cal 195 10 [] [0] zqw_p2 ([eLU 10, eL 0, eL 3] : List EV) zqw_w0 zqw_g4 zqw_n12
theorem zcIN4_ok : ZE zcIN4 12 := ZE.met (n := 8) (es := zqw_n12) (hd := []) (F := 100000) (KS := zqIN4_K) (js := []) (sp0 := []) (by decide) zS_no_ok (y0 := 195) (q := (yX12_in, cX12_in, 6, (some .boolean), 12, 0, 0)) rfl ⟨rfl, rfl⟩ (m9 := (zp_X12_in, 6, 0, 0)) rfl rfl (fun e h => by simp only [zqw_n12, List.mem_cons, List.not_mem_nil, or_false] at h; rcases h with rfl | rfl <;> (intro q; cases q)) (N2 := 11) (by decide +kernel) (by decide) zqIN4_E (fun i hi => absurd (show i < 0 from hi) (Nat.not_lt_zero i))
noncomputable def zqw_g13 : EG := zy_su [(10, 2147483649, 2147483652)] zqw_g4
noncomputable def zqw_n14 : List ZN := [(some (eC 0), [], zqw_p2, zqw_w0, zqw_g4), (some (eC 1), [], zqw_p2, zqw_w0, zqw_g13)]
noncomputable def zqIN5_K : List ZC := []
noncomputable def zqIN5_e : ERt := zy_ends 11 zqw_n14
theorem zqIN5_E : zy_spl (fun g => zy_en (zp_X12_in, 6, 0, 0) (zX zS_no 8) zqIN5_e [] 100000 (zy_B 11 zqIN5_K []) ([eLU 10, eL 1, eL 4] : List EV) zqw_w0 g) [] zqw_g4 = true := by decide +kernel
noncomputable def zqIN5_f (i : Nat) : Bool := zy_f 11 zp_X12_in (zX zS_no 8) 0 0 zqIN5_e [] 100000 zqIN5_K i
noncomputable def zcIN5 : ECal := zf_cal 195 10 [] [0] zqw_p2 ([eLU 10, eL 1, eL 4] : List EV) zqw_w0 zqw_g4 zqw_n14
theorem zcIN5_ok : ZE zcIN5 12 := ZE.met (n := 8) (es := zqw_n14) (hd := []) (F := 100000) (KS := zqIN5_K) (js := []) (sp0 := []) (by decide) zS_no_ok (y0 := 195) (q := (yX12_in, cX12_in, 6, (some .boolean), 12, 0, 0)) rfl ⟨rfl, rfl⟩ (m9 := (zp_X12_in, 6, 0, 0)) rfl rfl (fun e h => by simp only [zqw_n14, List.mem_cons, List.not_mem_nil, or_false] at h; rcases h with rfl | rfl <;> (intro q; cases q)) (N2 := 11) (by decide +kernel) (by decide) zqIN5_E (fun i hi => absurd (show i < 0 from hi) (Nat.not_lt_zero i))
noncomputable def zqw_g15 : EG := zy_su [(10, 2147483648, 2147483652)] zqw_g4
noncomputable def zqw_n16 : List ZN := [(some (eC 0), [], zqw_p2, zqw_w0, zqw_g4), (some (eC 1), [], zqw_p2, zqw_w0, zqw_g15)]
noncomputable def zqIN6_K : List ZC := []
noncomputable def zqIN6_e : ERt := zy_ends 11 zqw_n16
theorem zqIN6_E : zy_spl (fun g => zy_en (zp_X12_in, 6, 0, 0) (zX zS_no 8) zqIN6_e [] 100000 (zy_B 11 zqIN6_K []) ([eLU 10, eL 0, eL 4] : List EV) zqw_w0 g) [] zqw_g4 = true := by decide +kernel
noncomputable def zqIN6_f (i : Nat) : Bool := zy_f 11 zp_X12_in (zX zS_no 8) 0 0 zqIN6_e [] 100000 zqIN6_K i
noncomputable def zcIN6 : ECal := zf_cal 195 10 [] [0] zqw_p2 ([eLU 10, eL 0, eL 4] : List EV) zqw_w0 zqw_g4 zqw_n16
theorem zcIN6_ok : ZE zcIN6 12 := ZE.met (n := 8) (es := zqw_n16) (hd := []) (F := 100000) (KS := zqIN6_K) (js := []) (sp0 := []) (by decide) zS_no_ok (y0 := 195) (q := (yX12_in, cX12_in, 6, (some .boolean), 12, 0, 0)) rfl ⟨rfl, rfl⟩ (m9 := (zp_X12_in, 6, 0, 0)) rfl rfl (fun e h => by simp only [zqw_n16, List.mem_cons, List.not_mem_nil, or_false] at h; rcases h with rfl | rfl <;> (intro q; cases q)) (N2 := 11) (by decide +kernel) (by decide) zqIN6_E (fun i hi => absurd (show i < 0 from hi) (Nat.not_lt_zero i))
noncomputable def zqw_g17 : EG := zy_su [(10, 2147483648, 2147483653)] zqw_g4
noncomputable def zqw_n18 : List ZN := [(some (eC 0), [], zqw_p2, zqw_w0, zqw_g4), (some (eC 1), [], zqw_p2, zqw_w0, zqw_g17)]
noncomputable def zqIN7_K : List ZC := []
noncomputable def zqIN7_e : ERt := zy_ends 11 zqw_n18
theorem zqIN7_E : zy_spl (fun g => zy_en (zp_X12_in, 6, 0, 0) (zX zS_no 8) zqIN7_e [] 100000 (zy_B 11 zqIN7_K []) ([eLU 10, eL 0, eL 5] : List EV) zqw_w0 g) [] zqw_g4 = true := by decide +kernel
noncomputable def zqIN7_f (i : Nat) : Bool := zy_f 11 zp_X12_in (zX zS_no 8) 0 0 zqIN7_e [] 100000 zqIN7_K i
noncomputable def zcIN7 : ECal := zf_cal 195 10 [] [0] zqw_p2 ([eLU 10, eL 0, eL 5] : List EV) zqw_w0 zqw_g4 zqw_n18
theorem zcIN7_ok : ZE zcIN7 12 := ZE.met (n := 8) (es := zqw_n18) (hd := []) (F := 100000) (KS := zqIN7_K) (js := []) (sp0 := []) (by decide) zS_no_ok (y0 := 195) (q := (yX12_in, cX12_in, 6, (some .boolean), 12, 0, 0)) rfl ⟨rfl, rfl⟩ (m9 := (zp_X12_in, 6, 0, 0)) rfl rfl (fun e h => by simp only [zqw_n18, List.mem_cons, List.not_mem_nil, or_false] at h; rcases h with rfl | rfl <;> (intro q; cases q)) (N2 := 11) (by decide +kernel) (by decide) zqIN7_E (fun i hi => absurd (show i < 0 from hi) (Nat.not_lt_zero i))
noncomputable def zqw_g19 : EG := zy_su [(10, 2147483648, 2147483650)] zqw_g4
noncomputable def zqw_n20 : List ZN := [(some (eC 0), [], zqw_p2, zqw_w0, zqw_g4), (some (eC 1), [], zqw_p2, zqw_w0, zqw_g19)]
noncomputable def zqIN8_K : List ZC := []
noncomputable def zqIN8_e : ERt := zy_ends 11 zqw_n20
theorem zqIN8_E : zy_spl (fun g => zy_en (zp_X12_in, 6, 0, 0) (zX zS_no 8) zqIN8_e [] 100000 (zy_B 11 zqIN8_K []) ([eLU 10, eL 0, eL 2] : List EV) zqw_w0 g) [] zqw_g4 = true := by decide +kernel
noncomputable def zqIN8_f (i : Nat) : Bool := zy_f 11 zp_X12_in (zX zS_no 8) 0 0 zqIN8_e [] 100000 zqIN8_K i
noncomputable def zcIN8 : ECal := zf_cal 195 10 [] [0] zqw_p2 ([eLU 10, eL 0, eL 2] : List EV) zqw_w0 zqw_g4 zqw_n20
theorem zcIN8_ok : ZE zcIN8 12 := ZE.met (n := 8) (es := zqw_n20) (hd := []) (F := 100000) (KS := zqIN8_K) (js := []) (sp0 := []) (by decide) zS_no_ok (y0 := 195) (q := (yX12_in, cX12_in, 6, (some .boolean), 12, 0, 0)) rfl ⟨rfl, rfl⟩ (m9 := (zp_X12_in, 6, 0, 0)) rfl rfl (fun e h => by simp only [zqw_n20, List.mem_cons, List.not_mem_nil, or_false] at h; rcases h with rfl | rfl <;> (intro q; cases q)) (N2 := 11) (by decide +kernel) (by decide) zqIN8_E (fun i hi => absurd (show i < 0 from hi) (Nat.not_lt_zero i))
noncomputable def zqw_g21 : EG := zy_su [(10, 2147483648, 2147483708)] zqw_g4
noncomputable def zqw_n22 : List ZN := [(some (eC 0), [], zqw_p2, zqw_w0, zqw_g4), (some (eC 1), [], zqw_p2, zqw_w0, zqw_g21)]
noncomputable def zqIN9_K : List ZC := []
noncomputable def zqIN9_e : ERt := zy_ends 11 zqw_n22
theorem zqIN9_E : zy_spl (fun g => zy_en (zp_X12_in, 6, 0, 0) (zX zS_no 8) zqIN9_e [] 100000 (zy_B 11 zqIN9_K []) ([eLU 10, eL 0, eL 60] : List EV) zqw_w0 g) [] zqw_g4 = true := by decide +kernel
noncomputable def zqIN9_f (i : Nat) : Bool := zy_f 11 zp_X12_in (zX zS_no 8) 0 0 zqIN9_e [] 100000 zqIN9_K i
noncomputable def zcIN9 : ECal := zf_cal 195 10 [] [0] zqw_p2 ([eLU 10, eL 0, eL 60] : List EV) zqw_w0 zqw_g4 zqw_n22
theorem zcIN9_ok : ZE zcIN9 12 := ZE.met (n := 8) (es := zqw_n22) (hd := []) (F := 100000) (KS := zqIN9_K) (js := []) (sp0 := []) (by decide) zS_no_ok (y0 := 195) (q := (yX12_in, cX12_in, 6, (some .boolean), 12, 0, 0)) rfl ⟨rfl, rfl⟩ (m9 := (zp_X12_in, 6, 0, 0)) rfl rfl (fun e h => by simp only [zqw_n22, List.mem_cons, List.not_mem_nil, or_false] at h; rcases h with rfl | rfl <;> (intro q; cases q)) (N2 := 11) (by decide +kernel) (by decide) zqIN9_E (fun i hi => absurd (show i < 0 from hi) (Nat.not_lt_zero i))
noncomputable def zqw_g23 : EG := zy_su [(10, 2147483648, 2147483678)] zqw_g4
noncomputable def zqw_n24 : List ZN := [(some (eC 0), [], zqw_p2, zqw_w0, zqw_g4), (some (eC 1), [], zqw_p2, zqw_w0, zqw_g23)]
noncomputable def zqIN10_K : List ZC := []
noncomputable def zqIN10_e : ERt := zy_ends 11 zqw_n24
theorem zqIN10_E : zy_spl (fun g => zy_en (zp_X12_in, 6, 0, 0) (zX zS_no 8) zqIN10_e [] 100000 (zy_B 11 zqIN10_K []) ([eLU 10, eL 0, eL 30] : List EV) zqw_w0 g) [] zqw_g4 = true := by decide +kernel
noncomputable def zqIN10_f (i : Nat) : Bool := zy_f 11 zp_X12_in (zX zS_no 8) 0 0 zqIN10_e [] 100000 zqIN10_K i
noncomputable def zcIN10 : ECal := zf_cal 195 10 [] [0] zqw_p2 ([eLU 10, eL 0, eL 30] : List EV) zqw_w0 zqw_g4 zqw_n24
theorem zcIN10_ok : ZE zcIN10 12 := ZE.met (n := 8) (es := zqw_n24) (hd := []) (F := 100000) (KS := zqIN10_K) (js := []) (sp0 := []) (by decide) zS_no_ok (y0 := 195) (q := (yX12_in, cX12_in, 6, (some .boolean), 12, 0, 0)) rfl ⟨rfl, rfl⟩ (m9 := (zp_X12_in, 6, 0, 0)) rfl rfl (fun e h => by simp only [zqw_n24, List.mem_cons, List.not_mem_nil, or_false] at h; rcases h with rfl | rfl <;> (intro q; cases q)) (N2 := 11) (by decide +kernel) (by decide) zqIN10_E (fun i hi => absurd (show i < 0 from hi) (Nat.not_lt_zero i))
noncomputable def zqw_g25 : EG := zy_su [(10, 2147483645, 2147483651)] zqw_g4
noncomputable def zqw_n26 : List ZN := [(some (eC 0), [], zqw_p2, zqw_w0, zqw_g4), (some (eC 1), [], zqw_p2, zqw_w0, zqw_g25)]
noncomputable def zqIN11_K : List ZC := []
noncomputable def zqIN11_e : ERt := zy_ends 11 zqw_n26
theorem zqIN11_E : zy_spl (fun g => zy_en (zp_X12_in, 6, 0, 0) (zX zS_no 8) zqIN11_e [] 100000 (zy_B 11 zqIN11_K []) ([eLU 10, eL 18446744073709551613, eL 3] : List EV) zqw_w0 g) [] zqw_g4 = true := by decide +kernel
noncomputable def zqIN11_f (i : Nat) : Bool := zy_f 11 zp_X12_in (zX zS_no 8) 0 0 zqIN11_e [] 100000 zqIN11_K i
noncomputable def zcIN11 : ECal := zf_cal 195 10 [] [0] zqw_p2 ([eLU 10, eL 18446744073709551613, eL 3] : List EV) zqw_w0 zqw_g4 zqw_n26
theorem zcIN11_ok : ZE zcIN11 12 := ZE.met (n := 8) (es := zqw_n26) (hd := []) (F := 100000) (KS := zqIN11_K) (js := []) (sp0 := []) (by decide) zS_no_ok (y0 := 195) (q := (yX12_in, cX12_in, 6, (some .boolean), 12, 0, 0)) rfl ⟨rfl, rfl⟩ (m9 := (zp_X12_in, 6, 0, 0)) rfl rfl (fun e h => by simp only [zqw_n26, List.mem_cons, List.not_mem_nil, or_false] at h; rcases h with rfl | rfl <;> (intro q; cases q)) (N2 := 11) (by decide +kernel) (by decide) zqIN11_E (fun i hi => absurd (show i < 0 from hi) (Nat.not_lt_zero i))
noncomputable def zqw_g27 : EG := zy_su [(10, 2147483648, 2147483658)] zqw_g4
noncomputable def zqw_n28 : List ZN := [(some (eC 0), [], zqw_p2, zqw_w0, zqw_g4), (some (eC 1), [], zqw_p2, zqw_w0, zqw_g27)]
noncomputable def zqIN12_K : List ZC := []
noncomputable def zqIN12_e : ERt := zy_ends 11 zqw_n28
theorem zqIN12_E : zy_spl (fun g => zy_en (zp_X12_in, 6, 0, 0) (zX zS_no 8) zqIN12_e [] 100000 (zy_B 11 zqIN12_K []) ([eLU 10, eL 0, eL 10] : List EV) zqw_w0 g) [] zqw_g4 = true := by decide +kernel
noncomputable def zqIN12_f (i : Nat) : Bool := zy_f 11 zp_X12_in (zX zS_no 8) 0 0 zqIN12_e [] 100000 zqIN12_K i
noncomputable def zcIN12 : ECal := zf_cal 195 10 [] [0] zqw_p2 ([eLU 10, eL 0, eL 10] : List EV) zqw_w0 zqw_g4 zqw_n28
theorem zcIN12_ok : ZE zcIN12 12 := ZE.met (n := 8) (es := zqw_n28) (hd := []) (F := 100000) (KS := zqIN12_K) (js := []) (sp0 := []) (by decide) zS_no_ok (y0 := 195) (q := (yX12_in, cX12_in, 6, (some .boolean), 12, 0, 0)) rfl ⟨rfl, rfl⟩ (m9 := (zp_X12_in, 6, 0, 0)) rfl rfl (fun e h => by simp only [zqw_n28, List.mem_cons, List.not_mem_nil, or_false] at h; rcases h with rfl | rfl <;> (intro q; cases q)) (N2 := 11) (by decide +kernel) (by decide) zqIN12_E (fun i hi => absurd (show i < 0 from hi) (Nat.not_lt_zero i))
noncomputable def zqw_g29 : EG := zy_su [(10, 2147483628, 2147483668)] zqw_g4
noncomputable def zqw_n30 : List ZN := [(some (eC 0), [], zqw_p2, zqw_w0, zqw_g4), (some (eC 1), [], zqw_p2, zqw_w0, zqw_g29)]
noncomputable def zqIN13_K : List ZC := []
noncomputable def zqIN13_e : ERt := zy_ends 11 zqw_n30
theorem zqIN13_E : zy_spl (fun g => zy_en (zp_X12_in, 6, 0, 0) (zX zS_no 8) zqIN13_e [] 100000 (zy_B 11 zqIN13_K []) ([eLU 10, eL 18446744073709551596, eL 20] : List EV) zqw_w0 g) [] zqw_g4 = true := by decide +kernel
noncomputable def zqIN13_f (i : Nat) : Bool := zy_f 11 zp_X12_in (zX zS_no 8) 0 0 zqIN13_e [] 100000 zqIN13_K i
noncomputable def zcIN13 : ECal := zf_cal 195 10 [] [0] zqw_p2 ([eLU 10, eL 18446744073709551596, eL 20] : List EV) zqw_w0 zqw_g4 zqw_n30
theorem zcIN13_ok : ZE zcIN13 12 := ZE.met (n := 8) (es := zqw_n30) (hd := []) (F := 100000) (KS := zqIN13_K) (js := []) (sp0 := []) (by decide) zS_no_ok (y0 := 195) (q := (yX12_in, cX12_in, 6, (some .boolean), 12, 0, 0)) rfl ⟨rfl, rfl⟩ (m9 := (zp_X12_in, 6, 0, 0)) rfl rfl (fun e h => by simp only [zqw_n30, List.mem_cons, List.not_mem_nil, or_false] at h; rcases h with rfl | rfl <;> (intro q; cases q)) (N2 := 11) (by decide +kernel) (by decide) zqIN13_E (fun i hi => absurd (show i < 0 from hi) (Nat.not_lt_zero i))
noncomputable def zqw_g31 : EG := zy_su [(10, 2147483648, 2147483666)] zqw_g4
noncomputable def zqw_n32 : List ZN := [(some (eC 0), [], zqw_p2, zqw_w0, zqw_g4), (some (eC 1), [], zqw_p2, zqw_w0, zqw_g31)]
noncomputable def zqIN14_K : List ZC := []
noncomputable def zqIN14_e : ERt := zy_ends 11 zqw_n32
theorem zqIN14_E : zy_spl (fun g => zy_en (zp_X12_in, 6, 0, 0) (zX zS_no 8) zqIN14_e [] 100000 (zy_B 11 zqIN14_K []) ([eLU 10, eL 0, eL 18] : List EV) zqw_w0 g) [] zqw_g4 = true := by decide +kernel
noncomputable def zqIN14_f (i : Nat) : Bool := zy_f 11 zp_X12_in (zX zS_no 8) 0 0 zqIN14_e [] 100000 zqIN14_K i
noncomputable def zcIN14 : ECal := zf_cal 195 10 [] [0] zqw_p2 ([eLU 10, eL 0, eL 18] : List EV) zqw_w0 zqw_g4 zqw_n32
theorem zcIN14_ok : ZE zcIN14 12 := ZE.met (n := 8) (es := zqw_n32) (hd := []) (F := 100000) (KS := zqIN14_K) (js := []) (sp0 := []) (by decide) zS_no_ok (y0 := 195) (q := (yX12_in, cX12_in, 6, (some .boolean), 12, 0, 0)) rfl ⟨rfl, rfl⟩ (m9 := (zp_X12_in, 6, 0, 0)) rfl rfl (fun e h => by simp only [zqw_n32, List.mem_cons, List.not_mem_nil, or_false] at h; rcases h with rfl | rfl <;> (intro q; cases q)) (N2 := 11) (by decide +kernel) (by decide) zqIN14_E (fun i hi => absurd (show i < 0 from hi) (Nat.not_lt_zero i))
noncomputable def zqw_g33 : EG := zy_su [(10, 2147483649, 2147483708)] zqw_g4
noncomputable def zqw_n34 : List ZN := [(some (eC 0), [], zqw_p2, zqw_w0, zqw_g4), (some (eC 1), [], zqw_p2, zqw_w0, zqw_g33)]
noncomputable def zqIN15_K : List ZC := []
noncomputable def zqIN15_e : ERt := zy_ends 11 zqw_n34
theorem zqIN15_E : zy_spl (fun g => zy_en (zp_X12_in, 6, 0, 0) (zX zS_no 8) zqIN15_e [] 100000 (zy_B 11 zqIN15_K []) ([eLU 10, eL 1, eL 60] : List EV) zqw_w0 g) [] zqw_g4 = true := by decide +kernel
noncomputable def zqIN15_f (i : Nat) : Bool := zy_f 11 zp_X12_in (zX zS_no 8) 0 0 zqIN15_e [] 100000 zqIN15_K i
noncomputable def zcIN15 : ECal := zf_cal 195 10 [] [0] zqw_p2 ([eLU 10, eL 1, eL 60] : List EV) zqw_w0 zqw_g4 zqw_n34
theorem zcIN15_ok : ZE zcIN15 12 := ZE.met (n := 8) (es := zqw_n34) (hd := []) (F := 100000) (KS := zqIN15_K) (js := []) (sp0 := []) (by decide) zS_no_ok (y0 := 195) (q := (yX12_in, cX12_in, 6, (some .boolean), 12, 0, 0)) rfl ⟨rfl, rfl⟩ (m9 := (zp_X12_in, 6, 0, 0)) rfl rfl (fun e h => by simp only [zqw_n34, List.mem_cons, List.not_mem_nil, or_false] at h; rcases h with rfl | rfl <;> (intro q; cases q)) (N2 := 11) (by decide +kernel) (by decide) zqIN15_E (fun i hi => absurd (show i < 0 from hi) (Nat.not_lt_zero i))
noncomputable def zqw_g35 : EG := zy_su [(10, 2147483658, 2147483667)] zqw_g4
noncomputable def zqw_n36 : List ZN := [(some (eC 0), [], zqw_p2, zqw_w0, zqw_g4), (some (eC 1), [], zqw_p2, zqw_w0, zqw_g35)]
noncomputable def zqIN16_K : List ZC := []
noncomputable def zqIN16_e : ERt := zy_ends 11 zqw_n36
theorem zqIN16_E : zy_spl (fun g => zy_en (zp_X12_in, 6, 0, 0) (zX zS_no 8) zqIN16_e [] 100000 (zy_B 11 zqIN16_K []) ([eLU 10, eL 10, eL 19] : List EV) zqw_w0 g) [] zqw_g4 = true := by decide +kernel
noncomputable def zqIN16_f (i : Nat) : Bool := zy_f 11 zp_X12_in (zX zS_no 8) 0 0 zqIN16_e [] 100000 zqIN16_K i
noncomputable def zcIN16 : ECal := zf_cal 195 10 [] [0] zqw_p2 ([eLU 10, eL 10, eL 19] : List EV) zqw_w0 zqw_g4 zqw_n36
theorem zcIN16_ok : ZE zcIN16 12 := ZE.met (n := 8) (es := zqw_n36) (hd := []) (F := 100000) (KS := zqIN16_K) (js := []) (sp0 := []) (by decide) zS_no_ok (y0 := 195) (q := (yX12_in, cX12_in, 6, (some .boolean), 12, 0, 0)) rfl ⟨rfl, rfl⟩ (m9 := (zp_X12_in, 6, 0, 0)) rfl rfl (fun e h => by simp only [zqw_n36, List.mem_cons, List.not_mem_nil, or_false] at h; rcases h with rfl | rfl <;> (intro q; cases q)) (N2 := 11) (by decide +kernel) (by decide) zqIN16_E (fun i hi => absurd (show i < 0 from hi) (Nat.not_lt_zero i))
def zqw_g37 : EG := [(0, 4294967295), (0, 4294967295), (0, 4294967295), (0, 4294967295), (0, 4294967295), (0, 4294967295), (0, 4294967295), (0, 4294967295), (0, 4294967295), (0, 4294967295), (0, 4294967295), (2147483647, 2147483651)]
noncomputable def zqw_g38 : EG := zy_su [(10, 2147483648, 2147483651), (11, 2147483648, 2147483651)] zqw_g37
noncomputable def zqw_n39 : List ZN := [(some (eC 0), [], zqw_p2, zqw_w0, zqw_g37), (some (eC 1), [], zqw_p2, zqw_w0, zqw_g38)]
noncomputable def zqIN17_K : List ZC := []
noncomputable def zqIN17_e : ERt := zy_ends 12 zqw_n39
theorem zqIN17_E : zy_spl (fun g => zy_en (zp_X12_in, 6, 0, 0) (zX zS_no 8) zqIN17_e [] 100000 (zy_B 12 zqIN17_K []) ([eLU 10, eL 0, eLU 11] : List EV) zqw_w0 g) [] zqw_g37 = true := by decide +kernel
noncomputable def zqIN17_f (i : Nat) : Bool := zy_f 12 zp_X12_in (zX zS_no 8) 0 0 zqIN17_e [] 100000 zqIN17_K i
noncomputable def zcIN17 : ECal := zf_cal 195 10 [] [0, 2] zqw_p2 ([eLU 10, eL 0, eLU 11] : List EV) zqw_w0 zqw_g37 zqw_n39
theorem zcIN17_ok : ZE zcIN17 12 := ZE.met (n := 8) (es := zqw_n39) (hd := []) (F := 100000) (KS := zqIN17_K) (js := []) (sp0 := []) (by decide) zS_no_ok (y0 := 195) (q := (yX12_in, cX12_in, 6, (some .boolean), 12, 0, 0)) rfl ⟨rfl, rfl⟩ (m9 := (zp_X12_in, 6, 0, 0)) rfl rfl (fun e h => by simp only [zqw_n39, List.mem_cons, List.not_mem_nil, or_false] at h; rcases h with rfl | rfl <;> (intro q; cases q)) (N2 := 12) (by decide +kernel) (by decide) zqIN17_E (fun i hi => absurd (show i < 0 from hi) (Nat.not_lt_zero i))
def zqw_g40 : EG := [(0, 4294967295), (0, 4294967295), (0, 4294967295), (0, 4294967295), (0, 4294967295), (0, 4294967295), (0, 4294967295), (0, 4294967295), (0, 4294967295), (0, 4294967295), (0, 4294967295), (2147483647, 2147483652)]
noncomputable def zqw_g41 : EG := zy_su [(10, 2147483648, 2147483652), (11, 2147483648, 2147483652)] zqw_g40
noncomputable def zqw_n42 : List ZN := [(some (eC 0), [], zqw_p2, zqw_w0, zqw_g40), (some (eC 1), [], zqw_p2, zqw_w0, zqw_g41)]
noncomputable def zqIN18_K : List ZC := []
noncomputable def zqIN18_e : ERt := zy_ends 12 zqw_n42
theorem zqIN18_E : zy_spl (fun g => zy_en (zp_X12_in, 6, 0, 0) (zX zS_no 8) zqIN18_e [] 100000 (zy_B 12 zqIN18_K []) ([eLU 10, eL 0, eLU 11] : List EV) zqw_w0 g) [] zqw_g40 = true := by decide +kernel
noncomputable def zqIN18_f (i : Nat) : Bool := zy_f 12 zp_X12_in (zX zS_no 8) 0 0 zqIN18_e [] 100000 zqIN18_K i
noncomputable def zcIN18 : ECal := zf_cal 195 10 [] [0, 2] zqw_p2 ([eLU 10, eL 0, eLU 11] : List EV) zqw_w0 zqw_g40 zqw_n42
theorem zcIN18_ok : ZE zcIN18 12 := ZE.met (n := 8) (es := zqw_n42) (hd := []) (F := 100000) (KS := zqIN18_K) (js := []) (sp0 := []) (by decide) zS_no_ok (y0 := 195) (q := (yX12_in, cX12_in, 6, (some .boolean), 12, 0, 0)) rfl ⟨rfl, rfl⟩ (m9 := (zp_X12_in, 6, 0, 0)) rfl rfl (fun e h => by simp only [zqw_n42, List.mem_cons, List.not_mem_nil, or_false] at h; rcases h with rfl | rfl <;> (intro q; cases q)) (N2 := 12) (by decide +kernel) (by decide) zqIN18_E (fun i hi => absurd (show i < 0 from hi) (Nat.not_lt_zero i))
def zqw_g43 : EG := [(0, 4294967295), (0, 4294967295), (0, 4294967295), (0, 4294967295), (0, 4294967295), (0, 4294967295), (0, 4294967295), (0, 4294967295), (0, 4294967295), (0, 4294967295), (0, 4294967295), (2147483647, 2147483671)]
noncomputable def zqw_g44 : EG := zy_su [(10, 2147483648, 2147483671), (11, 2147483648, 2147483671)] zqw_g43
noncomputable def zqw_n45 : List ZN := [(some (eC 0), [], zqw_p2, zqw_w0, zqw_g43), (some (eC 1), [], zqw_p2, zqw_w0, zqw_g44)]
noncomputable def zqIN19_K : List ZC := []
noncomputable def zqIN19_e : ERt := zy_ends 12 zqw_n45
theorem zqIN19_E : zy_spl (fun g => zy_en (zp_X12_in, 6, 0, 0) (zX zS_no 8) zqIN19_e [] 100000 (zy_B 12 zqIN19_K []) ([eLU 10, eL 0, eLU 11] : List EV) zqw_w0 g) [] zqw_g43 = true := by decide +kernel
noncomputable def zqIN19_f (i : Nat) : Bool := zy_f 12 zp_X12_in (zX zS_no 8) 0 0 zqIN19_e [] 100000 zqIN19_K i
noncomputable def zcIN19 : ECal := zf_cal 195 10 [] [0, 2] zqw_p2 ([eLU 10, eL 0, eLU 11] : List EV) zqw_w0 zqw_g43 zqw_n45
theorem zcIN19_ok : ZE zcIN19 12 := ZE.met (n := 8) (es := zqw_n45) (hd := []) (F := 100000) (KS := zqIN19_K) (js := []) (sp0 := []) (by decide) zS_no_ok (y0 := 195) (q := (yX12_in, cX12_in, 6, (some .boolean), 12, 0, 0)) rfl ⟨rfl, rfl⟩ (m9 := (zp_X12_in, 6, 0, 0)) rfl rfl (fun e h => by simp only [zqw_n45, List.mem_cons, List.not_mem_nil, or_false] at h; rcases h with rfl | rfl <;> (intro q; cases q)) (N2 := 12) (by decide +kernel) (by decide) zqIN19_E (fun i hi => absurd (show i < 0 from hi) (Nat.not_lt_zero i))
def zqw_g46 : EG := [(0, 4294967295), (0, 4294967295), (0, 4294967295), (0, 4294967295), (0, 4294967295), (0, 4294967295), (0, 4294967295), (0, 4294967295), (0, 4294967295), (0, 4294967295), (0, 4294967295), (2147483648, 2147483728)]
noncomputable def zqw_g47 : EG := zy_su [(10, 2147483648, 2147483728)] zqw_g46
noncomputable def zqw_n48 : List ZN := [(some (eC 0), [], zqw_p2, zqw_w0, zqw_g46), (some (eC 1), [], zqw_p2, zqw_w0, zqw_g47)]
noncomputable def zqIN20_K : List ZC := []
noncomputable def zqIN20_e : ERt := zy_ends 12 zqw_n48
theorem zqIN20_E : zy_spl (fun g => zy_en (zp_X12_in, 6, 0, 0) (zX zS_no 8) zqIN20_e [] 100000 (zy_B 12 zqIN20_K []) ([eLU 10, eL 0, eLU 11] : List EV) zqw_w0 g) [] zqw_g46 = true := by decide +kernel
noncomputable def zqIN20_f (i : Nat) : Bool := zy_f 12 zp_X12_in (zX zS_no 8) 0 0 zqIN20_e [] 100000 zqIN20_K i
noncomputable def zcIN20 : ECal := zf_cal 195 10 [] [0, 2] zqw_p2 ([eLU 10, eL 0, eLU 11] : List EV) zqw_w0 zqw_g46 zqw_n48
theorem zcIN20_ok : ZE zcIN20 12 := ZE.met (n := 8) (es := zqw_n48) (hd := []) (F := 100000) (KS := zqIN20_K) (js := []) (sp0 := []) (by decide) zS_no_ok (y0 := 195) (q := (yX12_in, cX12_in, 6, (some .boolean), 12, 0, 0)) rfl ⟨rfl, rfl⟩ (m9 := (zp_X12_in, 6, 0, 0)) rfl rfl (fun e h => by simp only [zqw_n48, List.mem_cons, List.not_mem_nil, or_false] at h; rcases h with rfl | rfl <;> (intro q; cases q)) (N2 := 12) (by decide +kernel) (by decide) zqIN20_E (fun i hi => absurd (show i < 0 from hi) (Nat.not_lt_zero i))
noncomputable def zEin : ECal := zS_or zcIN0 (zS_or zcIN1 (zS_or zcIN2 (zS_or zcIN3 (zS_or zcIN4 (zS_or zcIN5 (zS_or zcIN6 (zS_or zcIN7 (zS_or zcIN8 (zS_or zcIN9 (zS_or zcIN10 (zS_or zcIN11 (zS_or zcIN12 (zS_or zcIN13 (zS_or zcIN14 (zS_or zcIN15 (zS_or zcIN16 (zS_or zcIN17 (zS_or zcIN18 (zS_or zcIN19 (zcIN20))))))))))))))))))))
theorem zEin_ok : ZE zEin 12 := (ZE.or zcIN0_ok ((ZE.or zcIN1_ok ((ZE.or zcIN2_ok ((ZE.or zcIN3_ok ((ZE.or zcIN4_ok ((ZE.or zcIN5_ok ((ZE.or zcIN6_ok ((ZE.or zcIN7_ok ((ZE.or zcIN8_ok ((ZE.or zcIN9_ok ((ZE.or zcIN10_ok ((ZE.or zcIN11_ok ((ZE.or zcIN12_ok ((ZE.or zcIN13_ok ((ZE.or zcIN14_ok ((ZE.or zcIN15_ok ((ZE.or zcIN16_ok ((ZE.or zcIN17_ok ((ZE.or zcIN18_ok ((ZE.or zcIN19_ok (zcIN20_ok) (by decide) (by decide) : ZE (zS_or zcIN19 (zcIN20)) 12)) (by decide) (by decide) : ZE (zS_or zcIN18 (zS_or zcIN19 (zcIN20))) 12)) (by decide) (by decide) : ZE (zS_or zcIN17 (zS_or zcIN18 (zS_or zcIN19 (zcIN20)))) 12)) (by decide) (by decide) : ZE (zS_or zcIN16 (zS_or zcIN17 (zS_or zcIN18 (zS_or zcIN19 (zcIN20))))) 12)) (by decide) (by decide) : ZE (zS_or zcIN15 (zS_or zcIN16 (zS_or zcIN17 (zS_or zcIN18 (zS_or zcIN19 (zcIN20)))))) 12)) (by decide) (by decide) : ZE (zS_or zcIN14 (zS_or zcIN15 (zS_or zcIN16 (zS_or zcIN17 (zS_or zcIN18 (zS_or zcIN19 (zcIN20))))))) 12)) (by decide) (by decide) : ZE (zS_or zcIN13 (zS_or zcIN14 (zS_or zcIN15 (zS_or zcIN16 (zS_or zcIN17 (zS_or zcIN18 (zS_or zcIN19 (zcIN20)))))))) 12)) (by decide) (by decide) : ZE (zS_or zcIN12 (zS_or zcIN13 (zS_or zcIN14 (zS_or zcIN15 (zS_or zcIN16 (zS_or zcIN17 (zS_or zcIN18 (zS_or zcIN19 (zcIN20))))))))) 12)) (by decide) (by decide) : ZE (zS_or zcIN11 (zS_or zcIN12 (zS_or zcIN13 (zS_or zcIN14 (zS_or zcIN15 (zS_or zcIN16 (zS_or zcIN17 (zS_or zcIN18 (zS_or zcIN19 (zcIN20)))))))))) 12)) (by decide) (by decide) : ZE (zS_or zcIN10 (zS_or zcIN11 (zS_or zcIN12 (zS_or zcIN13 (zS_or zcIN14 (zS_or zcIN15 (zS_or zcIN16 (zS_or zcIN17 (zS_or zcIN18 (zS_or zcIN19 (zcIN20))))))))))) 12)) (by decide) (by decide) : ZE (zS_or zcIN9 (zS_or zcIN10 (zS_or zcIN11 (zS_or zcIN12 (zS_or zcIN13 (zS_or zcIN14 (zS_or zcIN15 (zS_or zcIN16 (zS_or zcIN17 (zS_or zcIN18 (zS_or zcIN19 (zcIN20)))))))))))) 12)) (by decide) (by decide) : ZE (zS_or zcIN8 (zS_or zcIN9 (zS_or zcIN10 (zS_or zcIN11 (zS_or zcIN12 (zS_or zcIN13 (zS_or zcIN14 (zS_or zcIN15 (zS_or zcIN16 (zS_or zcIN17 (zS_or zcIN18 (zS_or zcIN19 (zcIN20))))))))))))) 12)) (by decide) (by decide) : ZE (zS_or zcIN7 (zS_or zcIN8 (zS_or zcIN9 (zS_or zcIN10 (zS_or zcIN11 (zS_or zcIN12 (zS_or zcIN13 (zS_or zcIN14 (zS_or zcIN15 (zS_or zcIN16 (zS_or zcIN17 (zS_or zcIN18 (zS_or zcIN19 (zcIN20)))))))))))))) 12)) (by decide) (by decide) : ZE (zS_or zcIN6 (zS_or zcIN7 (zS_or zcIN8 (zS_or zcIN9 (zS_or zcIN10 (zS_or zcIN11 (zS_or zcIN12 (zS_or zcIN13 (zS_or zcIN14 (zS_or zcIN15 (zS_or zcIN16 (zS_or zcIN17 (zS_or zcIN18 (zS_or zcIN19 (zcIN20))))))))))))))) 12)) (by decide) (by decide) : ZE (zS_or zcIN5 (zS_or zcIN6 (zS_or zcIN7 (zS_or zcIN8 (zS_or zcIN9 (zS_or zcIN10 (zS_or zcIN11 (zS_or zcIN12 (zS_or zcIN13 (zS_or zcIN14 (zS_or zcIN15 (zS_or zcIN16 (zS_or zcIN17 (zS_or zcIN18 (zS_or zcIN19 (zcIN20)))))))))))))))) 12)) (by decide) (by decide) : ZE (zS_or zcIN4 (zS_or zcIN5 (zS_or zcIN6 (zS_or zcIN7 (zS_or zcIN8 (zS_or zcIN9 (zS_or zcIN10 (zS_or zcIN11 (zS_or zcIN12 (zS_or zcIN13 (zS_or zcIN14 (zS_or zcIN15 (zS_or zcIN16 (zS_or zcIN17 (zS_or zcIN18 (zS_or zcIN19 (zcIN20))))))))))))))))) 12)) (by decide) (by decide) : ZE (zS_or zcIN3 (zS_or zcIN4 (zS_or zcIN5 (zS_or zcIN6 (zS_or zcIN7 (zS_or zcIN8 (zS_or zcIN9 (zS_or zcIN10 (zS_or zcIN11 (zS_or zcIN12 (zS_or zcIN13 (zS_or zcIN14 (zS_or zcIN15 (zS_or zcIN16 (zS_or zcIN17 (zS_or zcIN18 (zS_or zcIN19 (zcIN20)))))))))))))))))) 12)) (by decide) (by decide) : ZE (zS_or zcIN2 (zS_or zcIN3 (zS_or zcIN4 (zS_or zcIN5 (zS_or zcIN6 (zS_or zcIN7 (zS_or zcIN8 (zS_or zcIN9 (zS_or zcIN10 (zS_or zcIN11 (zS_or zcIN12 (zS_or zcIN13 (zS_or zcIN14 (zS_or zcIN15 (zS_or zcIN16 (zS_or zcIN17 (zS_or zcIN18 (zS_or zcIN19 (zcIN20))))))))))))))))))) 12)) (by decide) (by decide) : ZE (zS_or zcIN1 (zS_or zcIN2 (zS_or zcIN3 (zS_or zcIN4 (zS_or zcIN5 (zS_or zcIN6 (zS_or zcIN7 (zS_or zcIN8 (zS_or zcIN9 (zS_or zcIN10 (zS_or zcIN11 (zS_or zcIN12 (zS_or zcIN13 (zS_or zcIN14 (zS_or zcIN15 (zS_or zcIN16 (zS_or zcIN17 (zS_or zcIN18 (zS_or zcIN19 (zcIN20)))))))))))))))))))) 12)) (by decide) (by decide) : ZE (zS_or zcIN0 (zS_or zcIN1 (zS_or zcIN2 (zS_or zcIN3 (zS_or zcIN4 (zS_or zcIN5 (zS_or zcIN6 (zS_or zcIN7 (zS_or zcIN8 (zS_or zcIN9 (zS_or zcIN10 (zS_or zcIN11 (zS_or zcIN12 (zS_or zcIN13 (zS_or zcIN14 (zS_or zcIN15 (zS_or zcIN16 (zS_or zcIN17 (zS_or zcIN18 (zS_or zcIN19 (zcIN20))))))))))))))))))))) 12)
noncomputable def zqw_e49 : EC := (12, [eU 11, eU 12, eR 1, eU 13, eU 14, eU 15, eR 2, eR 3, eR 4, eR 5, eU 18, eU 19, eU 20, eU 21, eR 6, eU 27, eR 7, eR 8, eU 30, eU 31, eR 9, eR 10, eU 32, eR 11, eR 12, eR 13, eR 14, eR 15, eR 16, eU 33, eR 17, eR 18, eU 34, eU 35, eR 19, eR 20, eU 36, eR 21, eR 22, eU 49, eR 23, eR 24, eR 25, eR 26, eR 27, eR 28, eU 51, eR 29, eR 30, eR 31])
noncomputable def zqw_e50 : EC := (1150, [eC 24, eC 0, eC 4294967295])
noncomputable def zqw_e51 : EC := (1100, [eC 5, eC 2147483648, eC 2147483652])
noncomputable def zqw_e52 : EC := (1100, [eC 29, eC 0, eC 4294967295])
noncomputable def zqw_e53 : EC := (1303, [eU 16, eU 17])
noncomputable def zqw_e54 : EC := (100, [eU 22, eU 23, eU 24, eU 25, eU 26])
noncomputable def zqw_e55 : EC := (1300, [eU 30, eC 0, eC 0])
noncomputable def zqw_e56 : EC := (1301, [eU 28, eC 0, eU 31, eU 29, eC 0, eU 19, eU 19, eC 0])
noncomputable def zqw_e57 : EC := (1100, [eC 80, eC 0, eC 4294967295])
noncomputable def zqw_e58 : EC := (1100, [eC 7, eC 0, eC 4294967295])
noncomputable def zqw_e59 : EC := (1100, [eC 464, eC 0, eC 4294967295])
noncomputable def zqw_e60 : EC := (1100, [eC 20, eC 0, eC 4294967295])
noncomputable def zqw_e61 : EC := (1100, [eC 60, eC 2147483393, eC 2147483903])
noncomputable def zqw_c62 : List EC := [zqw_e49, zqw_e50, zqw_e51, zqw_e52, zqw_e52, zqw_e53, zqw_e54, zqw_e55, zqw_e56, zqw_e57, zqw_e58, zqw_e59, zqw_e60, zqw_e61, zqw_e61, zqw_e61]
noncomputable def zqw_e63 : EC := (1100, [eC 5, eC 0, eC 4294967295])
noncomputable def zqw_e64 : EC := (1100, [eC 10, eC 2147483648, eC 2147483667])
noncomputable def zqw_e65 : EC := (1100, [eC 10, eC 0, eC 4294967295])
noncomputable def zqw_e66 : EC := (100, [eU 37, eU 38, eU 39, eU 40, eU 41, eU 42, eU 43, eU 44, eU 45, eU 46, eU 47, eU 48])
noncomputable def zqw_e67 : EC := (1302, [eU 37, eU 38, eU 39, eU 40, eU 41, eU 42, eU 43, eU 44, eU 45, eU 46, eU 47, eU 48])
noncomputable def zqw_e68 : EC := (1100, [eC 10, eC 2147483645, eC 2147483651])
noncomputable def zqw_e69 : EC := (1100, [eC 10, eC 2147483648, eC 2147483651])
noncomputable def zqw_e70 : EC := (1100, [eC 41, eC 0, eC 4294967295])
noncomputable def zqw_e71 : EC := (1100, [eC 61, eC 0, eC 4294967295])
noncomputable def zqw_e72 : EC := (1300, [eU 50, eC 0, eC 0])
noncomputable def zqw_e73 : EC := (1104, [eC 3, eC 2147483648, eC 2147483649])
noncomputable def zqw_e74 : EC := (1100, [eC 3, eC 0, eC 4294967295])
noncomputable def zqw_e75 : EC := (1100, [eC 87, eC 0, eC 4294967295])
noncomputable def zqw_c76 : List EC := [zqw_e61, zqw_e63, zqw_e63, zqw_e64, zqw_e65, zqw_e66, zqw_e67, zqw_e68, zqw_e69, zqw_e65, zqw_e70, zqw_e71, zqw_e72, zqw_e73, zqw_e74, zqw_e75]
noncomputable def zqw_w77 : EW := (32, [zqw_c62, zqw_c76])
def zqw_g78 : EG := [(0, 4294967295), (0, 4294967295), (0, 4294967295), (0, 4294967295), (0, 4294967295), (0, 4294967295), (0, 4294967295), (0, 4294967295), (0, 4294967295), (0, 4294967295), (2147483648, 2147483903), (2147483648, 2147483649), (2147483648, 2147483672), (2147483648, 2147483653), (2147483648, 2147483653), (0, 4294967295), (2147483648, 2147483727), (2147483648, 2147483903), (2147483648, 2147483728), (2147483648, 2147483688), (2147483648, 2147483688), (0, 4294967295), (2147483648, 2147483655), (2147483648, 2147483655), (2147483648, 2147483655), (2147483648, 2147483655), (2147483648, 2147483655), (2147483648, 2147483653), (2147483648, 4294967295), (2147483648, 4294967295), (2147483648, 2147483688), (2147483648, 2147483688), (2147483648, 2147483663), (2147483648, 2147483708), (0, 4294967295), (2147483648, 2147483658), (2147483648, 2147483660), (2147483648, 2147483651), (2147483648, 2147483651), (2147483648, 2147483651), (2147483648, 2147483651), (2147483648, 2147483651), (2147483648, 2147483651), (2147483648, 2147483651), (2147483648, 2147483651), (2147483648, 2147483651), (2147483648, 2147483651), (2147483648, 2147483651), (2147483648, 2147483651), (2147483648, 2147483658), (2147483648, 2147483688), (0, 4294967295)]
def zqw_p79 : List (Nat × Nat) := [(5, 0), (5, 1)]
noncomputable def zqw_e80 : EC := (1303, [eU 52, eU 53])
noncomputable def zqw_c81 : List EC := [zqw_e49, zqw_e50, zqw_e51, zqw_e52, zqw_e52, zqw_e80, zqw_e54, zqw_e55, zqw_e56, zqw_e57, zqw_e58, zqw_e59, zqw_e60, zqw_e61, zqw_e61, zqw_e61]
noncomputable def zqw_w82 : EW := (32, [zqw_c81, zqw_c76])
noncomputable def zqw_g83 : EG := zqw_g78 ++ [(2147483648, 2147483727), (2147483648, 2147483903)]
def zqw_p84 : List (Nat × Nat) := [(0, 11), (5, 1)]
noncomputable def zqw_e85 : EC := (12, [eU 11, eU 12, eR 1, eU 13, eU 14, eU 15, eR 2, eR 3, eR 4, eR 5, eU 18, eU 52, eU 20, eU 21, eR 6, eU 27, eR 7, eR 8, eU 30, eU 31, eR 9, eR 10, eU 32, eR 11, eR 12, eR 13, eR 14, eR 15, eR 16, eU 33, eR 17, eR 18, eU 34, eU 35, eR 19, eR 20, eU 36, eR 21, eR 22, eU 49, eR 23, eR 24, eR 25, eR 26, eR 27, eR 28, eU 51, eR 29, eR 30, eR 31])
noncomputable def zqw_e86 : EC := (1303, [eU 19, eU 53])
noncomputable def zqw_e87 : EC := (1301, [eU 28, eC 0, eU 31, eU 29, eC 1, eU 52, eU 19, eC 1])
noncomputable def zqw_c88 : List EC := [zqw_e85, zqw_e50, zqw_e51, zqw_e52, zqw_e52, zqw_e86, zqw_e54, zqw_e55, zqw_e87, zqw_e57, zqw_e58, zqw_e59, zqw_e60, zqw_e61, zqw_e61, zqw_e61]
noncomputable def zqw_w89 : EW := (32, [zqw_c88, zqw_c76])
noncomputable def zqw_g90 : EG := zqw_g78 ++ [(2147483649, 2147483688), (2147483648, 2147483903)]
noncomputable def zqw_n91 : List ZN := [(some (eC 0), [], zqw_p79, zqw_w82, zqw_g83), (some (eC 1), [], zqw_p84, zqw_w89, zqw_g90)]
noncomputable def zqT_K : List ZC := []
noncomputable def zqT_e : ERt := zy_ends 52 zqw_n91
theorem zqT_E : zy_spl (fun g => zy_en (zp_X12_takes, 3, 0, 0) (zX zEin 8) zqT_e [] 100000 (zy_B 52 zqT_K []) ([eR 0, eU 10] : List EV) zqw_w77 g) [(19, [2147483648, 2147483649, 2147483650, 2147483651, 2147483652, 2147483653, 2147483654, 2147483655, 2147483656, 2147483657, 2147483658, 2147483659, 2147483660, 2147483661, 2147483662, 2147483663, 2147483664, 2147483665, 2147483666, 2147483667, 2147483668, 2147483669, 2147483670, 2147483671, 2147483672, 2147483673, 2147483674, 2147483675, 2147483676, 2147483677, 2147483678, 2147483679, 2147483680, 2147483681, 2147483682, 2147483683, 2147483684, 2147483685, 2147483686, 2147483687])] zqw_g78 = true := by decide +kernel
noncomputable def zqT_f (i : Nat) : Bool := zy_f 52 zp_X12_takes (zX zEin 8) 0 0 zqT_e [] 100000 zqT_K i
def zqw_p92 : List (Nat × Nat) := [(0, 0), (0, 1), (0, 3), (0, 4), (0, 5), (5, 0), (5, 1), (0, 10), (0, 11), (0, 12), (0, 13), (6, 0), (6, 1), (6, 2), (6, 3), (6, 4), (0, 15), (8, 0), (8, 3), (0, 18), (0, 19), (0, 22), (0, 29), (0, 32), (0, 33), (0, 36), (21, 0), (21, 1), (21, 2), (21, 3), (21, 4), (21, 5), (21, 6), (21, 7), (21, 8), (21, 9), (21, 10), (21, 11), (0, 39), (28, 0), (0, 46)]
noncomputable def zcT : ECal := zf_cal 218 10 [.inl 0, .inr (0, 2), .inr (0, 6), .inr (0, 7), .inr (0, 8), .inr (0, 9), .inr (0, 14), .inr (0, 16), .inr (0, 17), .inr (0, 20), .inr (0, 21), .inr (0, 23), .inr (0, 24), .inr (0, 25), .inr (0, 26), .inr (0, 27), .inr (0, 28), .inr (0, 30), .inr (0, 31), .inr (0, 34), .inr (0, 35), .inr (0, 37), .inr (0, 38), .inr (0, 40), .inr (0, 41), .inr (0, 42), .inr (0, 43), .inr (0, 44), .inr (0, 45), .inr (0, 47), .inr (0, 48), .inr (0, 49)] [1] zqw_p92 ([eR 0, eU 10] : List EV) zqw_w77 zqw_g78 zqw_n91
theorem zcT_ok : ZE zcT 21 := ZE.met (n := 8) (es := zqw_n91) (hd := []) (F := 100000) (KS := zqT_K) (js := []) (sp0 := [(19, [2147483648, 2147483649, 2147483650, 2147483651, 2147483652, 2147483653, 2147483654, 2147483655, 2147483656, 2147483657, 2147483658, 2147483659, 2147483660, 2147483661, 2147483662, 2147483663, 2147483664, 2147483665, 2147483666, 2147483667, 2147483668, 2147483669, 2147483670, 2147483671, 2147483672, 2147483673, 2147483674, 2147483675, 2147483676, 2147483677, 2147483678, 2147483679, 2147483680, 2147483681, 2147483682, 2147483683, 2147483684, 2147483685, 2147483686, 2147483687])]) (by decide) zEin_ok (y0 := 218) (q := (yX12_takes, cX12_takes, 3, (some .boolean), 12, 0, 0)) rfl ⟨rfl, rfl⟩ (m9 := (zp_X12_takes, 3, 0, 0)) rfl rfl (fun e h => by simp only [zqw_n91, List.mem_cons, List.not_mem_nil, or_false] at h; rcases h with rfl | rfl <;> (intro q; cases q)) (N2 := 52) (by decide +kernel) (by decide) zqT_E (fun i hi => absurd (show i < 0 from hi) (Nat.not_lt_zero i))
noncomputable def zdT : ECal := zr_w 218 17 11 0 0 false (zr_t 9 zcT)
theorem zdT_ok : ZE zdT 21 := ZE.rd 218 17 9 11 0 0 false (by decide) zcT_ok
noncomputable def zqw_e93 : EC := (1301, [eU 28, eC 0, eU 31, eU 29, eC 1, eU 19, eU 19, eC 0])
noncomputable def zqw_c94 : List EC := [zqw_e49, zqw_e50, zqw_e51, zqw_e52, zqw_e52, zqw_e53, zqw_e54, zqw_e55, zqw_e93, zqw_e57, zqw_e58, zqw_e59, zqw_e60, zqw_e61, zqw_e61, zqw_e61]
noncomputable def zqw_w95 : EW := (32, [zqw_c94, zqw_c76])
def zqw_g96 : EG := [(0, 4294967295), (0, 4294967295), (0, 4294967295), (0, 4294967295), (0, 4294967295), (0, 4294967295), (0, 4294967295), (0, 4294967295), (0, 4294967295), (0, 4294967295), (2147483648, 2147484654), (2147483648, 2147483649), (2147483648, 2147483672), (2147483648, 2147483653), (2147483648, 2147483653), (0, 4294967295), (2147483648, 2147483727), (2147483648, 2147483903), (2147483648, 2147483728), (2147483648, 2147483728), (2147483648, 2147483708), (0, 4294967295), (2147483648, 2147483655), (2147483648, 2147483655), (2147483648, 2147483655), (2147483648, 2147483655), (2147483648, 2147483655), (2147483648, 2147483653), (2147483648, 4294967295), (2147483648, 4294967295), (2147483648, 2147483688), (2147483648, 2147483688), (2147483648, 2147483663), (2147483648, 2147483708), (0, 4294967295), (2147483648, 2147483658), (2147483648, 2147483660), (2147483648, 2147483651), (2147483648, 2147483651), (2147483648, 2147483651), (2147483648, 2147483651), (2147483648, 2147483651), (2147483648, 2147483651), (2147483648, 2147483651), (2147483648, 2147483651), (2147483648, 2147483651), (2147483648, 2147483651), (2147483648, 2147483651), (2147483648, 2147483651), (2147483648, 2147483658), (2147483648, 2147483688), (0, 4294967295)]
def zqw_p97 : List (Nat × Nat) := [(0, 19)]
noncomputable def zqw_e98 : EC := (12, [eU 11, eU 12, eR 1, eU 13, eU 14, eU 15, eR 2, eR 3, eR 4, eR 5, eU 18, eU 19, eU 20, eU 21, eR 6, eU 27, eR 7, eR 8, eU 30, eU 52, eR 9, eR 10, eU 32, eR 11, eR 12, eR 13, eR 14, eR 15, eR 16, eU 33, eR 17, eR 18, eU 34, eU 35, eR 19, eR 20, eU 36, eR 21, eR 22, eU 49, eR 23, eR 24, eR 25, eR 26, eR 27, eR 28, eU 51, eR 29, eR 30, eR 31])
noncomputable def zqw_e99 : EC := (1301, [eU 28, eC 1, eU 52, eU 29, eC 0, eU 19, eU 19, eC 0])
noncomputable def zqw_c100 : List EC := [zqw_e98, zqw_e50, zqw_e51, zqw_e52, zqw_e52, zqw_e53, zqw_e54, zqw_e55, zqw_e99, zqw_e57, zqw_e58, zqw_e59, zqw_e60, zqw_e61, zqw_e61, zqw_e61]
noncomputable def zqw_w101 : EW := (32, [zqw_c100, zqw_c76])
noncomputable def zqw_g102 : EG := zqw_g96 ++ [(2147483649, 2147483689)]
noncomputable def zqw_n103 : List ZN := [(none, [], zqw_p97, zqw_w101, zqw_g102)]
noncomputable def zqC0_K : List ZC := []
noncomputable def zqC0_e : ERt := zy_ends 52 zqw_n103
theorem zqC0_E : zy_spl (fun g => zy_en (zp_X12_codes, 2, 0, 0) (zX zEin 8) zqC0_e [] 100000 (zy_B 52 zqC0_K []) ([eR 0, eU 10] : List EV) zqw_w95 g) [(31, [2147483648, 2147483649, 2147483650, 2147483651, 2147483652, 2147483653, 2147483654, 2147483655, 2147483656, 2147483657, 2147483658, 2147483659, 2147483660, 2147483661, 2147483662, 2147483663, 2147483664, 2147483665, 2147483666, 2147483667, 2147483668, 2147483669, 2147483670, 2147483671, 2147483672, 2147483673, 2147483674, 2147483675, 2147483676, 2147483677, 2147483678, 2147483679, 2147483680, 2147483681, 2147483682, 2147483683, 2147483684, 2147483685, 2147483686, 2147483687])] zqw_g96 = true := by decide +kernel
noncomputable def zqC0_f (i : Nat) : Bool := zy_f 52 zp_X12_codes (zX zEin 8) 0 0 zqC0_e [] 100000 zqC0_K i
noncomputable def zcC0 : ECal := zf_cal 228 10 [.inl 0, .inr (0, 2), .inr (0, 6), .inr (0, 7), .inr (0, 8), .inr (0, 9), .inr (0, 14), .inr (0, 16), .inr (0, 17), .inr (0, 20), .inr (0, 21), .inr (0, 23), .inr (0, 24), .inr (0, 25), .inr (0, 26), .inr (0, 27), .inr (0, 28), .inr (0, 30), .inr (0, 31), .inr (0, 34), .inr (0, 35), .inr (0, 37), .inr (0, 38), .inr (0, 40), .inr (0, 41), .inr (0, 42), .inr (0, 43), .inr (0, 44), .inr (0, 45), .inr (0, 47), .inr (0, 48), .inr (0, 49)] [1] zqw_p92 ([eR 0, eU 10] : List EV) zqw_w95 zqw_g96 zqw_n103
theorem zcC0_ok : ZE zcC0 21 := ZE.met (n := 8) (es := zqw_n103) (hd := []) (F := 100000) (KS := zqC0_K) (js := []) (sp0 := [(31, [2147483648, 2147483649, 2147483650, 2147483651, 2147483652, 2147483653, 2147483654, 2147483655, 2147483656, 2147483657, 2147483658, 2147483659, 2147483660, 2147483661, 2147483662, 2147483663, 2147483664, 2147483665, 2147483666, 2147483667, 2147483668, 2147483669, 2147483670, 2147483671, 2147483672, 2147483673, 2147483674, 2147483675, 2147483676, 2147483677, 2147483678, 2147483679, 2147483680, 2147483681, 2147483682, 2147483683, 2147483684, 2147483685, 2147483686, 2147483687])]) (by decide) zEin_ok (y0 := 228) (q := (yX12_codes, cX12_codes, 2, none, 12, 0, 0)) rfl ⟨rfl, rfl⟩ (m9 := (zp_X12_codes, 2, 0, 0)) rfl rfl (fun e h => by simp only [zqw_n103, List.mem_cons, List.not_mem_nil, or_false] at h; rcases h with rfl <;> (intro q; cases q)) (N2 := 52) (by decide +kernel) (by decide) zqC0_E (fun i hi => absurd (show i < 0 from hi) (Nat.not_lt_zero i))
noncomputable def zdC0 : ECal := zr_w 228 17 11 0 1 false (zr_t 9 zcC0)
theorem zdC0_ok : ZE zdC0 21 := ZE.rd 228 17 9 11 0 1 false (by decide) zcC0_ok
noncomputable def zqw_e104 : EC := (12, [eU 10, eU 11, eR 1, eU 12, eU 13, eU 14, eR 2, eR 3, eR 4, eR 5, eU 17, eU 18, eU 19, eU 20, eR 6, eU 26, eR 7, eR 8, eU 29, eU 30, eR 9, eR 10, eU 31, eR 11, eR 12, eR 13, eR 14, eR 15, eR 16, eU 32, eR 17, eR 18, eU 33, eU 34, eR 19, eR 20, eU 35, eR 21, eR 22, eU 48, eR 23, eR 24, eR 25, eR 26, eR 27, eR 28, eU 50, eR 29, eR 30, eR 31])
noncomputable def zqw_e105 : EC := (1303, [eU 15, eU 16])
noncomputable def zqw_e106 : EC := (100, [eU 21, eU 22, eU 23, eU 24, eU 25])
noncomputable def zqw_e107 : EC := (1300, [eU 29, eC 0, eC 0])
noncomputable def zqw_e108 : EC := (1301, [eU 27, eC 1, eU 30, eU 28, eC 1, eU 18, eU 18, eC 0])
noncomputable def zqw_c109 : List EC := [zqw_e104, zqw_e50, zqw_e51, zqw_e52, zqw_e52, zqw_e105, zqw_e106, zqw_e107, zqw_e108, zqw_e57, zqw_e58, zqw_e59, zqw_e60, zqw_e61, zqw_e61, zqw_e61]
noncomputable def zqw_e110 : EC := (100, [eU 36, eU 37, eU 38, eU 39, eU 40, eU 41, eU 42, eU 43, eU 44, eU 45, eU 46, eU 47])
noncomputable def zqw_e111 : EC := (1302, [eU 36, eU 37, eU 38, eU 39, eU 40, eU 41, eU 42, eU 43, eU 44, eU 45, eU 46, eU 47])
noncomputable def zqw_e112 : EC := (1300, [eU 49, eC 0, eC 0])
noncomputable def zqw_c113 : List EC := [zqw_e61, zqw_e63, zqw_e63, zqw_e64, zqw_e65, zqw_e110, zqw_e111, zqw_e68, zqw_e69, zqw_e65, zqw_e70, zqw_e71, zqw_e112, zqw_e73, zqw_e74, zqw_e75]
noncomputable def zqw_w114 : EW := (32, [zqw_c109, zqw_c113])
def zqw_g115 : EG := [(0, 4294967295), (0, 4294967295), (0, 4294967295), (0, 4294967295), (0, 4294967295), (0, 4294967295), (0, 4294967295), (0, 4294967295), (0, 4294967295), (0, 4294967295), (2147483648, 2147483649), (2147483648, 2147483672), (2147483648, 2147483653), (2147483648, 2147483653), (0, 4294967295), (2147483648, 2147483727), (2147483648, 2147483903), (2147483648, 2147483728), (2147483648, 2147483728), (2147483648, 2147483708), (0, 4294967295), (2147483648, 2147483655), (2147483648, 2147483655), (2147483648, 2147483655), (2147483648, 2147483655), (2147483648, 2147483655), (2147483648, 2147483653), (2147483648, 4294967295), (2147483648, 4294967295), (2147483648, 2147483688), (2147483648, 2147483688), (2147483648, 2147483663), (2147483648, 2147483708), (0, 4294967295), (2147483648, 2147483658), (2147483648, 2147483660), (2147483648, 2147483651), (2147483648, 2147483651), (2147483648, 2147483651), (2147483648, 2147483651), (2147483648, 2147483651), (2147483648, 2147483651), (2147483648, 2147483651), (2147483648, 2147483651), (2147483648, 2147483651), (2147483648, 2147483651), (2147483648, 2147483651), (2147483648, 2147483651), (2147483648, 2147483658), (2147483648, 2147483688), (0, 4294967295)]
noncomputable def zqw_e116 : EC := (12, [eU 10, eU 11, eR 1, eU 12, eU 13, eU 14, eR 2, eR 3, eR 4, eR 5, eU 17, eU 18, eU 19, eU 20, eR 6, eU 26, eR 7, eR 8, eU 29, eU 51, eR 9, eR 10, eU 31, eR 11, eR 12, eR 13, eR 14, eR 15, eR 16, eU 32, eR 17, eR 18, eU 33, eU 34, eR 19, eR 20, eU 35, eR 21, eR 22, eU 48, eR 23, eR 24, eR 25, eR 26, eR 27, eR 28, eU 50, eR 29, eR 30, eR 31])
noncomputable def zqw_e117 : EC := (1301, [eU 27, eC 1, eU 51, eU 28, eC 0, eU 18, eU 18, eC 0])
noncomputable def zqw_c118 : List EC := [zqw_e116, zqw_e50, zqw_e51, zqw_e52, zqw_e52, zqw_e105, zqw_e106, zqw_e107, zqw_e117, zqw_e57, zqw_e58, zqw_e59, zqw_e60, zqw_e61, zqw_e61, zqw_e61]
noncomputable def zqw_w119 : EW := (32, [zqw_c118, zqw_c113])
noncomputable def zqw_g120 : EG := zqw_g115 ++ [(2147483649, 2147483689)]
noncomputable def zqw_n121 : List ZN := [(none, [], zqw_p97, zqw_w119, zqw_g120)]
noncomputable def zqC1_K : List ZC := []
noncomputable def zqC1_e : ERt := zy_ends 51 zqw_n121
theorem zqC1_E : zy_spl (fun g => zy_en (zp_X12_codes, 2, 0, 0) (zX zEin 8) zqC1_e [] 100000 (zy_B 51 zqC1_K []) ([eR 0, eC 3000] : List EV) zqw_w114 g) [(30, [2147483648, 2147483649, 2147483650, 2147483651, 2147483652, 2147483653, 2147483654, 2147483655, 2147483656, 2147483657, 2147483658, 2147483659, 2147483660, 2147483661, 2147483662, 2147483663, 2147483664, 2147483665, 2147483666, 2147483667, 2147483668, 2147483669, 2147483670, 2147483671, 2147483672, 2147483673, 2147483674, 2147483675, 2147483676, 2147483677, 2147483678, 2147483679, 2147483680, 2147483681, 2147483682, 2147483683, 2147483684, 2147483685, 2147483686, 2147483687])] zqw_g115 = true := by decide +kernel
noncomputable def zqC1_f (i : Nat) : Bool := zy_f 51 zp_X12_codes (zX zEin 8) 0 0 zqC1_e [] 100000 zqC1_K i
noncomputable def zcC1 : ECal := zf_cal 228 10 [.inl 0, .inr (0, 2), .inr (0, 6), .inr (0, 7), .inr (0, 8), .inr (0, 9), .inr (0, 14), .inr (0, 16), .inr (0, 17), .inr (0, 20), .inr (0, 21), .inr (0, 23), .inr (0, 24), .inr (0, 25), .inr (0, 26), .inr (0, 27), .inr (0, 28), .inr (0, 30), .inr (0, 31), .inr (0, 34), .inr (0, 35), .inr (0, 37), .inr (0, 38), .inr (0, 40), .inr (0, 41), .inr (0, 42), .inr (0, 43), .inr (0, 44), .inr (0, 45), .inr (0, 47), .inr (0, 48), .inr (0, 49)] [] zqw_p92 ([eR 0, eC 3000] : List EV) zqw_w114 zqw_g115 zqw_n121
theorem zcC1_ok : ZE zcC1 21 := ZE.met (n := 8) (es := zqw_n121) (hd := []) (F := 100000) (KS := zqC1_K) (js := []) (sp0 := [(30, [2147483648, 2147483649, 2147483650, 2147483651, 2147483652, 2147483653, 2147483654, 2147483655, 2147483656, 2147483657, 2147483658, 2147483659, 2147483660, 2147483661, 2147483662, 2147483663, 2147483664, 2147483665, 2147483666, 2147483667, 2147483668, 2147483669, 2147483670, 2147483671, 2147483672, 2147483673, 2147483674, 2147483675, 2147483676, 2147483677, 2147483678, 2147483679, 2147483680, 2147483681, 2147483682, 2147483683, 2147483684, 2147483685, 2147483686, 2147483687])]) (by decide) zEin_ok (y0 := 228) (q := (yX12_codes, cX12_codes, 2, none, 12, 0, 0)) rfl ⟨rfl, rfl⟩ (m9 := (zp_X12_codes, 2, 0, 0)) rfl rfl (fun e h => by simp only [zqw_n121, List.mem_cons, List.not_mem_nil, or_false] at h; rcases h with rfl <;> (intro q; cases q)) (N2 := 51) (by decide +kernel) (by decide) zqC1_E (fun i hi => absurd (show i < 0 from hi) (Nat.not_lt_zero i))
noncomputable def zdC1 : ECal := zr_w 228 17 11 1 1 false (zr_t 9 zcC1)
theorem zdC1_ok : ZE zdC1 21 := ZE.rd 228 17 9 11 1 1 false (by decide) zcC1_ok
noncomputable def zqw_e122 : EC := (1301, [eU 28, eC 2, eU 31, eU 29, eC 1, eU 19, eU 19, eC 0])
noncomputable def zqw_c123 : List EC := [zqw_e49, zqw_e50, zqw_e51, zqw_e52, zqw_e52, zqw_e53, zqw_e54, zqw_e55, zqw_e122, zqw_e57, zqw_e58, zqw_e59, zqw_e60, zqw_e61, zqw_e61, zqw_e61]
noncomputable def zqw_w124 : EW := (32, [zqw_c123, zqw_c76])
def zqw_g125 : EG := [(0, 4294967295), (0, 4294967295), (0, 4294967295), (0, 4294967295), (0, 4294967295), (0, 4294967295), (0, 4294967295), (0, 4294967295), (0, 4294967295), (0, 4294967295), (2147485648, 2147485654), (2147483648, 2147483649), (2147483648, 2147483672), (2147483648, 2147483653), (2147483648, 2147483653), (0, 4294967295), (2147483648, 2147483727), (2147483648, 2147483903), (2147483648, 2147483728), (2147483648, 2147483728), (2147483648, 2147483708), (0, 4294967295), (2147483648, 2147483655), (2147483648, 2147483655), (2147483648, 2147483655), (2147483648, 2147483655), (2147483648, 2147483655), (2147483648, 2147483653), (2147483648, 4294967295), (2147483648, 4294967295), (2147483648, 2147483688), (2147483648, 2147483688), (2147483648, 2147483663), (2147483648, 2147483708), (0, 4294967295), (2147483648, 2147483658), (2147483648, 2147483660), (2147483648, 2147483651), (2147483648, 2147483651), (2147483648, 2147483651), (2147483648, 2147483651), (2147483648, 2147483651), (2147483648, 2147483651), (2147483648, 2147483651), (2147483648, 2147483651), (2147483648, 2147483651), (2147483648, 2147483651), (2147483648, 2147483651), (2147483648, 2147483651), (2147483648, 2147483658), (2147483648, 2147483688), (0, 4294967295)]
noncomputable def zqw_g126 : EG := zqw_g125 ++ [(2147483649, 2147483689)]
noncomputable def zqw_n127 : List ZN := [(none, [], zqw_p97, zqw_w101, zqw_g126)]
noncomputable def zqC2_K : List ZC := []
noncomputable def zqC2_e : ERt := zy_ends 52 zqw_n127
theorem zqC2_E : zy_spl (fun g => zy_en (zp_X12_codes, 2, 0, 0) (zX zEin 8) zqC2_e [] 100000 (zy_B 52 zqC2_K []) ([eR 0, eU 10] : List EV) zqw_w124 g) [(31, [2147483648, 2147483649, 2147483650, 2147483651, 2147483652, 2147483653, 2147483654, 2147483655, 2147483656, 2147483657, 2147483658, 2147483659, 2147483660, 2147483661, 2147483662, 2147483663, 2147483664, 2147483665, 2147483666, 2147483667, 2147483668, 2147483669, 2147483670, 2147483671, 2147483672, 2147483673, 2147483674, 2147483675, 2147483676, 2147483677, 2147483678, 2147483679, 2147483680, 2147483681, 2147483682, 2147483683, 2147483684, 2147483685, 2147483686, 2147483687])] zqw_g125 = true := by decide +kernel
noncomputable def zqC2_f (i : Nat) : Bool := zy_f 52 zp_X12_codes (zX zEin 8) 0 0 zqC2_e [] 100000 zqC2_K i
noncomputable def zcC2 : ECal := zf_cal 228 10 [.inl 0, .inr (0, 2), .inr (0, 6), .inr (0, 7), .inr (0, 8), .inr (0, 9), .inr (0, 14), .inr (0, 16), .inr (0, 17), .inr (0, 20), .inr (0, 21), .inr (0, 23), .inr (0, 24), .inr (0, 25), .inr (0, 26), .inr (0, 27), .inr (0, 28), .inr (0, 30), .inr (0, 31), .inr (0, 34), .inr (0, 35), .inr (0, 37), .inr (0, 38), .inr (0, 40), .inr (0, 41), .inr (0, 42), .inr (0, 43), .inr (0, 44), .inr (0, 45), .inr (0, 47), .inr (0, 48), .inr (0, 49)] [1] zqw_p92 ([eR 0, eU 10] : List EV) zqw_w124 zqw_g125 zqw_n127
theorem zcC2_ok : ZE zcC2 21 := ZE.met (n := 8) (es := zqw_n127) (hd := []) (F := 100000) (KS := zqC2_K) (js := []) (sp0 := [(31, [2147483648, 2147483649, 2147483650, 2147483651, 2147483652, 2147483653, 2147483654, 2147483655, 2147483656, 2147483657, 2147483658, 2147483659, 2147483660, 2147483661, 2147483662, 2147483663, 2147483664, 2147483665, 2147483666, 2147483667, 2147483668, 2147483669, 2147483670, 2147483671, 2147483672, 2147483673, 2147483674, 2147483675, 2147483676, 2147483677, 2147483678, 2147483679, 2147483680, 2147483681, 2147483682, 2147483683, 2147483684, 2147483685, 2147483686, 2147483687])]) (by decide) zEin_ok (y0 := 228) (q := (yX12_codes, cX12_codes, 2, none, 12, 0, 0)) rfl ⟨rfl, rfl⟩ (m9 := (zp_X12_codes, 2, 0, 0)) rfl rfl (fun e h => by simp only [zqw_n127, List.mem_cons, List.not_mem_nil, or_false] at h; rcases h with rfl <;> (intro q; cases q)) (N2 := 52) (by decide +kernel) (by decide) zqC2_E (fun i hi => absurd (show i < 0 from hi) (Nat.not_lt_zero i))
noncomputable def zdC2 : ECal := zr_w 228 17 11 2 1 false (zr_t 9 zcC2)
theorem zdC2_ok : ZE zdC2 21 := ZE.rd 228 17 9 11 2 1 false (by decide) zcC2_ok
noncomputable def zqw_e128 : EC := (1301, [eU 27, eC 255, eU 30, eU 28, eC 1, eU 18, eU 18, eC 0])
noncomputable def zqw_c129 : List EC := [zqw_e104, zqw_e50, zqw_e51, zqw_e52, zqw_e52, zqw_e105, zqw_e106, zqw_e107, zqw_e128, zqw_e57, zqw_e58, zqw_e59, zqw_e60, zqw_e61, zqw_e61, zqw_e61]
noncomputable def zqw_w130 : EW := (32, [zqw_c129, zqw_c113])
noncomputable def zqw_e131 : EC := (1301, [eU 27, eC 255, eU 51, eU 28, eC 0, eU 18, eU 18, eC 0])
noncomputable def zqw_c132 : List EC := [zqw_e116, zqw_e50, zqw_e51, zqw_e52, zqw_e52, zqw_e105, zqw_e106, zqw_e107, zqw_e131, zqw_e57, zqw_e58, zqw_e59, zqw_e60, zqw_e61, zqw_e61, zqw_e61]
noncomputable def zqw_w133 : EW := (32, [zqw_c132, zqw_c113])
noncomputable def zqw_n134 : List ZN := [(none, [], zqw_p97, zqw_w133, zqw_g120)]
noncomputable def zqC3_K : List ZC := []
noncomputable def zqC3_e : ERt := zy_ends 51 zqw_n134
theorem zqC3_E : zy_spl (fun g => zy_en (zp_X12_codes, 2, 0, 0) (zX zEin 8) zqC3_e [] 100000 (zy_B 51 zqC3_K []) ([eR 0, eC 3000] : List EV) zqw_w130 g) [(30, [2147483648, 2147483649, 2147483650, 2147483651, 2147483652, 2147483653, 2147483654, 2147483655, 2147483656, 2147483657, 2147483658, 2147483659, 2147483660, 2147483661, 2147483662, 2147483663, 2147483664, 2147483665, 2147483666, 2147483667, 2147483668, 2147483669, 2147483670, 2147483671, 2147483672, 2147483673, 2147483674, 2147483675, 2147483676, 2147483677, 2147483678, 2147483679, 2147483680, 2147483681, 2147483682, 2147483683, 2147483684, 2147483685, 2147483686, 2147483687])] zqw_g115 = true := by decide +kernel
noncomputable def zqC3_f (i : Nat) : Bool := zy_f 51 zp_X12_codes (zX zEin 8) 0 0 zqC3_e [] 100000 zqC3_K i
noncomputable def zcC3 : ECal := zf_cal 228 10 [.inl 0, .inr (0, 2), .inr (0, 6), .inr (0, 7), .inr (0, 8), .inr (0, 9), .inr (0, 14), .inr (0, 16), .inr (0, 17), .inr (0, 20), .inr (0, 21), .inr (0, 23), .inr (0, 24), .inr (0, 25), .inr (0, 26), .inr (0, 27), .inr (0, 28), .inr (0, 30), .inr (0, 31), .inr (0, 34), .inr (0, 35), .inr (0, 37), .inr (0, 38), .inr (0, 40), .inr (0, 41), .inr (0, 42), .inr (0, 43), .inr (0, 44), .inr (0, 45), .inr (0, 47), .inr (0, 48), .inr (0, 49)] [] zqw_p92 ([eR 0, eC 3000] : List EV) zqw_w130 zqw_g115 zqw_n134
theorem zcC3_ok : ZE zcC3 21 := ZE.met (n := 8) (es := zqw_n134) (hd := []) (F := 100000) (KS := zqC3_K) (js := []) (sp0 := [(30, [2147483648, 2147483649, 2147483650, 2147483651, 2147483652, 2147483653, 2147483654, 2147483655, 2147483656, 2147483657, 2147483658, 2147483659, 2147483660, 2147483661, 2147483662, 2147483663, 2147483664, 2147483665, 2147483666, 2147483667, 2147483668, 2147483669, 2147483670, 2147483671, 2147483672, 2147483673, 2147483674, 2147483675, 2147483676, 2147483677, 2147483678, 2147483679, 2147483680, 2147483681, 2147483682, 2147483683, 2147483684, 2147483685, 2147483686, 2147483687])]) (by decide) zEin_ok (y0 := 228) (q := (yX12_codes, cX12_codes, 2, none, 12, 0, 0)) rfl ⟨rfl, rfl⟩ (m9 := (zp_X12_codes, 2, 0, 0)) rfl rfl (fun e h => by simp only [zqw_n134, List.mem_cons, List.not_mem_nil, or_false] at h; rcases h with rfl <;> (intro q; cases q)) (N2 := 51) (by decide +kernel) (by decide) zqC3_E (fun i hi => absurd (show i < 0 from hi) (Nat.not_lt_zero i))
noncomputable def zdC3 : ECal := zr_w 228 17 11 255 1 false (zr_t 9 zcC3)
theorem zdC3_ok : ZE zdC3 21 := ZE.rd 228 17 9 11 255 1 false (by decide) zcC3_ok
