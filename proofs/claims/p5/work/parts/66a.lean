/-! the reading of rules -/
noncomputable def zqw_w0 : EW := (0, [])
def zqw_g1 : EG := [(0, 4294967295), (0, 4294967295), (0, 4294967295), (0, 4294967295), (0, 4294967295), (0, 4294967295), (0, 4294967295), (0, 4294967295), (0, 4294967295), (0, 4294967295), (2147483696, 2147483705)]
def zqw_p2 : List (Nat × Nat) := []
noncomputable def zqw_n3 : List ZN := [(some (eC 1), [], zqw_p2, zqw_w0, zqw_g1)]
noncomputable def zqIN0_K : List ZC := []
noncomputable def zqIN0_e : ERt := zy_ends 11 zqw_n3
theorem zqIN0_E : zy_spl (fun g => zy_en (zp_X12_in, 6, 0, 0) (zX zS_no 8) zqIN0_e [] 100000 (zy_B 11 zqIN0_K []) ([eLU 10, eL 48, eL 57] : List EV) zqw_w0 g) [] zqw_g1 = true := by decide +kernel
noncomputable def zqIN0_f (i : Nat) : Bool := zy_f 11 zp_X12_in (zX zS_no 8) 0 0 zqIN0_e [] 100000 zqIN0_K i
noncomputable def zcIN0 : ECal := zf_cal 195 10 [] [0] zqw_p2 [] ([eLU 10, eL 48, eL 57] : List EV) zqw_w0 zqw_g1 zqw_n3
theorem zcIN0_ok : ZE zcIN0 12 := ZE.met (n := 8) (es := zqw_n3) (hd := []) (F := 100000) (KS := zqIN0_K) (js := []) (sp0 := []) (by decide) zS_no_ok (y0 := 195) (q := (yX12_in, cX12_in, 6, (some .boolean), 12, 0, 0)) rfl ⟨rfl, rfl⟩ (m9 := (zp_X12_in, 6, 0, 0)) rfl rfl (zy_nx_ok (by decide +kernel)) (N2 := 11) (by decide +kernel) (by decide) zqIN0_E (fun i hi => absurd (show i < 0 from hi) (Nat.not_lt_zero i))
def zqw_g4 : EG := [(0, 4294967295), (0, 4294967295), (0, 4294967295), (0, 4294967295), (0, 4294967295), (0, 4294967295), (0, 4294967295), (0, 4294967295), (0, 4294967295), (0, 4294967295), (0, 4294967295)]
noncomputable def zqw_g5 : EG := zy_su [(10, 2147483696, 2147483705)] zqw_g4
noncomputable def zqw_n6 : List ZN := [(some (eC 0), [], zqw_p2, zqw_w0, zqw_g4), (some (eC 1), [], zqw_p2, zqw_w0, zqw_g5)]
noncomputable def zqIN1_K : List ZC := []
noncomputable def zqIN1_e : ERt := zy_ends 11 zqw_n6
theorem zqIN1_E : zy_spl (fun g => zy_en (zp_X12_in, 6, 0, 0) (zX zS_no 8) zqIN1_e [] 100000 (zy_B 11 zqIN1_K []) ([eLU 10, eL 48, eL 57] : List EV) zqw_w0 g) [] zqw_g4 = true := by decide +kernel
noncomputable def zqIN1_f (i : Nat) : Bool := zy_f 11 zp_X12_in (zX zS_no 8) 0 0 zqIN1_e [] 100000 zqIN1_K i
noncomputable def zcIN1 : ECal := zf_cal 195 10 [] [0] zqw_p2 [] ([eLU 10, eL 48, eL 57] : List EV) zqw_w0 zqw_g4 zqw_n6
theorem zcIN1_ok : ZE zcIN1 12 := ZE.met (n := 8) (es := zqw_n6) (hd := []) (F := 100000) (KS := zqIN1_K) (js := []) (sp0 := []) (by decide) zS_no_ok (y0 := 195) (q := (yX12_in, cX12_in, 6, (some .boolean), 12, 0, 0)) rfl ⟨rfl, rfl⟩ (m9 := (zp_X12_in, 6, 0, 0)) rfl rfl (zy_nx_ok (by decide +kernel)) (N2 := 11) (by decide +kernel) (by decide) zqIN1_E (fun i hi => absurd (show i < 0 from hi) (Nat.not_lt_zero i))
noncomputable def zqw_g7 : EG := zy_su [(10, 2147483656, 4294967295)] zqw_g4
noncomputable def zqw_g8 : EG := zy_su [(10, 0, 2147483647)] zqw_g4
noncomputable def zqw_g9 : EG := zy_su [(10, 2147483648, 2147483655)] zqw_g4
noncomputable def zqw_n10 : List ZN := [(some (eC 0), [], zqw_p2, zqw_w0, zqw_g7), (some (eC 0), [], zqw_p2, zqw_w0, zqw_g8), (some (eC 1), [], zqw_p2, zqw_w0, zqw_g9)]
noncomputable def zqIN2_K : List ZC := []
noncomputable def zqIN2_e : ERt := zy_ends 11 zqw_n10
theorem zqIN2_E : zy_spl (fun g => zy_en (zp_X12_in, 6, 0, 0) (zX zS_no 8) zqIN2_e [] 100000 (zy_B 11 zqIN2_K []) ([eLU 10, eL 0, eL 7] : List EV) zqw_w0 g) [] zqw_g4 = true := by decide +kernel
noncomputable def zqIN2_f (i : Nat) : Bool := zy_f 11 zp_X12_in (zX zS_no 8) 0 0 zqIN2_e [] 100000 zqIN2_K i
noncomputable def zcIN2 : ECal := zf_cal 195 10 [] [0] zqw_p2 [] ([eLU 10, eL 0, eL 7] : List EV) zqw_w0 zqw_g4 zqw_n10
theorem zcIN2_ok : ZE zcIN2 12 := ZE.met (n := 8) (es := zqw_n10) (hd := []) (F := 100000) (KS := zqIN2_K) (js := []) (sp0 := []) (by decide) zS_no_ok (y0 := 195) (q := (yX12_in, cX12_in, 6, (some .boolean), 12, 0, 0)) rfl ⟨rfl, rfl⟩ (m9 := (zp_X12_in, 6, 0, 0)) rfl rfl (zy_nx_ok (by decide +kernel)) (N2 := 11) (by decide +kernel) (by decide) zqIN2_E (fun i hi => absurd (show i < 0 from hi) (Nat.not_lt_zero i))
noncomputable def zqw_g11 : EG := zy_su [(10, 2147483648, 2147483657)] zqw_g4
noncomputable def zqw_n12 : List ZN := [(some (eC 0), [], zqw_p2, zqw_w0, zqw_g4), (some (eC 1), [], zqw_p2, zqw_w0, zqw_g11)]
noncomputable def zqIN3_K : List ZC := []
noncomputable def zqIN3_e : ERt := zy_ends 11 zqw_n12
theorem zqIN3_E : zy_spl (fun g => zy_en (zp_X12_in, 6, 0, 0) (zX zS_no 8) zqIN3_e [] 100000 (zy_B 11 zqIN3_K []) ([eLU 10, eL 0, eL 9] : List EV) zqw_w0 g) [] zqw_g4 = true := by decide +kernel
noncomputable def zqIN3_f (i : Nat) : Bool := zy_f 11 zp_X12_in (zX zS_no 8) 0 0 zqIN3_e [] 100000 zqIN3_K i
noncomputable def zcIN3 : ECal := zf_cal 195 10 [] [0] zqw_p2 [] ([eLU 10, eL 0, eL 9] : List EV) zqw_w0 zqw_g4 zqw_n12
theorem zcIN3_ok : ZE zcIN3 12 := ZE.met (n := 8) (es := zqw_n12) (hd := []) (F := 100000) (KS := zqIN3_K) (js := []) (sp0 := []) (by decide) zS_no_ok (y0 := 195) (q := (yX12_in, cX12_in, 6, (some .boolean), 12, 0, 0)) rfl ⟨rfl, rfl⟩ (m9 := (zp_X12_in, 6, 0, 0)) rfl rfl (zy_nx_ok (by decide +kernel)) (N2 := 11) (by decide +kernel) (by decide) zqIN3_E (fun i hi => absurd (show i < 0 from hi) (Nat.not_lt_zero i))
noncomputable def zqw_g13 : EG := zy_su [(10, 2147483648, 2147483651)] zqw_g4
noncomputable def zqw_n14 : List ZN := [(some (eC 0), [], zqw_p2, zqw_w0, zqw_g4), (some (eC 1), [], zqw_p2, zqw_w0, zqw_g13)]
noncomputable def zqIN4_K : List ZC := []
noncomputable def zqIN4_e : ERt := zy_ends 11 zqw_n14
theorem zqIN4_E : zy_spl (fun g => zy_en (zp_X12_in, 6, 0, 0) (zX zS_no 8) zqIN4_e [] 100000 (zy_B 11 zqIN4_K []) ([eLU 10, eL 0, eL 3] : List EV) zqw_w0 g) [] zqw_g4 = true := by decide +kernel
noncomputable def zqIN4_f (i : Nat) : Bool := zy_f 11 zp_X12_in (zX zS_no 8) 0 0 zqIN4_e [] 100000 zqIN4_K i
noncomputable def zcIN4 : ECal := zf_cal 195 10 [] [0] zqw_p2 [] ([eLU 10, eL 0, eL 3] : List EV) zqw_w0 zqw_g4 zqw_n14
theorem zcIN4_ok : ZE zcIN4 12 := ZE.met (n := 8) (es := zqw_n14) (hd := []) (F := 100000) (KS := zqIN4_K) (js := []) (sp0 := []) (by decide) zS_no_ok (y0 := 195) (q := (yX12_in, cX12_in, 6, (some .boolean), 12, 0, 0)) rfl ⟨rfl, rfl⟩ (m9 := (zp_X12_in, 6, 0, 0)) rfl rfl (zy_nx_ok (by decide +kernel)) (N2 := 11) (by decide +kernel) (by decide) zqIN4_E (fun i hi => absurd (show i < 0 from hi) (Nat.not_lt_zero i))
noncomputable def zqw_g15 : EG := zy_su [(10, 2147483653, 4294967295)] zqw_g4
noncomputable def zqw_g16 : EG := zy_su [(10, 0, 2147483648)] zqw_g4
noncomputable def zqw_g17 : EG := zy_su [(10, 2147483649, 2147483652)] zqw_g4
noncomputable def zqw_n18 : List ZN := [(some (eC 0), [], zqw_p2, zqw_w0, zqw_g15), (some (eC 0), [], zqw_p2, zqw_w0, zqw_g16), (some (eC 1), [], zqw_p2, zqw_w0, zqw_g17)]
noncomputable def zqIN5_K : List ZC := []
noncomputable def zqIN5_e : ERt := zy_ends 11 zqw_n18
theorem zqIN5_E : zy_spl (fun g => zy_en (zp_X12_in, 6, 0, 0) (zX zS_no 8) zqIN5_e [] 100000 (zy_B 11 zqIN5_K []) ([eLU 10, eL 1, eL 4] : List EV) zqw_w0 g) [] zqw_g4 = true := by decide +kernel
noncomputable def zqIN5_f (i : Nat) : Bool := zy_f 11 zp_X12_in (zX zS_no 8) 0 0 zqIN5_e [] 100000 zqIN5_K i
noncomputable def zcIN5 : ECal := zf_cal 195 10 [] [0] zqw_p2 [] ([eLU 10, eL 1, eL 4] : List EV) zqw_w0 zqw_g4 zqw_n18
theorem zcIN5_ok : ZE zcIN5 12 := ZE.met (n := 8) (es := zqw_n18) (hd := []) (F := 100000) (KS := zqIN5_K) (js := []) (sp0 := []) (by decide) zS_no_ok (y0 := 195) (q := (yX12_in, cX12_in, 6, (some .boolean), 12, 0, 0)) rfl ⟨rfl, rfl⟩ (m9 := (zp_X12_in, 6, 0, 0)) rfl rfl (zy_nx_ok (by decide +kernel)) (N2 := 11) (by decide +kernel) (by decide) zqIN5_E (fun i hi => absurd (show i < 0 from hi) (Nat.not_lt_zero i))
noncomputable def zqw_g19 : EG := zy_su [(10, 2147483648, 2147483652)] zqw_g4
noncomputable def zqw_n20 : List ZN := [(some (eC 0), [], zqw_p2, zqw_w0, zqw_g15), (some (eC 0), [], zqw_p2, zqw_w0, zqw_g8), (some (eC 1), [], zqw_p2, zqw_w0, zqw_g19)]
noncomputable def zqIN6_K : List ZC := []
noncomputable def zqIN6_e : ERt := zy_ends 11 zqw_n20
theorem zqIN6_E : zy_spl (fun g => zy_en (zp_X12_in, 6, 0, 0) (zX zS_no 8) zqIN6_e [] 100000 (zy_B 11 zqIN6_K []) ([eLU 10, eL 0, eL 4] : List EV) zqw_w0 g) [] zqw_g4 = true := by decide +kernel
noncomputable def zqIN6_f (i : Nat) : Bool := zy_f 11 zp_X12_in (zX zS_no 8) 0 0 zqIN6_e [] 100000 zqIN6_K i
noncomputable def zcIN6 : ECal := zf_cal 195 10 [] [0] zqw_p2 [] ([eLU 10, eL 0, eL 4] : List EV) zqw_w0 zqw_g4 zqw_n20
theorem zcIN6_ok : ZE zcIN6 12 := ZE.met (n := 8) (es := zqw_n20) (hd := []) (F := 100000) (KS := zqIN6_K) (js := []) (sp0 := []) (by decide) zS_no_ok (y0 := 195) (q := (yX12_in, cX12_in, 6, (some .boolean), 12, 0, 0)) rfl ⟨rfl, rfl⟩ (m9 := (zp_X12_in, 6, 0, 0)) rfl rfl (zy_nx_ok (by decide +kernel)) (N2 := 11) (by decide +kernel) (by decide) zqIN6_E (fun i hi => absurd (show i < 0 from hi) (Nat.not_lt_zero i))
noncomputable def zqw_g21 : EG := zy_su [(10, 2147483648, 2147483653)] zqw_g4
noncomputable def zqw_n22 : List ZN := [(some (eC 0), [], zqw_p2, zqw_w0, zqw_g4), (some (eC 1), [], zqw_p2, zqw_w0, zqw_g21)]
noncomputable def zqIN7_K : List ZC := []
noncomputable def zqIN7_e : ERt := zy_ends 11 zqw_n22
theorem zqIN7_E : zy_spl (fun g => zy_en (zp_X12_in, 6, 0, 0) (zX zS_no 8) zqIN7_e [] 100000 (zy_B 11 zqIN7_K []) ([eLU 10, eL 0, eL 5] : List EV) zqw_w0 g) [] zqw_g4 = true := by decide +kernel
noncomputable def zqIN7_f (i : Nat) : Bool := zy_f 11 zp_X12_in (zX zS_no 8) 0 0 zqIN7_e [] 100000 zqIN7_K i
noncomputable def zcIN7 : ECal := zf_cal 195 10 [] [0] zqw_p2 [] ([eLU 10, eL 0, eL 5] : List EV) zqw_w0 zqw_g4 zqw_n22
theorem zcIN7_ok : ZE zcIN7 12 := ZE.met (n := 8) (es := zqw_n22) (hd := []) (F := 100000) (KS := zqIN7_K) (js := []) (sp0 := []) (by decide) zS_no_ok (y0 := 195) (q := (yX12_in, cX12_in, 6, (some .boolean), 12, 0, 0)) rfl ⟨rfl, rfl⟩ (m9 := (zp_X12_in, 6, 0, 0)) rfl rfl (zy_nx_ok (by decide +kernel)) (N2 := 11) (by decide +kernel) (by decide) zqIN7_E (fun i hi => absurd (show i < 0 from hi) (Nat.not_lt_zero i))
noncomputable def zqw_g23 : EG := zy_su [(10, 2147483648, 2147483650)] zqw_g4
noncomputable def zqw_n24 : List ZN := [(some (eC 0), [], zqw_p2, zqw_w0, zqw_g4), (some (eC 1), [], zqw_p2, zqw_w0, zqw_g23)]
noncomputable def zqIN8_K : List ZC := []
noncomputable def zqIN8_e : ERt := zy_ends 11 zqw_n24
theorem zqIN8_E : zy_spl (fun g => zy_en (zp_X12_in, 6, 0, 0) (zX zS_no 8) zqIN8_e [] 100000 (zy_B 11 zqIN8_K []) ([eLU 10, eL 0, eL 2] : List EV) zqw_w0 g) [] zqw_g4 = true := by decide +kernel
noncomputable def zqIN8_f (i : Nat) : Bool := zy_f 11 zp_X12_in (zX zS_no 8) 0 0 zqIN8_e [] 100000 zqIN8_K i
noncomputable def zcIN8 : ECal := zf_cal 195 10 [] [0] zqw_p2 [] ([eLU 10, eL 0, eL 2] : List EV) zqw_w0 zqw_g4 zqw_n24
theorem zcIN8_ok : ZE zcIN8 12 := ZE.met (n := 8) (es := zqw_n24) (hd := []) (F := 100000) (KS := zqIN8_K) (js := []) (sp0 := []) (by decide) zS_no_ok (y0 := 195) (q := (yX12_in, cX12_in, 6, (some .boolean), 12, 0, 0)) rfl ⟨rfl, rfl⟩ (m9 := (zp_X12_in, 6, 0, 0)) rfl rfl (zy_nx_ok (by decide +kernel)) (N2 := 11) (by decide +kernel) (by decide) zqIN8_E (fun i hi => absurd (show i < 0 from hi) (Nat.not_lt_zero i))
noncomputable def zqw_g25 : EG := zy_su [(10, 2147483648, 2147483708)] zqw_g4
noncomputable def zqw_n26 : List ZN := [(some (eC 0), [], zqw_p2, zqw_w0, zqw_g4), (some (eC 1), [], zqw_p2, zqw_w0, zqw_g25)]
noncomputable def zqIN9_K : List ZC := []
noncomputable def zqIN9_e : ERt := zy_ends 11 zqw_n26
theorem zqIN9_E : zy_spl (fun g => zy_en (zp_X12_in, 6, 0, 0) (zX zS_no 8) zqIN9_e [] 100000 (zy_B 11 zqIN9_K []) ([eLU 10, eL 0, eL 60] : List EV) zqw_w0 g) [] zqw_g4 = true := by decide +kernel
noncomputable def zqIN9_f (i : Nat) : Bool := zy_f 11 zp_X12_in (zX zS_no 8) 0 0 zqIN9_e [] 100000 zqIN9_K i
noncomputable def zcIN9 : ECal := zf_cal 195 10 [] [0] zqw_p2 [] ([eLU 10, eL 0, eL 60] : List EV) zqw_w0 zqw_g4 zqw_n26
theorem zcIN9_ok : ZE zcIN9 12 := ZE.met (n := 8) (es := zqw_n26) (hd := []) (F := 100000) (KS := zqIN9_K) (js := []) (sp0 := []) (by decide) zS_no_ok (y0 := 195) (q := (yX12_in, cX12_in, 6, (some .boolean), 12, 0, 0)) rfl ⟨rfl, rfl⟩ (m9 := (zp_X12_in, 6, 0, 0)) rfl rfl (zy_nx_ok (by decide +kernel)) (N2 := 11) (by decide +kernel) (by decide) zqIN9_E (fun i hi => absurd (show i < 0 from hi) (Nat.not_lt_zero i))
noncomputable def zqw_g27 : EG := zy_su [(10, 2147483648, 2147483678)] zqw_g4
noncomputable def zqw_n28 : List ZN := [(some (eC 0), [], zqw_p2, zqw_w0, zqw_g4), (some (eC 1), [], zqw_p2, zqw_w0, zqw_g27)]
noncomputable def zqIN10_K : List ZC := []
noncomputable def zqIN10_e : ERt := zy_ends 11 zqw_n28
theorem zqIN10_E : zy_spl (fun g => zy_en (zp_X12_in, 6, 0, 0) (zX zS_no 8) zqIN10_e [] 100000 (zy_B 11 zqIN10_K []) ([eLU 10, eL 0, eL 30] : List EV) zqw_w0 g) [] zqw_g4 = true := by decide +kernel
noncomputable def zqIN10_f (i : Nat) : Bool := zy_f 11 zp_X12_in (zX zS_no 8) 0 0 zqIN10_e [] 100000 zqIN10_K i
noncomputable def zcIN10 : ECal := zf_cal 195 10 [] [0] zqw_p2 [] ([eLU 10, eL 0, eL 30] : List EV) zqw_w0 zqw_g4 zqw_n28
theorem zcIN10_ok : ZE zcIN10 12 := ZE.met (n := 8) (es := zqw_n28) (hd := []) (F := 100000) (KS := zqIN10_K) (js := []) (sp0 := []) (by decide) zS_no_ok (y0 := 195) (q := (yX12_in, cX12_in, 6, (some .boolean), 12, 0, 0)) rfl ⟨rfl, rfl⟩ (m9 := (zp_X12_in, 6, 0, 0)) rfl rfl (zy_nx_ok (by decide +kernel)) (N2 := 11) (by decide +kernel) (by decide) zqIN10_E (fun i hi => absurd (show i < 0 from hi) (Nat.not_lt_zero i))
noncomputable def zqw_g29 : EG := zy_su [(10, 2147483645, 2147483651)] zqw_g4
noncomputable def zqw_n30 : List ZN := [(some (eC 0), [], zqw_p2, zqw_w0, zqw_g4), (some (eC 1), [], zqw_p2, zqw_w0, zqw_g29)]
noncomputable def zqIN11_K : List ZC := []
noncomputable def zqIN11_e : ERt := zy_ends 11 zqw_n30
theorem zqIN11_E : zy_spl (fun g => zy_en (zp_X12_in, 6, 0, 0) (zX zS_no 8) zqIN11_e [] 100000 (zy_B 11 zqIN11_K []) ([eLU 10, eL 18446744073709551613, eL 3] : List EV) zqw_w0 g) [] zqw_g4 = true := by decide +kernel
noncomputable def zqIN11_f (i : Nat) : Bool := zy_f 11 zp_X12_in (zX zS_no 8) 0 0 zqIN11_e [] 100000 zqIN11_K i
noncomputable def zcIN11 : ECal := zf_cal 195 10 [] [0] zqw_p2 [] ([eLU 10, eL 18446744073709551613, eL 3] : List EV) zqw_w0 zqw_g4 zqw_n30
theorem zcIN11_ok : ZE zcIN11 12 := ZE.met (n := 8) (es := zqw_n30) (hd := []) (F := 100000) (KS := zqIN11_K) (js := []) (sp0 := []) (by decide) zS_no_ok (y0 := 195) (q := (yX12_in, cX12_in, 6, (some .boolean), 12, 0, 0)) rfl ⟨rfl, rfl⟩ (m9 := (zp_X12_in, 6, 0, 0)) rfl rfl (zy_nx_ok (by decide +kernel)) (N2 := 11) (by decide +kernel) (by decide) zqIN11_E (fun i hi => absurd (show i < 0 from hi) (Nat.not_lt_zero i))
noncomputable def zqw_g31 : EG := zy_su [(10, 2147483648, 2147483658)] zqw_g4
noncomputable def zqw_n32 : List ZN := [(some (eC 0), [], zqw_p2, zqw_w0, zqw_g4), (some (eC 1), [], zqw_p2, zqw_w0, zqw_g31)]
noncomputable def zqIN12_K : List ZC := []
noncomputable def zqIN12_e : ERt := zy_ends 11 zqw_n32
theorem zqIN12_E : zy_spl (fun g => zy_en (zp_X12_in, 6, 0, 0) (zX zS_no 8) zqIN12_e [] 100000 (zy_B 11 zqIN12_K []) ([eLU 10, eL 0, eL 10] : List EV) zqw_w0 g) [] zqw_g4 = true := by decide +kernel
noncomputable def zqIN12_f (i : Nat) : Bool := zy_f 11 zp_X12_in (zX zS_no 8) 0 0 zqIN12_e [] 100000 zqIN12_K i
noncomputable def zcIN12 : ECal := zf_cal 195 10 [] [0] zqw_p2 [] ([eLU 10, eL 0, eL 10] : List EV) zqw_w0 zqw_g4 zqw_n32
theorem zcIN12_ok : ZE zcIN12 12 := ZE.met (n := 8) (es := zqw_n32) (hd := []) (F := 100000) (KS := zqIN12_K) (js := []) (sp0 := []) (by decide) zS_no_ok (y0 := 195) (q := (yX12_in, cX12_in, 6, (some .boolean), 12, 0, 0)) rfl ⟨rfl, rfl⟩ (m9 := (zp_X12_in, 6, 0, 0)) rfl rfl (zy_nx_ok (by decide +kernel)) (N2 := 11) (by decide +kernel) (by decide) zqIN12_E (fun i hi => absurd (show i < 0 from hi) (Nat.not_lt_zero i))
noncomputable def zqw_g33 : EG := zy_su [(10, 2147483628, 2147483668)] zqw_g4
noncomputable def zqw_n34 : List ZN := [(some (eC 0), [], zqw_p2, zqw_w0, zqw_g4), (some (eC 1), [], zqw_p2, zqw_w0, zqw_g33)]
noncomputable def zqIN13_K : List ZC := []
noncomputable def zqIN13_e : ERt := zy_ends 11 zqw_n34
theorem zqIN13_E : zy_spl (fun g => zy_en (zp_X12_in, 6, 0, 0) (zX zS_no 8) zqIN13_e [] 100000 (zy_B 11 zqIN13_K []) ([eLU 10, eL 18446744073709551596, eL 20] : List EV) zqw_w0 g) [] zqw_g4 = true := by decide +kernel
noncomputable def zqIN13_f (i : Nat) : Bool := zy_f 11 zp_X12_in (zX zS_no 8) 0 0 zqIN13_e [] 100000 zqIN13_K i
noncomputable def zcIN13 : ECal := zf_cal 195 10 [] [0] zqw_p2 [] ([eLU 10, eL 18446744073709551596, eL 20] : List EV) zqw_w0 zqw_g4 zqw_n34
theorem zcIN13_ok : ZE zcIN13 12 := ZE.met (n := 8) (es := zqw_n34) (hd := []) (F := 100000) (KS := zqIN13_K) (js := []) (sp0 := []) (by decide) zS_no_ok (y0 := 195) (q := (yX12_in, cX12_in, 6, (some .boolean), 12, 0, 0)) rfl ⟨rfl, rfl⟩ (m9 := (zp_X12_in, 6, 0, 0)) rfl rfl (zy_nx_ok (by decide +kernel)) (N2 := 11) (by decide +kernel) (by decide) zqIN13_E (fun i hi => absurd (show i < 0 from hi) (Nat.not_lt_zero i))
noncomputable def zqw_g35 : EG := zy_su [(10, 2147483648, 2147483666)] zqw_g4
noncomputable def zqw_n36 : List ZN := [(some (eC 0), [], zqw_p2, zqw_w0, zqw_g4), (some (eC 1), [], zqw_p2, zqw_w0, zqw_g35)]
noncomputable def zqIN14_K : List ZC := []
noncomputable def zqIN14_e : ERt := zy_ends 11 zqw_n36
theorem zqIN14_E : zy_spl (fun g => zy_en (zp_X12_in, 6, 0, 0) (zX zS_no 8) zqIN14_e [] 100000 (zy_B 11 zqIN14_K []) ([eLU 10, eL 0, eL 18] : List EV) zqw_w0 g) [] zqw_g4 = true := by decide +kernel
noncomputable def zqIN14_f (i : Nat) : Bool := zy_f 11 zp_X12_in (zX zS_no 8) 0 0 zqIN14_e [] 100000 zqIN14_K i
noncomputable def zcIN14 : ECal := zf_cal 195 10 [] [0] zqw_p2 [] ([eLU 10, eL 0, eL 18] : List EV) zqw_w0 zqw_g4 zqw_n36
theorem zcIN14_ok : ZE zcIN14 12 := ZE.met (n := 8) (es := zqw_n36) (hd := []) (F := 100000) (KS := zqIN14_K) (js := []) (sp0 := []) (by decide) zS_no_ok (y0 := 195) (q := (yX12_in, cX12_in, 6, (some .boolean), 12, 0, 0)) rfl ⟨rfl, rfl⟩ (m9 := (zp_X12_in, 6, 0, 0)) rfl rfl (zy_nx_ok (by decide +kernel)) (N2 := 11) (by decide +kernel) (by decide) zqIN14_E (fun i hi => absurd (show i < 0 from hi) (Nat.not_lt_zero i))
noncomputable def zqw_g37 : EG := zy_su [(10, 2147483649, 2147483708)] zqw_g4
noncomputable def zqw_n38 : List ZN := [(some (eC 0), [], zqw_p2, zqw_w0, zqw_g4), (some (eC 1), [], zqw_p2, zqw_w0, zqw_g37)]
noncomputable def zqIN15_K : List ZC := []
noncomputable def zqIN15_e : ERt := zy_ends 11 zqw_n38
theorem zqIN15_E : zy_spl (fun g => zy_en (zp_X12_in, 6, 0, 0) (zX zS_no 8) zqIN15_e [] 100000 (zy_B 11 zqIN15_K []) ([eLU 10, eL 1, eL 60] : List EV) zqw_w0 g) [] zqw_g4 = true := by decide +kernel
noncomputable def zqIN15_f (i : Nat) : Bool := zy_f 11 zp_X12_in (zX zS_no 8) 0 0 zqIN15_e [] 100000 zqIN15_K i
noncomputable def zcIN15 : ECal := zf_cal 195 10 [] [0] zqw_p2 [] ([eLU 10, eL 1, eL 60] : List EV) zqw_w0 zqw_g4 zqw_n38
theorem zcIN15_ok : ZE zcIN15 12 := ZE.met (n := 8) (es := zqw_n38) (hd := []) (F := 100000) (KS := zqIN15_K) (js := []) (sp0 := []) (by decide) zS_no_ok (y0 := 195) (q := (yX12_in, cX12_in, 6, (some .boolean), 12, 0, 0)) rfl ⟨rfl, rfl⟩ (m9 := (zp_X12_in, 6, 0, 0)) rfl rfl (zy_nx_ok (by decide +kernel)) (N2 := 11) (by decide +kernel) (by decide) zqIN15_E (fun i hi => absurd (show i < 0 from hi) (Nat.not_lt_zero i))
noncomputable def zqw_g39 : EG := zy_su [(10, 2147483658, 2147483667)] zqw_g4
noncomputable def zqw_n40 : List ZN := [(some (eC 0), [], zqw_p2, zqw_w0, zqw_g4), (some (eC 1), [], zqw_p2, zqw_w0, zqw_g39)]
noncomputable def zqIN16_K : List ZC := []
noncomputable def zqIN16_e : ERt := zy_ends 11 zqw_n40
theorem zqIN16_E : zy_spl (fun g => zy_en (zp_X12_in, 6, 0, 0) (zX zS_no 8) zqIN16_e [] 100000 (zy_B 11 zqIN16_K []) ([eLU 10, eL 10, eL 19] : List EV) zqw_w0 g) [] zqw_g4 = true := by decide +kernel
noncomputable def zqIN16_f (i : Nat) : Bool := zy_f 11 zp_X12_in (zX zS_no 8) 0 0 zqIN16_e [] 100000 zqIN16_K i
noncomputable def zcIN16 : ECal := zf_cal 195 10 [] [0] zqw_p2 [] ([eLU 10, eL 10, eL 19] : List EV) zqw_w0 zqw_g4 zqw_n40
theorem zcIN16_ok : ZE zcIN16 12 := ZE.met (n := 8) (es := zqw_n40) (hd := []) (F := 100000) (KS := zqIN16_K) (js := []) (sp0 := []) (by decide) zS_no_ok (y0 := 195) (q := (yX12_in, cX12_in, 6, (some .boolean), 12, 0, 0)) rfl ⟨rfl, rfl⟩ (m9 := (zp_X12_in, 6, 0, 0)) rfl rfl (zy_nx_ok (by decide +kernel)) (N2 := 11) (by decide +kernel) (by decide) zqIN16_E (fun i hi => absurd (show i < 0 from hi) (Nat.not_lt_zero i))
def zqw_g41 : EG := [(0, 4294967295), (0, 4294967295), (0, 4294967295), (0, 4294967295), (0, 4294967295), (0, 4294967295), (0, 4294967295), (0, 4294967295), (0, 4294967295), (0, 4294967295), (0, 4294967295), (2147483647, 2147483651)]
noncomputable def zqw_g42 : EG := zy_su [(10, 2147483648, 2147483651), (11, 2147483648, 2147483651)] zqw_g41
noncomputable def zqw_n43 : List ZN := [(some (eC 0), [], zqw_p2, zqw_w0, zqw_g41), (some (eC 1), [], zqw_p2, zqw_w0, zqw_g42)]
noncomputable def zqIN17_K : List ZC := []
noncomputable def zqIN17_e : ERt := zy_ends 12 zqw_n43
theorem zqIN17_E : zy_spl (fun g => zy_en (zp_X12_in, 6, 0, 0) (zX zS_no 8) zqIN17_e [] 100000 (zy_B 12 zqIN17_K []) ([eLU 10, eL 0, eLU 11] : List EV) zqw_w0 g) [] zqw_g41 = true := by decide +kernel
noncomputable def zqIN17_f (i : Nat) : Bool := zy_f 12 zp_X12_in (zX zS_no 8) 0 0 zqIN17_e [] 100000 zqIN17_K i
noncomputable def zcIN17 : ECal := zf_cal 195 10 [] [0, 2] zqw_p2 [] ([eLU 10, eL 0, eLU 11] : List EV) zqw_w0 zqw_g41 zqw_n43
theorem zcIN17_ok : ZE zcIN17 12 := ZE.met (n := 8) (es := zqw_n43) (hd := []) (F := 100000) (KS := zqIN17_K) (js := []) (sp0 := []) (by decide) zS_no_ok (y0 := 195) (q := (yX12_in, cX12_in, 6, (some .boolean), 12, 0, 0)) rfl ⟨rfl, rfl⟩ (m9 := (zp_X12_in, 6, 0, 0)) rfl rfl (zy_nx_ok (by decide +kernel)) (N2 := 12) (by decide +kernel) (by decide) zqIN17_E (fun i hi => absurd (show i < 0 from hi) (Nat.not_lt_zero i))
def zqw_g44 : EG := [(0, 4294967295), (0, 4294967295), (0, 4294967295), (0, 4294967295), (0, 4294967295), (0, 4294967295), (0, 4294967295), (0, 4294967295), (0, 4294967295), (0, 4294967295), (0, 4294967295), (2147483647, 2147483652)]
noncomputable def zqw_g45 : EG := zy_su [(10, 2147483648, 2147483652), (11, 2147483648, 2147483652)] zqw_g44
noncomputable def zqw_n46 : List ZN := [(some (eC 0), [], zqw_p2, zqw_w0, zqw_g44), (some (eC 1), [], zqw_p2, zqw_w0, zqw_g45)]
noncomputable def zqIN18_K : List ZC := []
noncomputable def zqIN18_e : ERt := zy_ends 12 zqw_n46
theorem zqIN18_E : zy_spl (fun g => zy_en (zp_X12_in, 6, 0, 0) (zX zS_no 8) zqIN18_e [] 100000 (zy_B 12 zqIN18_K []) ([eLU 10, eL 0, eLU 11] : List EV) zqw_w0 g) [] zqw_g44 = true := by decide +kernel
noncomputable def zqIN18_f (i : Nat) : Bool := zy_f 12 zp_X12_in (zX zS_no 8) 0 0 zqIN18_e [] 100000 zqIN18_K i
noncomputable def zcIN18 : ECal := zf_cal 195 10 [] [0, 2] zqw_p2 [] ([eLU 10, eL 0, eLU 11] : List EV) zqw_w0 zqw_g44 zqw_n46
theorem zcIN18_ok : ZE zcIN18 12 := ZE.met (n := 8) (es := zqw_n46) (hd := []) (F := 100000) (KS := zqIN18_K) (js := []) (sp0 := []) (by decide) zS_no_ok (y0 := 195) (q := (yX12_in, cX12_in, 6, (some .boolean), 12, 0, 0)) rfl ⟨rfl, rfl⟩ (m9 := (zp_X12_in, 6, 0, 0)) rfl rfl (zy_nx_ok (by decide +kernel)) (N2 := 12) (by decide +kernel) (by decide) zqIN18_E (fun i hi => absurd (show i < 0 from hi) (Nat.not_lt_zero i))
def zqw_g47 : EG := [(0, 4294967295), (0, 4294967295), (0, 4294967295), (0, 4294967295), (0, 4294967295), (0, 4294967295), (0, 4294967295), (0, 4294967295), (0, 4294967295), (0, 4294967295), (0, 4294967295), (2147483647, 2147483671)]
noncomputable def zqw_g48 : EG := zy_su [(10, 2147483648, 2147483671), (11, 2147483648, 2147483671)] zqw_g47
noncomputable def zqw_n49 : List ZN := [(some (eC 0), [], zqw_p2, zqw_w0, zqw_g47), (some (eC 1), [], zqw_p2, zqw_w0, zqw_g48)]
noncomputable def zqIN19_K : List ZC := []
noncomputable def zqIN19_e : ERt := zy_ends 12 zqw_n49
theorem zqIN19_E : zy_spl (fun g => zy_en (zp_X12_in, 6, 0, 0) (zX zS_no 8) zqIN19_e [] 100000 (zy_B 12 zqIN19_K []) ([eLU 10, eL 0, eLU 11] : List EV) zqw_w0 g) [] zqw_g47 = true := by decide +kernel
noncomputable def zqIN19_f (i : Nat) : Bool := zy_f 12 zp_X12_in (zX zS_no 8) 0 0 zqIN19_e [] 100000 zqIN19_K i
noncomputable def zcIN19 : ECal := zf_cal 195 10 [] [0, 2] zqw_p2 [] ([eLU 10, eL 0, eLU 11] : List EV) zqw_w0 zqw_g47 zqw_n49
theorem zcIN19_ok : ZE zcIN19 12 := ZE.met (n := 8) (es := zqw_n49) (hd := []) (F := 100000) (KS := zqIN19_K) (js := []) (sp0 := []) (by decide) zS_no_ok (y0 := 195) (q := (yX12_in, cX12_in, 6, (some .boolean), 12, 0, 0)) rfl ⟨rfl, rfl⟩ (m9 := (zp_X12_in, 6, 0, 0)) rfl rfl (zy_nx_ok (by decide +kernel)) (N2 := 12) (by decide +kernel) (by decide) zqIN19_E (fun i hi => absurd (show i < 0 from hi) (Nat.not_lt_zero i))
def zqw_g50 : EG := [(0, 4294967295), (0, 4294967295), (0, 4294967295), (0, 4294967295), (0, 4294967295), (0, 4294967295), (0, 4294967295), (0, 4294967295), (0, 4294967295), (0, 4294967295), (0, 4294967295), (2147483648, 2147483728)]
noncomputable def zqw_g51 : EG := zy_su [(10, 2147483648, 2147483728)] zqw_g50
noncomputable def zqw_n52 : List ZN := [(some (eC 0), [], zqw_p2, zqw_w0, zqw_g50), (some (eC 1), [], zqw_p2, zqw_w0, zqw_g51)]
noncomputable def zqIN20_K : List ZC := []
noncomputable def zqIN20_e : ERt := zy_ends 12 zqw_n52
theorem zqIN20_E : zy_spl (fun g => zy_en (zp_X12_in, 6, 0, 0) (zX zS_no 8) zqIN20_e [] 100000 (zy_B 12 zqIN20_K []) ([eLU 10, eL 0, eLU 11] : List EV) zqw_w0 g) [] zqw_g50 = true := by decide +kernel
noncomputable def zqIN20_f (i : Nat) : Bool := zy_f 12 zp_X12_in (zX zS_no 8) 0 0 zqIN20_e [] 100000 zqIN20_K i
noncomputable def zcIN20 : ECal := zf_cal 195 10 [] [0, 2] zqw_p2 [] ([eLU 10, eL 0, eLU 11] : List EV) zqw_w0 zqw_g50 zqw_n52
theorem zcIN20_ok : ZE zcIN20 12 := ZE.met (n := 8) (es := zqw_n52) (hd := []) (F := 100000) (KS := zqIN20_K) (js := []) (sp0 := []) (by decide) zS_no_ok (y0 := 195) (q := (yX12_in, cX12_in, 6, (some .boolean), 12, 0, 0)) rfl ⟨rfl, rfl⟩ (m9 := (zp_X12_in, 6, 0, 0)) rfl rfl (zy_nx_ok (by decide +kernel)) (N2 := 12) (by decide +kernel) (by decide) zqIN20_E (fun i hi => absurd (show i < 0 from hi) (Nat.not_lt_zero i))
noncomputable def zEin : ECal := zS_or zcIN0 (zS_or zcIN1 (zS_or zcIN2 (zS_or zcIN3 (zS_or zcIN4 (zS_or zcIN5 (zS_or zcIN6 (zS_or zcIN7 (zS_or zcIN8 (zS_or zcIN9 (zS_or zcIN10 (zS_or zcIN11 (zS_or zcIN12 (zS_or zcIN13 (zS_or zcIN14 (zS_or zcIN15 (zS_or zcIN16 (zS_or zcIN17 (zS_or zcIN18 (zS_or zcIN19 (zcIN20))))))))))))))))))))
theorem zEin_ok : ZE zEin 12 := (ZE.or zcIN0_ok ((ZE.or zcIN1_ok ((ZE.or zcIN2_ok ((ZE.or zcIN3_ok ((ZE.or zcIN4_ok ((ZE.or zcIN5_ok ((ZE.or zcIN6_ok ((ZE.or zcIN7_ok ((ZE.or zcIN8_ok ((ZE.or zcIN9_ok ((ZE.or zcIN10_ok ((ZE.or zcIN11_ok ((ZE.or zcIN12_ok ((ZE.or zcIN13_ok ((ZE.or zcIN14_ok ((ZE.or zcIN15_ok ((ZE.or zcIN16_ok ((ZE.or zcIN17_ok ((ZE.or zcIN18_ok ((ZE.or zcIN19_ok (zcIN20_ok) (by decide) (by decide) : ZE (zS_or zcIN19 (zcIN20)) 12)) (by decide) (by decide) : ZE (zS_or zcIN18 (zS_or zcIN19 (zcIN20))) 12)) (by decide) (by decide) : ZE (zS_or zcIN17 (zS_or zcIN18 (zS_or zcIN19 (zcIN20)))) 12)) (by decide) (by decide) : ZE (zS_or zcIN16 (zS_or zcIN17 (zS_or zcIN18 (zS_or zcIN19 (zcIN20))))) 12)) (by decide) (by decide) : ZE (zS_or zcIN15 (zS_or zcIN16 (zS_or zcIN17 (zS_or zcIN18 (zS_or zcIN19 (zcIN20)))))) 12)) (by decide) (by decide) : ZE (zS_or zcIN14 (zS_or zcIN15 (zS_or zcIN16 (zS_or zcIN17 (zS_or zcIN18 (zS_or zcIN19 (zcIN20))))))) 12)) (by decide) (by decide) : ZE (zS_or zcIN13 (zS_or zcIN14 (zS_or zcIN15 (zS_or zcIN16 (zS_or zcIN17 (zS_or zcIN18 (zS_or zcIN19 (zcIN20)))))))) 12)) (by decide) (by decide) : ZE (zS_or zcIN12 (zS_or zcIN13 (zS_or zcIN14 (zS_or zcIN15 (zS_or zcIN16 (zS_or zcIN17 (zS_or zcIN18 (zS_or zcIN19 (zcIN20))))))))) 12)) (by decide) (by decide) : ZE (zS_or zcIN11 (zS_or zcIN12 (zS_or zcIN13 (zS_or zcIN14 (zS_or zcIN15 (zS_or zcIN16 (zS_or zcIN17 (zS_or zcIN18 (zS_or zcIN19 (zcIN20)))))))))) 12)) (by decide) (by decide) : ZE (zS_or zcIN10 (zS_or zcIN11 (zS_or zcIN12 (zS_or zcIN13 (zS_or zcIN14 (zS_or zcIN15 (zS_or zcIN16 (zS_or zcIN17 (zS_or zcIN18 (zS_or zcIN19 (zcIN20))))))))))) 12)) (by decide) (by decide) : ZE (zS_or zcIN9 (zS_or zcIN10 (zS_or zcIN11 (zS_or zcIN12 (zS_or zcIN13 (zS_or zcIN14 (zS_or zcIN15 (zS_or zcIN16 (zS_or zcIN17 (zS_or zcIN18 (zS_or zcIN19 (zcIN20)))))))))))) 12)) (by decide) (by decide) : ZE (zS_or zcIN8 (zS_or zcIN9 (zS_or zcIN10 (zS_or zcIN11 (zS_or zcIN12 (zS_or zcIN13 (zS_or zcIN14 (zS_or zcIN15 (zS_or zcIN16 (zS_or zcIN17 (zS_or zcIN18 (zS_or zcIN19 (zcIN20))))))))))))) 12)) (by decide) (by decide) : ZE (zS_or zcIN7 (zS_or zcIN8 (zS_or zcIN9 (zS_or zcIN10 (zS_or zcIN11 (zS_or zcIN12 (zS_or zcIN13 (zS_or zcIN14 (zS_or zcIN15 (zS_or zcIN16 (zS_or zcIN17 (zS_or zcIN18 (zS_or zcIN19 (zcIN20)))))))))))))) 12)) (by decide) (by decide) : ZE (zS_or zcIN6 (zS_or zcIN7 (zS_or zcIN8 (zS_or zcIN9 (zS_or zcIN10 (zS_or zcIN11 (zS_or zcIN12 (zS_or zcIN13 (zS_or zcIN14 (zS_or zcIN15 (zS_or zcIN16 (zS_or zcIN17 (zS_or zcIN18 (zS_or zcIN19 (zcIN20))))))))))))))) 12)) (by decide) (by decide) : ZE (zS_or zcIN5 (zS_or zcIN6 (zS_or zcIN7 (zS_or zcIN8 (zS_or zcIN9 (zS_or zcIN10 (zS_or zcIN11 (zS_or zcIN12 (zS_or zcIN13 (zS_or zcIN14 (zS_or zcIN15 (zS_or zcIN16 (zS_or zcIN17 (zS_or zcIN18 (zS_or zcIN19 (zcIN20)))))))))))))))) 12)) (by decide) (by decide) : ZE (zS_or zcIN4 (zS_or zcIN5 (zS_or zcIN6 (zS_or zcIN7 (zS_or zcIN8 (zS_or zcIN9 (zS_or zcIN10 (zS_or zcIN11 (zS_or zcIN12 (zS_or zcIN13 (zS_or zcIN14 (zS_or zcIN15 (zS_or zcIN16 (zS_or zcIN17 (zS_or zcIN18 (zS_or zcIN19 (zcIN20))))))))))))))))) 12)) (by decide) (by decide) : ZE (zS_or zcIN3 (zS_or zcIN4 (zS_or zcIN5 (zS_or zcIN6 (zS_or zcIN7 (zS_or zcIN8 (zS_or zcIN9 (zS_or zcIN10 (zS_or zcIN11 (zS_or zcIN12 (zS_or zcIN13 (zS_or zcIN14 (zS_or zcIN15 (zS_or zcIN16 (zS_or zcIN17 (zS_or zcIN18 (zS_or zcIN19 (zcIN20)))))))))))))))))) 12)) (by decide) (by decide) : ZE (zS_or zcIN2 (zS_or zcIN3 (zS_or zcIN4 (zS_or zcIN5 (zS_or zcIN6 (zS_or zcIN7 (zS_or zcIN8 (zS_or zcIN9 (zS_or zcIN10 (zS_or zcIN11 (zS_or zcIN12 (zS_or zcIN13 (zS_or zcIN14 (zS_or zcIN15 (zS_or zcIN16 (zS_or zcIN17 (zS_or zcIN18 (zS_or zcIN19 (zcIN20))))))))))))))))))) 12)) (by decide) (by decide) : ZE (zS_or zcIN1 (zS_or zcIN2 (zS_or zcIN3 (zS_or zcIN4 (zS_or zcIN5 (zS_or zcIN6 (zS_or zcIN7 (zS_or zcIN8 (zS_or zcIN9 (zS_or zcIN10 (zS_or zcIN11 (zS_or zcIN12 (zS_or zcIN13 (zS_or zcIN14 (zS_or zcIN15 (zS_or zcIN16 (zS_or zcIN17 (zS_or zcIN18 (zS_or zcIN19 (zcIN20)))))))))))))))))))) 12)) (by decide) (by decide) : ZE (zS_or zcIN0 (zS_or zcIN1 (zS_or zcIN2 (zS_or zcIN3 (zS_or zcIN4 (zS_or zcIN5 (zS_or zcIN6 (zS_or zcIN7 (zS_or zcIN8 (zS_or zcIN9 (zS_or zcIN10 (zS_or zcIN11 (zS_or zcIN12 (zS_or zcIN13 (zS_or zcIN14 (zS_or zcIN15 (zS_or zcIN16 (zS_or zcIN17 (zS_or zcIN18 (zS_or zcIN19 (zcIN20))))))))))))))))))))) 12)
noncomputable def zqw_e53 : EC := (12, [eU 11, eU 12, eX 42, eU 13, eU 14, eU 15, eX 43, eX 44, eX 45, eR 1, eU 18, eU 19, eU 20, eU 21, eX 46, eU 22, eX 47, eR 2, eU 25, eU 26, eX 48, eX 49, eU 27, eX 50, eX 51, eX 52, eX 53, eX 54, eX 55, eU 28, eX 56, eX 57, eU 29, eU 30, eX 58, eX 59, eU 31, eX 60, eX 61, eU 32, eX 62, eX 63, eX 64, eX 65, eX 66, eX 67, eU 33, eX 68, eX 69, eX 70])
noncomputable def zqw_e54 : EC := (1303, [eU 16, eU 17])
noncomputable def zqw_e55 : EC := (1301, [eU 23, eC 0, eU 26, eU 24, eC 0, eU 19, eU 19, eC 0])
noncomputable def zqw_c56 : List EC := [zqw_e53, zqw_e54, zqw_e55]
noncomputable def zqw_w57 : EW := (3, [zqw_c56])
def zqw_g58 : EG := [(0, 4294967295), (0, 4294967295), (0, 4294967295), (0, 4294967295), (0, 4294967295), (0, 4294967295), (0, 4294967295), (0, 4294967295), (0, 4294967295), (0, 4294967295), (2147483648, 2147483903), (2147483648, 2147483649), (2147483648, 2147483672), (2147483648, 2147483653), (2147483648, 2147483653), (0, 4294967295), (2147483648, 2147483727), (2147483648, 2147483903), (2147483648, 2147483728), (2147483648, 2147483688), (2147483648, 2147483688), (0, 4294967295), (2147483648, 2147483653), (2147483648, 4294967295), (2147483648, 4294967295), (2147483648, 2147483688), (2147483648, 2147483688), (2147483648, 2147483663), (2147483648, 2147483708), (0, 4294967295), (2147483648, 2147483658), (2147483648, 2147483660), (2147483648, 2147483658), (0, 4294967295)]
def zqw_p59 : List (Nat × Nat) := [(1, 0), (1, 1)]
noncomputable def zqw_e60 : EC := (1303, [eU 34, eU 35])
noncomputable def zqw_c61 : List EC := [zqw_e53, zqw_e60, zqw_e55]
noncomputable def zqw_w62 : EW := (3, [zqw_c61])
noncomputable def zqw_g63 : EG := zqw_g58 ++ [(2147483648, 2147483727), (2147483648, 2147483903)]
def zqw_p64 : List (Nat × Nat) := [(0, 11), (1, 1)]
noncomputable def zqw_e65 : EC := (12, [eU 11, eU 12, eX 42, eU 13, eU 14, eU 15, eX 43, eX 44, eX 45, eR 1, eU 18, eU 34, eU 20, eU 21, eX 46, eU 22, eX 47, eR 2, eU 25, eU 26, eX 48, eX 49, eU 27, eX 50, eX 51, eX 52, eX 53, eX 54, eX 55, eU 28, eX 56, eX 57, eU 29, eU 30, eX 58, eX 59, eU 31, eX 60, eX 61, eU 32, eX 62, eX 63, eX 64, eX 65, eX 66, eX 67, eU 33, eX 68, eX 69, eX 70])
noncomputable def zqw_e66 : EC := (1303, [eU 19, eU 35])
noncomputable def zqw_e67 : EC := (1301, [eU 23, eC 0, eU 26, eU 24, eC 1, eU 34, eU 19, eC 1])
noncomputable def zqw_c68 : List EC := [zqw_e65, zqw_e66, zqw_e67]
noncomputable def zqw_w69 : EW := (3, [zqw_c68])
noncomputable def zqw_g70 : EG := zqw_g58 ++ [(2147483649, 2147483688), (2147483648, 2147483903)]
noncomputable def zqw_n71 : List ZN := [(some (eC 0), [], zqw_p59, zqw_w62, zqw_g63), (some (eC 1), [], zqw_p64, zqw_w69, zqw_g70)]
noncomputable def zqT_K : List ZC := []
noncomputable def zqT_e : ERt := zy_ends 34 zqw_n71
theorem zqT_E : zy_spl (fun g => zy_en (zp_X12_takes, 3, 0, 0) (zX zEin 8) zqT_e [] 100000 (zy_B 34 zqT_K []) ([eR 0, eU 10] : List EV) zqw_w57 g) [(19, [2147483648, 2147483649, 2147483650, 2147483651, 2147483652, 2147483653, 2147483654, 2147483655, 2147483656, 2147483657, 2147483658, 2147483659, 2147483660, 2147483661, 2147483662, 2147483663, 2147483664, 2147483665, 2147483666, 2147483667, 2147483668, 2147483669, 2147483670, 2147483671, 2147483672, 2147483673, 2147483674, 2147483675, 2147483676, 2147483677, 2147483678, 2147483679, 2147483680, 2147483681, 2147483682, 2147483683, 2147483684, 2147483685, 2147483686, 2147483687])] zqw_g58 = true := by decide +kernel
noncomputable def zqT_f (i : Nat) : Bool := zy_f 34 zp_X12_takes (zX zEin 8) 0 0 zqT_e [] 100000 zqT_K i
def zqw_p72 : List (Nat × Nat) := [(0, 0), (0, 1), (0, 3), (0, 4), (0, 5), (1, 0), (1, 1), (0, 10), (0, 11), (0, 12), (0, 13), (0, 15), (2, 0), (2, 3), (0, 18), (0, 19), (0, 22), (0, 29), (0, 32), (0, 33), (0, 36), (0, 39), (0, 46)]
noncomputable def zcT : ECal := zf_cal 218 10 [.inl 0, .inr (0, 9), .inr (0, 17)] [1] zqw_p72 [(0, 2), (0, 6), (0, 7), (0, 8), (0, 14), (0, 16), (0, 20), (0, 21), (0, 23), (0, 24), (0, 25), (0, 26), (0, 27), (0, 28), (0, 30), (0, 31), (0, 34), (0, 35), (0, 37), (0, 38), (0, 40), (0, 41), (0, 42), (0, 43), (0, 44), (0, 45), (0, 47), (0, 48), (0, 49)] ([eR 0, eU 10] : List EV) zqw_w57 zqw_g58 zqw_n71
theorem zcT_ok : ZE zcT 21 := ZE.met (n := 8) (es := zqw_n71) (hd := []) (F := 100000) (KS := zqT_K) (js := []) (sp0 := [(19, [2147483648, 2147483649, 2147483650, 2147483651, 2147483652, 2147483653, 2147483654, 2147483655, 2147483656, 2147483657, 2147483658, 2147483659, 2147483660, 2147483661, 2147483662, 2147483663, 2147483664, 2147483665, 2147483666, 2147483667, 2147483668, 2147483669, 2147483670, 2147483671, 2147483672, 2147483673, 2147483674, 2147483675, 2147483676, 2147483677, 2147483678, 2147483679, 2147483680, 2147483681, 2147483682, 2147483683, 2147483684, 2147483685, 2147483686, 2147483687])]) (by decide) zEin_ok (y0 := 218) (q := (yX12_takes, cX12_takes, 3, (some .boolean), 12, 0, 0)) rfl ⟨rfl, rfl⟩ (m9 := (zp_X12_takes, 3, 0, 0)) rfl rfl (zy_nx_ok (by decide +kernel)) (N2 := 34) (by decide +kernel) (by decide) zqT_E (fun i hi => absurd (show i < 0 from hi) (Nat.not_lt_zero i))
noncomputable def zdT : ECal := zr_w 218 17 11 0 0 false (zr_t 9 zcT)
theorem zdT_ok : ZE zdT 21 := ZE.rd 218 17 9 11 0 0 false (by decide) zcT_ok
noncomputable def zqw_e73 : EC := (1301, [eU 23, eC 0, eU 26, eU 24, eC 1, eU 19, eU 19, eC 0])
noncomputable def zqw_c74 : List EC := [zqw_e53, zqw_e54, zqw_e73]
noncomputable def zqw_w75 : EW := (3, [zqw_c74])
def zqw_g76 : EG := [(0, 4294967295), (0, 4294967295), (0, 4294967295), (0, 4294967295), (0, 4294967295), (0, 4294967295), (0, 4294967295), (0, 4294967295), (0, 4294967295), (0, 4294967295), (2147483648, 2147484654), (2147483648, 2147483649), (2147483648, 2147483672), (2147483648, 2147483653), (2147483648, 2147483653), (0, 4294967295), (2147483648, 2147483727), (2147483648, 2147483903), (2147483648, 2147483728), (2147483648, 2147483728), (2147483648, 2147483708), (0, 4294967295), (2147483648, 2147483653), (2147483648, 4294967295), (2147483648, 4294967295), (2147483648, 2147483688), (2147483648, 2147483688), (2147483648, 2147483663), (2147483648, 2147483708), (0, 4294967295), (2147483648, 2147483658), (2147483648, 2147483660), (2147483648, 2147483658), (0, 4294967295)]
def zqw_p77 : List (Nat × Nat) := [(0, 19)]
noncomputable def zqw_e78 : EC := (12, [eU 11, eU 12, eX 42, eU 13, eU 14, eU 15, eX 43, eX 44, eX 45, eR 1, eU 18, eU 19, eU 20, eU 21, eX 46, eU 22, eX 47, eR 2, eU 25, eU 34, eX 48, eX 49, eU 27, eX 50, eX 51, eX 52, eX 53, eX 54, eX 55, eU 28, eX 56, eX 57, eU 29, eU 30, eX 58, eX 59, eU 31, eX 60, eX 61, eU 32, eX 62, eX 63, eX 64, eX 65, eX 66, eX 67, eU 33, eX 68, eX 69, eX 70])
noncomputable def zqw_e79 : EC := (1301, [eU 23, eC 1, eU 34, eU 24, eC 0, eU 19, eU 19, eC 0])
noncomputable def zqw_c80 : List EC := [zqw_e78, zqw_e54, zqw_e79]
noncomputable def zqw_w81 : EW := (3, [zqw_c80])
noncomputable def zqw_g82 : EG := zqw_g76 ++ [(2147483649, 2147483689)]
noncomputable def zqw_n83 : List ZN := [(none, [], zqw_p77, zqw_w81, zqw_g82)]
noncomputable def zqC0_K : List ZC := []
noncomputable def zqC0_e : ERt := zy_ends 34 zqw_n83
theorem zqC0_E : zy_spl (fun g => zy_en (zp_X12_codes, 2, 0, 0) (zX zEin 8) zqC0_e [] 100000 (zy_B 34 zqC0_K []) ([eR 0, eU 10] : List EV) zqw_w75 g) [(26, [2147483648, 2147483649, 2147483650, 2147483651, 2147483652, 2147483653, 2147483654, 2147483655, 2147483656, 2147483657, 2147483658, 2147483659, 2147483660, 2147483661, 2147483662, 2147483663, 2147483664, 2147483665, 2147483666, 2147483667, 2147483668, 2147483669, 2147483670, 2147483671, 2147483672, 2147483673, 2147483674, 2147483675, 2147483676, 2147483677, 2147483678, 2147483679, 2147483680, 2147483681, 2147483682, 2147483683, 2147483684, 2147483685, 2147483686, 2147483687])] zqw_g76 = true := by decide +kernel
noncomputable def zqC0_f (i : Nat) : Bool := zy_f 34 zp_X12_codes (zX zEin 8) 0 0 zqC0_e [] 100000 zqC0_K i
noncomputable def zcC0 : ECal := zf_cal 228 10 [.inl 0, .inr (0, 9), .inr (0, 17)] [1] zqw_p72 [(0, 2), (0, 6), (0, 7), (0, 8), (0, 14), (0, 16), (0, 20), (0, 21), (0, 23), (0, 24), (0, 25), (0, 26), (0, 27), (0, 28), (0, 30), (0, 31), (0, 34), (0, 35), (0, 37), (0, 38), (0, 40), (0, 41), (0, 42), (0, 43), (0, 44), (0, 45), (0, 47), (0, 48), (0, 49)] ([eR 0, eU 10] : List EV) zqw_w75 zqw_g76 zqw_n83
theorem zcC0_ok : ZE zcC0 21 := ZE.met (n := 8) (es := zqw_n83) (hd := []) (F := 100000) (KS := zqC0_K) (js := []) (sp0 := [(26, [2147483648, 2147483649, 2147483650, 2147483651, 2147483652, 2147483653, 2147483654, 2147483655, 2147483656, 2147483657, 2147483658, 2147483659, 2147483660, 2147483661, 2147483662, 2147483663, 2147483664, 2147483665, 2147483666, 2147483667, 2147483668, 2147483669, 2147483670, 2147483671, 2147483672, 2147483673, 2147483674, 2147483675, 2147483676, 2147483677, 2147483678, 2147483679, 2147483680, 2147483681, 2147483682, 2147483683, 2147483684, 2147483685, 2147483686, 2147483687])]) (by decide) zEin_ok (y0 := 228) (q := (yX12_codes, cX12_codes, 2, none, 12, 0, 0)) rfl ⟨rfl, rfl⟩ (m9 := (zp_X12_codes, 2, 0, 0)) rfl rfl (zy_nx_ok (by decide +kernel)) (N2 := 34) (by decide +kernel) (by decide) zqC0_E (fun i hi => absurd (show i < 0 from hi) (Nat.not_lt_zero i))
noncomputable def zdC0 : ECal := zr_w 228 17 11 0 1 false (zr_t 9 zcC0)
theorem zdC0_ok : ZE zdC0 21 := ZE.rd 228 17 9 11 0 1 false (by decide) zcC0_ok
noncomputable def zqw_e84 : EC := (12, [eU 10, eU 11, eX 42, eU 12, eU 13, eU 14, eX 43, eX 44, eX 45, eR 1, eU 17, eU 18, eU 19, eU 20, eX 46, eU 21, eX 47, eR 2, eU 24, eU 25, eX 48, eX 49, eU 26, eX 50, eX 51, eX 52, eX 53, eX 54, eX 55, eU 27, eX 56, eX 57, eU 28, eU 29, eX 58, eX 59, eU 30, eX 60, eX 61, eU 31, eX 62, eX 63, eX 64, eX 65, eX 66, eX 67, eU 32, eX 68, eX 69, eX 70])
noncomputable def zqw_e85 : EC := (1303, [eU 15, eU 16])
noncomputable def zqw_e86 : EC := (1301, [eU 22, eC 1, eU 25, eU 23, eC 1, eU 18, eU 18, eC 0])
noncomputable def zqw_c87 : List EC := [zqw_e84, zqw_e85, zqw_e86]
noncomputable def zqw_w88 : EW := (3, [zqw_c87])
def zqw_g89 : EG := [(0, 4294967295), (0, 4294967295), (0, 4294967295), (0, 4294967295), (0, 4294967295), (0, 4294967295), (0, 4294967295), (0, 4294967295), (0, 4294967295), (0, 4294967295), (2147483648, 2147483649), (2147483648, 2147483672), (2147483648, 2147483653), (2147483648, 2147483653), (0, 4294967295), (2147483648, 2147483727), (2147483648, 2147483903), (2147483648, 2147483728), (2147483648, 2147483728), (2147483648, 2147483708), (0, 4294967295), (2147483648, 2147483653), (2147483648, 4294967295), (2147483648, 4294967295), (2147483648, 2147483688), (2147483648, 2147483688), (2147483648, 2147483663), (2147483648, 2147483708), (0, 4294967295), (2147483648, 2147483658), (2147483648, 2147483660), (2147483648, 2147483658), (0, 4294967295)]
noncomputable def zqw_e90 : EC := (12, [eU 10, eU 11, eX 42, eU 12, eU 13, eU 14, eX 43, eX 44, eX 45, eR 1, eU 17, eU 18, eU 19, eU 20, eX 46, eU 21, eX 47, eR 2, eU 24, eU 33, eX 48, eX 49, eU 26, eX 50, eX 51, eX 52, eX 53, eX 54, eX 55, eU 27, eX 56, eX 57, eU 28, eU 29, eX 58, eX 59, eU 30, eX 60, eX 61, eU 31, eX 62, eX 63, eX 64, eX 65, eX 66, eX 67, eU 32, eX 68, eX 69, eX 70])
noncomputable def zqw_e91 : EC := (1301, [eU 22, eC 1, eU 33, eU 23, eC 0, eU 18, eU 18, eC 0])
noncomputable def zqw_c92 : List EC := [zqw_e90, zqw_e85, zqw_e91]
noncomputable def zqw_w93 : EW := (3, [zqw_c92])
noncomputable def zqw_g94 : EG := zqw_g89 ++ [(2147483649, 2147483689)]
noncomputable def zqw_n95 : List ZN := [(none, [], zqw_p77, zqw_w93, zqw_g94)]
noncomputable def zqC1_K : List ZC := []
noncomputable def zqC1_e : ERt := zy_ends 33 zqw_n95
theorem zqC1_E : zy_spl (fun g => zy_en (zp_X12_codes, 2, 0, 0) (zX zEin 8) zqC1_e [] 100000 (zy_B 33 zqC1_K []) ([eR 0, eC 3000] : List EV) zqw_w88 g) [(25, [2147483648, 2147483649, 2147483650, 2147483651, 2147483652, 2147483653, 2147483654, 2147483655, 2147483656, 2147483657, 2147483658, 2147483659, 2147483660, 2147483661, 2147483662, 2147483663, 2147483664, 2147483665, 2147483666, 2147483667, 2147483668, 2147483669, 2147483670, 2147483671, 2147483672, 2147483673, 2147483674, 2147483675, 2147483676, 2147483677, 2147483678, 2147483679, 2147483680, 2147483681, 2147483682, 2147483683, 2147483684, 2147483685, 2147483686, 2147483687])] zqw_g89 = true := by decide +kernel
noncomputable def zqC1_f (i : Nat) : Bool := zy_f 33 zp_X12_codes (zX zEin 8) 0 0 zqC1_e [] 100000 zqC1_K i
noncomputable def zcC1 : ECal := zf_cal 228 10 [.inl 0, .inr (0, 9), .inr (0, 17)] [] zqw_p72 [(0, 2), (0, 6), (0, 7), (0, 8), (0, 14), (0, 16), (0, 20), (0, 21), (0, 23), (0, 24), (0, 25), (0, 26), (0, 27), (0, 28), (0, 30), (0, 31), (0, 34), (0, 35), (0, 37), (0, 38), (0, 40), (0, 41), (0, 42), (0, 43), (0, 44), (0, 45), (0, 47), (0, 48), (0, 49)] ([eR 0, eC 3000] : List EV) zqw_w88 zqw_g89 zqw_n95
theorem zcC1_ok : ZE zcC1 21 := ZE.met (n := 8) (es := zqw_n95) (hd := []) (F := 100000) (KS := zqC1_K) (js := []) (sp0 := [(25, [2147483648, 2147483649, 2147483650, 2147483651, 2147483652, 2147483653, 2147483654, 2147483655, 2147483656, 2147483657, 2147483658, 2147483659, 2147483660, 2147483661, 2147483662, 2147483663, 2147483664, 2147483665, 2147483666, 2147483667, 2147483668, 2147483669, 2147483670, 2147483671, 2147483672, 2147483673, 2147483674, 2147483675, 2147483676, 2147483677, 2147483678, 2147483679, 2147483680, 2147483681, 2147483682, 2147483683, 2147483684, 2147483685, 2147483686, 2147483687])]) (by decide) zEin_ok (y0 := 228) (q := (yX12_codes, cX12_codes, 2, none, 12, 0, 0)) rfl ⟨rfl, rfl⟩ (m9 := (zp_X12_codes, 2, 0, 0)) rfl rfl (zy_nx_ok (by decide +kernel)) (N2 := 33) (by decide +kernel) (by decide) zqC1_E (fun i hi => absurd (show i < 0 from hi) (Nat.not_lt_zero i))
noncomputable def zdC1 : ECal := zr_w 228 17 11 1 1 false (zr_t 9 zcC1)
theorem zdC1_ok : ZE zdC1 21 := ZE.rd 228 17 9 11 1 1 false (by decide) zcC1_ok
noncomputable def zqw_e96 : EC := (1301, [eU 23, eC 2, eU 26, eU 24, eC 1, eU 19, eU 19, eC 0])
noncomputable def zqw_c97 : List EC := [zqw_e53, zqw_e54, zqw_e96]
noncomputable def zqw_w98 : EW := (3, [zqw_c97])
def zqw_g99 : EG := [(0, 4294967295), (0, 4294967295), (0, 4294967295), (0, 4294967295), (0, 4294967295), (0, 4294967295), (0, 4294967295), (0, 4294967295), (0, 4294967295), (0, 4294967295), (2147485648, 2147485654), (2147483648, 2147483649), (2147483648, 2147483672), (2147483648, 2147483653), (2147483648, 2147483653), (0, 4294967295), (2147483648, 2147483727), (2147483648, 2147483903), (2147483648, 2147483728), (2147483648, 2147483728), (2147483648, 2147483708), (0, 4294967295), (2147483648, 2147483653), (2147483648, 4294967295), (2147483648, 4294967295), (2147483648, 2147483688), (2147483648, 2147483688), (2147483648, 2147483663), (2147483648, 2147483708), (0, 4294967295), (2147483648, 2147483658), (2147483648, 2147483660), (2147483648, 2147483658), (0, 4294967295)]
noncomputable def zqw_g100 : EG := zqw_g99 ++ [(2147483649, 2147483689)]
noncomputable def zqw_n101 : List ZN := [(none, [], zqw_p77, zqw_w81, zqw_g100)]
noncomputable def zqC2_K : List ZC := []
noncomputable def zqC2_e : ERt := zy_ends 34 zqw_n101
theorem zqC2_E : zy_spl (fun g => zy_en (zp_X12_codes, 2, 0, 0) (zX zEin 8) zqC2_e [] 100000 (zy_B 34 zqC2_K []) ([eR 0, eU 10] : List EV) zqw_w98 g) [(26, [2147483648, 2147483649, 2147483650, 2147483651, 2147483652, 2147483653, 2147483654, 2147483655, 2147483656, 2147483657, 2147483658, 2147483659, 2147483660, 2147483661, 2147483662, 2147483663, 2147483664, 2147483665, 2147483666, 2147483667, 2147483668, 2147483669, 2147483670, 2147483671, 2147483672, 2147483673, 2147483674, 2147483675, 2147483676, 2147483677, 2147483678, 2147483679, 2147483680, 2147483681, 2147483682, 2147483683, 2147483684, 2147483685, 2147483686, 2147483687])] zqw_g99 = true := by decide +kernel
noncomputable def zqC2_f (i : Nat) : Bool := zy_f 34 zp_X12_codes (zX zEin 8) 0 0 zqC2_e [] 100000 zqC2_K i
noncomputable def zcC2 : ECal := zf_cal 228 10 [.inl 0, .inr (0, 9), .inr (0, 17)] [1] zqw_p72 [(0, 2), (0, 6), (0, 7), (0, 8), (0, 14), (0, 16), (0, 20), (0, 21), (0, 23), (0, 24), (0, 25), (0, 26), (0, 27), (0, 28), (0, 30), (0, 31), (0, 34), (0, 35), (0, 37), (0, 38), (0, 40), (0, 41), (0, 42), (0, 43), (0, 44), (0, 45), (0, 47), (0, 48), (0, 49)] ([eR 0, eU 10] : List EV) zqw_w98 zqw_g99 zqw_n101
theorem zcC2_ok : ZE zcC2 21 := ZE.met (n := 8) (es := zqw_n101) (hd := []) (F := 100000) (KS := zqC2_K) (js := []) (sp0 := [(26, [2147483648, 2147483649, 2147483650, 2147483651, 2147483652, 2147483653, 2147483654, 2147483655, 2147483656, 2147483657, 2147483658, 2147483659, 2147483660, 2147483661, 2147483662, 2147483663, 2147483664, 2147483665, 2147483666, 2147483667, 2147483668, 2147483669, 2147483670, 2147483671, 2147483672, 2147483673, 2147483674, 2147483675, 2147483676, 2147483677, 2147483678, 2147483679, 2147483680, 2147483681, 2147483682, 2147483683, 2147483684, 2147483685, 2147483686, 2147483687])]) (by decide) zEin_ok (y0 := 228) (q := (yX12_codes, cX12_codes, 2, none, 12, 0, 0)) rfl ⟨rfl, rfl⟩ (m9 := (zp_X12_codes, 2, 0, 0)) rfl rfl (zy_nx_ok (by decide +kernel)) (N2 := 34) (by decide +kernel) (by decide) zqC2_E (fun i hi => absurd (show i < 0 from hi) (Nat.not_lt_zero i))
noncomputable def zdC2 : ECal := zr_w 228 17 11 2 1 false (zr_t 9 zcC2)
theorem zdC2_ok : ZE zdC2 21 := ZE.rd 228 17 9 11 2 1 false (by decide) zcC2_ok
noncomputable def zqw_e102 : EC := (1301, [eU 22, eC 255, eU 25, eU 23, eC 1, eU 18, eU 18, eC 0])
noncomputable def zqw_c103 : List EC := [zqw_e84, zqw_e85, zqw_e102]
noncomputable def zqw_w104 : EW := (3, [zqw_c103])
noncomputable def zqw_e105 : EC := (1301, [eU 22, eC 255, eU 33, eU 23, eC 0, eU 18, eU 18, eC 0])
noncomputable def zqw_c106 : List EC := [zqw_e90, zqw_e85, zqw_e105]
noncomputable def zqw_w107 : EW := (3, [zqw_c106])
noncomputable def zqw_n108 : List ZN := [(none, [], zqw_p77, zqw_w107, zqw_g94)]
noncomputable def zqC3_K : List ZC := []
noncomputable def zqC3_e : ERt := zy_ends 33 zqw_n108
theorem zqC3_E : zy_spl (fun g => zy_en (zp_X12_codes, 2, 0, 0) (zX zEin 8) zqC3_e [] 100000 (zy_B 33 zqC3_K []) ([eR 0, eC 3000] : List EV) zqw_w104 g) [(25, [2147483648, 2147483649, 2147483650, 2147483651, 2147483652, 2147483653, 2147483654, 2147483655, 2147483656, 2147483657, 2147483658, 2147483659, 2147483660, 2147483661, 2147483662, 2147483663, 2147483664, 2147483665, 2147483666, 2147483667, 2147483668, 2147483669, 2147483670, 2147483671, 2147483672, 2147483673, 2147483674, 2147483675, 2147483676, 2147483677, 2147483678, 2147483679, 2147483680, 2147483681, 2147483682, 2147483683, 2147483684, 2147483685, 2147483686, 2147483687])] zqw_g89 = true := by decide +kernel
noncomputable def zqC3_f (i : Nat) : Bool := zy_f 33 zp_X12_codes (zX zEin 8) 0 0 zqC3_e [] 100000 zqC3_K i
noncomputable def zcC3 : ECal := zf_cal 228 10 [.inl 0, .inr (0, 9), .inr (0, 17)] [] zqw_p72 [(0, 2), (0, 6), (0, 7), (0, 8), (0, 14), (0, 16), (0, 20), (0, 21), (0, 23), (0, 24), (0, 25), (0, 26), (0, 27), (0, 28), (0, 30), (0, 31), (0, 34), (0, 35), (0, 37), (0, 38), (0, 40), (0, 41), (0, 42), (0, 43), (0, 44), (0, 45), (0, 47), (0, 48), (0, 49)] ([eR 0, eC 3000] : List EV) zqw_w104 zqw_g89 zqw_n108
theorem zcC3_ok : ZE zcC3 21 := ZE.met (n := 8) (es := zqw_n108) (hd := []) (F := 100000) (KS := zqC3_K) (js := []) (sp0 := [(25, [2147483648, 2147483649, 2147483650, 2147483651, 2147483652, 2147483653, 2147483654, 2147483655, 2147483656, 2147483657, 2147483658, 2147483659, 2147483660, 2147483661, 2147483662, 2147483663, 2147483664, 2147483665, 2147483666, 2147483667, 2147483668, 2147483669, 2147483670, 2147483671, 2147483672, 2147483673, 2147483674, 2147483675, 2147483676, 2147483677, 2147483678, 2147483679, 2147483680, 2147483681, 2147483682, 2147483683, 2147483684, 2147483685, 2147483686, 2147483687])]) (by decide) zEin_ok (y0 := 228) (q := (yX12_codes, cX12_codes, 2, none, 12, 0, 0)) rfl ⟨rfl, rfl⟩ (m9 := (zp_X12_codes, 2, 0, 0)) rfl rfl (zy_nx_ok (by decide +kernel)) (N2 := 33) (by decide +kernel) (by decide) zqC3_E (fun i hi => absurd (show i < 0 from hi) (Nat.not_lt_zero i))
noncomputable def zdC3 : ECal := zr_w 228 17 11 255 1 false (zr_t 9 zcC3)
theorem zdC3_ok : ZE zdC3 21 := ZE.rd 228 17 9 11 255 1 false (by decide) zcC3_ok
