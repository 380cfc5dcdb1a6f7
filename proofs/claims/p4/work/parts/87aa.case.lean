/-! the cases of the law -/
theorem zy_sp2 {u : Nat} {f : EG → Bool} {g : EG} {lo hi : Nat} {ms : List Nat} {t : List (Nat × List Nat)} (h : g[u]? = some (lo, hi)) (h2 : zy_s1 u (fun g => zy_spl f t g) g hi ms lo = true) : zy_spl f ((u, ms) :: t) g = true := by
  show ze_n g u (fun q => zy_s1 u (fun g => zy_spl f t g) g q.2 ms q.1) = true
  rw [ze_n_el, h]
  exact h2
noncomputable def zT_Y0 : ECal := zS_or (zS_fa zT_FS) (zS_no)
theorem zT_Y0_ok : ZEF zT_FS zT_Y0 3 := (ZEF.or (d3 := 3) ZEF.fa (ZEF.of zS_no_ok) (by decide) (by decide))
theorem zT_0_0_0 : zT_F 0 0 (zX zT_Y0 10) zT_w0 (ze_s (2147483648, 2147483648) zT_gx 10) = true := by decide +kernel
theorem zT_0_0_1 : zT_F 0 0 (zX zT_Y0 10) zT_w0 (ze_s (2147483649, 2147483649) zT_gx 10) = true := by decide +kernel
theorem zT_0_0_2 : zT_F 0 0 (zX zT_Y0 10) zT_w0 (ze_s (2147483650, 2147483650) zT_gx 10) = true := by decide +kernel
theorem zT_0_0_3 : zT_F 0 0 (zX zT_Y0 10) zT_w0 (ze_s (2147483651, 2147483651) zT_gx 10) = true := by decide +kernel
theorem zT_0_0_4 : zT_F 0 0 (zX zT_Y0 10) zT_w0 (ze_s (2147483652, 2147483652) zT_gx 10) = true := by decide +kernel
theorem zT_0_0_5 : zT_F 0 0 (zX zT_Y0 10) zT_w0 (ze_s (2147483653, 2147483653) zT_gx 10) = true := by decide +kernel
theorem zT_0_0_6 : zT_F 0 0 (zX zT_Y0 10) zT_w0 (ze_s (2147483654, 2147483654) zT_gx 10) = true := by decide +kernel
theorem zT_0_0_7 : zT_F 0 0 (zX zT_Y0 10) zT_w0 (ze_s (2147483655, 2147483655) zT_gx 10) = true := by decide +kernel
theorem zT_0_0_8 : zT_F 0 0 (zX zT_Y0 10) zT_w0 (ze_s (2147483656, 2147483656) zT_gx 10) = true := by decide +kernel
theorem zT_0_0_9 : zT_F 0 0 (zX zT_Y0 10) zT_w0 (ze_s (2147483657, 2147483657) zT_gx 10) = true := by decide +kernel
theorem zT_0_0_10 : zT_F 0 0 (zX zT_Y0 10) zT_w0 (ze_s (2147483658, 2147483658) zT_gx 10) = true := by decide +kernel
theorem zT_0_0_11 : zT_F 0 0 (zX zT_Y0 10) zT_w0 (ze_s (2147483659, 2147483659) zT_gx 10) = true := by decide +kernel
theorem zT_0_0_12 : zT_F 0 0 (zX zT_Y0 10) zT_w0 (ze_s (2147483660, 2147483660) zT_gx 10) = true := by decide +kernel
