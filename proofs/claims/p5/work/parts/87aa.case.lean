/-! the cases of the law -/
theorem zy_sp2 {u : Nat} {f : EG → Bool} {g : EG} {lo hi : Nat} {ms : List Nat} {t : List (Nat × List Nat)} (h : g[u]? = some (lo, hi)) (h2 : zy_s1 u (fun g => zy_spl f t g) g hi ms lo = true) : zy_spl f ((u, ms) :: t) g = true := by
  show ze_n g u (fun q => zy_s1 u (fun g => zy_spl f t g) g q.2 ms q.1) = true
  rw [ze_n_el, h]
  exact h2
noncomputable def zT_Y0 : ECal := zS_or (zS_fa zT_FS) (zS_no)
theorem zT_Y0_ok : ZEF zT_FS zT_Y0 3 := (ZEF.or (d3 := 3) ZEF.fa (ZEF.of zS_no_ok) (by decide) (by decide))
theorem zT_0_0_0 : zT_F 0 0 (zX zT_Y0 10) zT_w0 (ze_s (2147483648, 2147483648) zT_gx 10) = true := by decide +kernel
theorem zT_0_0_1 : zT_F 0 0 (zX zT_Y0 10) zT_w0 (ze_s (2147483649, 2147483649) zT_gx 10) = true := by decide +kernel
theorem zT_0_0_2 : zT_F 0 0 (zX zT_Y0 10) zT_w0 (ze_s (2147483650, 2147483650) zT_gx 10) = true := by decide +kernel
theorem zT_0_0_3 : zT_F 0 0 (zX zT_Y0 10) zT_w0 (ze_s (2147483651, 2147483651) zT_gx 10) = true := by decide +kernel
theorem zT_0_0_4 : zT_F 0 0 (zX zT_Y0 10) zT_w0 (ze_s (2147483652, 2147483652) zT_gx 10) = true := by decide +kernel
theorem zT_0_0_5 : zT_F 0 0 (zX zT_Y0 10) zT_w0 (ze_s (2147483653, 2147483653) zT_gx 10) = true := by decide +kernel
theorem zT_0_0_6 : zT_F 0 0 (zX zT_Y0 10) zT_w0 (ze_s (2147483654, 2147483654) zT_gx 10) = true := by decide +kernel
theorem zT_0_0_7 : zT_F 0 0 (zX zT_Y0 10) zT_w0 (ze_s (2147483655, 2147483655) zT_gx 10) = true := by decide +kernel
theorem zT_0_0_8 : zT_F 0 0 (zX zT_Y0 10) zT_w0 (ze_s (2147483656, 2147483656) zT_gx 10) = true := by decide +kernel
theorem zT_0_0_9 : zT_F 0 0 (zX zT_Y0 10) zT_w0 (ze_s (2147483657, 2147483657) zT_gx 10) = true := by decide +kernel
theorem zT_0_0_10 : zT_F 0 0 (zX zT_Y0 10) zT_w0 (ze_s (2147483658, 2147483658) zT_gx 10) = true := by decide +kernel
theorem zT_0_0_11 : zT_F 0 0 (zX zT_Y0 10) zT_w0 (ze_s (2147483659, 2147483659) zT_gx 10) = true := by decide +kernel
theorem zT_0_0_12 : zT_F 0 0 (zX zT_Y0 10) zT_w0 (ze_s (2147483660, 2147483660) zT_gx 10) = true := by decide +kernel
theorem zT_0_0_13 : zT_F 0 0 (zX zT_Y0 10) zT_w0 (ze_s (2147483661, 2147483661) zT_gx 10) = true := by decide +kernel
theorem zT_0_0_14 : zT_F 0 0 (zX zT_Y0 10) zT_w0 (ze_s (2147483662, 2147483662) zT_gx 10) = true := by decide +kernel
theorem zT_0_0_15 : zT_F 0 0 (zX zT_Y0 10) zT_w0 (ze_s (2147483663, 2147483663) zT_gx 10) = true := by decide +kernel
theorem zT_0_0_16 : zT_F 0 0 (zX zT_Y0 10) zT_w0 (ze_s (2147483664, 2147483664) zT_gx 10) = true := by decide +kernel
theorem zT_0_0_17 : zT_F 0 0 (zX zT_Y0 10) zT_w0 (ze_s (2147483665, 2147483665) zT_gx 10) = true := by decide +kernel
theorem zT_0_0_18 : zT_F 0 0 (zX zT_Y0 10) zT_w0 (ze_s (2147483666, 2147483666) zT_gx 10) = true := by decide +kernel
theorem zT_0_0_19 : zT_F 0 0 (zX zT_Y0 10) zT_w0 (ze_s (2147483667, 2147483667) zT_gx 10) = true := by decide +kernel
theorem zT_0_0_20 : zT_F 0 0 (zX zT_Y0 10) zT_w0 (ze_s (2147483668, 2147483668) zT_gx 10) = true := by decide +kernel
theorem zT_0_0_21 : zT_F 0 0 (zX zT_Y0 10) zT_w0 (ze_s (2147483669, 2147483669) zT_gx 10) = true := by decide +kernel
theorem zT_0_0_22 : zT_F 0 0 (zX zT_Y0 10) zT_w0 (ze_s (2147483670, 2147483670) zT_gx 10) = true := by decide +kernel
theorem zT_0_0_23 : zT_F 0 0 (zX zT_Y0 10) zT_w0 (ze_s (2147483671, 2147483671) zT_gx 10) = true := by decide +kernel
theorem zT_0_0_24 : zT_F 0 0 (zX zT_Y0 10) zT_w0 (ze_s (2147483672, 2147483672) zT_gx 10) = true := by decide +kernel
theorem zT_0_0_25 : zT_F 0 0 (zX zT_Y0 10) zT_w0 (ze_s (2147483673, 2147483673) zT_gx 10) = true := by decide +kernel
theorem zT_0_0_26 : zT_F 0 0 (zX zT_Y0 10) zT_w0 (ze_s (2147483674, 2147483674) zT_gx 10) = true := by decide +kernel
theorem zT_0_0_27 : zT_F 0 0 (zX zT_Y0 10) zT_w0 (ze_s (2147483675, 2147483675) zT_gx 10) = true := by decide +kernel
theorem zT_0_0_28 : zT_F 0 0 (zX zT_Y0 10) zT_w0 (ze_s (2147483676, 2147483676) zT_gx 10) = true := by decide +kernel
theorem zT_0_0_29 : zT_F 0 0 (zX zT_Y0 10) zT_w0 (ze_s (2147483677, 2147483677) zT_gx 10) = true := by decide +kernel
theorem zT_0_0_30 : zT_F 0 0 (zX zT_Y0 10) zT_w0 (ze_s (2147483678, 2147483678) zT_gx 10) = true := by decide +kernel
theorem zT_0_0_31 : zT_F 0 0 (zX zT_Y0 10) zT_w0 (ze_s (2147483679, 2147483679) zT_gx 10) = true := by decide +kernel
theorem zT_0_0_32 : zT_F 0 0 (zX zT_Y0 10) zT_w0 (ze_s (2147483680, 2147483680) zT_gx 10) = true := by decide +kernel
theorem zT_0_0_33 : zT_F 0 0 (zX zT_Y0 10) zT_w0 (ze_s (2147483681, 2147483681) zT_gx 10) = true := by decide +kernel
theorem zT_0_0_34 : zT_F 0 0 (zX zT_Y0 10) zT_w0 (ze_s (2147483682, 2147483682) zT_gx 10) = true := by decide +kernel
theorem zT_0_0_35 : zT_F 0 0 (zX zT_Y0 10) zT_w0 (ze_s (2147483683, 2147483683) zT_gx 10) = true := by decide +kernel
theorem zT_0_0_36 : zT_F 0 0 (zX zT_Y0 10) zT_w0 (ze_s (2147483684, 2147483684) zT_gx 10) = true := by decide +kernel
theorem zT_0_0_37 : zT_F 0 0 (zX zT_Y0 10) zT_w0 (ze_s (2147483685, 2147483685) zT_gx 10) = true := by decide +kernel
theorem zT_0_0_38 : zT_F 0 0 (zX zT_Y0 10) zT_w0 (ze_s (2147483686, 2147483686) zT_gx 10) = true := by decide +kernel
