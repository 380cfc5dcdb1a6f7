/-! the cases of the law -/
noncomputable def zT_Z52 : ECal := zS_or zc178 (zc317)
theorem zT_Z52_ok : ZE zT_Z52 590 := (ZE.or zc178_ok (zc317_ok) (by decide) (by decide) : ZE (zS_or zc178 (zc317)) 590)
noncomputable def zT_Y52 : ECal := zT_Z52
theorem zT_Y52_ok : ZEF [] zT_Y52 590 := (ZEF.of zT_Z52_ok)
theorem zT_52_0 : zT_go 52 0 (zX zT_Y52 10) zT_w0 = true := by decide +kernel
theorem zT_52_1 : zT_go 52 0 (zX zT_Y52 10) zT_w1 = true := by decide +kernel
theorem zT_ck52 : zT_ok 52 zT_w0 ∧ zT_ok 52 zT_w1 := ⟨⟨zT_Y52, [], 590, 10, 0, by decide, by decide, by decide, (fun f h => by cases h), zT_Y52_ok, zT_52_0⟩, ⟨zT_Y52, [], 590, 10, 0, by decide, by decide, by decide, (fun f h => by cases h), zT_Y52_ok, zT_52_1⟩⟩
noncomputable def zT_Z53 : ECal := zc318
theorem zT_Z53_ok : ZE zT_Z53 563 := zc318_ok
noncomputable def zT_Y53 : ECal := zT_Z53
theorem zT_Y53_ok : ZEF [] zT_Y53 563 := (ZEF.of zT_Z53_ok)
theorem zT_53_0 : zT_go 53 4 (zX zT_Y53 10) zT_w0 = true := by decide +kernel
theorem zT_53_1 : zT_go 53 4 (zX zT_Y53 10) zT_w1 = true := by decide +kernel
theorem zT_ck53 : zT_ok 53 zT_w0 ∧ zT_ok 53 zT_w1 := ⟨⟨zT_Y53, [], 563, 10, 4, by decide, by decide, by decide, (fun f h => by cases h), zT_Y53_ok, zT_53_0⟩, ⟨zT_Y53, [], 563, 10, 4, by decide, by decide, by decide, (fun f h => by cases h), zT_Y53_ok, zT_53_1⟩⟩
theorem zT_54_0 : (zT_go 54 0 (zX zS_no 10) zT_w0 && zT_go 55 0 (zX zS_no 10) zT_w0 && zT_go 56 0 (zX zS_no 10) zT_w0 && zT_go 57 0 (zX zS_no 10) zT_w0 && zT_go 58 0 (zX zS_no 10) zT_w0 && zT_go 59 0 (zX zS_no 10) zT_w0 && zT_go 60 0 (zX zS_no 10) zT_w0 && zT_go 61 0 (zX zS_no 10) zT_w0 && zT_go 62 0 (zX zS_no 10) zT_w0 && zT_go 63 0 (zX zS_no 10) zT_w0) = true := by decide +kernel
theorem zT_54_1 : (zT_go 54 0 (zX zS_no 10) zT_w1 && zT_go 55 0 (zX zS_no 10) zT_w1 && zT_go 56 0 (zX zS_no 10) zT_w1 && zT_go 57 0 (zX zS_no 10) zT_w1 && zT_go 58 0 (zX zS_no 10) zT_w1 && zT_go 59 0 (zX zS_no 10) zT_w1 && zT_go 60 0 (zX zS_no 10) zT_w1 && zT_go 61 0 (zX zS_no 10) zT_w1 && zT_go 62 0 (zX zS_no 10) zT_w1 && zT_go 63 0 (zX zS_no 10) zT_w1) = true := by decide +kernel
