/-! facts by their use, the wedding -/
def zT_FP : List ZFf := [(0, .inr 138, .inr 139, 356), (6, .inr 356, .inl 15, 357), (0, .inr 139, .inl 1, 358), (0, .inr 138, .inl 1, 359), (6, .inr 359, .inl 15, 360), (0, .inr 360, .inl 14, 361), (6, .inr 361, .inl 15, 362)]
theorem zT_FPs : ∀ f ∈ zT_FP, f ∈ zT_FA := by
  intro f hf
  unfold zT_FP at hf
  simp only [List.mem_cons, List.not_mem_nil, or_false] at hf
  rcases hf with rfl | rfl | rfl | rfl | rfl | rfl | rfl
  · exact List.mem_of_getElem? (i := 0) rfl
  · exact List.mem_of_getElem? (i := 1) rfl
  · exact List.mem_of_getElem? (i := 2) rfl
  · exact List.mem_of_getElem? (i := 3) rfl
  · exact List.mem_of_getElem? (i := 4) rfl
  · exact List.mem_of_getElem? (i := 5) rfl
  · exact List.mem_of_getElem? (i := 6) rfl
def zT_FO : List ZFf := [(1, .inr 139, .inl 1, 363), (0, .inr 138, .inr 363, 364), (6, .inr 364, .inl 15, 365)]
theorem zT_FOs : ∀ f ∈ zT_FO, f ∈ zT_FA := by
  intro f hf
  unfold zT_FO at hf
  simp only [List.mem_cons, List.not_mem_nil, or_false] at hf
  rcases hf with rfl | rfl | rfl
  · exact List.mem_of_getElem? (i := 7) rfl
  · exact List.mem_of_getElem? (i := 8) rfl
  · exact List.mem_of_getElem? (i := 9) rfl
def zT_FS : List ZFf := [(5, .inr 1, .inl 24, 366), (3, .inr 366, .inl 255, 367), (4, .inr 1, .inl 24, 368), (3, .inr 368, .inl 255, 367), (5, .inr 1, .inl 16, 369), (3, .inr 369, .inl 255, 370), (4, .inr 1, .inl 16, 371), (3, .inr 371, .inl 255, 370), (5, .inr 1, .inl 8, 372), (3, .inr 372, .inl 255, 373), (4, .inr 1, .inl 8, 374), (3, .inr 374, .inl 255, 373), (5, .inr 1, .inl 0, 375), (3, .inr 375, .inl 255, 376), (4, .inr 1, .inl 0, 377), (3, .inr 377, .inl 255, 376)]
theorem zT_FSs : ∀ f ∈ zT_FS, f ∈ zT_FA := by
  intro f hf
  unfold zT_FS at hf
  simp only [List.mem_cons, List.not_mem_nil, or_false] at hf
  rcases hf with rfl | rfl | rfl | rfl | rfl | rfl | rfl | rfl | rfl | rfl | rfl | rfl | rfl | rfl | rfl | rfl
  · exact List.mem_of_getElem? (i := 10) rfl
  · exact List.mem_of_getElem? (i := 11) rfl
  · exact List.mem_of_getElem? (i := 12) rfl
  · exact List.mem_of_getElem? (i := 22) rfl
  · exact List.mem_of_getElem? (i := 13) rfl
  · exact List.mem_of_getElem? (i := 14) rfl
  · exact List.mem_of_getElem? (i := 15) rfl
  · exact List.mem_of_getElem? (i := 23) rfl
  · exact List.mem_of_getElem? (i := 16) rfl
  · exact List.mem_of_getElem? (i := 17) rfl
  · exact List.mem_of_getElem? (i := 18) rfl
  · exact List.mem_of_getElem? (i := 24) rfl
  · exact List.mem_of_getElem? (i := 19) rfl
  · exact List.mem_of_getElem? (i := 20) rfl
  · exact List.mem_of_getElem? (i := 21) rfl
  · exact List.mem_of_getElem? (i := 25) rfl
def zT_pgW : List EV := [eU 356, eU 357, eU 358, eU 359, eU 360, eU 361, eU 362]
noncomputable def zc143 : ECal := zg_cal 143 10 [.inl 0, .inr (0, 0), .inr (1, 0), .inr (0, 1), .inr (3, 0), .inr (0, 2), .inr (5, 0), .inr (5, 1), .inr (5, 2), .inr (0, 3), .inr (9, 0), .inr (9, 1), .inr (9, 2), .inr (0, 5), .inr (13, 0), .inr (14, 0), .inr (15, 0), .inr (15, 1), .inr (15, 2), .inr (14, 1), .inr (19, 0), .inr (19, 1), .inr (19, 2), .inr (14, 2), .inr (23, 0), .inr (23, 1), .inr (23, 2), .inr (14, 3), .inr (27, 0), .inr (27, 1), .inr (27, 2), .inr (14, 4), .inr (31, 0), .inr (31, 1), .inr (31, 2), .inr (14, 5), .inr (35, 0), .inr (35, 1), .inr (35, 2), .inr (14, 6), .inr (39, 0), .inr (39, 1), .inr (39, 2), .inr (14, 7), .inr (43, 0), .inr (43, 1), .inr (43, 2), .inr (14, 8), .inr (47, 0), .inr (47, 1), .inr (47, 2), .inr (14, 9), .inr (51, 0), .inr (51, 1), .inr (51, 2), .inr (14, 10), .inr (55, 0), .inr (55, 1), .inr (55, 2), .inr (14, 11), .inr (59, 0), .inr (59, 1), .inr (59, 2), .inr (14, 12), .inr (63, 0), .inr (63, 1), .inr (63, 2), .inr (14, 13), .inr (67, 0), .inr (67, 1), .inr (67, 2), .inr (14, 14), .inr (71, 0), .inr (71, 1), .inr (71, 2), .inr (0, 6), .inr (75, 0), .inr (75, 1), .inr (0, 11), .inr (78, 0), .inr (78, 1), .inr (78, 3)] [] zq143_p239 [(0, 4), (13, 1), (0, 7), (0, 8), (0, 9), (0, 10), (78, 2), (0, 12)] zT_pgW zgW_F zT_FP ([eR 0] : List EV) zq143_w38 zq143_g39 zq143_n147
theorem zc143_ok : ZEF zT_FP zc143 57 := ZGF.ze (y0 := 143) (q := (yX11_wedding, cX11_wedding, 7, (some .int), 11, 0, 0)) rfl ⟨rfl, rfl⟩ (zy_nx_ok (by decide +kernel)) zG143
