/-! all cases -/
theorem zT_ck54 : ∀ j, 54 ≤ j → j < 64 → zT_ok j zT_w0 ∧ zT_ok j zT_w1 := by
  have h0 := zT_54_0
  have h1 := zT_54_1
  simp only [Bool.and_eq_true] at h0 h1
  obtain ⟨⟨⟨⟨⟨⟨⟨⟨⟨p4, p5⟩, p6⟩, p7⟩, p8⟩, p9⟩, q0⟩, q1⟩, q2⟩, q3⟩ := h0
  obtain ⟨⟨⟨⟨⟨⟨⟨⟨⟨r4, r5⟩, r6⟩, r7⟩, r8⟩, r9⟩, s0⟩, s1⟩, s2⟩, s3⟩ := h1
  have mk : ∀ {j : Nat} {wk : EW}, zT_go j 0 (zX zS_no 10) wk = true → zT_ok j wk := fun h => ⟨zS_no, [], 3, 10, 0, by decide, by decide, by decide, (fun f h => by cases h), ZEF.of zS_no_ok, h⟩
  intro j h2 h3
  have h9 : j = 54 ∨ j = 55 ∨ j = 56 ∨ j = 57 ∨ j = 58 ∨ j = 59 ∨ j = 60 ∨ j = 61 ∨ j = 62 ∨ j = 63 := by omega
  rcases h9 with rfl | rfl | rfl | rfl | rfl | rfl | rfl | rfl | rfl | rfl
  · exact ⟨mk p4, mk r4⟩
  · exact ⟨mk p5, mk r5⟩
  · exact ⟨mk p6, mk r6⟩
  · exact ⟨mk p7, mk r7⟩
  · exact ⟨mk p8, mk r8⟩
  · exact ⟨mk p9, mk r9⟩
  · exact ⟨mk q0, mk s0⟩
  · exact ⟨mk q1, mk s1⟩
  · exact ⟨mk q2, mk s2⟩
  · exact ⟨mk q3, mk s3⟩
theorem zT_all : ∀ j, j < 64 → zT_ok j zT_w0 ∧ zT_ok j zT_w1 := by
  intro j hj
  by_cases h54 : 54 ≤ j
  · exact zT_ck54 j h54 hj
  · have hj : j < 54 := by omega
    match j, hj with
    | 0, _ => exact zT_ck0
    | 1, _ => exact zT_ck1
    | 2, _ => exact zT_ck2
    | 3, _ => exact zT_ck3
    | 4, _ => exact zT_ck4
    | 5, _ => exact zT_ck5
    | 6, _ => exact zT_ck6
    | 7, _ => exact zT_ck7
    | 8, _ => exact zT_ck8
    | 9, _ => exact zT_ck9
    | 10, _ => exact zT_ck10
    | 11, _ => exact zT_ck11
    | 12, _ => exact zT_ck12
    | 13, _ => exact zT_ck13
    | 14, _ => exact zT_ck14
    | 15, _ => exact zT_ck15
    | 16, _ => exact zT_ck16
    | 17, _ => exact zT_ck17
    | 18, _ => exact zT_ck18
    | 19, _ => exact zT_ck19
    | 20, _ => exact zT_ck20
    | 21, _ => exact zT_ck21
    | 22, _ => exact zT_ck22
    | 23, _ => exact zT_ck23
    | 24, _ => exact zT_ck24
    | 25, _ => exact zT_ck25
    | 26, _ => exact zT_ck26
    | 27, _ => exact zT_ck27
    | 28, _ => exact zT_ck28
    | 29, _ => exact zT_ck29
    | 30, _ => exact zT_ck30
    | 31, _ => exact zT_ck31
    | 32, _ => exact zT_ck32
    | 33, _ => exact zT_ck33
    | 34, _ => exact zT_ck34
    | 35, _ => exact zT_ck35
    | 36, _ => exact zT_ck36
    | 37, _ => exact zT_ck37
    | 38, _ => exact zT_ck38
    | 39, _ => exact zT_ck39
    | 40, _ => exact zT_ck40
    | 41, _ => exact zT_ck41
    | 42, _ => exact zT_ck42
    | 43, _ => exact zT_ck43
    | 44, _ => exact zT_ck44
    | 45, _ => exact zT_ck45
    | 46, _ => exact zT_ck46
    | 47, _ => exact zT_ck47
    | 48, _ => exact zT_ck48
    | 49, _ => exact zT_ck49
    | 50, _ => exact zT_ck50
    | 51, _ => exact zT_ck51
    | 52, _ => exact zT_ck52
    | 53, _ => exact zT_ck53
    | j + 54, h => omega
theorem whole_start {p : Program} {e : Env} {s : State} {m : MethodId} {below : List Frame} {meth : Method} {c : Code} (l : Launch) (hl : l.stackTraces = false) {b L : Nat} {xs : Nat → Int32} (hL : L ≤ 2560) (C0 : lw_At p s m meth c b L xs) : W p l e room_1 s m #[Value.ref b] below meth c s.heap [] 0 0 (lw_Z below #[Value.ref b] s) (entryFrame m ([Value.ref b] : List Value).toArray 8) := zL_go zT_all l hl hL C0
