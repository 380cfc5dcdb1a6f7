/-! intervals at the start, the length known -/
def zL_gL (L : Nat) : EG := [(0, 4294967295), (0, 4294967295), (0, 4294967295), (0, 4294967295), (0, 4294967295), (2147483648 + L, 2147483648 + L)]
theorem zL_GL {L : Nat} {xs : Nat → Int32} (hL : L ≤ 5) : ze_G (zL_gL L) [xs 0, xs 1, xs 2, xs 3, xs 4, nI L] := by
  refine ⟨rfl, fun i q x h1 h2 => ?_⟩
  match i, h1, h2 with
  | 0, h1, h2 => cases h1; cases h2; exact ⟨Nat.zero_le _, ze_b_top _⟩
  | 1, h1, h2 => cases h1; cases h2; exact ⟨Nat.zero_le _, ze_b_top _⟩
  | 2, h1, h2 => cases h1; cases h2; exact ⟨Nat.zero_le _, ze_b_top _⟩
  | 3, h1, h2 => cases h1; cases h2; exact ⟨Nat.zero_le _, ze_b_top _⟩
  | 4, h1, h2 => cases h1; cases h2; exact ⟨Nat.zero_le _, ze_b_top _⟩
  | 5, h1, h2 =>
    cases h1; cases h2
    have h3 := ze_b_int (nI L)
    rw [nI_toInt (Nat.lt_of_le_of_lt hL (by decide))] at h3
    show 2147483648 + L ≤ ze_b (nI L) ∧ ze_b (nI L) ≤ 2147483648 + L
    omega
  | i + 6, h1, h2 => cases h1
theorem zT_0 : zL_run zL_no 100 zp_L_law__0 (ze_il [eX 2] 8) [] (0, []) (zL_gL 0) 0 0 = true := by decide +kernel
theorem zT_5_2 : zL_run (zL_B 2 1000000) 23 zp_L_law__0 (ze_il [eX 2] 8) [] (0, []) (zL_gL 5) 0 0 = true := by decide +kernel
