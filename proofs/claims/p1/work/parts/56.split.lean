/-! intervals at the start, the length 5, the script's second int between two numbers (biased) -/
def zL_g1 (lo hi : Nat) : EG := [(0, 4294967295), (lo, hi), (0, 4294967295), (0, 4294967295), (0, 4294967295), (2147483653, 2147483653)]
theorem zL_G1 {xs : Nat → Int32} {lo hi : Nat} (h1 : lo ≤ ze_b (xs 1)) (h2 : ze_b (xs 1) ≤ hi) : ze_G (zL_g1 lo hi) [xs 0, xs 1, xs 2, xs 3, xs 4, nI 5] := by
  have hG := zL_GL (L := 5) (xs := xs) (Nat.le_refl 5)
  refine ⟨rfl, fun i q x e1 e2 => ?_⟩
  match i, e1, e2 with
  | 0, e1, e2 => cases e1; cases e2; exact ⟨Nat.zero_le _, ze_b_top _⟩
  | 1, e1, e2 => cases e1; cases e2; exact ⟨h1, h2⟩
  | 2, e1, e2 => cases e1; cases e2; exact ⟨Nat.zero_le _, ze_b_top _⟩
  | 3, e1, e2 => cases e1; cases e2; exact ⟨Nat.zero_le _, ze_b_top _⟩
  | 4, e1, e2 => cases e1; cases e2; exact ⟨Nat.zero_le _, ze_b_top _⟩
  | 5, e1, e2 => exact hG.2 5 _ _ (by cases e1; rfl) e2
  | i + 6, e1, e2 => cases e1
/-- a run of case j, the second int between two numbers -/
noncomputable def zT_r (j lo hi : Nat) : Bool := zL_run (zL_B j 1000000) 23 zp_L_law__0 (ze_il [eX 2] 8) [] (0, []) (zL_g1 lo hi) 0 0
