/-! the classes at the law's entry -/
theorem zL_nest : ∀ w ∈ ze_nest, w ∈ lw_tbl := by decide +kernel
theorem zL_inst : ∀ (ci : Nat) (q : vw_C), vwCl[ci]? = some q → ∃ n, Cond.instantiable q.1 n ∈ lw_tbl := by
  intro ci q h
  match ci, h with
  | 0, h => cases h; exact ⟨_, zc_1 (List.mem_of_getElem? (i := 217) rfl)⟩
  | 1, h => cases h; exact ⟨_, zc_1 (List.mem_of_getElem? (i := 204) rfl)⟩
  | 2, h => cases h; exact ⟨_, zc_1 (List.mem_of_getElem? (i := 177) rfl)⟩
  | 3, h => cases h; exact ⟨_, zc_1 (List.mem_of_getElem? (i := 111) rfl)⟩
  | 4, h => cases h; exact ⟨_, zc_1 (List.mem_of_getElem? (i := 49) rfl)⟩
  | 5, h => cases h; exact ⟨_, zc_1 (List.mem_of_getElem? (i := 230) rfl)⟩
  | 6, h => cases h; exact ⟨_, zc_1 (List.mem_of_getElem? (i := 35) rfl)⟩
  | 7, h => cases h; exact ⟨_, zc_1 (List.mem_of_getElem? (i := 152) rfl)⟩
  | 8, h => cases h; exact ⟨_, zc_1 (List.mem_of_getElem? (i := 171) rfl)⟩
  | 9, h => cases h; exact ⟨_, zc_1 (List.mem_of_getElem? (i := 63) rfl)⟩
  | 10, h => cases h; exact ⟨_, zc_1 (List.mem_of_getElem? (i := 136) rfl)⟩
  | 11, h => cases h; exact ⟨_, zc_1 (List.mem_of_getElem? (i := 27) rfl)⟩
  | 12, h => cases h; exact ⟨_, zc_6 (List.mem_of_getElem? (i := 88) rfl)⟩
  | ci + 13, h => cases h
theorem zL_Ks {s : State} {args : Array Value} (hts : ∀ w ∈ lw_tbl, w.before args s = true) : ∃ (dC : Nat → ClassId) (dI : Nat → Nat → Nat) (dA : Nat → ClassId), ze_K dC dI dA s :=
  zL_K zF_CF hts zL_inst ⟨zc_1 (List.mem_of_getElem? (i := 109) rfl), zc_1 (List.mem_of_getElem? (i := 47) rfl), zc_7 (List.mem_of_getElem? (i := 4) rfl), zc_1 (List.mem_of_getElem? (i := 61) rfl)⟩ zL_nest (zc_1 (List.mem_of_getElem? (i := 117) rfl))
