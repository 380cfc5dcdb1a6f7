/-! calls by contracts on small worlds: the cells are found from the arguments on -/
/-- an argument, or a field of a cell found before -/
noncomputable def zf_ix (av : List EV) (w : EW) (ps : List (Nat ⊕ (Nat × Nat))) : List Nat → (List Nat → Bool) → Bool := List.rec (motive := fun _ => List Nat → (List Nat → Bool) → Bool) (fun acc F => F acc) (fun p _ ih acc F => Sum.rec (motive := fun _ => Bool) (fun j => ze_n av j (fun v => zv_r v (fun k => ih (acc ++ [k]) F))) (fun q => ze_n acc q.1 (fun k => ze_g w k (fun c => ze_n c.2 q.2 (fun v => zv_r v (fun k2 => ih (acc ++ [k2]) F))))) p) ps
theorem zf_r_ {v : EV} {f : Nat → Bool} (h : zv_r v f = true) : ∃ k, f k = true := by
  rcases v with a | ((k | a) | a)
  · cases h
  · exact ⟨k, h⟩
  · cases h
  · cases h
theorem zf_ix_ok {av : List EV} {w : EW} {F : List Nat → Bool} : ∀ (ps : List (Nat ⊕ (Nat × Nat))) (acc : List Nat), zf_ix av w ps acc F = true → ∃ idx, F idx = true := by
  intro ps
  induction ps with
  | nil => intro acc h; exact ⟨acc, h⟩
  | cons p t ih =>
    intro acc h
    rcases p with j | q
    · obtain ⟨v, -, h⟩ := ze_n_spec _ _ _ (show ze_n av j (fun v => zv_r v (fun k => zf_ix av w t (acc ++ [k]) F)) = true from h)
      obtain ⟨k, h⟩ := zf_r_ h
      exact ih _ h
    · obtain ⟨k, -, h⟩ := ze_n_spec _ _ _ (show ze_n acc q.1 (fun k => ze_g w k (fun c => ze_n c.2 q.2 (fun v => zv_r v (fun k2 => zf_ix av w t (acc ++ [k2]) F)))) = true from h)
      obtain ⟨c, -, h⟩ := ze_g_spec h
      obtain ⟨v, -, h⟩ := ze_n_spec _ _ _ h
      obtain ⟨k2, h⟩ := zf_r_ h
      exact ih _ h
noncomputable def zf_cal (y0 N : Nat) (ps : List (Nat ⊕ (Nat × Nat))) (pa : List Nat) (pl : List (Nat × Nat)) (av0 : List EV) (wg : EW) (g0 : EG) (es : List ZN) : ECal := fun y av w g k => cond (Nat.beq y y0) (zf_ix av w ps [] (fun idx => zf_at1 N idx pa pl av0 wg g0 es av w g k)) false
section ZFK
variable {l : Launch} {dC : Nat → ClassId} {dI : Nat → Nat → Nat} {dA : Nat → ClassId} {sp : Nat → Nat} {xs : Nat → Int32} {A : Nat → Prop}
theorem zf_cal_ok {y0 : Nat} {q : ZMt} (hq0 : q.2.2.2.2.2.1 = 0 ∧ q.2.2.2.2.2.2 = 0) {D N : Nat} {ps : List (Nat ⊕ (Nat × Nat))} {pa : List Nat} {pl : List (Nat × Nat)} {av0 : List EV} {wg : EW} {g0 : EG} {es : List ZN} (hN6 : 10 ≤ N) (hrr : ∀ e ∈ es, e.1 ≠ some (eX 1))
    (hloc : ∀ (A : Nat → Prop) (ρ : List Int32) (ws : va_W) (avs : List Value), g0.length ≤ ρ.length → ze_G g0 ρ → (∀ j, j < 10 → ρ[j]? = some (xs j)) → ze_W dA sp ρ wg ws → ze_L sp ρ (ws.map (·.1)) av0 avs → Met l q.1 (.code q.1 q.2.1 q.2.2.1 q.2.2.2.1 :: zb_T) (ze_rm D q.2.2.2.2.2.1 q.2.2.2.2.2.2) (va_Pc avs (ze_Pc dC dI dA sp xs A ws)) (ze_Qc dC dI dA sp A (zy_ends g0.length es) (ρ.take g0.length) (ws.map (·.1))) q.2.2.2.2.2.1 q.2.2.2.2.2.2 A) :
    ze_Cal l dC dI dA sp xs A (zf_cal y0 N ps pa pl av0 wg g0 es) y0 D q.1 q.2.1 q.2.2.1 q.2.2.2.1 q.2.2.2.2.2.1 q.2.2.2.2.2.2 := by
  intro av w g k' h ρ ws avs hG hX hW hL
  obtain ⟨-, h⟩ := ze_condf h
  obtain ⟨idx, h⟩ := zf_ix_ok ps [] h
  rw [hq0.1, hq0.2] at hloc ⊢
  exact zf_met hN6 hrr hloc h hG hX hW hL
end ZFK
