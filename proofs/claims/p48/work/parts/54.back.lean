/-! behind a call on a small world: its cells back in the large one -/
noncomputable def zf_i (N M i : Nat) : Nat := cond (Nat.ble (Nat.succ i) N) i (Nat.add M (Nat.sub i N))
noncomputable def zf_r (N M : Nat) (idx : List Nat) (u : EV) : EV := Sum.rec (motive := fun _ => EV) (fun a => Sum.rec (motive := fun _ => EV) (fun n => eC n) (fun i => eU (zf_i N M i)) a) (fun b => Sum.rec (motive := fun _ => EV) (fun z => Sum.rec (motive := fun _ => EV) (fun n => eR (idx.getD n 0)) (fun y => Sum.rec (motive := fun _ => EV) (fun n => eL n) (fun i => eLU (zf_i N M i)) y) z) (fun k => eX k) b) u
section ZFR
variable {sp : Nat → Nat} {ρ ρe vals : List Int32} {ad ad' : List Nat} {N : Nat} {idx : List Nat} {dA : Nat → ClassId}
theorem zf_i_ok (hpre : ∀ i, i < N → ρe[i]? = ρ[i]?) (hv : ∀ i, N ≤ i → ρe[i]? = vals[i - N]?) {i : Nat} {z : Int32} (h : ρe[i]? = some z) : (ρ ++ vals)[zf_i N ρ.length i]? = some z := by
  unfold zf_i
  cases hb : Nat.ble (Nat.succ i) N with
  | true =>
    have hi : i < N := Nat.le_of_ble_eq_true hb
    rw [hpre i hi] at h
    show (ρ ++ vals)[i]? = some z
    rw [List.getElem?_append_left (List.getElem?_eq_some_iff.mp h).1]
    exact h
  | false =>
    have hi : ¬ (i + 1 ≤ N) := fun q => by rw [Nat.ble_eq_true_of_le q] at hb; cases hb
    rw [hv i (by omega)] at h
    show (ρ ++ vals)[ρ.length + (i - N)]? = some z
    rw [List.getElem?_append_right (by omega), show ρ.length + (i - N) - ρ.length = i - N by omega]
    exact h
theorem zf_r_ok (hpre : ∀ i, i < N → ρe[i]? = ρ[i]?) (hv : ∀ i, N ≤ i → ρe[i]? = vals[i - N]?) (hlen : ad'.length = idx.length) (hid : ∀ (n k : Nat), idx[n]? = some k → ad'[n]? = ad[k]?) {u : EV} {x : Value} (h : ze_V sp ρe ad' u x) : ze_V sp (ρ ++ vals) ad (zf_r N ρ.length idx u) x := by
  match u, h with
  | .inl (.inl n), h => exact h
  | .inl (.inr i), ⟨z, a, b⟩ => exact ⟨z, zf_i_ok hpre hv a, b⟩
  | .inr (.inl (.inl n)), ⟨a, h1, h2⟩ =>
    have hn : n < idx.length := by rw [← hlen]; exact (List.getElem?_eq_some_iff.mp h1).1
    have e1 : idx[n]? = some (idx.getD n 0) := by rw [List.getElem?_eq_getElem hn]; simp [List.getD_eq_getElem?_getD, List.getElem?_eq_getElem hn]
    rw [hid n _ e1] at h1
    exact ⟨a, h1, h2⟩
  | .inr (.inl (.inr (.inl n))), h => exact h
  | .inr (.inl (.inr (.inr i))), ⟨z, a, b⟩ => exact ⟨z, zf_i_ok hpre hv a, b⟩
  | .inr (.inr 0), h => exact h
  | .inr (.inr (k + 2)), h => exact h
theorem zf_rL (hpre : ∀ i, i < N → ρe[i]? = ρ[i]?) (hv : ∀ i, N ≤ i → ρe[i]? = vals[i - N]?) (hlen : ad'.length = idx.length) (hid : ∀ (n k : Nat), idx[n]? = some k → ad'[n]? = ad[k]?) : ∀ (us : List EV) (xs : List Value), ze_L sp ρe ad' us xs → ze_L sp (ρ ++ vals) ad (us.map (zf_r N ρ.length idx)) xs := by
  intro us
  induction us with
  | nil => intro xs h; rw [h.nil]; trivial
  | cons a t ih =>
    intro xs h
    obtain ⟨y, ys, rfl, h1, h2⟩ := h.cons
    exact ⟨zf_r_ok hpre hv hlen hid h1, ih ys h2⟩
theorem zf_rC (hpre : ∀ i, i < N → ρe[i]? = ρ[i]?) (hv : ∀ i, N ≤ i → ρe[i]? = vals[i - N]?) (hlen : ad'.length = idx.length) (hid : ∀ (n k : Nat), idx[n]? = some k → ad'[n]? = ad[k]?) {c : EC} {e : va_E} (h : ze_C dA sp ρe ad' c e) : ze_C dA sp (ρ ++ vals) ad (c.1, c.2.map (zf_r N ρ.length idx)) e := by
  have hm : ∀ (j : Nat) (v : EV), (c.2.map (zf_r N ρ.length idx))[j]? = some v → ∃ u, c.2[j]? = some u ∧ v = zf_r N ρ.length idx u := by
    intro j v hj
    rw [List.getElem?_map] at hj
    cases hc : c.2[j]? with
    | none => rw [hc] at hj; cases hj
    | some u => rw [hc] at hj; exact ⟨u, rfl, (Option.some.inj hj).symm⟩
  have hl : (c.2.map (zf_r N ρ.length idx)).length = c.2.length := List.length_map ..
  rcases h with ⟨a, fs, b, q⟩ | ⟨a, a2, f, b, q⟩ | ⟨a, a2, f, b, q⟩ | ⟨a, f, b, q⟩
  · exact Or.inl ⟨a, fs, b, zf_rL hpre hv hlen hid _ _ q⟩
  · exact Or.inr (Or.inl ⟨a, a2, f, by show e = .inl (dA c.1, (c.2.map (zf_r N ρ.length idx)).length, _); rw [hl]; exact b, fun j v hj => by obtain ⟨u, h1, rfl⟩ := hm j v hj; exact zf_r_ok hpre hv hlen hid (q j u h1)⟩)
  · exact Or.inr (Or.inr (Or.inl ⟨a, a2, f, by show e = .inl (dA c.1, (c.2.map (zf_r N ρ.length idx)).length, _); rw [hl]; exact b, fun j v hj => by obtain ⟨u, h1, rfl⟩ := hm j v hj; exact zf_r_ok hpre hv hlen hid (q j u h1)⟩))
  · exact Or.inr (Or.inr (Or.inr ⟨a, f, by show e = .inl (dA c.1, (c.2.map (zf_r N ρ.length idx)).length, _); rw [hl]; exact b, fun j v hj => by obtain ⟨u, h1, rfl⟩ := hm j v hj; exact zf_r_ok hpre hv hlen hid (q j u h1)⟩))
end ZFR
/-- the cells one after the other -/
noncomputable def zf_up (N M : Nat) (idx0 : List Nat) (we : EW) (idx : List Nat) : Nat → EW → (EW → Bool) → Bool := List.rec (motive := fun _ => Nat → EW → (EW → Bool) → Bool) (fun _ w f => f w) (fun k _ ih n w f => ze_g we n (fun c => ih (Nat.succ n) (ze_ws w k (c.1, c.2.map (zf_r N M idx0))) f)) idx
/-- the machine's cells likewise -/
def zf_put (we : va_W) : List Nat → Nat → va_W → va_W
  | [], _, ws => ws
  | k :: r, n, ws => zf_put we r (n + 1) (match ws[k]?, we[n]? with
    | some (a, _), some (_, e') => ws.set k (a, e')
    | _, _ => ws)
