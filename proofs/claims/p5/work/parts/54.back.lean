/-! behind a call on a small world: its cells back in the large one, by r -/
section ZFR
variable {sp sp1 : Nat → Nat} {ρe ρ2 : List Int32} {ad ad' : List Nat} {dA : Nat → ClassId} {r : EV → EV}
theorem zf_rL (hr : ∀ u x, ze_V sp1 ρe ad' u x → ze_V sp ρ2 ad (r u) x) : ∀ (us : List EV) (xs : List Value), ze_L sp1 ρe ad' us xs → ze_L sp ρ2 ad (us.map r) xs := by
  intro us
  induction us with
  | nil => intro xs h; rw [h.nil]; trivial
  | cons a t ih =>
    intro xs h
    obtain ⟨y, ys, rfl, h1, h2⟩ := h.cons
    exact ⟨hr _ _ h1, ih ys h2⟩
theorem zf_rC (hr : ∀ u x, ze_V sp1 ρe ad' u x → ze_V sp ρ2 ad (r u) x) (hrc : ∀ n, r (eC n) = eC n) {c : EC} {e : va_E} (h : ze_C dA sp1 ρe ad' c e) : ze_C dA sp ρ2 ad (c.1, c.2.map r) e := by
  have hm : ∀ (j : Nat) (v : EV), (c.2.map r)[j]? = some v → ∃ u, c.2[j]? = some u ∧ v = r u := by
    intro j v hj
    rw [List.getElem?_map] at hj
    cases hc : c.2[j]? with
    | none => rw [hc] at hj; cases hj
    | some u => rw [hc] at hj; exact ⟨u, rfl, (Option.some.inj hj).symm⟩
  have hl : (c.2.map r).length = c.2.length := List.length_map ..
  rcases h with ⟨a, fs, b, q⟩ | ⟨a, a2, f, b, q⟩ | ⟨a, a2, f, b, q⟩ | ⟨a, a2, f, b, q⟩ | hs | ⟨a, a2, zs, f, b, he, q⟩
  · exact Or.inl ⟨a, fs, b, zf_rL hr _ _ q⟩
  · exact Or.inr (Or.inl ⟨a, a2, f, by show e = .inl (dA c.1, (c.2.map r).length, _); rw [hl]; exact b, fun j v hj => by obtain ⟨u, h1, rfl⟩ := hm j v hj; exact hr _ _ (q j u h1)⟩)
  · exact Or.inr (Or.inr (Or.inl ⟨a, a2, f, by show e = .inl (dA c.1, (c.2.map r).length, _); rw [hl]; exact b, fun j v hj => by obtain ⟨u, h1, rfl⟩ := hm j v hj; exact hr _ _ (q j u h1)⟩))
  · exact Or.inr (Or.inr (Or.inr (Or.inl ⟨a, a2, f, by show e = .inl (dA c.1, (c.2.map r).length, _); rw [hl]; exact b, fun j v hj => by obtain ⟨u, h1, rfl⟩ := hm j v hj; exact hr _ _ (q j u h1)⟩)))
  · refine Or.inr (Or.inr (Or.inr (Or.inr (Or.inl ?_))))
    rcases hs with ⟨a, a2, n, lo, hi, f, e1, b, q⟩ | ⟨a, a2, n, lo, hi, f, e1, b, q⟩
    · exact Or.inl ⟨a, a2, n, lo, hi, f, by show c.2.map r = _; rw [e1]; show [r (eC n), r (eC lo), r (eC hi)] = _; rw [hrc, hrc, hrc], b, q⟩
    · exact Or.inr ⟨a, a2, n, lo, hi, f, by show c.2.map r = _; rw [e1]; show [r (eC n), r (eC lo), r (eC hi)] = _; rw [hrc, hrc, hrc], b, q⟩
  · refine Or.inr (Or.inr (Or.inr (Or.inr (Or.inr ⟨a, a2, zs, f, ⟨by rw [hl]; exact b.1, fun j v hj => ?_⟩, he, q⟩))))
    obtain ⟨u, h1, rfl⟩ := hm j v hj
    obtain ⟨x, x1, x2⟩ := b.2 j u h1
    exact ⟨x, x1, hr _ _ x2⟩
end ZFR
/-- the cells one after the other -/
noncomputable def zf_up (r : EV → EV) (we : EW) (idx : List Nat) : Nat → EW → (EW → Bool) → Bool := List.rec (motive := fun _ => Nat → EW → (EW → Bool) → Bool) (fun _ w f => f w) (fun k _ ih n w f => ze_g we n (fun c => ih (Nat.succ n) (ze_ws w k (c.1, c.2.map r)) f)) idx
/-- the machine's cells likewise -/
noncomputable def zf_put (we : va_W) : List Nat → Nat → va_W → va_W
  | [], _, ws => ws
  | k :: r, n, ws => zf_put we r (n + 1) (match ws[k]?, we[n]? with
    | some (a, _), some (_, e') => ws.set k (a, e')
    | _, _ => ws)
/-- an int as a long -/
noncomputable def zf_lo (u : EV) : EV := Sum.rec (motive := fun _ => EV) (fun a => Sum.rec (motive := fun _ => EV) (fun n => eL (ze_el (nI n).toInt64)) (fun i => eLU i) a) (fun _ => eX 1) u
/-- names back: below N they stay, below N2 they are the values σ, the others are new -/
noncomputable def zf_ri (N N2 M : Nat) (σ : List EV) (i : Nat) : EV := zcd (Nat.ble (Nat.succ i) N) (eU i) (zcd (Nat.ble (Nat.succ i) N2) (σ.getD (Nat.sub i N) (eC 0)) (eU (Nat.add M (Nat.sub i N2))))
noncomputable def zf_rl (N N2 M : Nat) (σ : List EV) (i : Nat) : EV := zcd (Nat.ble (Nat.succ i) N) (eLU i) (zcd (Nat.ble (Nat.succ i) N2) (zf_lo (σ.getD (Nat.sub i N) (eC 0))) (eLU (Nat.add M (Nat.sub i N2))))
/-- what a reference that was not looked into stands for -/
noncomputable def zf_xk (κ : List EV) (k : Nat) : EV := zcd (Nat.ble 42 k) (κ.getD (Nat.sub k 42) (eX k)) (eX k)
noncomputable def zf_r2 (N N2 M : Nat) (σ : List EV) (idx : List Nat) (κ : List EV) (u : EV) : EV := Sum.rec (motive := fun _ => EV) (fun a => Sum.rec (motive := fun _ => EV) (fun n => eC n) (fun i => zf_ri N N2 M σ i) a) (fun b => Sum.rec (motive := fun _ => EV) (fun z => Sum.rec (motive := fun _ => EV) (fun n => eR (idx.getD n 0)) (fun y => Sum.rec (motive := fun _ => EV) (fun n => eL n) (fun i => zf_rl N N2 M σ i) y) z) (fun k => zf_xk κ k) b) u
section ZFR2
variable {sp : Nat → Nat} {ρ ρe vals ve : List Int32} {ad ad' : List Nat} {N N2 : Nat} {σ : List EV} {idx : List Nat}
theorem zf_lo_ok {u : EV} {z : Int32} (h : ze_V sp ρ ad u (.int z)) : ze_V sp ρ ad (zf_lo u) (.long z.toInt64) := by
  match u, h with
  | .inl (.inl n), h =>
    have e : z = nI n := Value.int.inj h
    subst e
    show Value.long _ = .long (lN (ze_el _))
    rw [ze_el_eq]
  | .inl (.inr i), ⟨y, a, b⟩ =>
    have e : z = y := Value.int.inj b
    subst e
    exact ⟨z, a, rfl⟩
  | .inr (.inl (.inl k)), ⟨_, _, b⟩ => cases b
  | .inr (.inl (.inr (.inl n))), h => cases (show Value.int z = .long (lN n) from h)
  | .inr (.inl (.inr (.inr i))), ⟨_, _, b⟩ => cases b
  | .inr (.inr 0), h => cases (show Value.int z = .null from h)
  | .inr (.inr (k + 2)), h => cases (show Value.int z = .ref (sp k) from h)
theorem zf_ri_ok (hN2 : N2 = N + σ.length) (hσ : zh_σ sp ρ ad σ vals) (hpre : ∀ i, i < N → ρe[i]? = ρ[i]?) (hmid : ∀ i, N ≤ i → i < N2 → ρe[i]? = vals[i - N]?) (hv : ∀ i, N2 ≤ i → ρe[i]? = ve[i - N2]?) {i : Nat} {z : Int32} (h : ρe[i]? = some z) : ze_V sp (ρ ++ ve) ad (zf_ri N N2 ρ.length σ i) (.int z) ∧ ze_V sp (ρ ++ ve) ad (zf_rl N N2 ρ.length σ i) (.long z.toInt64) := by
  unfold zf_ri zf_rl
  cases hb : Nat.ble (Nat.succ i) N with
  | true =>
    have hi : i < N := Nat.le_of_ble_eq_true hb
    rw [hpre i hi] at h
    have h9 : (ρ ++ ve)[i]? = some z := by rw [List.getElem?_append_left (List.getElem?_eq_some_iff.mp h).1]; exact h
    exact ⟨⟨z, h9, rfl⟩, ⟨z, h9, rfl⟩⟩
  | false =>
    have hi : ¬ (i + 1 ≤ N) := fun q => by rw [Nat.ble_eq_true_of_le q] at hb; cases hb
    cases hb2 : Nat.ble (Nat.succ i) N2 with
    | true =>
      have hi2 : i < N2 := Nat.le_of_ble_eq_true hb2
      rw [hmid i (by omega) hi2] at h
      have hl : i - N < σ.length := by omega
      have e1 : σ[i - N]? = some (σ.getD (Nat.sub i N) (eC 0)) := by
        show σ[i - N]? = some (σ.getD (i - N) (eC 0))
        rw [List.getElem?_eq_getElem hl]
        simp [List.getD_eq_getElem?_getD, List.getElem?_eq_getElem hl]
      obtain ⟨y, h3, h4⟩ := hσ.2 _ _ e1
      rw [h] at h3
      cases h3
      have h5 := h4.mono (List.prefix_append ρ ve) (List.prefix_refl ad)
      exact ⟨h5, zf_lo_ok h5⟩
    | false =>
      have hi2 : ¬ (i + 1 ≤ N2) := fun q => by rw [Nat.ble_eq_true_of_le q] at hb2; cases hb2
      rw [hv i (by omega)] at h
      have h9 : (ρ ++ ve)[ρ.length + (i - N2)]? = some z := by
        rw [List.getElem?_append_right (by omega), show ρ.length + (i - N2) - ρ.length = i - N2 by omega]
        exact h
      exact ⟨⟨z, h9, rfl⟩, ⟨z, h9, rfl⟩⟩
theorem zf_xk_ok {sp' : Nat → Nat} {κ : List EV} (hsp : zf_sp sp sp' ρ ad κ) {k : Nat} {x : Value} (h : x = .ref (sp' k)) : ze_V sp (ρ ++ ve) ad (zf_xk κ (k + 2)) x := by
  unfold zf_xk
  cases hb : Nat.ble 42 (k + 2) with
  | false =>
    have h1 : ¬ 42 ≤ k + 2 := fun q => by rw [ze_ble q] at hb; cases hb
    show x = .ref (sp k)
    rw [h, hsp.1 k (by omega)]
  | true =>
    have h1 : 42 ≤ k + 2 := ze_ble' hb
    show ze_V sp (ρ ++ ve) ad (κ.getD (k + 2 - 42) (eX (k + 2))) x
    rw [List.getD_eq_getElem?_getD]
    cases hv : κ[k + 2 - 42]? with
    | none =>
      have h2 := List.getElem?_eq_none_iff.mp hv
      show x = .ref (sp k)
      rw [h, hsp.2.1 k (by omega)]
    | some v =>
      have h3 := hsp.2.2 _ v hv
      rw [show 40 + (k + 2 - 42) = k by omega, ← h] at h3
      exact h3.mono (List.prefix_append _ _) (List.prefix_refl _)
theorem zf_r2_ok {sp' : Nat → Nat} {κ : List EV} (hsp : zf_sp sp sp' ρ ad κ) (hN2 : N2 = N + σ.length) (hσ : zh_σ sp ρ ad σ vals) (hpre : ∀ i, i < N → ρe[i]? = ρ[i]?) (hmid : ∀ i, N ≤ i → i < N2 → ρe[i]? = vals[i - N]?) (hv : ∀ i, N2 ≤ i → ρe[i]? = ve[i - N2]?) (hlen : ad'.length = idx.length) (hid : ∀ (n k : Nat), idx[n]? = some k → ad'[n]? = ad[k]?) (u : EV) (x : Value) (h : ze_V sp' ρe ad' u x) : ze_V sp (ρ ++ ve) ad (zf_r2 N N2 ρ.length σ idx κ u) x := by
  match u, h with
  | .inl (.inl n), h => exact h
  | .inl (.inr i), ⟨z, a, b⟩ => subst b; exact (zf_ri_ok hN2 hσ hpre hmid hv a).1
  | .inr (.inl (.inl n)), ⟨a, h1, h2⟩ =>
    have hn : n < idx.length := by rw [← hlen]; exact (List.getElem?_eq_some_iff.mp h1).1
    have e1 : idx[n]? = some (idx.getD n 0) := by rw [List.getElem?_eq_getElem hn]; simp [List.getD_eq_getElem?_getD, List.getElem?_eq_getElem hn]
    rw [hid n _ e1] at h1
    exact ⟨a, h1, h2⟩
  | .inr (.inl (.inr (.inl n))), h => exact h
  | .inr (.inl (.inr (.inr i))), ⟨z, a, b⟩ => subst b; exact (zf_ri_ok hN2 hσ hpre hmid hv a).2
  | .inr (.inr 0), h => exact h
  | .inr (.inr (k + 2)), h => exact zf_xk_ok hsp h
end ZFR2
