/-! the small world's cells put back: the large world holds -/
section ZFU
variable {dA : Nat → ClassId} {sp sp1 : Nat → Nat} {ρe ρ2 : List Int32} {ad : List Nat} {idx0 : List Nat} {we : EW} {wse : va_W} {r : EV → EV}
theorem zf_at {ws : va_W} {k a : Nat} (h : (ws.map (·.1))[k]? = some a) : ∃ e, ws[k]? = some (a, e) := by
  rw [List.getElem?_map] at h
  cases hk : ws[k]? with
  | none => rw [hk] at h; cases h
  | some q =>
    rw [hk] at h
    cases h
    exact ⟨q.2, rfl⟩
theorem zf_put_cons {k n a a' : Nat} {e e' : va_E} {r : List Nat} {ws : va_W} (h1 : ws[k]? = some (a, e)) (h2 : wse[n]? = some (a', e')) : zf_put wse (k :: r) n ws = zf_put wse r (n + 1) (ws.set k (a, e')) := by
  show zf_put wse r (n + 1) (match ws[k]?, wse[n]? with | some (a, _), some (_, e') => ws.set k (a, e') | _, _ => ws) = _
  rw [h1, h2]
theorem zf_up_ok (hWe : ze_W dA sp1 ρe we wse) (hr : ∀ u x, ze_V sp1 ρe (wse.map (·.1)) u x → ze_V sp ρ2 ad (r u) x) (hrc : ∀ n, r (eC n) = eC n) (hid : ∀ (n k : Nat), idx0[n]? = some k → (wse.map (·.1))[n]? = ad[k]?) : ∀ (idx : List Nat) (n : Nat) (w : EW) (ws : va_W) (f : EW → Bool), ws.map (·.1) = ad → (∀ (i k : Nat), idx[i]? = some k → idx0[n + i]? = some k) → ze_W dA sp ρ2 w ws → zf_up r we idx n w f = true →
    ∃ w', f w' = true ∧ ze_W dA sp ρ2 w' (zf_put wse idx n ws) ∧ (zf_put wse idx n ws).map (·.1) = ad := by
  intro idx
  induction idx with
  | nil => intro n w ws f ha _ hW h; exact ⟨w, h, hW, ha⟩
  | cons k t9 ih =>
    intro n w ws f ha hi hW h
    obtain ⟨c, e1, h⟩ := ze_g_spec (show ze_g we n _ = true from h)
    obtain ⟨a', e', q1, q2⟩ := hWe.2 n c e1
    have hk := hid n k (hi 0 k rfl)
    rw [List.getElem?_map, q1, ← ha] at hk
    obtain ⟨e, hwk⟩ := zf_at hk.symm
    have hC : ze_C dA sp ρ2 (ws.map (·.1)) (c.1, c.2.map r) e' := by rw [ha]; exact zf_rC hr hrc q2
    have hW2 := hW.set hwk hC
    rw [zf_put_cons hwk q1]
    exact ih (n + 1) _ _ f (by rw [ze_fst hwk]; exact ha) (fun i k2 h2 => by rw [show n + 1 + i = n + (i + 1) by omega]; exact hi (i + 1) k2 h2) hW2 h
/-- what stands at a place then -/
theorem zf_put_get : ∀ (idx : List Nat) (n : Nat) (ws : va_W), (∀ (i k : Nat), idx[i]? = some k → (∃ a e e', ws[k]? = some (a, e) ∧ wse[n + i]? = some (a, e'))) → ∀ (k : Nat) (q : Nat × va_E), (zf_put wse idx n ws)[k]? = some q → (∃ i, idx[i]? = some k ∧ wse[n + i]? = some q) ∨ (k ∉ idx ∧ ws[k]? = some q) := by
  intro idx
  induction idx with
  | nil => intro n ws _ k q h; exact Or.inr ⟨by simp, h⟩
  | cons k0 r ih =>
    intro n ws hv k q h
    obtain ⟨a, e, e', h1, h2⟩ := hv 0 k0 rfl
    rw [Nat.add_zero] at h2
    rw [zf_put_cons h1 h2] at h
    have hlt := (List.getElem?_eq_some_iff.mp h1).1
    have hstep := ih (n + 1) (ws.set k0 (a, e')) (fun i k2 hk2 => by
      obtain ⟨a2, e2, e3, g1, g2⟩ := hv (i + 1) k2 hk2
      rw [show n + (i + 1) = n + 1 + i by omega] at g2
      by_cases hkk : k0 = k2
      · subst hkk
        rw [h1] at g1
        cases g1
        exact ⟨a, e', e3, List.getElem?_set_self hlt, g2⟩
      · exact ⟨a2, e2, e3, by rw [List.getElem?_set_ne hkk]; exact g1, g2⟩) k q h
    rcases hstep with ⟨i, g1, g2⟩ | ⟨g1, g2⟩
    · exact Or.inl ⟨i + 1, g1, by rw [show n + (i + 1) = n + 1 + i by omega]; exact g2⟩
    · by_cases hkk : k0 = k
      · subst hkk
        rw [List.getElem?_set_self hlt] at g2
        cases g2
        exact Or.inl ⟨0, rfl, h2⟩
      · rw [List.getElem?_set_ne hkk] at g2
        exact Or.inr ⟨by simp [g1, Ne.symm hkk], g2⟩
end ZFU
