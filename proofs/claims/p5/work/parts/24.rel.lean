/-! THE ENGINE, part 4: worlds and locals. 'vwCl': the classes (names); 'ze_arr': the kinds of arrays and their types; 'ze_nest': the links of nest mates; 'ze_ao': classes that arrays are made of. -/
noncomputable def ze_K (dC : Nat → ClassId) (dI : Nat → Nat → Nat) (dA : Nat → ClassId) (U : State) : Prop :=
  (∀ (c : Nat) (q : vw_C), vwCl[c]? = some q → u_Kn U q.1 q.2.1 q.2.2 (dC c) (dI c)) ∧ (∀ (kd : Nat) (ty : FieldType), (kd, ty) ∈ ze_arr → ArrOfT U (dA kd) ty ∧ va_RA U (dA kd) ty) ∧ (∀ w ∈ ze_nest, va_Nw w U) ∧ ∀ C ∈ ze_ao, va_AO C U
theorem ze_K.k0 {dC : Nat → ClassId} {dI : Nat → Nat → Nat} {dA : Nat → ClassId} {U : State} (h : ze_K dC dI dA U) : va_K (dC, dI) vwCl [] U := ⟨h.1, fun k q hk => by simp at hk⟩
theorem ze_K.k1 {dC : Nat → ClassId} {dI : Nat → Nat → Nat} {dA : Nat → ClassId} {U : State} (h : ze_K dC dI dA U) {kd : Nat} {ty : FieldType} (hk : (kd, ty) ∈ ze_arr) : va_K (dC, dI) vwCl [(dA kd, ty)] U := by
  refine ⟨h.1, fun k q hq => ?_⟩
  cases k with
  | zero => simp at hq; subst hq; exact h.2.1 kd ty hk
  | succ k => simp at hq
/-- a cell whose numbers are known by their interval alone: how many, from, to (kind: 1000 above the array's) -/
noncomputable def ze_Cs (dA : Nat → ClassId) (c : EC) (e : va_E) : Prop :=
  (1100 ≤ c.1 ∧ c.1 < 1150 ∧ ∃ (n lo hi : Nat) (f : Nat → Int32), c.2 = [eC n, eC lo, eC hi] ∧ e = .inl (dA (c.1 - 1000), n, .inl f) ∧ ∀ j, j < n → lo ≤ ze_b (f j) ∧ ze_b (f j) ≤ hi) ∨
  (1150 ≤ c.1 ∧ c.1 < 1200 ∧ ∃ (n lo hi : Nat) (f : Nat → Int64), c.2 = [eC n, eC lo, eC hi] ∧ e = .inl (dA (c.1 - 1000), n, .inr (.inl f)) ∧ ∀ j, j < n → ∃ z : Int32, f j = z.toInt64 ∧ lo ≤ ze_b z ∧ ze_b z ≤ hi)
/-- a cell -/
noncomputable def ze_C (dA : Nat → ClassId) (sp : Nat → Nat) (ρ : List Int32) (ad : List Nat) (c : EC) (e : va_E) : Prop :=
  (c.1 < 100 ∧ ∃ fs, e = .inr (c.1, fs) ∧ ze_L sp ρ ad c.2 fs) ∨
  (100 ≤ c.1 ∧ c.1 < 150 ∧ ∃ f : Nat → Int32, e = .inl (dA c.1, c.2.length, .inl f) ∧ ∀ (j : Nat) (v : EV), c.2[j]? = some v → ze_V sp ρ ad v (.int (f j))) ∨
  (150 ≤ c.1 ∧ c.1 < 200 ∧ ∃ f : Nat → Int64, e = .inl (dA c.1, c.2.length, .inr (.inl f)) ∧ ∀ (j : Nat) (v : EV), c.2[j]? = some v → ze_V sp ρ ad v (.long (f j))) ∨
  (200 ≤ c.1 ∧ c.1 < 1000 ∧ ∃ f : Nat → Option Nat, e = .inl (dA c.1, c.2.length, .inr (.inr (.inr (.inr f)))) ∧ ∀ (j : Nat) (v : EV), c.2[j]? = some v → ze_V sp ρ ad v (va_rf (f j))) ∨
  ze_Cs dA c e ∨ ze_Cp dA sp ρ ad c e
theorem ze_C.mono {dA : Nat → ClassId} {sp : Nat → Nat} {ρ ρ' : List Int32} {ad ad' : List Nat} (h1 : ρ <+: ρ') (h2 : ad <+: ad') {c : EC} {e : va_E} (h : ze_C dA sp ρ ad c e) : ze_C dA sp ρ' ad' c e := by
  rcases h with ⟨a, fs, b, q⟩ | ⟨a, a2, f, b, q⟩ | ⟨a, a2, f, b, q⟩ | ⟨a, a2, f, b, q⟩ | hs | ⟨a, a2, zs, f, b, q⟩
  · exact Or.inl ⟨a, fs, b, q.mono h1 h2⟩
  · exact Or.inr (Or.inl ⟨a, a2, f, b, fun j v hv => (q j v hv).mono h1 h2⟩)
  · exact Or.inr (Or.inr (Or.inl ⟨a, a2, f, b, fun j v hv => (q j v hv).mono h1 h2⟩))
  · exact Or.inr (Or.inr (Or.inr (Or.inl ⟨a, a2, f, b, fun j v hv => (q j v hv).mono h1 h2⟩)))
  · exact Or.inr (Or.inr (Or.inr (Or.inr (Or.inl hs))))
  · exact Or.inr (Or.inr (Or.inr (Or.inr (Or.inr ⟨a, a2, zs, f, b.mono h1 h2, q⟩))))
theorem ze_C.obj {dA : Nat → ClassId} {sp : Nat → Nat} {ρ : List Int32} {ad : List Nat} {c : EC} {e : va_E} (h : ze_C dA sp ρ ad c e) (hc : c.1 < 100) : ∃ fs, e = .inr (c.1, fs) ∧ ze_L sp ρ ad c.2 fs := by
  rcases h with ⟨a, q⟩ | ⟨a, a2, q⟩ | ⟨a, a2, q⟩ | ⟨a, a2, q⟩ | (⟨a, a2, q⟩ | ⟨a, a2, q⟩) | ⟨a, a2, q⟩
  · exact q
  · omega
  · omega
  · omega
  · omega
  · omega
  · omega
theorem ze_C.ints {dA : Nat → ClassId} {sp : Nat → Nat} {ρ : List Int32} {ad : List Nat} {c : EC} {e : va_E} (h : ze_C dA sp ρ ad c e) (h1 : 100 ≤ c.1) (h2 : c.1 < 150) : ∃ f : Nat → Int32, e = .inl (dA c.1, c.2.length, .inl f) ∧ ∀ (j : Nat) (v : EV), c.2[j]? = some v → ze_V sp ρ ad v (.int (f j)) := by
  rcases h with ⟨a, q⟩ | ⟨a, a2, q⟩ | ⟨a, a2, q⟩ | ⟨a, a2, q⟩ | (⟨a, a2, q⟩ | ⟨a, a2, q⟩) | ⟨a, a2, q⟩
  · omega
  · exact q
  · omega
  · omega
  · omega
  · omega
  · omega
theorem ze_C.longs {dA : Nat → ClassId} {sp : Nat → Nat} {ρ : List Int32} {ad : List Nat} {c : EC} {e : va_E} (h : ze_C dA sp ρ ad c e) (h1 : 150 ≤ c.1) (h2 : c.1 < 200) : ∃ f : Nat → Int64, e = .inl (dA c.1, c.2.length, .inr (.inl f)) ∧ ∀ (j : Nat) (v : EV), c.2[j]? = some v → ze_V sp ρ ad v (.long (f j)) := by
  rcases h with ⟨a, q⟩ | ⟨a, a2, q⟩ | ⟨a, a2, q⟩ | ⟨a, a2, q⟩ | (⟨a, a2, q⟩ | ⟨a, a2, q⟩) | ⟨a, a2, q⟩
  · omega
  · omega
  · exact q
  · omega
  · omega
  · omega
  · omega
theorem ze_C.refs {dA : Nat → ClassId} {sp : Nat → Nat} {ρ : List Int32} {ad : List Nat} {c : EC} {e : va_E} (h : ze_C dA sp ρ ad c e) (h1 : 200 ≤ c.1) (h2 : c.1 < 1000) : ∃ f : Nat → Option Nat, e = .inl (dA c.1, c.2.length, .inr (.inr (.inr (.inr f)))) ∧ ∀ (j : Nat) (v : EV), c.2[j]? = some v → ze_V sp ρ ad v (va_rf (f j)) := by
  rcases h with ⟨a, q⟩ | ⟨a, a2, q⟩ | ⟨a, a2, q⟩ | ⟨a, a2, q⟩ | (⟨a, a2, q⟩ | ⟨a, a2, q⟩) | ⟨a, a2, q⟩
  · omega
  · omega
  · omega
  · exact q
  · omega
  · omega
  · omega
theorem ze_C.sumI {dA : Nat → ClassId} {sp : Nat → Nat} {ρ : List Int32} {ad : List Nat} {c : EC} {e : va_E} (h : ze_C dA sp ρ ad c e) (h1 : 1100 ≤ c.1) (h2 : c.1 < 1150) : ∃ (n lo hi : Nat) (f : Nat → Int32), c.2 = [eC n, eC lo, eC hi] ∧ e = .inl (dA (c.1 - 1000), n, .inl f) ∧ ∀ j, j < n → lo ≤ ze_b (f j) ∧ ze_b (f j) ≤ hi := by
  rcases h with ⟨a, q⟩ | ⟨a, a2, q⟩ | ⟨a, a2, q⟩ | ⟨a, a2, q⟩ | (⟨a, a2, q⟩ | ⟨a, a2, q⟩) | ⟨a, a2, q⟩
  · omega
  · omega
  · omega
  · omega
  · exact q
  · omega
  · omega
theorem ze_C.sumL {dA : Nat → ClassId} {sp : Nat → Nat} {ρ : List Int32} {ad : List Nat} {c : EC} {e : va_E} (h : ze_C dA sp ρ ad c e) (h1 : 1150 ≤ c.1) (h2 : c.1 < 1200) : ∃ (n lo hi : Nat) (f : Nat → Int64), c.2 = [eC n, eC lo, eC hi] ∧ e = .inl (dA (c.1 - 1000), n, .inr (.inl f)) ∧ ∀ j, j < n → ∃ z : Int32, f j = z.toInt64 ∧ lo ≤ ze_b z ∧ ze_b z ≤ hi := by
  rcases h with ⟨a, q⟩ | ⟨a, a2, q⟩ | ⟨a, a2, q⟩ | ⟨a, a2, q⟩ | (⟨a, a2, q⟩ | ⟨a, a2, q⟩) | ⟨a, a2, q⟩
  · omega
  · omega
  · omega
  · omega
  · omega
  · exact q
  · omega
theorem ze_C.pred {dA : Nat → ClassId} {sp : Nat → Nat} {ρ : List Int32} {ad : List Nat} {c : EC} {e : va_E} (h : ze_C dA sp ρ ad c e) (h1 : 1300 ≤ c.1) : ze_Cp dA sp ρ ad c e := by
  rcases h with ⟨a, q⟩ | ⟨a, a2, q⟩ | ⟨a, a2, q⟩ | ⟨a, a2, q⟩ | (⟨a, a2, q⟩ | ⟨a, a2, q⟩) | hp
  · omega
  · omega
  · omega
  · omega
  · omega
  · omega
  · exact hp
/-- a world -/
noncomputable def ze_W (dA : Nat → ClassId) (sp : Nat → Nat) (ρ : List Int32) (w : EW) (ws : va_W) : Prop := w.1 = ws.length ∧ ∀ (k : Nat) (c : EC), ze_gw w k = some c → ∃ (a : Nat) (e : va_E), ws[k]? = some (a, e) ∧ ze_C dA sp ρ (ws.map (·.1)) c e
theorem ze_W.rho {dA : Nat → ClassId} {sp : Nat → Nat} {ρ ρ' : List Int32} {w : EW} {ws : va_W} (h1 : ρ <+: ρ') (h : ze_W dA sp ρ w ws) : ze_W dA sp ρ' w ws :=
  ⟨h.1, fun k c hc => by obtain ⟨a, e, q1, q2⟩ := h.2 k c hc; exact ⟨a, e, q1, q2.mono h1 (List.prefix_refl _)⟩⟩
theorem ze_fst {ws : va_W} {k a : Nat} {e e' : va_E} (h : ws[k]? = some (a, e)) : (ws.set k (a, e')).map (·.1) = ws.map (·.1) := by
  apply List.ext_getElem?
  intro i
  rw [List.getElem?_map, List.getElem?_map]
  by_cases hi : k = i
  · subst hi
    rw [List.getElem?_set_self (List.getElem?_eq_some_iff.mp h).1, h]
    rfl
  · rw [List.getElem?_set_ne hi]
theorem ze_W.set {dA : Nat → ClassId} {sp : Nat → Nat} {ρ : List Int32} {w : EW} {ws : va_W} (h : ze_W dA sp ρ w ws) {k a : Nat} {e e' : va_E} {c' : EC} (hk : ws[k]? = some (a, e)) (hc : ze_C dA sp ρ (ws.map (·.1)) c' e') : ze_W dA sp ρ (ze_ws w k c') (ws.set k (a, e')) := by
  refine ⟨by rw [List.length_set]; exact h.1, fun j c hj => ?_⟩
  rw [ze_fst hk]
  rw [ze_ws_get] at hj
  by_cases hjk : j = k
  · subst hjk
    rw [if_pos rfl] at hj
    cases hg : ze_gw w j with
    | none => rw [hg] at hj; cases hj
    | some c0 =>
      rw [hg] at hj
      cases hj
      exact ⟨a, e', List.getElem?_set_self (List.getElem?_eq_some_iff.mp hk).1, hc⟩
  · rw [if_neg hjk] at hj
    obtain ⟨a1, e1, q1, q2⟩ := h.2 j c hj
    exact ⟨a1, e1, by rw [List.getElem?_set_ne (Ne.symm hjk)]; exact q1, q2⟩
/-- the machine's cell changes, the engine's does not -/
theorem ze_W.keep {dA : Nat → ClassId} {sp : Nat → Nat} {ρ : List Int32} {w : EW} {ws : va_W} (h : ze_W dA sp ρ w ws) {k a : Nat} {e e' : va_E} {c : EC} (hc : ze_gw w k = some c) (hk : ws[k]? = some (a, e)) (hC : ze_C dA sp ρ (ws.map (·.1)) c e') : ze_W dA sp ρ w (ws.set k (a, e')) := by
  refine ⟨by rw [List.length_set]; exact h.1, fun j c2 hj => ?_⟩
  rw [ze_fst hk]
  by_cases hjk : j = k
  · subst hjk
    rw [hc] at hj
    cases hj
    exact ⟨a, e', List.getElem?_set_self (List.getElem?_eq_some_iff.mp hk).1, hC⟩
  · obtain ⟨a1, e1, q1, q2⟩ := h.2 j c2 hj
    exact ⟨a1, e1, by rw [List.getElem?_set_ne (Ne.symm hjk)]; exact q1, q2⟩
theorem ze_W.push {dA : Nat → ClassId} {sp : Nat → Nat} {ρ : List Int32} {w w' : EW} {ws : va_W} (h : ze_W dA sp ρ w ws) {q : Nat} {e : va_E} {c : EC} (h1 : w'.1 = w.1 + 1) (h2 : ∀ (k : Nat) (c' : EC), ze_gw w' k = some c' → (k = w.1 ∧ c' = c) ∨ (k ≠ w.1 ∧ ze_gw w k = some c')) (hc : ze_C dA sp ρ (ws.map (·.1) ++ [q]) c e) : ze_W dA sp ρ w' (ws ++ [(q, e)]) := by
  refine ⟨by rw [h1, h.1]; simp, fun k c' hk => ?_⟩
  have em : (ws ++ [(q, e)]).map (·.1) = ws.map (·.1) ++ [q] := by simp
  rw [em]
  rcases h2 k c' hk with ⟨r1, r2⟩ | ⟨r1, r2⟩
  · subst r2
    refine ⟨q, e, ?_, hc⟩
    rw [r1, h.1]
    simp
  · obtain ⟨a1, e1, q1, q2⟩ := h.2 k c' r2
    refine ⟨a1, e1, ?_, q2.mono (List.prefix_refl _) (List.prefix_append _ _)⟩
    rw [List.getElem?_append_left (List.getElem?_eq_some_iff.mp q1).1]
    exact q1
/-- a reference of the engine is a cell of the world -/
theorem ze_W.ref {dA : Nat → ClassId} {sp : Nat → Nat} {ρ : List Int32} {w : EW} {ws : va_W} (h : ze_W dA sp ρ w ws) {k : Nat} {c : EC} {x : Value} (hc : ze_gw w k = some c) (hv : ze_V sp ρ (ws.map (·.1)) (eR k) x) : ∃ (a : Nat) (e : va_E), x = .ref a ∧ ws[k]? = some (a, e) ∧ ze_C dA sp ρ (ws.map (·.1)) c e := by
  obtain ⟨a, e, q1, q2⟩ := h.2 k c hc
  obtain ⟨a2, r1, r2⟩ := hv
  rw [List.getElem?_map, q1] at r1
  cases r1
  exact ⟨_, e, r2, q1, q2⟩
/-- locals -/
noncomputable def ze_LL (sp : Nat → Nat) (ρ : List Int32) (ad : List Nat) (ls : List EV) (lv : List (Nat × Value)) : Prop := ∀ (i : Nat) (v : EV), ls[i]? = some v → v ≠ eX 1 → ∃ x, (i, x) ∈ lv ∧ ze_V sp ρ ad v x
theorem ze_LL.mono {sp : Nat → Nat} {ρ ρ' : List Int32} {ad ad' : List Nat} (h1 : ρ <+: ρ') (h2 : ad <+: ad') {ls : List EV} {lv : List (Nat × Value)} (h : ze_LL sp ρ ad ls lv) : ze_LL sp ρ' ad' ls lv := fun i v hv hn => by
  obtain ⟨x, a, b⟩ := h i v hv hn
  exact ⟨x, a, b.mono h1 h2⟩
theorem ze_cat {sp : Nat → Nat} {ρ : List Int32} {ad : List Nat} {v : EV} {x : Value} (h : ze_V sp ρ ad v x) : x.category = ze_ct v := by
  match v, h with
  | .inl (.inl n), h => rw [show x = _ from h]; rfl
  | .inl (.inr i), ⟨z, _, b⟩ => rw [b]; rfl
  | .inr (.inl (.inl k)), ⟨z, _, b⟩ => rw [b]; rfl
  | .inr (.inl (.inr (.inl n))), h => rw [show x = _ from h]; rfl
  | .inr (.inl (.inr (.inr i))), ⟨z, _, b⟩ => rw [b]; rfl
  | .inr (.inr 0), h => rw [show x = _ from h]; rfl
  | .inr (.inr (k + 2)), h => rw [show x = _ from h]; rfl
theorem ze_cl_ne {u : EV} (h : ze_cl u ≠ eX 1) : ze_cl u = u ∧ ze_ct u = 1 := by
  match u, h with
  | .inr (.inl (.inr _)), h => exact absurd rfl h
  | .inr (.inl (.inl q)), _ => exact ⟨rfl, rfl⟩
  | .inr (.inr q), _ => exact ⟨rfl, rfl⟩
  | .inl q, _ => exact ⟨rfl, rfl⟩
/-- what a store leaves at another place -/
theorem ze_st_get {v : EV} {ls : List EV} {i j : Nat} {u : EV} (h : (ze_st v ls i)[j]? = some u) (hu : u ≠ eX 1) : (j = i ∧ u = v) ∨ (j ≠ i ∧ ls[j]? = some u ∧ (j + 1 = i → ze_ct u = 1)) := by
  cases i with
  | zero =>
    have h : (ze_s v ls 0)[j]? = some u := h
    rw [ze_s_eq] at h
    by_cases hj : j = 0
    · subst hj
      by_cases hl : 0 < ls.length
      · rw [List.getElem?_set_self hl] at h
        exact Or.inl ⟨rfl, (Option.some.inj h).symm⟩
      · rw [List.getElem?_eq_none (by rw [List.length_set]; omega)] at h
        cases h
    · rw [List.getElem?_set_ne (Ne.symm hj)] at h
      exact Or.inr ⟨hj, h, fun q => by omega⟩
  | succ i =>
    have h : (ze_s v (ze_m ze_cl ls i) (i + 1))[j]? = some u := h
    rw [ze_s_eq] at h
    by_cases hj : j = i + 1
    · subst hj
      by_cases hl : i + 1 < (ze_m ze_cl ls i).length
      · rw [List.getElem?_set_self hl] at h
        exact Or.inl ⟨rfl, (Option.some.inj h).symm⟩
      · rw [List.getElem?_eq_none (by rw [List.length_set]; omega)] at h
        cases h
    · rw [List.getElem?_set_ne (Ne.symm hj), ze_m_get] at h
      by_cases hi : j = i
      · subst hi
        rw [if_pos rfl] at h
        cases hg : ls[j]? with
        | none => rw [hg] at h; cases h
        | some u0 =>
          rw [hg] at h
          have h : ze_cl u0 = u := Option.some.inj h
          have k := ze_cl_ne (u := u0) (by rw [h]; exact hu)
          rw [k.1] at h
          subst h
          exact Or.inr ⟨hj, rfl, fun _ => k.2⟩
      · rw [if_neg hi] at h
        exact Or.inr ⟨hj, h, fun q => absurd (show j = i by omega) hi⟩
theorem ze_LL.st1 {sp : Nat → Nat} {ρ : List Int32} {ad : List Nat} {ls : List EV} {lv : List (Nat × Value)} (h : ze_LL sp ρ ad ls lv) {i : Nat} {v : EV} {x : Value} (hv : ze_V sp ρ ad v x) :
    ze_LL sp ρ ad (ze_st v ls i) ((i, x) :: lv.filter (fun q => !(q.1 == i) && !(q.1 + 1 == i && q.2.category == 2))) := by
  intro j u hj hu
  rcases ze_st_get hj hu with ⟨a, b⟩ | ⟨a, b, d⟩
  · subst a; subst b
    exact ⟨x, List.mem_cons_self, hv⟩
  · obtain ⟨y, q1, q2⟩ := h j u b hu
    refine ⟨y, List.mem_cons_of_mem _ (List.mem_filter.mpr ⟨q1, ?_⟩), q2⟩
    by_cases hji : j + 1 = i
    · have := ze_cat q2
      have := d hji
      simp [a, show ¬ y.category = 2 by omega]
    · simp [a, hji]
theorem ze_LL.st2 {sp : Nat → Nat} {ρ : List Int32} {ad : List Nat} {ls : List EV} {lv : List (Nat × Value)} (h : ze_LL sp ρ ad ls lv) {i : Nat} {v : EV} {x : Value} (hv : ze_V sp ρ ad v x) :
    ze_LL sp ρ ad (ze_s (eX 1) (ze_st v ls i) (i + 1)) ((i, x) :: lv.filter (fun q => !(q.1 == i) && (!(q.1 == i + 1) && !(q.1 + 1 == i && q.2.category == 2)))) := by
  intro j u hj hu
  rw [ze_s_eq] at hj
  have hn : j ≠ i + 1 := by
    intro q
    subst q
    by_cases hl : i + 1 < (ze_st v ls i).length
    · rw [List.getElem?_set_self hl] at hj
      exact hu (Option.some.inj hj).symm
    · rw [List.getElem?_eq_none (by rw [List.length_set]; omega)] at hj
      cases hj
  rw [List.getElem?_set_ne (Ne.symm hn)] at hj
  rcases ze_st_get hj hu with ⟨a, b⟩ | ⟨a, b, d⟩
  · subst a; subst b
    exact ⟨x, List.mem_cons_self, hv⟩
  · obtain ⟨y, q1, q2⟩ := h j u b hu
    refine ⟨y, List.mem_cons_of_mem _ (List.mem_filter.mpr ⟨q1, ?_⟩), q2⟩
    by_cases hji : j + 1 = i
    · have := ze_cat q2
      have := d hji
      simp [a, hn, show ¬ y.category = 2 by omega]
    · simp [a, hn, hji]
