/-! THE ENGINE, part 1: its data. A run of the code by numbers that the kernel works out: ints are Nats (mod 2^32), unknown ints are places in a list of intervals, cells are places in a world. -/
abbrev EV : Type := (Nat ⊕ Nat) ⊕ ((Nat ⊕ (Nat ⊕ Nat)) ⊕ Nat)
abbrev eC (n : Nat) : EV := .inl (.inl n)
abbrev eU (i : Nat) : EV := .inl (.inr i)
abbrev eR (k : Nat) : EV := .inr (.inl (.inl k))
abbrev eL (n : Nat) : EV := .inr (.inl (.inr (.inl n)))
/-- an unknown int, as a long -/
abbrev eLU (i : Nat) : EV := .inr (.inl (.inr (.inr i)))
abbrev eX (k : Nat) : EV := .inr (.inr k)
abbrev EC : Type := Nat × List EV
abbrev EW : Type := Nat × List (List EC)
abbrev EG : Type := List (Nat × Nat)
/-- a choice, by its recursor -/
noncomputable def zcd {α : Type} (b : Bool) (x y : α) : α := Bool.rec (motive := fun _ => α) y x b
/-- force a number, then go on -/
noncomputable def ze_f (n : Nat) (k : Nat → Bool) : Bool := Nat.rec (motive := fun _ => Bool) (k 0) (fun m _ => k (Nat.succ m)) n
theorem ze_f_eq (n : Nat) (k : Nat → Bool) : ze_f n k = k n := by cases n <;> rfl
/-- what is behind the first of a list, behind the first eight; the rest is a term of its own, so it is worked out once -/
noncomputable def ze_t1 {α : Type} (l : List α) : List α := List.rec (motive := fun _ => List α) [] (fun _ t _ => t) l
noncomputable def ze_t8 {α : Type} (l : List α) : List α := ze_t1 (ze_t1 (ze_t1 (ze_t1 (ze_t1 (ze_t1 (ze_t1 (ze_t1 l)))))))
noncomputable def ze_tr {α : Type} (r : Nat) : List α → List α := Nat.rec (motive := fun _ => List α → List α) (fun l => l) (fun _ ih l => ih (ze_t1 l)) r
noncomputable def ze_tE {α : Type} (q : Nat) : List α → List α := Nat.rec (motive := fun _ => List α → List α) (fun l => l) (fun _ ih l => ih (ze_t8 l)) q
noncomputable def ze_dp {α : Type} (l : List α) (i : Nat) : List α := ze_tr (Nat.mod i 8) (ze_tE (Nat.div i 8) l)
theorem ze_t1_eq {α : Type} (l : List α) : ze_t1 l = l.drop 1 := by cases l <;> rfl
theorem ze_t8_eq {α : Type} (l : List α) : ze_t8 l = l.drop 8 := by
  unfold ze_t8
  simp only [ze_t1_eq, List.drop_drop]
theorem ze_tr_eq {α : Type} : ∀ (r : Nat) (l : List α), ze_tr r l = l.drop r := by
  intro r
  induction r with
  | zero => intro l; rfl
  | succ r ih =>
    intro l
    show ze_tr r (ze_t1 l) = _
    rw [ih, ze_t1_eq, List.drop_drop]
    congr 1
    omega
theorem ze_tE_eq {α : Type} : ∀ (q : Nat) (l : List α), ze_tE q l = l.drop (8 * q) := by
  intro q
  induction q with
  | zero => intro l; rfl
  | succ q ih =>
    intro l
    show ze_tE q (ze_t8 l) = _
    rw [ih, ze_t8_eq, List.drop_drop]
    congr 1
    omega
theorem ze_dp_eq {α : Type} (l : List α) (i : Nat) : ze_dp l i = l.drop i := by
  unfold ze_dp
  rw [ze_tr_eq, ze_tE_eq, List.drop_drop]
  congr 1
  show 8 * (i / 8) + i % 8 = i
  omega
theorem ze_dp_nil {α : Type} {l : List α} {i : Nat} (h : ze_dp l i = []) : l[i]? = none := by
  rw [ze_dp_eq] at h
  have h2 : (l.drop i)[0]? = l[i + 0]? := List.getElem?_drop
  rw [h] at h2
  exact h2.symm
theorem ze_dp_cons {α : Type} {l t : List α} {i : Nat} {a : α} (h : ze_dp l i = a :: t) : l[i]? = some a := by
  rw [ze_dp_eq] at h
  have h2 : (l.drop i)[0]? = l[i + 0]? := List.getElem?_drop
  rw [h] at h2
  exact h2.symm
/-- the i-th of a list, then go on -/
noncomputable def ze_n {α : Type} (l : List α) (i : Nat) (f : α → Bool) : Bool := List.rec (motive := fun _ => Bool) false (fun a _ _ => f a) (ze_dp l i)
theorem ze_n_spec {α : Type} : ∀ (l : List α) (i : Nat) (f : α → Bool), ze_n l i f = true → ∃ a, l[i]? = some a ∧ f a = true := by
  intro l i f h
  unfold ze_n at h
  cases hd : ze_dp l i with
  | nil => rw [hd] at h; cases h
  | cons a t => rw [hd] at h; exact ⟨a, ze_dp_cons hd, h⟩
noncomputable def ze_s {α : Type} (v : α) (l : List α) : Nat → List α := List.rec (motive := fun _ => Nat → List α) (fun _ => []) (fun a t ih i => Nat.rec (motive := fun _ => List α) (v :: t) (fun j _ => a :: ih j) i) l
theorem ze_s_eq {α : Type} (v : α) : ∀ (l : List α) (i : Nat), ze_s v l i = l.set i v := by
  intro l
  induction l with
  | nil => intro i; rfl
  | cons a t ih =>
    intro i
    cases i with
    | zero => rfl
    | succ j => exact congrArg (List.cons a) (ih j)
noncomputable def ze_m {α : Type} (f : α → α) (l : List α) : Nat → List α := List.rec (motive := fun _ => Nat → List α) (fun _ => []) (fun a t ih i => Nat.rec (motive := fun _ => List α) (f a :: t) (fun j _ => a :: ih j) i) l
theorem ze_m_get {α : Type} (f : α → α) : ∀ (l : List α) (i j : Nat), (ze_m f l i)[j]? = if j = i then (l[i]?).map f else l[j]? := by
  intro l
  induction l with
  | nil => intro i j; show (([] : List α))[j]? = _; simp
  | cons a t ih =>
    intro i j
    cases i with
    | zero =>
      show (f a :: t)[j]? = _
      cases j with
      | zero => simp
      | succ j => simp
    | succ i =>
      show (a :: ze_m f t i)[j]? = _
      cases j with
      | zero => simp
      | succ j => simp [ih i j]
/-- a cell of a world -/
noncomputable def ze_gw (w : EW) (k : Nat) : Option EC := (w.2[k / 16]?).bind (fun ch => ch[k % 16]?)
noncomputable def ze_g (w : EW) (k : Nat) (f : EC → Bool) : Bool := ze_n w.2 (Nat.div k 16) (fun ch => ze_n ch (Nat.mod k 16) f)
theorem ze_g_spec {w : EW} {k : Nat} {f : EC → Bool} (h : ze_g w k f = true) : ∃ c, ze_gw w k = some c ∧ f c = true := by
  obtain ⟨ch, h1, h2⟩ := ze_n_spec _ _ _ h
  obtain ⟨c, h3, h4⟩ := ze_n_spec _ _ _ h2
  refine ⟨c, ?_, h4⟩
  have h1' : w.2[k / 16]? = some ch := h1
  have h3' : ch[k % 16]? = some c := h3
  unfold ze_gw
  rw [h1']
  exact h3'
noncomputable def ze_ws (w : EW) (k : Nat) (c : EC) : EW := (w.1, ze_m (fun ch => ze_s c ch (Nat.mod k 16)) w.2 (Nat.div k 16))
theorem ze_ws_get (w : EW) (k : Nat) (c : EC) (j : Nat) : ze_gw (ze_ws w k c) j = if j = k then (ze_gw w k).map (fun _ => c) else ze_gw w j := by
  show ((ze_m (fun ch => ze_s c ch (k % 16)) w.2 (k / 16))[j / 16]?).bind _ = _
  rw [ze_m_get]
  by_cases h : j / 16 = k / 16
  · rw [if_pos h]
    unfold ze_gw
    by_cases h2 : j = k
    · subst h2
      rw [if_pos rfl]
      cases hc : w.2[j / 16]? with
      | none => simp
      | some ch =>
        simp [ze_s_eq, List.getElem?_set]
        by_cases h3 : j % 16 < ch.length
        · simp [h3]
        · simp [h3]
    · rw [if_neg h2, h]
      have h4 : k % 16 ≠ j % 16 := by omega
      cases hc : w.2[k / 16]? with
      | none => simp
      | some ch => simp [ze_s_eq, List.getElem?_set, h4]
  · rw [if_neg h]
    have h2 : j ≠ k := by intro q; subst q; exact h rfl
    rw [if_neg h2]
    rfl
/-- one more cell -/
noncomputable def ze_wp (w : EW) (c : EC) (f : EW → Bool) : Bool :=
  zcd (Nat.beq (Nat.mod w.1 16) 0) (zcd (Nat.beq w.2.length (Nat.div w.1 16)) (f (Nat.succ w.1, w.2 ++ [[c]])) false)
    (ze_n w.2 (Nat.div w.1 16) (fun ch => zcd (Nat.beq ch.length (Nat.mod w.1 16)) (f (Nat.succ w.1, ze_m (fun ch => ch ++ [c]) w.2 (Nat.div w.1 16))) false))
theorem ze_cond {b : Bool} {x y : Bool} (h : zcd b x y = true) : (b = true ∧ x = true) ∨ (b = false ∧ y = true) := by
  cases b
  · exact Or.inr ⟨rfl, h⟩
  · exact Or.inl ⟨rfl, h⟩
theorem ze_condf {b x : Bool} (h : zcd b x false = true) : b = true ∧ x = true := by
  cases b
  · exact Bool.noConfusion (show false = true from h)
  · exact ⟨rfl, h⟩
theorem ze_condt {b x : Bool} (h : zcd b x true = true) (hb : b = true) : x = true := by
  cases b
  · exact Bool.noConfusion (show false = true from hb)
  · exact h
theorem ze_and {x y : Bool} (h : zcd x y false = true) : x = true ∧ y = true := ze_condf h
theorem ze_beq {a b : Nat} (h : Nat.beq a b = true) : a = b := Nat.eq_of_beq_eq_true h
theorem ze_wp_spec {w : EW} {c : EC} {f : EW → Bool} (h : ze_wp w c f = true) : ∃ w' : EW, f w' = true ∧ w'.1 = w.1 + 1 ∧ ∀ (k : Nat) (c' : EC), ze_gw w' k = some c' → (k = w.1 ∧ c' = c) ∨ (k ≠ w.1 ∧ ze_gw w k = some c') := by
  rcases ze_cond h with ⟨h1, h2⟩ | ⟨h1, h2⟩
  · obtain ⟨h3, h4⟩ := ze_condf h2
    have e1 : w.1 % 16 = 0 := ze_beq h1
    have e2 : w.2.length = w.1 / 16 := ze_beq h3
    refine ⟨_, h4, rfl, fun k c' hk => ?_⟩
    have hk : ((w.2 ++ [[c]])[k / 16]?).bind (fun ch => ch[k % 16]?) = some c' := hk
    by_cases hl : k / 16 < w.2.length
    · rw [List.getElem?_append_left hl] at hk
      refine Or.inr ⟨?_, hk⟩
      intro q
      subst q
      omega
    · rw [List.getElem?_append_right (by omega)] at hk
      by_cases hz : k / 16 - w.2.length = 0
      · rw [hz] at hk
        simp at hk
        by_cases h16 : k % 16 = 0
        · rw [h16] at hk
          simp at hk
          exact Or.inl ⟨by omega, hk.symm⟩
        · obtain ⟨q, hq⟩ : ∃ q, k % 16 = q + 1 := ⟨k % 16 - 1, by omega⟩
          rw [hq] at hk
          simp at hk
      · obtain ⟨q, hq⟩ : ∃ q, k / 16 - w.2.length = q + 1 := ⟨k / 16 - w.2.length - 1, by omega⟩
        rw [hq] at hk
        simp at hk
  · obtain ⟨ch, h3, h4⟩ := ze_n_spec _ _ _ h2
    obtain ⟨h5, h6⟩ := ze_condf h4
    have e1 : ch.length = w.1 % 16 := ze_beq h5
    have h3 : w.2[w.1 / 16]? = some ch := h3
    refine ⟨_, h6, rfl, fun k c' hk => ?_⟩
    have hk : ((ze_m (fun ch => ch ++ [c]) w.2 (w.1 / 16))[k / 16]?).bind (fun ch => ch[k % 16]?) = some c' := hk
    rw [ze_m_get] at hk
    by_cases hq : k / 16 = w.1 / 16
    · rw [if_pos hq, h3] at hk
      simp at hk
      by_cases hl : k % 16 < ch.length
      · rw [List.getElem?_append_left hl] at hk
        refine Or.inr ⟨fun q => by subst q; omega, ?_⟩
        unfold ze_gw
        rw [hq, h3]
        exact hk
      · rw [List.getElem?_append_right (by omega)] at hk
        by_cases hz : k % 16 - ch.length = 0
        · rw [hz] at hk
          simp at hk
          exact Or.inl ⟨by omega, hk.symm⟩
        · obtain ⟨q, hq2⟩ : ∃ q, k % 16 - ch.length = q + 1 := ⟨k % 16 - ch.length - 1, by omega⟩
          rw [hq2] at hk
          simp at hk
    · rw [if_neg hq] at hk
      exact Or.inr ⟨fun q => hq (by rw [q]), hk⟩
/-- by what a list, a value is: by their recursors, which the kernel works out at once -/
noncomputable def zl_ (st : List EV) (f : EV → List EV → Bool) : Bool := List.rec (motive := fun _ => Bool) false (fun v r _ => f v r) st
noncomputable def zl_0 (st : List EV) (d : Bool) : Bool := List.rec (motive := fun _ => Bool) d (fun _ _ _ => false) st
noncomputable def zv_ (v : EV) (fi : (Nat ⊕ Nat) → Bool) (fr : Nat → Bool) (fl : (Nat ⊕ Nat) → Bool) (fx : Nat → Bool) : Bool := Sum.rec (motive := fun _ => Bool) fi (fun u => Sum.rec (motive := fun _ => Bool) (fun z => Sum.rec (motive := fun _ => Bool) fr fl z) fx u) v
noncomputable def zv_r (v : EV) (f : Nat → Bool) : Bool := Sum.rec (motive := fun _ => Bool) (fun _ => false) (fun u => Sum.rec (motive := fun _ => Bool) (fun z => Sum.rec (motive := fun _ => Bool) f (fun _ => false) z) (fun _ => false) u) v
noncomputable def zv_i (v : EV) (f : (Nat ⊕ Nat) → Bool) : Bool := Sum.rec (motive := fun _ => Bool) f (fun _ => false) v
noncomputable def zv_c (v : EV) (f : Nat → Bool) : Bool := Sum.rec (motive := fun _ => Bool) (fun u => Sum.rec (motive := fun _ => Bool) f (fun _ => false) u) (fun _ => false) v
noncomputable def zv_l (v : EV) (f : (Nat ⊕ Nat) → Bool) : Bool := Sum.rec (motive := fun _ => Bool) (fun _ => false) (fun u => Sum.rec (motive := fun _ => Bool) (fun z => Sum.rec (motive := fun _ => Bool) (fun _ => false) f z) (fun _ => false) u) v
noncomputable def zv_s (v : Nat ⊕ Nat) (f g : Nat → Bool) : Bool := Sum.rec (motive := fun _ => Bool) f g v
/-- one more behind a list; a list's length -/
noncomputable def ze_ap {α : Type} (l : List α) (x : α) : List α := List.rec (motive := fun _ => List α) [x] (fun a _ ih => a :: ih) l
theorem ze_ap_eq {α : Type} (l : List α) (x : α) : ze_ap l x = l ++ [x] := by
  induction l with
  | nil => rfl
  | cons a t ih => exact congrArg (List.cons a) ih
noncomputable def ze_len {α : Type} (l : List α) : Nat := List.rec (motive := fun _ => Nat) 0 (fun _ _ ih => Nat.succ ih) l
theorem ze_len_eq {α : Type} (l : List α) : ze_len l = l.length := by
  induction l with
  | nil => rfl
  | cons a t ih => exact congrArg Nat.succ ih
