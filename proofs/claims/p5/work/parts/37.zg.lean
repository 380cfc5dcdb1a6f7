/-! THE ENGINE, part 14: lists of facts -/
def ZG {α : Type} (P : Nat → α → Prop) : Nat → List (List α) → Prop
  | _, [] => True
  | o, x :: r => (∀ y ∈ x, P o y) ∧ ZG P (o + 1) r
theorem ZG.nil {α : Type} {P : Nat → α → Prop} {o : Nat} : ZG P o [] := trivial
theorem ZG.cons {α : Type} {P : Nat → α → Prop} {o : Nat} {x : List α} {r : List (List α)} (h1 : ∀ y ∈ x, P o y) (h2 : ZG P (o + 1) r) : ZG P o (x :: r) := ⟨h1, h2⟩
theorem ZG.n0 {α : Type} {P : Nat → α → Prop} {o : Nat} : ∀ y ∈ ([] : List α), P o y := fun y h => by cases h
theorem ZG.n1 {α : Type} {P : Nat → α → Prop} {o : Nat} {a : α} {x : List α} (h1 : P o a) (h2 : ∀ y ∈ x, P o y) : ∀ y ∈ a :: x, P o y := fun y h => (List.mem_cons.mp h).elim (fun e => e ▸ h1) (h2 y)
theorem ZG.get {α : Type} {P : Nat → α → Prop} : ∀ (L : List (List α)) (o0 : Nat), ZG P o0 L → ∀ (o : Nat) (x : α), x ∈ L.getD o [] → P (o0 + o) x := by
  intro L
  induction L with
  | nil => intro o0 _ o x h; cases h
  | cons a L ih =>
    intro o0 h o x hx
    cases o with
    | zero => exact h.1 x hx
    | succ o =>
      have := ih (o0 + 1) h.2 o x hx
      rw [show o0 + (o + 1) = o0 + 1 + o by omega]
      exact this
theorem ZG.get0 {α : Type} {P : Nat → α → Prop} {L : List (List α)} (h : ZG P 0 L) (o : Nat) (x : α) (hx : x ∈ L.getD o []) : P o x := by
  have := ZG.get L 0 h o x hx
  rw [Nat.zero_add] at this
  exact this
noncomputable def ztyB (t : Nat) (ty : FieldType) : Bool := match ty with
  | .int => t == 0
  | .boolean => t == 1
  | .object _ => t == 2
  | .array _ => t == 2
  | .long => t == 3
  | .char => t == 4
  | _ => false
theorem ztyB_ok {t : Nat} {ty : FieldType} (h : ztyB t ty = true) : ze_ty t ty := by
  unfold ztyB at h
  split at h
  · exact Or.inl ⟨of_decide_eq_true h, rfl⟩
  · exact Or.inr (Or.inl ⟨of_decide_eq_true h, rfl⟩)
  · exact Or.inr (Or.inr (Or.inl ⟨of_decide_eq_true h, _, rfl⟩))
  · exact Or.inr (Or.inr (Or.inr (Or.inl ⟨of_decide_eq_true h, _, rfl⟩)))
  · exact Or.inr (Or.inr (Or.inr (Or.inr (Or.inl ⟨of_decide_eq_true h, rfl⟩))))
  · exact Or.inr (Or.inr (Or.inr (Or.inr (Or.inr ⟨of_decide_eq_true h, rfl⟩))))
  · cases h
theorem zty_ok {T : u_T} {ty0 : Nat → FieldType} {N : Nat} {tl : List Nat} (h1 : ∀ k, k < N → parseFieldDescriptor (T k).2.2.1 = some (ty0 k)) (h2 : ∀ j, j < N → (tl[j]?).any (fun t => ztyB t (ty0 j)) = true) : ∀ j, j < N → ∃ t ty, tl[j]? = some t ∧ parseFieldDescriptor (T j).2.2.1 = some ty ∧ ze_ty t ty := by
  intro j hj
  have := h2 j hj
  cases ht : tl[j]? with
  | none => rw [ht] at this; cases this
  | some t =>
    rw [ht] at this
    exact ⟨t, ty0 j, rfl, h1 j hj, ztyB_ok this⟩
