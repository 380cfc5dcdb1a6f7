/-! THE ENGINE, part 13: tables -/
def ZP (m : EM) (q : ZMt) : Prop := m.2.1 = q.2.2.1 ∧ m.2.2.1 = q.2.2.2.2.2.1 ∧ m.2.2.2 = q.2.2.2.2.2.2 ∧ plainName q.1.cls = true ∧ zn q.2.2.2.2.1 = q.1.cls ∧ ∃ ini : Bool, (ini = true → q.1.name = "<init>") ∧ (∀ cs ∈ m.1, zk_code q.2.2.2.2.1 q.2.1 q.2.2.1 q.2.2.2.1 ini m.1 cs = true) ∧ ∃ e r, m.1[0]? = some (e :: r) ∧ e.2.1 = 0
def ZL : List EM → List (Option ZMt) → Prop
  | [], _ => True
  | m :: ms, qs => match qs with
    | [] => True
    | none :: qs => ZL ms qs
    | some q :: qs => ZP m q ∧ ZL ms qs
theorem ZL.nil : ZL [] [] := trivial
theorem ZL.sm {m : EM} {ms : List EM} {q : ZMt} {qs : List (Option ZMt)} (h1 : ZP m q) (h2 : ZL ms qs) : ZL (m :: ms) (some q :: qs) := ⟨h1, h2⟩
theorem ZL.nn {m : EM} {ms : List EM} {qs : List (Option ZMt)} (h2 : ZL ms qs) : ZL (m :: ms) (none :: qs) := h2
theorem ZL.get : ∀ (ms : List EM) (qs : List (Option ZMt)), ZL ms qs → ∀ (i : Nat) (m : EM) (q : ZMt), ms[i]? = some m → qs[i]? = some (some q) → ZP m q := by
  intro ms
  induction ms with
  | nil => intro qs _ i m q h1; cases h1
  | cons a ms ih =>
    intro qs h i m q h1 h2
    cases qs with
    | nil => cases h2
    | cons b qs =>
      cases b with
      | none =>
        cases i with
        | zero => cases h2
        | succ i => exact ih qs h i m q h1 h2
      | some b =>
        cases i with
        | zero => cases h1; cases h2; exact h.1
        | succ i => exact ih qs h.2 i m q h1 h2
def ZLL : List (List EM) → List (List (Option ZMt)) → Prop
  | [], _ => True
  | m :: ms, qs => match qs with
    | [] => True
    | q :: qs => ZL m q ∧ ZLL ms qs
theorem ZLL.nil : ZLL [] [] := trivial
theorem ZLL.cons {m : List EM} {ms : List (List EM)} {q : List (Option ZMt)} {qs : List (List (Option ZMt))} (h1 : ZL m q) (h2 : ZLL ms qs) : ZLL (m :: ms) (q :: qs) := ⟨h1, h2⟩
theorem ZLL.get : ∀ (ms : List (List EM)) (qs : List (List (Option ZMt))), ZLL ms qs → ∀ (i : Nat) (m : List EM) (q : List (Option ZMt)), ms[i]? = some m → qs[i]? = some q → ZL m q := by
  intro ms
  induction ms with
  | nil => intro qs _ i m q h1; cases h1
  | cons a ms ih =>
    intro qs h i m q h1 h2
    cases qs with
    | nil => cases h2
    | cons b qs =>
      cases i with
      | zero => cases h1; cases h2; exact h.1
      | succ i => exact ih qs h.2 i m q h1 h2
theorem ZLL.tab {pr : List (List EM)} (h : ZLL pr zm_) : ZT pr := by
  intro y ch m q h1 h2 h3
  unfold zm at h3
  obtain ⟨c, h4, h5⟩ := Option.bind_eq_some_iff.mp h3
  obtain ⟨q', h6, h7⟩ := Option.bind_eq_some_iff.mp h5
  have h7 : q' = some q := h7
  subst h7
  exact ZL.get _ _ (ZLL.get _ _ h _ _ _ h1 h4) _ _ _ h2 h6
theorem zk_mem1 {o nL : Nat} {cc : ByteArray} {rt : Option FieldType} {ini : Bool} {jt : List (List ECE)} {cs : List ECE} {r : List (List ECE)} (h : zk_code o cc nL rt ini jt cs = true) (h2 : ∀ c ∈ r, zk_code o cc nL rt ini jt c = true) : ∀ c ∈ cs :: r, zk_code o cc nL rt ini jt c = true := fun c hc => (List.mem_cons.mp hc).elim (fun e => e ▸ h) (h2 c)
theorem zk_mem0 {o nL : Nat} {cc : ByteArray} {rt : Option FieldType} {ini : Bool} {jt : List (List ECE)} : ∀ c ∈ ([] : List (List ECE)), zk_code o cc nL rt ini jt c = true := fun c hc => by cases hc
