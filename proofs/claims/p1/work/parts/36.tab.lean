/-! THE ENGINE, part 13: tables -/
def ZP (m : EM) (q : ZMt) : Prop := m.2.1 = q.2.2.1 ∧ m.2.2.1 = q.2.2.2.2.2.1 ∧ m.2.2.2 = q.2.2.2.2.2.2 ∧ plainName q.1.cls = true ∧ zn q.2.2.2.2.1 = q.1.cls ∧ ∃ ini : Bool, (ini = true → q.1.name = "<init>") ∧ (∀ cs ∈ m.1, zk_code q.2.2.2.2.1 q.2.1 q.2.2.1 q.2.2.2.1 ini m.1 cs = true) ∧ ∃ e r, m.1[0]? = some (e :: r) ∧ e.2.1 = 0
inductive ZL : List EM → List (Option ZMt) → Prop
  | nil : ZL [] []
  | some {m ms q qs} : ZP m q → ZL ms qs → ZL (m :: ms) (some q :: qs)
  | none {m ms qs} : ZL ms qs → ZL (m :: ms) (none :: qs)
theorem ZL.get {ms : List EM} {qs : List (Option ZMt)} (h : ZL ms qs) : ∀ (i : Nat) (m : EM) (q : ZMt), ms[i]? = some m → qs[i]? = some (some q) → ZP m q := by
  induction h with
  | nil => intro i m q h1; cases h1
  | some hp _ ih =>
    intro i m q h1 h2
    cases i with
    | zero => cases h1; cases h2; exact hp
    | succ i => exact ih i m q h1 h2
  | none _ ih =>
    intro i m q h1 h2
    cases i with
    | zero => cases h2
    | succ i => exact ih i m q h1 h2
inductive ZLL : List (List EM) → List (List (Option ZMt)) → Prop
  | nil : ZLL [] []
  | cons {m ms q qs} : ZL m q → ZLL ms qs → ZLL (m :: ms) (q :: qs)
theorem ZLL.get {ms : List (List EM)} {qs : List (List (Option ZMt))} (h : ZLL ms qs) : ∀ (i : Nat) (m : List EM) (q : List (Option ZMt)), ms[i]? = some m → qs[i]? = some q → ZL m q := by
  induction h with
  | nil => intro i m q h1; cases h1
  | cons hp _ ih =>
    intro i m q h1 h2
    cases i with
    | zero => cases h1; cases h2; exact hp
    | succ i => exact ih i m q h1 h2
theorem ZLL.tab {pr : List (List EM)} (h : ZLL pr zm_) : ZT pr := by
  intro y ch m q h1 h2 h3
  unfold zm at h3
  obtain ⟨c, h4, h5⟩ := Option.bind_eq_some_iff.mp h3
  obtain ⟨q', h6, h7⟩ := Option.bind_eq_some_iff.mp h5
  have h7 : q' = some q := h7
  subst h7
  exact (h.get _ _ _ h1 h4).get _ _ _ h2 h6
theorem zk_mem1 {o nL : Nat} {cc : ByteArray} {rt : Option FieldType} {ini : Bool} {jt : List (List ECE)} {cs : List ECE} {r : List (List ECE)} (h : zk_code o cc nL rt ini jt cs = true) (h2 : ∀ c ∈ r, zk_code o cc nL rt ini jt c = true) : ∀ c ∈ cs :: r, zk_code o cc nL rt ini jt c = true := fun c hc => (List.mem_cons.mp hc).elim (fun e => e ▸ h) (h2 c)
theorem zk_mem0 {o nL : Nat} {cc : ByteArray} {rt : Option FieldType} {ini : Bool} {jt : List (List ECE)} : ∀ c ∈ ([] : List (List ECE)), zk_code o cc nL rt ini jt c = true := fun c hc => by cases hc
