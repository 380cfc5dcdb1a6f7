/-! THE ENGINE, part 12: methods -/
theorem ze_pad_get : ∀ (n j : Nat) (v : EV), (ze_pad n)[j]? = some v → v = eX 1 := by
  intro n
  induction n with
  | zero => intro j v h; cases h
  | succ n ih =>
    intro j v h
    cases j with
    | zero => exact (Option.some.inj h).symm
    | succ j => exact ih j v h
theorem ze_il_LL {sp : Nat → Nat} {ρ : List Int32} {ad : List Nat} : ∀ (av : List EV) (vs : List Value) (n i : Nat), ze_L sp ρ ad av vs → ∀ (j : Nat) (v : EV), (ze_il av n)[j]? = some v → v ≠ eX 1 → ∃ x, (i + j, x) ∈ lv_args i vs ∧ ze_V sp ρ ad v x := by
  intro av
  induction av with
  | nil => intro vs n i h j v hj hn; exact absurd (ze_pad_get n j v hj) hn
  | cons a av ih =>
    intro vs n i h j v hj hn
    obtain ⟨y, ys, rfl, h1, h2⟩ := h.cons
    have hc := ze_cat h1
    have hj : (a :: (zcd (Nat.beq (ze_ct a) 2) (eX 1 :: ze_il av (Nat.sub n 2)) (ze_il av (Nat.sub n 1))))[j]? = some v := hj
    cases j with
    | zero =>
      cases (Option.some.inj hj)
      exact ⟨y, List.mem_cons_self, h1⟩
    | succ j =>
      rw [List.getElem?_cons_succ] at hj
      cases hb : Nat.beq (ze_ct a) 2 with
      | true =>
        rw [hb] at hj
        have e2 : y.category = 2 := by rw [hc]; exact Nat.eq_of_beq_eq_true hb
        have hj : (eX 1 :: ze_il av (Nat.sub n 2))[j]? = some v := hj
        cases j with
        | zero => exact absurd (Option.some.inj hj).symm hn
        | succ j =>
          rw [List.getElem?_cons_succ] at hj
          obtain ⟨x, q1, q2⟩ := ih ys (Nat.sub n 2) (i + 2) h2 j v hj hn
          refine ⟨x, List.mem_cons_of_mem _ ?_, q2⟩
          rw [if_pos e2]
          rw [show i + (j + 1 + 1) = i + 2 + j by omega]
          exact q1
      | false =>
        rw [hb] at hj
        have e2 : ¬ y.category = 2 := by
          rw [hc]
          intro q
          rw [q] at hb
          cases hb
        have hj : (ze_il av (Nat.sub n 1))[j]? = some v := hj
        obtain ⟨x, q1, q2⟩ := ih ys (Nat.sub n 1) (i + 1) h2 j v hj hn
        refine ⟨x, List.mem_cons_of_mem _ ?_, q2⟩
        rw [if_neg e2]
        rw [show i + (j + 1) = i + 1 + j by omega]
        exact q1
theorem ze_sl_len : ∀ (vs : List Value), (lg_sl vs).length ≤ (vs.map fun v => v.category).sum := by
  intro vs
  induction vs with
  | nil => exact Nat.le_refl _
  | cons v t ih =>
    have e : lg_sl (v :: t) = (if v.category = 2 then [Slot.val v, .second] else [.val v]) ++ lg_sl t := rfl
    rw [e, List.length_append, List.map_cons, List.sum_cons]
    have : (if v.category = 2 then [Slot.val v, .second] else [.val v]).length ≤ v.category := by
      cases v <;> exact Nat.le_refl _
    omega
/-- the table of rows agrees with the table of methods -/
def ZT (pr : List (List EM)) : Prop := ∀ (y : Nat) (ch : List EM) (m : EM) (q : ZMt), pr[y / 16]? = some ch → ch[y % 16]? = some m → zm y = some q →
  m.2.1 = q.2.2.1 ∧ m.2.2.1 = q.2.2.2.2.2.1 ∧ m.2.2.2 = q.2.2.2.2.2.2 ∧ plainName q.1.cls = true ∧ zn q.2.2.2.2.1 = q.1.cls ∧ ∃ ini : Bool, (ini = true → q.1.name = "<init>") ∧ (∀ cs ∈ m.1, zk_code q.2.2.2.2.1 q.2.1 q.2.2.1 q.2.2.2.1 ini m.1 cs = true) ∧ ∃ e r, m.1[0]? = some (e :: r) ∧ e.2.1 = 0
section ZM
variable {l : Launch} {dC : Nat → ClassId} {dI : Nat → Nat → Nat} {dA : Nat → ClassId} {sp : Nat → Nat} {xs : ZXs} {A : Nat → Prop}
/-- a method's ends -/
theorem ze_ends {p : Program} {e : Env} {R : Room} {s : State} {m : MethodId} {args : Array Value} {below : List Frame} {meth : Method} {c : Code} {nL mc ms : Nat} {cc : ByteArray} {rt : Option FieldType} {k : ERt} {z0 : List Int32 × List Nat} (hx : p.tables.exec = Jvm.exec) (hb : c.code = cc) (hr : meth.sig.returnType = rt) (hlocks : meth.locks = false) : ze_Re p l e R s m args below meth c (MQ below (ze_Qc dC dI dA sp A k z0.1 z0.2) args s mc ms A) z0 dC dI dA sp xs A nL cc rt k mc ms := by
  intro pc nc ns ls st w g ρ ws H locs la vs hH h1 h2
  have hf : ∀ q ∈ locs, A q.base := hH.2.2.2.2.2.1.2.2
  have hP := hH.2.1.2
  have hV := hH.2.2.2.2.2.2.2
  refine ⟨?_, ?_, ?_, ?_⟩
  · intro u x ty e1 e2 e3 e4 e5 e6
    subst e1; subst e2
    exact W.widen h1 h2 (W.zret hx hb (hr.trans e5) e6 (fun t ht hw => ze_Qc_of hH hP.1 hP.2 e3 hV.1 ht) hf e4 hlocks)
  · intro u x e1 e2 e3 e4 e5
    subst e1; subst e2
    exact W.widen h1 h2 (W.lret hx hb (hr.trans e5) (fun t ht hw => ze_Qc_of hH hP.1 hP.2 e3 hV.1 ht) hf e4 hlocks)
  · intro u a ty e1 e2 e3 e4 e5 e6
    subst e1; subst e2
    exact W.widen h1 h2 (W.aret hx hb (hr.trans e5) e6 (Or.inr ⟨a, rfl⟩) (fun t ht hw => ze_Qc_of hH hP.1 hP.2 e3 hV.1 ht) hf e4 hlocks)
  · intro e1 e2 e3 e4 e5
    subst e1; subst e2
    exact W.widen h1 h2 (W.vret hx hb (hr.trans e5) (fun t ht hw => ze_Qc_of (r := none) (v := none) hH hP.1 hP.2 e3 trivial ht) hf e4 hlocks)
end ZM
