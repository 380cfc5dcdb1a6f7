/-! THE ENGINE, part 15: what holds at the law's entry -/
theorem zL_arr {s : State} {args : Array Value} {ty : FieldType} (h : (Cond.arrayClass ty).before args s = true) : ∃ cA, ArrOfT s cA ty ∧ s.vm.findClass ("[" ++ ty.toString) = some cA := by
  obtain ⟨cA, k, comp, h1, h2, h3⟩ := Cond.arrayClass_spec h
  exact ⟨cA, fun n z => ⟨(fun k9 q => by cases q), k, h2, comp, h3⟩, h1⟩
theorem zL_arq {s : State} {args : Array Value} {C : String} (h : (Cond.arrayOver (.object C)).before args s = true) : ∃ cA, ArrOfT s cA (.object C) ∧ va_RA s cA (.object C) := by
  obtain ⟨comp, cA, k, h1, h2, h3, h4, h5⟩ := Cond.arrayOver_spec h
  exact ⟨cA, fun n z => ⟨(fun k9 q => by cases q), k, h3, comp, h4⟩, k, comp, h3, h4, h1, h5⟩
/-- the classes, the arrays, the nest mates' links: as the tables have them -/
theorem zL_K {s : State} {args : Array Value} (hCF : ze_CF) (hts : ∀ w ∈ lw_tbl, w.before args s = true)
    (hi : ∀ (ci : Nat) (q : vw_C), vwCl[ci]? = some q → ∃ n, Cond.instantiable q.1 n ∈ lw_tbl)
    (hr : Cond.arrayClass .int ∈ lw_tbl ∧ Cond.arrayClass .char ∈ lw_tbl ∧ Cond.arrayClass .boolean ∈ lw_tbl ∧ Cond.arrayClass .long ∈ lw_tbl)
    (hn : ∀ w ∈ ze_nest, w ∈ lw_tbl) (ha : Cond.arrayOver (.object "ConfettiMinutes$Town") ∈ lw_tbl) : ∃ (dC : Nat → ClassId) (dI : Nat → Nat → Nat) (dA : Nat → ClassId), ze_K dC dI dA s := by
  have hk : ∀ c : Nat, ∃ (cC : ClassId) (iS : Nat → Nat), ∀ q : vw_C, vwCl[c]? = some q → u_Kn s q.1 q.2.1 q.2.2 cC iS := by
    intro c
    cases hc : vwCl[c]? with
    | none => exact ⟨0, fun _ => 0, fun q hq => by cases hq⟩
    | some q =>
      obtain ⟨n, h1⟩ := hi c q hc
      obtain ⟨cC, iS, h2⟩ := u_known (C := q.1) (T := q.2.1) (N := q.2.2) hts (fun w hw => (zb_good w ((hCF c q.1 q.2.1 q.2.2 hc).2.1 w hw)).1) (hts _ h1)
      exact ⟨cC, iS, fun q' hq => by cases hq; exact h2⟩
  obtain ⟨a0, b0, c0⟩ := zL_arr (hts _ hr.1)
  obtain ⟨a1, b1, c1⟩ := zL_arr (hts _ hr.2.1)
  obtain ⟨a4, b4, c4⟩ := zL_arr (hts _ hr.2.2.1)
  obtain ⟨a5, b5, c5⟩ := zL_arr (hts _ hr.2.2.2)
  obtain ⟨a9, b9, c9⟩ := zL_arq (hts _ ha)
  refine ⟨fun c => (hk c).choose, fun c => (hk c).choose_spec.choose, fun kd => if kd = 100 then a0 else if kd = 101 then a1 else if kd = 104 then a4 else if kd = 150 then a5 else a9, fun c q hq => (hk c).choose_spec.choose_spec q hq, ?_, ?_, ?_⟩
  · intro kd ty h
    have h : (kd, ty) ∈ [(100, FieldType.int), (101, .char), (104, .boolean), (150, .long), (209, .object "ConfettiMinutes$Town")] := h
    simp only [List.mem_cons, List.not_mem_nil, or_false, Prod.mk.injEq] at h
    rcases h with ⟨rfl, rfl⟩ | ⟨rfl, rfl⟩ | ⟨rfl, rfl⟩ | ⟨rfl, rfl⟩ | ⟨rfl, rfl⟩
    · exact ⟨b0, c0⟩
    · exact ⟨b1, c1⟩
    · exact ⟨b4, c4⟩
    · exact ⟨b5, c5⟩
    · exact ⟨b9, c9⟩
  · intro w hw
    have h1 := hts w (hn w hw)
    rcases ze_nest_sh hw with ⟨a, i, b, n, d, q, rfl⟩ | ⟨a, i, x, q, rfl⟩
    · exact va_Nw.of rfl h1
    · exact va_Nw.of rfl h1
  · intro C hC
    have hC : C ∈ ["ConfettiMinutes$Town"] := hC
    simp only [List.mem_cons, List.not_mem_nil, or_false] at hC
    subst hC
    exact va_AO.of (hts _ ha)
