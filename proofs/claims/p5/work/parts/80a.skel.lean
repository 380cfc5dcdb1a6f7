def R_law : String := "ConfettiMinutesLaw"
def lw_P (b : Addr) (xs : List Int32) (args : Array Value) (s : State) : Prop := args = #[.ref b] ∧ s.IntsAt b xs ∧ xs.length ≤ 2560 ∧ (Jvm.Cond.and given_1 narrow_1).before args s = true
def lw_Q (_ : Array Value) (s : State) (o : Outcome) (t : State) : Prop := o = .returned (some (.int 1)) ∧ Framed s o t [] 601024 7293034
def lw_Z (below : List Frame) (a : Array Value) (s : State) : State → Prop := fun t => ∃ o, t.status = .running ∧ Ended t below o ∧ lw_Q a s o t
/-- the law's own end, with 1 on the stack, nothing written that was there before, its room as the claim has it -/
theorem lw_ret {p : Program} {l : Launch} {e : Env} {s : State} {m : MethodId} {below : List Frame} {meth : Method} {c : Code} {b : Nat} (hx : p.tables.exec = Jvm.exec) (hb : c.code = code) (hr : meth.sig.returnType = ret) (hlocks : meth.locks = false) {pc : Nat} {H : Heap} {ls : Array Slot} (hdg : decode code pc = .ok (.ireturn, 1)) : W p l e room_1 s m #[Value.ref b] below meth c H [] 601024 7293034 (lw_Z below #[Value.ref b] s) (F0 m pc ls [.int 1]) := by
  intro T hT X
  obtain ⟨fs, hret, hrun, hended, hW, hframe⟩ := X.leave (v := some (.int 1)) (hlocks := hlocks) (fun h => by rw [hr] at h; cases h)
  have hmeth' : T.vm.method? m = some meth := X.method'
  refine ⟨T.setFrames fs, ?_, .returned (some (.int 1)), hrun, hended, rfl, ⟨_, rfl⟩, hW, hframe⟩
  jvm_step X.here [X.here.top, hx, hb, hdg, hmeth', hr, ret, narrow_b1]
  (try refine ⟨rfl, ?_⟩); (try refine ⟨rfl, ?_⟩)
  first | (intro acts; rw [hret _ acts rfl rfl rfl]) | rw [hret _ _ rfl rfl rfl]
  exact Steps.refl _
/-- what holds at the law's entry: the machine, the code, the tables' words (any of lw_tbl by 'hts w (by decide +kernel)'), the script of L ints xs at the cell b, what the Statement gives of the start (any of its parts by flat_of_before) -/
def lw_At (p : Program) (s : State) (m : MethodId) (meth : Method) (c : Code) (b L : Nat) (xs : Nat → Int32) : Prop :=
  p.tables.exec = Jvm.exec ∧ c.code = code ∧ meth.sig.returnType = ret ∧ c.maxLocals = 8 ∧ s.vm.findClass R_law = some m.cls ∧ (∀ w ∈ lw_tbl, w.before #[Value.ref b] s = true) ∧ va_X b L xs s s.heap ∧ b < s.heap.size ∧ meth.locks = false ∧ (Jvm.Cond.and given_1 narrow_1).before #[Value.ref b] s = true
/-! THE ENGINE, part 15: what holds at the law's entry -/
theorem zL_arr {s : State} {args : Array Value} {ty : FieldType} (h : (Cond.arrayClass ty).before args s = true) : ∃ cA, ArrOfT s cA ty ∧ s.vm.findClass ("[" ++ ty.toString) = some cA := by
  obtain ⟨cA, k, comp, h1, h2, h3⟩ := Cond.arrayClass_spec h
  exact ⟨cA, fun n z => ⟨(fun k9 q => by cases q), k, h2, comp, h3⟩, h1⟩
theorem zL_arq {s : State} {args : Array Value} {C : String} (h : (Cond.arrayOver (.object C)).before args s = true) : ∃ cA, ArrOfT s cA (.object C) ∧ va_RA s cA (.object C) := by
  obtain ⟨comp, cA, k, h1, h2, h3, h4, h5⟩ := Cond.arrayOver_spec h
  exact ⟨cA, fun n z => ⟨(fun k9 q => by cases q), k, h3, comp, h4⟩, k, comp, h3, h4, h1, h5⟩
/-- the classes, the arrays, the nest mates' links: as the tables have them -/
theorem zL_K {s : State} {args : Array Value} (hCF : ze_CF) (hts : ∀ w ∈ lw_tbl, w.before args s = true)
    (hi : ∀ (ci : Nat) (q : vw_C), vwCl[ci]? = some q → ∃ n, Cond.instantiable q.1 n ∈ lw_tbl)
    (hr : Cond.arrayClass .int ∈ lw_tbl ∧ Cond.arrayClass .char ∈ lw_tbl ∧ Cond.arrayClass .boolean ∈ lw_tbl ∧ Cond.arrayClass .long ∈ lw_tbl)
    (hn : ∀ w ∈ ze_nest, w ∈ lw_tbl) (ha : Cond.arrayOver (.object "ConfettiMinutes$Town") ∈ lw_tbl) : ∃ (dC : Nat → ClassId) (dI : Nat → Nat → Nat) (dA : Nat → ClassId), ze_K dC dI dA s := by
  have hk : ∀ c : Nat, ∃ (cC : ClassId) (iS : Nat → Nat), ∀ q : vw_C, vwCl[c]? = some q → u_Kn s q.1 q.2.1 q.2.2 cC iS := by
    intro c
    cases hc : vwCl[c]? with
    | none => exact ⟨0, fun _ => 0, fun q hq => by cases hq⟩
    | some q =>
      obtain ⟨n, h1⟩ := hi c q hc
      obtain ⟨cC, iS, h2⟩ := u_known (C := q.1) (T := q.2.1) (N := q.2.2) hts (fun w hw => (zb_good w ((hCF c q.1 q.2.1 q.2.2 hc).2.1 w hw)).1) (hts _ h1)
      exact ⟨cC, iS, fun q' hq => by cases hq; exact h2⟩
  obtain ⟨a0, b0, c0⟩ := zL_arr (hts _ hr.1)
  obtain ⟨a1, b1, c1⟩ := zL_arr (hts _ hr.2.1)
  obtain ⟨a4, b4, c4⟩ := zL_arr (hts _ hr.2.2.1)
  obtain ⟨a5, b5, c5⟩ := zL_arr (hts _ hr.2.2.2)
  obtain ⟨a9, b9, c9⟩ := zL_arq (hts _ ha)
  refine ⟨fun c => (hk c).choose, fun c => (hk c).choose_spec.choose, fun kd => if kd = 100 then a0 else if kd = 101 then a1 else if kd = 104 then a4 else if kd = 150 then a5 else a9, fun c q hq => (hk c).choose_spec.choose_spec q hq, ?_, ?_, ?_⟩
  · intro kd ty h
    have h : (kd, ty) ∈ [(100, FieldType.int), (101, .char), (104, .boolean), (150, .long), (209, .object "ConfettiMinutes$Town")] := h
    simp only [List.mem_cons, List.not_mem_nil, or_false, Prod.mk.injEq] at h
    rcases h with ⟨rfl, rfl⟩ | ⟨rfl, rfl⟩ | ⟨rfl, rfl⟩ | ⟨rfl, rfl⟩ | ⟨rfl, rfl⟩
    · exact ⟨b0, c0⟩
    · exact ⟨b1, c1⟩
    · exact ⟨b4, c4⟩
    · exact ⟨b5, c5⟩
    · exact ⟨b9, c9⟩
  · intro w hw
    have h1 := hts w (hn w hw)
    rcases ze_nest_sh hw with ⟨a, i, b, n, d, q, rfl⟩ | ⟨a, i, x, q, rfl⟩
    · exact va_Nw.of rfl h1
    · exact va_Nw.of rfl h1
  · intro C hC
    have hC : C ∈ ["ConfettiMinutes$Town"] := hC
    simp only [List.mem_cons, List.not_mem_nil, or_false] at hC
    subst hC
    exact va_AO.of (hts _ ha)
/-! the classes at the law's entry -/
theorem zL_nest : ∀ w ∈ ze_nest, w ∈ lw_tbl := by decide +kernel
theorem zL_inst : ∀ (ci : Nat) (q : vw_C), vwCl[ci]? = some q → ∃ n, Cond.instantiable q.1 n ∈ lw_tbl := by
  intro ci q h
  match ci, h with
  | 0, h => cases h; exact ⟨_, zc_1 (List.mem_of_getElem? (i := 217) rfl)⟩
  | 1, h => cases h; exact ⟨_, zc_1 (List.mem_of_getElem? (i := 204) rfl)⟩
  | 2, h => cases h; exact ⟨_, zc_1 (List.mem_of_getElem? (i := 177) rfl)⟩
  | 3, h => cases h; exact ⟨_, zc_1 (List.mem_of_getElem? (i := 111) rfl)⟩
  | 4, h => cases h; exact ⟨_, zc_1 (List.mem_of_getElem? (i := 49) rfl)⟩
  | 5, h => cases h; exact ⟨_, zc_1 (List.mem_of_getElem? (i := 230) rfl)⟩
  | 6, h => cases h; exact ⟨_, zc_1 (List.mem_of_getElem? (i := 35) rfl)⟩
  | 7, h => cases h; exact ⟨_, zc_1 (List.mem_of_getElem? (i := 152) rfl)⟩
  | 8, h => cases h; exact ⟨_, zc_1 (List.mem_of_getElem? (i := 171) rfl)⟩
  | 9, h => cases h; exact ⟨_, zc_1 (List.mem_of_getElem? (i := 63) rfl)⟩
  | 10, h => cases h; exact ⟨_, zc_1 (List.mem_of_getElem? (i := 136) rfl)⟩
  | 11, h => cases h; exact ⟨_, zc_1 (List.mem_of_getElem? (i := 27) rfl)⟩
  | 12, h => cases h; exact ⟨_, zc_6 (List.mem_of_getElem? (i := 84) rfl)⟩
  | ci + 13, h => cases h
theorem zL_Ks {s : State} {args : Array Value} (hts : ∀ w ∈ lw_tbl, w.before args s = true) : ∃ (dC : Nat → ClassId) (dI : Nat → Nat → Nat) (dA : Nat → ClassId), ze_K dC dI dA s :=
  zL_K zF_CF hts zL_inst ⟨zc_1 (List.mem_of_getElem? (i := 109) rfl), zc_1 (List.mem_of_getElem? (i := 47) rfl), zc_7 (List.mem_of_getElem? (i := 0) rfl), zc_1 (List.mem_of_getElem? (i := 61) rfl)⟩ zL_nest (zc_1 (List.mem_of_getElem? (i := 117) rfl))
