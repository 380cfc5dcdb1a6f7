/-! THE ENGINE, part 6: calls and ends -/
theorem ze_nest_sh {w : Cond} (h : w ∈ ze_nest) : (∃ a i b n d q, w = .fieldLinkNest a i b n d q) ∨ ∃ a i x q, w = .methodLinkNest a i x q := by
  rcases List.mem_append.mp h with h | h
  · obtain ⟨q, -, rfl⟩ := List.mem_map.mp h
    exact Or.inl ⟨_, _, _, _, _, _, rfl⟩
  · obtain ⟨q, -, rfl⟩ := List.mem_map.mp h
    exact Or.inr ⟨_, _, _, _, rfl⟩
theorem ze_K.vm {dC : Nat → ClassId} {dI : Nat → Nat → Nat} {dA : Nat → ClassId} {u U : State} (hv : u.vm = U.vm) (h : ze_K dC dI dA u) : ze_K dC dI dA U := by
  have ha : u.vm.Alike U.vm := by rw [hv]; exact Vm.Alike.refl _
  refine ⟨fun c q hq => u_Kn_moved ha (h.1 c q hq), fun kd ty hk => ⟨arrOfT_moved ha (h.2.1 kd ty hk).1, (h.2.1 kd ty hk).2.moved ha⟩, fun w hw => ?_, fun C hC => (h.2.2.2 C hC).moved ha⟩
  rcases ze_nest_sh hw with ⟨a, i, b, n, d, q, rfl⟩ | ⟨a, i, x, q, rfl⟩
  · exact va_Nw.same rfl hv (h.2.2.1 _ hw)
  · exact va_Nw.same rfl hv (h.2.2.1 _ hw)
theorem ze_K.warm {dC : Nat → ClassId} {dI : Nat → Nat → Nat} {dA : Nat → ClassId} {s U : State} (hW : s.WarmedH U.vm) (h : ze_K dC dI dA s) : ze_K dC dI dA U := by
  have ha : s.vm.Alike U.vm := hW.alike
  refine ⟨fun c q hq => u_Kn_moved ha (h.1 c q hq), fun kd ty hk => ⟨arrOfT_moved ha (h.2.1 kd ty hk).1, (h.2.1 kd ty hk).2.moved ha⟩, fun w hw => ?_, fun C hC => (h.2.2.2 C hC).moved ha⟩
  rcases ze_nest_sh hw with ⟨a, i, b, n, d, q, rfl⟩ | ⟨a, i, x, q, rfl⟩
  · exact va_Nw.warmF hW (h.2.2.1 _ hw)
  · exact va_Nw.warmM hW (h.2.2.1 _ hw)
noncomputable def ze_OV (sp : Nat → Nat) (ρ : List Int32) (ad : List Nat) (r : Option EV) (v : Option Value) : Prop := match r, v with
  | none, none => True
  | some e, some x => ze_V sp ρ ad e x
  | none, some _ => False
  | some _, none => False
/-- a callee's end -/
noncomputable def ze_Qc (dC : Nat → ClassId) (dI : Nat → Nat → Nat) (dA : Nat → ClassId) (sp : Nat → Nat) (A : Nat → Prop) (k : ERt) (ρ : List Int32) (ad : List Nat) : Array Value → State → Outcome → State → Prop := fun _ st oc t =>
  (∃ (r : Option EV) (w' : EW) (g' : EG) (ρ' : List Int32) (ws' : va_W) (v : Option Value), k r w' g' = true ∧ ρ <+: ρ' ∧ ad <+: ws'.map (·.1) ∧ ze_G g' ρ' ∧ ze_W dA sp ρ' w' ws' ∧ va_P (dC, dI) vwCl ws' t.heap ∧ va_D A ws' ∧ ze_OV sp ρ' (ws'.map (·.1)) r v ∧ oc = .returned v) ∧ va_F A st t
/-- a callee's start -/
noncomputable def ze_Pc (dC : Nat → ClassId) (dI : Nat → Nat → Nat) (dA : Nat → ClassId) (sp : Nat → Nat) (xs : ZXs) (A : Nat → Prop) (ws : va_W) : State → Prop := fun U =>
  va_P (dC, dI) vwCl ws U.heap ∧ ze_K dC dI dA U ∧ va_D A ws ∧ (∀ q, U.heap.size ≤ q → A q) ∧ ze_X sp xs A U
theorem ze_blind {dC : Nat → ClassId} {dI : Nat → Nat → Nat} {dA : Nat → ClassId} {sp : Nat → Nat} {xs : ZXs} {A : Nat → Prop} {ws : va_W} {avs : List Value} : FrameBlind (va_Pc avs (ze_Pc dC dI dA sp xs A ws)) := by
  intro a U g mk q
  obtain ⟨q0, q1, q2, q3, q4, q5, q6, q7, q8, q9, q10⟩ := q
  exact ⟨q0, q1, q2.vm (u := U) (U := U.calling g mk a) rfl, q3, q4, va_X.moved (u := U) (U := U.calling g mk a) (Vm.Alike.refl U.vm) q5, q6, q7, q8, q9, q10.calls⟩
theorem ze_tk_spec : ∀ (n : Nat) (st acc : List EV) (f : List EV → List EV → Bool), ze_tk n st acc f = true → ∃ pop rest, st = pop ++ rest ∧ pop.length = n ∧ f (pop.reverse ++ acc) rest = true := by
  intro n
  induction n with
  | zero => intro st acc f h; exact ⟨[], st, rfl, rfl, h⟩
  | succ n ih =>
    intro st acc f h
    cases st with
    | nil => exact absurd h (by intro q; cases q)
    | cons v r =>
      have h : ze_tk n r (v :: acc) f = true := h
      obtain ⟨pop, rest, h1, h2, h3⟩ := ih r (v :: acc) f h
      exact ⟨v :: pop, rest, by rw [h1]; rfl, by simp [h2], by simpa using h3⟩
theorem ze_L.split {sp : Nat → Nat} {ρ : List Int32} {ad : List Nat} : ∀ {l1 l2 : List EV} {vs : List Value}, ze_L sp ρ ad (l1 ++ l2) vs → ∃ v1 v2, vs = v1 ++ v2 ∧ ze_L sp ρ ad l1 v1 ∧ ze_L sp ρ ad l2 v2 := by
  intro l1
  induction l1 with
  | nil => intro l2 vs h; exact ⟨[], vs, rfl, trivial, h⟩
  | cons a l1 ih =>
    intro l2 vs h
    obtain ⟨y, ys, rfl, h1, h2⟩ := ze_L.cons h
    obtain ⟨v1, v2, rfl, h3, h4⟩ := ih h2
    exact ⟨y :: v1, v2, rfl, ⟨h1, h3⟩, h4⟩
theorem ze_L.app {sp : Nat → Nat} {ρ : List Int32} {ad : List Nat} : ∀ {l1 l2 : List EV} {v1 v2 : List Value}, ze_L sp ρ ad l1 v1 → ze_L sp ρ ad l2 v2 → ze_L sp ρ ad (l1 ++ l2) (v1 ++ v2) := by
  intro l1
  induction l1 with
  | nil => intro l2 v1 v2 h1 h2; rw [h1.nil]; exact h2
  | cons a l1 ih =>
    intro l2 v1 v2 h1 h2
    obtain ⟨y, ys, rfl, h3, h4⟩ := h1.cons
    exact ⟨h3, ih h4 h2⟩
theorem ze_L.rev {sp : Nat → Nat} {ρ : List Int32} {ad : List Nat} : ∀ {l : List EV} {vs : List Value}, ze_L sp ρ ad l vs → ze_L sp ρ ad l.reverse vs.reverse := by
  intro l
  induction l with
  | nil => intro vs h; rw [h.nil]; trivial
  | cons a l ih =>
    intro vs h
    obtain ⟨y, ys, rfl, h1, h2⟩ := h.cons
    rw [List.reverse_cons, List.reverse_cons]
    exact (ih h2).app ⟨h1, trivial⟩
theorem ze_cs_sum {sp : Nat → Nat} {ρ : List Int32} {ad : List Nat} : ∀ {l : List EV} {vs : List Value}, ze_L sp ρ ad l vs → (vs.map fun v => v.category).sum = ze_cs l := by
  intro l
  induction l with
  | nil => intro vs h; rw [h.nil]; rfl
  | cons a l ih =>
    intro vs h
    obtain ⟨y, ys, rfl, h1, h2⟩ := h.cons
    show y.category + (ys.map fun v => v.category).sum = ze_ct a + ze_cs l
    rw [ih h2, ze_cat h1]
section ZC
variable {p : Program} {l : Launch} {e : Env} {R : Room} {s : State} {m : MethodId} {args : Array Value} {below : List Frame} {meth : Method} {c : Code} {Q : State → Prop}
variable {z0 : List Int32 × List Nat} {dC : Nat → ClassId} {dI : Nat → Nat → Nat} {dA : Nat → ClassId} {sp : Nat → Nat} {xs : ZXs} {A : Nat → Prop} {nL : Nat} {V : List ECE → Prop}
variable {kk : EKn} {k : ERt} {cal : ECal} {mc ms pc pc2 ca cb cd nc ns : Nat} {nx : List ECE} {jp : EJp} {tl : List Nat} {ls st : List EV} {w : EW} {g : EG} {ρ : List Int32} {ws : va_W} {H : Heap} {locs : List Loc} {la : Array Slot} {vs : List Value}
variable {cc : ByteArray} {own : String} {idx : Nat}
/-- the callee's start holds at the call -/
theorem ze_pre9 (hKs : ze_K dC dI dA s) (hsc : ze_X sp xs A s) (hA : ∀ q, s.heap.size ≤ q → A q) (hH : ze_H z0 dC dI dA sp xs A s nL ls st w g ρ ws H locs la vs) {avs : List Value} : ∀ U : State, U.heap = H → s.WarmedH U.vm → va_Pc avs (ze_Pc dC dI dA sp xs A ws) avs.toArray U := by
  intro U hU hW
  have hS := hH.2.2.2.2.2.1
  refine ⟨rfl, by rw [hU]; exact hH.2.2.2.1, hKs.warm hW, hH.2.2.2.2.1, fun q hq => hA q (Nat.le_trans hS.1 (by rw [← hU]; exact hq)), ?_, by rw [hU]; exact Nat.lt_of_lt_of_le hsc.2.1 hS.1, hsc.2.2.1, hsc.2.2.2.1, hsc.2.2.2.2.1, hsc.2.2.2.2.2.at (locs := locs) (by rw [hU]; exact hS) hW⟩
  rw [hU]
  exact (hsc.1.kept (hS.2.1 _ hsc.2.1 hsc.2.2.1)).moved hW.alike
/-- behind a call -/
theorem zs_after {r9 : ERt} {cy sy : Nat} {rest : List EV} {vr : List Value} {av : Array Value} (hK : ze_KK p l e R s m args below meth c Q z0 dC dI dA sp xs A nL V kk) (hn : ze_at V nx (pc + 3)) (hH : ze_H z0 dC dI dA sp xs A s nL ls st w g ρ ws H locs la vs) (hrest : ze_L sp ρ (ws.map (·.1)) rest vr)
    (hk9 : ∀ r w' g', r9 r w' g' = true → kk nx ls (ze_pu r rest) w' g' (nc + cy) (ns + sy) = true)
    (hrun : va_Run p l e R s m args below meth c H locs nc ns cy sy (F0 m pc la vs) vr (ze_Qc dC dI dA sp A r9 ρ (ws.map (·.1)) av) A) : W p l e R s m args below meth c H locs nc ns Q (F0 m pc la vs) := by
  intro T hT X
  obtain ⟨v, st₀, t, T', L, h0, X', hL, e1, e2, ⟨⟨r, w', g', ρ', ws', v', hk, hρ, had, hG', hW', hP', hD', hOV, hoc⟩, hz, hkp⟩, hgo⟩ := hrun T hT X
  have hvv : v = v' := Outcome.returned.inj hoc
  subst hvv
  rw [h0] at hz hkp
  obtain ⟨hG, hX5, hW, hP, hD, hS, ⟨lv, hl, hLL⟩, hV⟩ := hH
  have hS' : va_S A s.heap T'.heap (locs ++ L) := ⟨Nat.le_trans hS.1 (by rw [e1]; exact hz), fun q h1 h2 => by rw [e1, hkp q (Nat.lt_of_lt_of_le h1 hS.1) h2]; exact hS.2.1 q h1 h2, fun q hq => by
      rcases List.mem_append.mp hq with h | h
      · exact hS.2.2 q h
      · exact hL q h⟩
  have hr2 := hrest.mono hρ had
  have hst : ze_L sp ρ' (ws'.map (·.1)) (ze_pu r rest) (v.toList ++ vr) := by
    match r, v, hOV with
    | none, none, _ => exact hr2
    | some e9, some x9, h9 => exact ⟨h9, hr2⟩
    | none, some _, h9 => exact absurd h9 (fun q => q)
    | some _, none, h9 => exact absurd h9 (fun q => q)
  obtain ⟨t2, a1, b1⟩ := hK _ _ _ _ _ _ _ (hk9 r w' g' hk) _ hn ρ' ws' T'.heap (locs ++ L) la (v.toList ++ vr) ⟨hG', ⟨hX5.1.mono hρ, hX5.2.1.trans hρ, hX5.2.2.trans had⟩, hW', by rw [e1]; exact hP', hD', hS', ⟨lv, hl, hLL.mono hρ had⟩, hst⟩ T' rfl X'
  exact ⟨t2, hgo t2 a1, b1⟩
/-- a call: the receiver, the arguments, the contract -/
theorem zs_call {y nb cr cy sy : Nat} {yn : MethodName} {wsy : List Cond} {rmy : Room} (hKs : ze_K dC dI dA s) (hsc : ze_X sp xs A s) (hA : ∀ q, s.heap.size ≤ q → A q)
    (hcal : ∀ (av : List EV) (w : EW) (g : EG) (k' : ERt), cal y av w g k' = true → ∀ (ρ : List Int32) (ws : va_W) (avs : List Value), ze_G g ρ → ze_Z xs ρ → ze_W dA sp ρ w ws → ze_L sp ρ (ws.map (·.1)) av avs → Met l yn wsy rmy (va_Pc avs (ze_Pc dC dI dA sp xs A ws)) (ze_Qc dC dI dA sp A k' ρ (ws.map (·.1))) cy sy A)
    (hK : ze_KK p l e R s m args below meth c Q z0 dC dI dA sp xs A nL V kk) (hn : ze_at V nx (pc + 3)) (h : zo_call y nb cr cy sy nx ca cb cd tl jp kk k cal mc ms ls st w g nc ns = true) (hH : ze_H z0 dC dI dA sp xs A s nL ls st w g ρ ws H locs la vs)
    (run : ∀ (avs vr : List Value) (k' : ERt), vs = avs.reverse ++ vr → avs.length = nb → (vr.map fun v => v.category).sum ≤ 8 → nc + cy ≤ mc → ns + sy ≤ ms → (∀ ci, cr = ci + 1 → ∃ (b : Nat) (As : List Value) (q : Nat) (fs : List Value), avs = Value.ref b :: As ∧ ws[q]? = some (b, (Sum.inr (ci, fs) : va_E))) →
      Met l yn wsy rmy (va_Pc avs (ze_Pc dC dI dA sp xs A ws)) (ze_Qc dC dI dA sp A k' ρ (ws.map (·.1))) cy sy A → (∀ U : State, U.heap = H → s.WarmedH U.vm → va_Pc avs (ze_Pc dC dI dA sp xs A ws) avs.toArray U) →
      va_Run p l e R s m args below meth c H locs nc ns cy sy (F0 m pc la vs) vr (ze_Qc dC dI dA sp A k' ρ (ws.map (·.1)) avs.toArray) A)
    (hcr : ∀ ci, cr = ci + 1 → ci < 100) : W p l e R s m args below meth c H locs nc ns Q (F0 m pc la vs) := by
  unfold zo_call at h
  obtain ⟨pop, rest, rfl, e2, hh⟩ := ze_tk_spec _ _ _ _ h
  rw [List.append_nil] at hh
  obtain ⟨h1, hh⟩ := ze_condf hh
  obtain ⟨h2, hh⟩ := ze_condf hh
  obtain ⟨h3, hh⟩ := ze_condf hh
  obtain ⟨h4, hh⟩ := ze_condf hh
  obtain ⟨v1, v2, e3, L1, L2⟩ := hH.2.2.2.2.2.2.2.split
  have hM := hcal _ _ _ _ hh ρ ws v1.reverse hH.1 hH.2.1.1 hH.2.2.1 L1.rev
  have hrn := run v1.reverse v2 _ (by rw [List.reverse_reverse]; exact e3) (by rw [List.length_reverse, ← L1.len]; exact e2) (by rw [ze_cs_sum L2]; exact ze_ble' h2) (ze_ble' h3) (ze_ble' h4) (fun ci hci => by
    subst hci
    rw [ze_rc_eq] at h1
    split at h1
    · rename_i q9 t9 e9
      have L9 := L1.rev
      rw [e9] at L9
      obtain ⟨y9, ys, e10, V9, -⟩ := L9.cons
      obtain ⟨cl, g1, g2⟩ := ze_g_spec h1
      obtain ⟨a, en, ex, hw, hC⟩ := hH.2.2.1.ref g1 V9
      have e11 := ze_beq g2
      obtain ⟨fs, ef, -⟩ := hC.obj (by rw [e11]; exact hcr ci rfl)
      rw [e11] at ef
      subst ef
      exact ⟨a, ys, _, fs, by rw [e10, ex], hw⟩
    · cases h1) hM (ze_pre9 hKs hsc hA hH)
  exact zs_after hK hn hH L2 (fun r w' g' q => q) hrn
/-- ends -/
theorem ze_end_ok {nc ns mc ms : Nat} {x : Bool} (h : ze_end nc ns mc ms x = true) : nc ≤ mc ∧ ns ≤ ms ∧ x = true := by
  unfold ze_end at h
  obtain ⟨h1, h⟩ := ze_condf h
  obtain ⟨h2, h⟩ := ze_condf h
  exact ⟨ze_ble' h1, ze_ble' h2, h⟩
theorem ze_Qc_of {s t : State} {r : Option EV} {v : Option Value} {ρ0 : List Int32} {ad0 : List Nat} {a0 : Array Value} (hH : ze_H z0 dC dI dA sp xs A s nL ls st w g ρ ws H locs la vs) (h1 : ρ0 <+: ρ) (h2 : ad0 <+: ws.map (·.1)) (hk : k r w g = true) (hv : ze_OV sp ρ (ws.map (·.1)) r v) (ht : t.heap = H) : ze_Qc dC dI dA sp A k ρ0 ad0 a0 s (.returned v) t :=
  ⟨⟨r, w, g, ρ, ws, v, hk, h1, h2, hH.1, hH.2.2.1, by rw [ht]; exact hH.2.2.2.1, hH.2.2.2.2.1, hv, rfl⟩, hH.2.2.2.2.2.1.F ht⟩
end ZC
