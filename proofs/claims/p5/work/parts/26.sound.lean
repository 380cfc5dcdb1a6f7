section ZS2
variable {p : Program} {l : Launch} {e : Env} {R : Room} {s : State} {m : MethodId} {args : Array Value} {below : List Frame} {meth : Method} {c : Code} {Q : State → Prop}
variable {z0 : List Int32 × List Nat} {dC : Nat → ClassId} {dI : Nat → Nat → Nat} {dA : Nat → ClassId} {sp : Nat → Nat} {xs : ZXs} {A : Nat → Prop} {nL : Nat} {V : List ECE → Prop}
variable {kk : EKn} {k : ERt} {cal : ECal} {mc ms pc pc2 ca cb cd nc ns : Nat} {nx : List ECE} {jp : EJp} {tl : List Nat} {ls st : List EV} {w : EW} {g : EG} {ρ : List Int32} {ws : va_W} {H : Heap} {locs : List Loc} {la : Array Slot} {vs : List Value}
/-- behind a store into the locals -/
theorem ze_H.st1 {i : Nat} {v : EV} {x : Value} {rest : List EV} {vr : List Value} {la' : Array Slot} {lv : List (Nat × Value)} (hH : ze_H z0 dC dI dA sp xs A s nL ls st w g ρ ws H locs la vs) (hL : ze_LL sp ρ (ws.map (·.1)) ls lv) (hv : ze_V sp ρ (ws.map (·.1)) v x)
    (hl : lv_has la' nL ((i, x) :: lv.filter (fun q => !(q.1 == i) && !(q.1 + 1 == i && q.2.category == 2)))) (hr : ze_L sp ρ (ws.map (·.1)) rest vr) : ze_H z0 dC dI dA sp xs A s nL (ze_st v ls i) rest w g ρ ws H locs la' vr :=
  ⟨hH.1, hH.2.1, hH.2.2.1, hH.2.2.2.1, hH.2.2.2.2.1, hH.2.2.2.2.2.1, ⟨_, hl, hL.st1 hv⟩, hr⟩
theorem zs_istore (hK : ze_KK p l e R s m args below meth c Q z0 dC dI dA sp xs A nL V kk) (hn : ze_at V nx pc2) (h : zo_istore nx ca cb cd tl jp kk k cal mc ms ls st w g nc ns = true) (hH : ze_H z0 dC dI dA sp xs A s nL ls st w g ρ ws H locs la vs)
    (row : ∀ (x : Int32) (rest : List Value) (lv : List (Nat × Value)), lv_has la nL lv → (∀ la' : Array Slot, lv_has la' nL ((ca, Value.int x) :: lv.filter (fun q => !(q.1 == ca) && !(q.1 + 1 == ca && q.2.category == 2))) → W p l e R s m args below meth c H locs nc ns Q (F0 m pc2 la' rest)) → W p l e R s m args below meth c H locs nc ns Q (F0 m pc la (.int x :: rest))) : W p l e R s m args below meth c H locs nc ns Q (F0 m pc la vs) := by
  match st, h, hH with
  | [], h, _ => exact absurd h (by intro q; cases q)
  | .inr u :: rest, h, _ => exact absurd h (by intro q; cases q)
  | .inl u :: rest, h, hH =>
    obtain ⟨y1, r1, e1, V1, L1⟩ := hH.2.2.2.2.2.2.2.cons
    subst e1
    obtain ⟨z, ez⟩ := ze_intV V1
    subst ez
    obtain ⟨lv, hl, hL⟩ := hH.2.2.2.2.2.2.1
    exact row z r1 lv hl (fun la' hl' => hK _ _ _ _ _ _ _ h _ hn _ _ _ _ _ _ (hH.st1 hL V1 hl' L1))
theorem zs_astore (hK : ze_KK p l e R s m args below meth c Q z0 dC dI dA sp xs A nL V kk) (hn : ze_at V nx pc2) (h : zo_astore nx ca cb cd tl jp kk k cal mc ms ls st w g nc ns = true) (hH : ze_H z0 dC dI dA sp xs A s nL ls st w g ρ ws H locs la vs)
    (row : ∀ (x : Nat) (rest : List Value) (lv : List (Nat × Value)), lv_has la nL lv → (∀ la' : Array Slot, lv_has la' nL ((ca, Value.ref x) :: lv.filter (fun q => !(q.1 == ca) && !(q.1 + 1 == ca && q.2.category == 2))) → W p l e R s m args below meth c H locs nc ns Q (F0 m pc2 la' rest)) → W p l e R s m args below meth c H locs nc ns Q (F0 m pc la (.ref x :: rest)))
    (rowN : ∀ (rest : List Value) (lv : List (Nat × Value)), lv_has la nL lv → (∀ la' : Array Slot, lv_has la' nL ((ca, Value.null) :: lv.filter (fun q => !(q.1 == ca) && !(q.1 + 1 == ca && q.2.category == 2))) → W p l e R s m args below meth c H locs nc ns Q (F0 m pc2 la' rest)) → W p l e R s m args below meth c H locs nc ns Q (F0 m pc la (.null :: rest))) : W p l e R s m args below meth c H locs nc ns Q (F0 m pc la vs) := by
  obtain ⟨lv, hl, hL⟩ := hH.2.2.2.2.2.2.1
  match st, h, hH with
  | [], h, _ => exact absurd h (by intro q; cases q)
  | .inl u :: rest, h, _ => exact absurd h (by intro q; cases q)
  | .inr (.inl (.inr u)) :: rest, h, _ => exact absurd h (by intro q; cases q)
  | .inr (.inl (.inl u)) :: rest, h, hH =>
    obtain ⟨y1, r1, e1, V1, L1⟩ := hH.2.2.2.2.2.2.2.cons
    subst e1
    obtain ⟨z, z1, z2⟩ := id V1
    subst z2
    exact row z r1 lv hl (fun la' hl' => hK _ _ _ _ _ _ _ h _ hn _ _ _ _ _ _ (hH.st1 hL V1 hl' L1))
  | .inr (.inr 0) :: rest, h, hH =>
    obtain ⟨y1, r1, e1, V1, L1⟩ := hH.2.2.2.2.2.2.2.cons
    subst e1
    have z2 : y1 = .null := V1
    subst z2
    exact rowN r1 lv hl (fun la' hl' => hK _ _ _ _ _ _ _ h _ hn _ _ _ _ _ _ (hH.st1 hL V1 hl' L1))
  | .inr (.inr 1) :: rest, h, _ => exact absurd h (by intro q; cases q)
  | .inr (.inr (u + 2)) :: rest, h, hH =>
    obtain ⟨y1, r1, e1, V1, L1⟩ := hH.2.2.2.2.2.2.2.cons
    subst e1
    have z2 : y1 = .ref (sp u) := V1
    subst z2
    exact row _ r1 lv hl (fun la' hl' => hK _ _ _ _ _ _ _ h _ hn _ _ _ _ _ _ (hH.st1 hL V1 hl' L1))
theorem zs_lstore (hK : ze_KK p l e R s m args below meth c Q z0 dC dI dA sp xs A nL V kk) (hn : ze_at V nx pc2) (h : zo_lstore nx ca cb cd tl jp kk k cal mc ms ls st w g nc ns = true) (hH : ze_H z0 dC dI dA sp xs A s nL ls st w g ρ ws H locs la vs)
    (row : ∀ (x : Int64) (rest : List Value) (lv : List (Nat × Value)), lv_has la nL lv → (∀ la' : Array Slot, lv_has la' nL ((ca, Value.long x) :: lv.filter (fun q => !(q.1 == ca) && (!(q.1 == ca + 1) && !(q.1 + 1 == ca && q.2.category == 2)))) → W p l e R s m args below meth c H locs nc ns Q (F0 m pc2 la' rest)) → W p l e R s m args below meth c H locs nc ns Q (F0 m pc la (.long x :: rest))) : W p l e R s m args below meth c H locs nc ns Q (F0 m pc la vs) := by
  obtain ⟨lv, hl, hL⟩ := hH.2.2.2.2.2.2.1
  match st, h, hH with
  | [], h, _ => exact absurd h (by intro q; cases q)
  | .inl u :: rest, h, _ => exact absurd h (by intro q; cases q)
  | .inr (.inl (.inl u)) :: rest, h, _ => exact absurd h (by intro q; cases q)
  | .inr (.inr u) :: rest, h, _ => exact absurd h (by intro q; cases q)
  | .inr (.inl (.inr u)) :: rest, h, hH =>
    obtain ⟨y1, r1, e1, V1, L1⟩ := hH.2.2.2.2.2.2.2.cons
    subst e1
    obtain ⟨z, z2⟩ := ze_longV V1
    subst z2
    exact row _ r1 lv hl (fun la' hl' => hK _ _ _ _ _ _ _ h _ hn _ _ _ _ _ _ ⟨hH.1, hH.2.1, hH.2.2.1, hH.2.2.2.1, hH.2.2.2.2.1, hH.2.2.2.2.2.1, ⟨_, hl', hL.st2 V1⟩, L1⟩)
theorem ze_ct1 {v : EV} {ad : List Nat} {x : Value} (hv : ze_V sp ρ ad v x) (h : Nat.beq (ze_ct v) 1 = true) : x.category = 1 := by rw [ze_cat hv]; exact ze_beq h
theorem zs_dup (hK : ze_KK p l e R s m args below meth c Q z0 dC dI dA sp xs A nL V kk) (hn : ze_at V nx pc2) (h : zo_dup nx ca cb cd tl jp kk k cal mc ms ls st w g nc ns = true) (hH : ze_H z0 dC dI dA sp xs A s nL ls st w g ρ ws H locs la vs)
    (row : ∀ (va : Value) (rest : List Value), va.category = 1 → W p l e R s m args below meth c H locs nc ns Q (F0 m pc2 la (va :: va :: rest)) → W p l e R s m args below meth c H locs nc ns Q (F0 m pc la (va :: rest))) : W p l e R s m args below meth c H locs nc ns Q (F0 m pc la vs) := by
  match st, h, hH with
  | [], h, _ => exact absurd h (by intro q; cases q)
  | v :: rest, h, hH =>
    obtain ⟨y1, r1, e1, V1, L1⟩ := hH.2.2.2.2.2.2.2.cons
    subst e1
    obtain ⟨q1, q2⟩ := ze_condf h
    exact row y1 r1 (ze_ct1 V1 q1) (hK _ _ _ _ _ _ _ q2 _ hn _ _ _ _ _ _ (hH.stk ⟨V1, V1, L1⟩))
theorem zs_pop (hK : ze_KK p l e R s m args below meth c Q z0 dC dI dA sp xs A nL V kk) (hn : ze_at V nx pc2) (h : zo_pop nx ca cb cd tl jp kk k cal mc ms ls st w g nc ns = true) (hH : ze_H z0 dC dI dA sp xs A s nL ls st w g ρ ws H locs la vs)
    (row : ∀ (va : Value) (rest : List Value), va.category = 1 → W p l e R s m args below meth c H locs nc ns Q (F0 m pc2 la rest) → W p l e R s m args below meth c H locs nc ns Q (F0 m pc la (va :: rest))) : W p l e R s m args below meth c H locs nc ns Q (F0 m pc la vs) := by
  match st, h, hH with
  | [], h, _ => exact absurd h (by intro q; cases q)
  | v :: rest, h, hH =>
    obtain ⟨y1, r1, e1, V1, L1⟩ := hH.2.2.2.2.2.2.2.cons
    subst e1
    obtain ⟨q1, q2⟩ := ze_condf h
    exact row y1 r1 (ze_ct1 V1 q1) (hK _ _ _ _ _ _ _ q2 _ hn _ _ _ _ _ _ (hH.stk L1))
theorem zs_dup_x1 (hK : ze_KK p l e R s m args below meth c Q z0 dC dI dA sp xs A nL V kk) (hn : ze_at V nx pc2) (h : zo_dup_x1 nx ca cb cd tl jp kk k cal mc ms ls st w g nc ns = true) (hH : ze_H z0 dC dI dA sp xs A s nL ls st w g ρ ws H locs la vs)
    (row : ∀ (va vb : Value) (rest : List Value), va.category = 1 → vb.category = 1 → W p l e R s m args below meth c H locs nc ns Q (F0 m pc2 la (va :: vb :: va :: rest)) → W p l e R s m args below meth c H locs nc ns Q (F0 m pc la (va :: vb :: rest))) : W p l e R s m args below meth c H locs nc ns Q (F0 m pc la vs) := by
  match st, h, hH with
  | [], h, _ => exact absurd h (by intro q; cases q)
  | [_], h, _ => exact absurd h (by intro q; cases q)
  | v :: u :: rest, h, hH =>
    obtain ⟨y1, r1, e1, V1, L1⟩ := hH.2.2.2.2.2.2.2.cons
    obtain ⟨y2, r2, e2, V2, L2⟩ := L1.cons
    subst e1; subst e2
    obtain ⟨q1, q2⟩ := ze_condf h
    obtain ⟨q3, q4⟩ := ze_condf q2
    exact row y1 y2 r2 (ze_ct1 V1 q1) (ze_ct1 V2 q3) (hK _ _ _ _ _ _ _ q4 _ hn _ _ _ _ _ _ (hH.stk ⟨V1, V2, V1, L2⟩))
theorem zs_dup_x2 (hK : ze_KK p l e R s m args below meth c Q z0 dC dI dA sp xs A nL V kk) (hn : ze_at V nx pc2) (h : zo_dup_x2 nx ca cb cd tl jp kk k cal mc ms ls st w g nc ns = true) (hH : ze_H z0 dC dI dA sp xs A s nL ls st w g ρ ws H locs la vs)
    (row : ∀ (va vb vd : Value) (rest : List Value), va.category = 1 → vb.category = 1 → vd.category = 1 → W p l e R s m args below meth c H locs nc ns Q (F0 m pc2 la (va :: vb :: vd :: va :: rest)) → W p l e R s m args below meth c H locs nc ns Q (F0 m pc la (va :: vb :: vd :: rest))) : W p l e R s m args below meth c H locs nc ns Q (F0 m pc la vs) := by
  match st, h, hH with
  | [], h, _ => exact absurd h (by intro q; cases q)
  | [_], h, _ => exact absurd h (by intro q; cases q)
  | [_, _], h, _ => exact absurd h (by intro q; cases q)
  | v :: u :: z :: rest, h, hH =>
    obtain ⟨y1, r1, e1, V1, L1⟩ := hH.2.2.2.2.2.2.2.cons
    obtain ⟨y2, r2, e2, V2, L2⟩ := L1.cons
    obtain ⟨y3, r3, e3, V3, L3⟩ := L2.cons
    subst e1; subst e2; subst e3
    obtain ⟨q1, q2⟩ := ze_condf h
    obtain ⟨q3, q4⟩ := ze_condf q2
    obtain ⟨q5, q6⟩ := ze_condf q4
    exact row y1 y2 y3 r3 (ze_ct1 V1 q1) (ze_ct1 V2 q3) (ze_ct1 V3 q5) (hK _ _ _ _ _ _ _ q6 _ hn _ _ _ _ _ _ (hH.stk ⟨V1, V2, V3, V1, L3⟩))
theorem zs_dup2 (hK : ze_KK p l e R s m args below meth c Q z0 dC dI dA sp xs A nL V kk) (hn : ze_at V nx pc2) (h : zo_dup2 nx ca cb cd tl jp kk k cal mc ms ls st w g nc ns = true) (hH : ze_H z0 dC dI dA sp xs A s nL ls st w g ρ ws H locs la vs)
    (row : ∀ (va vb : Value) (rest : List Value), va.category = 1 → vb.category = 1 → W p l e R s m args below meth c H locs nc ns Q (F0 m pc2 la (va :: vb :: va :: vb :: rest)) → W p l e R s m args below meth c H locs nc ns Q (F0 m pc la (va :: vb :: rest))) : W p l e R s m args below meth c H locs nc ns Q (F0 m pc la vs) := by
  match st, h, hH with
  | [], h, _ => exact absurd h (by intro q; cases q)
  | [_], h, _ => exact absurd h (by intro q; cases q)
  | v :: u :: rest, h, hH =>
    obtain ⟨y1, r1, e1, V1, L1⟩ := hH.2.2.2.2.2.2.2.cons
    obtain ⟨y2, r2, e2, V2, L2⟩ := L1.cons
    subst e1; subst e2
    obtain ⟨q1, q2⟩ := ze_condf h
    obtain ⟨q3, q4⟩ := ze_condf q2
    exact row y1 y2 r2 (ze_ct1 V1 q1) (ze_ct1 V2 q3) (hK _ _ _ _ _ _ _ q4 _ hn _ _ _ _ _ _ (hH.stk ⟨V1, V2, V1, V2, L2⟩))
/-- two ints compared: what holds where the branch is taken, where it isn't -/
noncomputable def zc_ok (sp : Nat → Nat) (ρ : List Int32) (ad : List Nat) (f : EG → EV → EV → (EG → Bool) → (EG → Bool) → Bool) (T F : Int32 → Int32 → Prop) : Prop :=
  ∀ (g : EG) (v1 v2 : EV) (kt kf : EG → Bool) (X Y : Value), f g v1 v2 kt kf = true → ze_G g ρ → ze_V sp ρ ad v1 X → ze_V sp ρ ad v2 Y → ∃ x y, X = .int x ∧ Y = .int y ∧ (T x y → ∃ g', ze_G g' ρ ∧ kt g' = true) ∧ (F x y → ∃ g', ze_G g' ρ ∧ kf g' = true)
theorem zc_eq_ok {ad : List Nat} : zc_ok sp ρ ad zc_eq (fun x y => x = y) (fun x y => ¬ x = y) := fun g v1 v2 kt kf X Y h hG h1 h2 => ze_eq_spec h hG h1 h2
theorem zc_ne_ok {ad : List Nat} : zc_ok sp ρ ad zc_ne (fun x y => ¬ x = y) (fun x y => x = y) := fun g v1 v2 kt kf X Y h hG h1 h2 => by
  obtain ⟨x, y, a, b, q1, q2⟩ := ze_eq_spec h hG h1 h2
  exact ⟨x, y, a, b, q2, q1⟩
theorem zc_lt_ok {ad : List Nat} : zc_ok sp ρ ad zc_lt (fun x y => x < y) (fun x y => ¬ x < y) := fun g v1 v2 kt kf X Y h hG h1 h2 => ze_lt_spec h hG h1 h2
theorem zc_ge_ok {ad : List Nat} : zc_ok sp ρ ad zc_ge (fun x y => y ≤ x) (fun x y => ¬ y ≤ x) := fun g v1 v2 kt kf X Y h hG h1 h2 => by
  obtain ⟨x, y, a, b, q1, q2⟩ := ze_lt_spec h hG h1 h2
  exact ⟨x, y, a, b, fun n => q2 (Int32.not_lt.mpr n), fun n => q1 (Int32.not_le.mp n)⟩
theorem zc_gt_ok {ad : List Nat} : zc_ok sp ρ ad zc_gt (fun x y => y < x) (fun x y => ¬ y < x) := fun g v1 v2 kt kf X Y h hG h1 h2 => by
  obtain ⟨y, x, a, b, q1, q2⟩ := ze_lt_spec h hG h2 h1
  exact ⟨x, y, b, a, q1, q2⟩
theorem zc_le_ok {ad : List Nat} : zc_ok sp ρ ad zc_le (fun x y => x ≤ y) (fun x y => ¬ x ≤ y) := fun g v1 v2 kt kf X Y h hG h1 h2 => by
  obtain ⟨y, x, a, b, q1, q2⟩ := ze_lt_spec h hG h2 h1
  exact ⟨x, y, b, a, fun n => q2 (Int32.not_lt.mpr n), fun n => q1 (Int32.not_le.mp n)⟩
theorem zs_b2 {f : EG → EV → EV → (EG → Bool) → (EG → Bool) → Bool} {Tt Ff : Int32 → Int32 → Prop} {tgt : Nat} (hf : zc_ok sp ρ (ws.map (·.1)) f Tt Ff) (hK : ze_KK p l e R s m args below meth c Q z0 dC dI dA sp xs A nL V kk) (hn : ze_at V nx pc2) (ht : ∀ f : List ECE → Bool, jp ca f = true → ∃ cs, f cs = true ∧ ze_at V cs tgt) (h : zo_b2 f nx ca cb cd tl jp kk k cal mc ms ls st w g nc ns = true) (hH : ze_H z0 dC dI dA sp xs A s nL ls st w g ρ ws H locs la vs)
    (row : ∀ (x y : Int32) (rest : List Value), (Tt x y → W p l e R s m args below meth c H locs nc ns Q (F0 m tgt la rest)) → (Ff x y → W p l e R s m args below meth c H locs nc ns Q (F0 m pc2 la rest)) → W p l e R s m args below meth c H locs nc ns Q (F0 m pc la (.int y :: .int x :: rest))) : W p l e R s m args below meth c H locs nc ns Q (F0 m pc la vs) := by
  match st, h, hH with
  | [], h, _ => exact absurd h (by intro q; cases q)
  | [_], h, _ => exact absurd h (by intro q; cases q)
  | v2 :: v1 :: rest, h, hH =>
    obtain ⟨y1, r1, e1, V1, L1⟩ := hH.2.2.2.2.2.2.2.cons
    obtain ⟨y2, r2, e2, V2, L2⟩ := L1.cons
    subst e1; subst e2
    obtain ⟨x, y, ex, ey, q1, q2⟩ := hf g v1 v2 _ _ _ _ h hH.1 V2 V1
    subst ex; subst ey
    refine row x y r2 (fun t => ?_) (fun t => ?_)
    · obtain ⟨g', hG, q⟩ := q1 t
      obtain ⟨cs9, q9, h9⟩ := ht _ q
      exact hK _ _ _ _ _ _ _ q9 _ h9 _ _ _ _ _ _ ((hH.stk L2).gs hG)
    · obtain ⟨g', hG, q⟩ := q2 t
      exact hK _ _ _ _ _ _ _ q _ hn _ _ _ _ _ _ ((hH.stk L2).gs hG)
theorem zs_b1 {f : EG → EV → EV → (EG → Bool) → (EG → Bool) → Bool} {Tt Ff : Int32 → Int32 → Prop} {tgt : Nat} (hf : zc_ok sp ρ (ws.map (·.1)) f Tt Ff) (hK : ze_KK p l e R s m args below meth c Q z0 dC dI dA sp xs A nL V kk) (hn : ze_at V nx pc2) (ht : ∀ f : List ECE → Bool, jp ca f = true → ∃ cs, f cs = true ∧ ze_at V cs tgt) (h : zo_b1 f nx ca cb cd tl jp kk k cal mc ms ls st w g nc ns = true) (hH : ze_H z0 dC dI dA sp xs A s nL ls st w g ρ ws H locs la vs)
    (row : ∀ (x : Int32) (rest : List Value), (Tt x 0 → W p l e R s m args below meth c H locs nc ns Q (F0 m tgt la rest)) → (Ff x 0 → W p l e R s m args below meth c H locs nc ns Q (F0 m pc2 la rest)) → W p l e R s m args below meth c H locs nc ns Q (F0 m pc la (.int x :: rest))) : W p l e R s m args below meth c H locs nc ns Q (F0 m pc la vs) := by
  match st, h, hH with
  | [], h, _ => exact absurd h (by intro q; cases q)
  | v1 :: rest, h, hH =>
    obtain ⟨y1, r1, e1, V1, L1⟩ := hH.2.2.2.2.2.2.2.cons
    subst e1
    obtain ⟨x, y, ex, ey, q1, q2⟩ := hf g v1 (eC 0) _ _ _ (.int (nI 0)) h hH.1 V1 rfl
    subst ex
    cases ey
    rw [nI_0] at q1 q2
    refine row x r1 (fun t => ?_) (fun t => ?_)
    · obtain ⟨g', hG, q⟩ := q1 t
      obtain ⟨cs9, q9, h9⟩ := ht _ q
      exact hK _ _ _ _ _ _ _ q9 _ h9 _ _ _ _ _ _ ((hH.stk L1).gs hG)
    · obtain ⟨g', hG, q⟩ := q2 t
      exact hK _ _ _ _ _ _ _ q _ hn _ _ _ _ _ _ ((hH.stk L1).gs hG)
theorem zs_ifnull {tgt : Nat} (hK : ze_KK p l e R s m args below meth c Q z0 dC dI dA sp xs A nL V kk) (hn : ze_at V nx pc2) (ht : ∀ f : List ECE → Bool, jp ca f = true → ∃ cs, f cs = true ∧ ze_at V cs tgt) (h : zo_ifnull nx ca cb cd tl jp kk k cal mc ms ls st w g nc ns = true) (hH : ze_H z0 dC dI dA sp xs A s nL ls st w g ρ ws H locs la vs)
    (row : ∀ (x : Nat) (rest : List Value), W p l e R s m args below meth c H locs nc ns Q (F0 m pc2 la rest) → W p l e R s m args below meth c H locs nc ns Q (F0 m pc la (.ref x :: rest)))
    (rowN : ∀ (rest : List Value), W p l e R s m args below meth c H locs nc ns Q (F0 m tgt la rest) → W p l e R s m args below meth c H locs nc ns Q (F0 m pc la (.null :: rest))) : W p l e R s m args below meth c H locs nc ns Q (F0 m pc la vs) := by
  unfold zo_ifnull at h
  split at h
  · obtain ⟨y1, r1, e1, V1, L1⟩ := hH.2.2.2.2.2.2.2.cons
    subst e1
    obtain ⟨z, z1, z2⟩ := id V1
    subst z2
    exact row z r1 (hK _ _ _ _ _ _ _ h _ hn _ _ _ _ _ _ (hH.stk L1))
  · obtain ⟨y1, r1, e1, V1, L1⟩ := hH.2.2.2.2.2.2.2.cons
    subst e1
    have z2 : y1 = .null := V1
    subst z2
    obtain ⟨cs9, q9, h9⟩ := ht _ h
    exact rowN r1 (hK _ _ _ _ _ _ _ q9 _ h9 _ _ _ _ _ _ (hH.stk L1))
  · cases h
theorem zs_ifnonnull {tgt : Nat} (hK : ze_KK p l e R s m args below meth c Q z0 dC dI dA sp xs A nL V kk) (hn : ze_at V nx pc2) (ht : ∀ f : List ECE → Bool, jp ca f = true → ∃ cs, f cs = true ∧ ze_at V cs tgt) (h : zo_ifnonnull nx ca cb cd tl jp kk k cal mc ms ls st w g nc ns = true) (hH : ze_H z0 dC dI dA sp xs A s nL ls st w g ρ ws H locs la vs)
    (row : ∀ (x : Nat) (rest : List Value), W p l e R s m args below meth c H locs nc ns Q (F0 m tgt la rest) → W p l e R s m args below meth c H locs nc ns Q (F0 m pc la (.ref x :: rest)))
    (rowN : ∀ (rest : List Value), W p l e R s m args below meth c H locs nc ns Q (F0 m pc2 la rest) → W p l e R s m args below meth c H locs nc ns Q (F0 m pc la (.null :: rest))) : W p l e R s m args below meth c H locs nc ns Q (F0 m pc la vs) := by
  unfold zo_ifnonnull at h
  split at h
  · obtain ⟨y1, r1, e1, V1, L1⟩ := hH.2.2.2.2.2.2.2.cons
    subst e1
    obtain ⟨z, z1, z2⟩ := id V1
    subst z2
    obtain ⟨cs9, q9, h9⟩ := ht _ h
    exact row z r1 (hK _ _ _ _ _ _ _ q9 _ h9 _ _ _ _ _ _ (hH.stk L1))
  · obtain ⟨y1, r1, e1, V1, L1⟩ := hH.2.2.2.2.2.2.2.cons
    subst e1
    have z2 : y1 = .null := V1
    subst z2
    exact rowN r1 (hK _ _ _ _ _ _ _ h _ hn _ _ _ _ _ _ (hH.stk L1))
  · cases h
theorem zs_swu {i a : Nat} {go : Nat → EG → Bool} {x : Int32} (hx : ρ[i]? = some x) : ∀ (tl : List Nat) (odd : Bool) (mm : Nat) (g : EG), zo_swu i a tl go odd mm g = true → ze_G g ρ → ∃ g', ze_G g' ρ ∧ go (ze_tg (ze_b x) a tl odd mm) g' = true := by
  intro tl
  induction tl with
  | nil => intro odd mm g h hG; exact ⟨g, hG, h⟩
  | cons t r ih =>
    intro odd mm g h hG
    cases odd with
    | false => exact ih true t g h hG
    | true =>
      have h : ze_eu g i mm (fun g => go t g) (fun g => zo_swu i a r go false 0 g) = true := h
      have k := ze_eu_spec h hG hx
      show ∃ g', ze_G g' ρ ∧ go (zcd (Nat.beq mm (ze_b x)) t (ze_tg (ze_b x) a r false 0)) g' = true
      cases e : Nat.beq mm (ze_b x) with
      | true =>
        obtain ⟨g', q1, q2⟩ := k.1 (ze_beq e).symm
        exact ⟨g', q1, q2⟩
      | false =>
        obtain ⟨g', q1, q2⟩ := k.2 (fun q => ze_nbeq e q.symm)
        exact ih false 0 g' q2 q1
theorem zs_sw (hK : ze_KK p l e R s m args below meth c Q z0 dC dI dA sp xs A nL V kk) (h : zo_sw nx ca cb cd tl jp kk k cal mc ms ls st w g nc ns = true) (hH : ze_H z0 dC dI dA sp xs A s nL ls st w g ρ ws H locs la vs)
    (row : ∀ (x : Int32) (rest : List Value), ∃ tgt, (∀ f : List ECE → Bool, jp (ze_tg (ze_b x) ca tl false 0) f = true → ∃ cs, f cs = true ∧ ze_at V cs tgt) ∧ (W p l e R s m args below meth c H locs nc ns Q (F0 m tgt la rest) → W p l e R s m args below meth c H locs nc ns Q (F0 m pc la (.int x :: rest)))) : W p l e R s m args below meth c H locs nc ns Q (F0 m pc la vs) := by
  match st, h, hH with
  | [], h, _ => exact absurd h (by intro q; cases q)
  | v1 :: rest, h, hH =>
    obtain ⟨y1, r1, e1, V1, L1⟩ := hH.2.2.2.2.2.2.2.cons
    subst e1
    have h : ze_rs g v1 _ _ = true := h
    obtain ⟨x, ex, hx⟩ := ze_rs_spec h hH.1 V1
    subst ex
    obtain ⟨tgt, ht, rw1⟩ := row x r1
    refine rw1 ?_
    rcases hx with ⟨a, ea, hx⟩ | ⟨i, ei, hi, hx⟩
    · rw [ze_f_eq, ze_z_eq, ← ea] at hx
      obtain ⟨cs9, q9, h9⟩ := ht _ hx
      exact hK _ _ _ _ _ _ _ q9 _ h9 _ _ _ _ _ _ (hH.stk L1)
    · obtain ⟨g', hG, q⟩ := zs_swu hi tl false 0 g hx hH.1
      obtain ⟨cs9, q9, h9⟩ := ht _ q
      exact hK _ _ _ _ _ _ _ q9 _ h9 _ _ _ _ _ _ ((hH.stk L1).gs hG)
end ZS2
