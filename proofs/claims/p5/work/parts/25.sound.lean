/-! THE ENGINE, part 5: what it says of the machine. An op that answers true, at a state that the engine's data stand for, walks. -/
/-- rows that are as they should be ('V'), the first of them at pc -/
noncomputable def ze_at (V : List ECE → Prop) (cs : List ECE) (pc : Nat) : Prop := V cs ∧ ∃ e r, cs = e :: r ∧ e.2.1 = pc
/-- the numbers of the script and of the law's place; what the unknowns begin with -/
abbrev ZXs : Type := (Nat → Int32) × List Int32
def ze_Z (xs : ZXs) (ρ : List Int32) : Prop := (∀ j, j < 10 → ρ[j]? = some (xs.1 j)) ∧ xs.2 <+: ρ
theorem ze_Z.mono {xs : ZXs} {a b : List Int32} (hZ : ze_Z xs a) (h : a <+: b) : ze_Z xs b := ⟨fun j hj => ze_pre h (hZ.1 j hj), hZ.2.trans h⟩
def ze_x0 (xs : ZXs) : ZXs := (xs.1, [])
theorem ze_x0_len {xs : ZXs} {N : Nat} : (ze_x0 xs).2.length ≤ N := Nat.zero_le N
noncomputable def ze_Y (z0 : List Int32 × List Nat) (xs : ZXs) (ρ : List Int32) (ad : List Nat) : Prop := ze_Z xs ρ ∧ z0.1 <+: ρ ∧ z0.2 <+: ad
noncomputable def ze_H (z0 : List Int32 × List Nat) (dC : Nat → ClassId) (dI : Nat → Nat → Nat) (dA : Nat → ClassId) (sp : Nat → Nat) (xs : ZXs) (A : Nat → Prop) (s : State) (nL : Nat) (ls st : List EV) (w : EW) (g : EG) (ρ : List Int32) (ws : va_W) (H : Heap) (locs : List Loc) (la : Array Slot) (vs : List Value) : Prop :=
  ze_G g ρ ∧ ze_Y z0 xs ρ (ws.map (·.1)) ∧ ze_W dA sp ρ w ws ∧ va_P (dC, dI) vwCl ws H ∧ va_D A ws ∧ va_S A s.heap H locs ∧ (∃ lv, lv_has la nL lv ∧ ze_LL sp ρ (ws.map (·.1)) ls lv) ∧ ze_L sp ρ (ws.map (·.1)) st vs
noncomputable def ze_WS (p : Program) (l : Launch) (e : Env) (R : Room) (s : State) (m : MethodId) (args : Array Value) (below : List Frame) (meth : Method) (c : Code) (Q : State → Prop) (z0 : List Int32 × List Nat) (dC : Nat → ClassId) (dI : Nat → Nat → Nat) (dA : Nat → ClassId) (sp : Nat → Nat) (xs : ZXs) (A : Nat → Prop) (nL : Nat) (V : List ECE → Prop) (cs : List ECE) (ls st : List EV) (w : EW) (g : EG) (nc ns : Nat) : Prop :=
  ∀ (pc : Nat), ze_at V cs pc → ∀ (ρ : List Int32) (ws : va_W) (H : Heap) (locs : List Loc) (la : Array Slot) (vs : List Value), ze_H z0 dC dI dA sp xs A s nL ls st w g ρ ws H locs la vs → W p l e R s m args below meth c H locs nc ns Q (F0 m pc la vs)
noncomputable def ze_KK (p : Program) (l : Launch) (e : Env) (R : Room) (s : State) (m : MethodId) (args : Array Value) (below : List Frame) (meth : Method) (c : Code) (Q : State → Prop) (z0 : List Int32 × List Nat) (dC : Nat → ClassId) (dI : Nat → Nat → Nat) (dA : Nat → ClassId) (sp : Nat → Nat) (xs : ZXs) (A : Nat → Prop) (nL : Nat) (V : List ECE → Prop) (kk : EKn) : Prop :=
  ∀ (cs : List ECE) (ls st : List EV) (w : EW) (g : EG) (nc ns : Nat), kk cs ls st w g nc ns = true → ze_WS p l e R s m args below meth c Q z0 dC dI dA sp xs A nL V cs ls st w g nc ns
section ZH
variable {z0 : List Int32 × List Nat} {dC : Nat → ClassId} {dI : Nat → Nat → Nat} {dA : Nat → ClassId} {sp : Nat → Nat} {xs : ZXs} {A : Nat → Prop} {s : State} {nL : Nat} {ls st : List EV} {w : EW} {g : EG} {ρ : List Int32} {ws : va_W} {H : Heap} {locs : List Loc} {la : Array Slot} {vs : List Value}
theorem ze_H.stk {st' : List EV} {vs' : List Value} (h : ze_H z0 dC dI dA sp xs A s nL ls st w g ρ ws H locs la vs) (h2 : ze_L sp ρ (ws.map (·.1)) st' vs') : ze_H z0 dC dI dA sp xs A s nL ls st' w g ρ ws H locs la vs' :=
  ⟨h.1, h.2.1, h.2.2.1, h.2.2.2.1, h.2.2.2.2.1, h.2.2.2.2.2.1, h.2.2.2.2.2.2.1, h2⟩
theorem ze_H.gs {g' : EG} (h : ze_H z0 dC dI dA sp xs A s nL ls st w g ρ ws H locs la vs) (h2 : ze_G g' ρ) : ze_H z0 dC dI dA sp xs A s nL ls st w g' ρ ws H locs la vs :=
  ⟨h2, h.2.1, h.2.2.1, h.2.2.2.1, h.2.2.2.2.1, h.2.2.2.2.2.1, h.2.2.2.2.2.2.1, h.2.2.2.2.2.2.2⟩
theorem ze_H.fr {lo hi : Nat} {x : Int32} (h : ze_H z0 dC dI dA sp xs A s nL ls st w g ρ ws H locs la vs) (h1 : lo ≤ ze_b x) (h2 : ze_b x ≤ hi) : ze_H z0 dC dI dA sp xs A s nL ls st w (g ++ [(lo, hi)]) (ρ ++ [x]) ws H locs la vs := by
  obtain ⟨hG, hX, hW, hP, hD, hS, ⟨lv, hl, hL⟩, hV⟩ := h
  have hp : ρ <+: ρ ++ [x] := List.prefix_append _ _
  exact ⟨hG.push h1 h2, ⟨hX.1.mono hp, hX.2.1.trans hp, hX.2.2⟩, hW.rho hp, hP, hD, hS, ⟨lv, hl, hL.mono hp (List.prefix_refl _)⟩, hV.mono hp (List.prefix_refl _)⟩
/-- another unknown of that value, on the stack -/
theorem ze_H.frs {lo hi : Nat} {x : Int32} (h : ze_H z0 dC dI dA sp xs A s nL ls st w g ρ ws H locs la vs) (h1 : lo ≤ ze_b x) (h2 : ze_b x ≤ hi) : ze_H z0 dC dI dA sp xs A s nL ls (eU g.length :: st) w (g ++ [(lo, hi)]) (ρ ++ [x]) ws H locs la (.int x :: vs) :=
  (h.fr h1 h2).stk ⟨⟨x, h.1.new x, rfl⟩, (h.fr h1 h2).2.2.2.2.2.2.2⟩
end ZH
section ZS
variable {p : Program} {l : Launch} {e : Env} {R : Room} {s : State} {m : MethodId} {args : Array Value} {below : List Frame} {meth : Method} {c : Code} {Q : State → Prop}
variable {z0 : List Int32 × List Nat} {dC : Nat → ClassId} {dI : Nat → Nat → Nat} {dA : Nat → ClassId} {sp : Nat → Nat} {xs : ZXs} {A : Nat → Prop} {nL : Nat} {V : List ECE → Prop}
variable {kk : EKn} {k : ERt} {cal : ECal} {mc ms pc pc2 ca cb cd nc ns : Nat} {nx : List ECE} {jp : EJp} {tl : List Nat} {ls st : List EV} {w : EW} {g : EG} {ρ : List Int32} {ws : va_W} {H : Heap} {locs : List Loc} {la : Array Slot} {vs : List Value}
theorem zs_fr {lo hi : Nat} {x : Int32} (hK : ze_KK p l e R s m args below meth c Q z0 dC dI dA sp xs A nL V kk) (h : zo_fr lo hi nx kk ls st w g nc ns = true) (hH : ze_H z0 dC dI dA sp xs A s nL ls st w g ρ ws H locs la vs) (h1 : lo ≤ ze_b x) (h2 : ze_b x ≤ hi) (hn : ze_at V nx pc2) : W p l e R s m args below meth c H locs nc ns Q (F0 m pc2 la (.int x :: vs)) := by
  unfold zo_fr at h
  rw [ze_f_eq, ze_len_eq, ze_ap_eq] at h
  exact hK _ _ _ _ _ _ _ h _ hn _ _ _ _ _ _ (hH.frs h1 h2)
theorem zs_bin {fc : Nat → Nat → Nat} {bd : EG → EV → EV → Nat × Nat} (F : Int32 → Int32 → Int32) (hK : ze_KK p l e R s m args below meth c Q z0 dC dI dA sp xs A nL V kk) (hfc : ∀ a b, F (nI a) (nI b) = nI (fc a b))
    (hbd : ∀ (v1 v2 : EV) (x y : Int32), ze_V sp ρ (ws.map (·.1)) v1 (.int x) → ze_V sp ρ (ws.map (·.1)) v2 (.int y) → (bd g v1 v2).1 ≤ ze_b (F x y) ∧ ze_b (F x y) ≤ (bd g v1 v2).2)
    (hn : ze_at V nx pc2) (h : zo_bin fc bd nx ca cb cd tl jp kk k cal mc ms ls st w g nc ns = true) (hH : ze_H z0 dC dI dA sp xs A s nL ls st w g ρ ws H locs la vs)
    (row : ∀ (x y : Int32) (rest : List Value), vs = .int y :: .int x :: rest → W p l e R s m args below meth c H locs nc ns Q (F0 m pc2 la (.int (F x y) :: rest)) → W p l e R s m args below meth c H locs nc ns Q (F0 m pc la (.int y :: .int x :: rest))) : W p l e R s m args below meth c H locs nc ns Q (F0 m pc la vs) := by
  match st, h, hH with
  | [], h, _ => exact absurd h (by intro q; cases q)
  | [_], h, _ => exact absurd h (by intro q; cases q)
  | v2 :: v1 :: rest, h, hH =>
    obtain ⟨y2, r1, e1, V2, L1⟩ := hH.2.2.2.2.2.2.2.cons
    obtain ⟨y1, r2, e2, V1, L2⟩ := L1.cons
    subst e1; subst e2
    have hH2 := hH.stk L2
    have h : ze_rs g v1 _ _ = true := h
    obtain ⟨x, ex, hx⟩ := ze_rs_spec h hH.1 V1
    subst ex
    rcases hx with ⟨a, ea, hx⟩ | ⟨i, ei, hi, hx⟩
    · obtain ⟨y, ey, hy⟩ := ze_rs_spec hx hH.1 V2
      subst ey
      have hb := hbd v1 v2 x y V1 V2
      refine row x y r2 rfl ?_
      rcases hy with ⟨b, eb, hy⟩ | ⟨j, ej, hj, hy⟩
      · rw [ze_f_eq] at hy
        refine hK _ _ _ _ _ _ _ hy _ hn _ _ _ _ _ _ (hH2.stk ⟨?_, L2⟩)
        show Value.int (F x y) = .int (nI (fc a b))
        rw [ea, eb, hfc]
      · exact zs_fr hK hy hH2 hb.1 hb.2 hn
    · obtain ⟨y, ey, hy⟩ := ze_rs_spec hx hH.1 V2
      subst ey
      have hb := hbd v1 v2 x y V1 V2
      refine row x y r2 rfl ?_
      rcases hy with ⟨b, eb, hy⟩ | ⟨j, ej, hj, hy⟩
      · exact zs_fr hK hy hH2 hb.1 hb.2 hn
      · exact zs_fr hK hy hH2 hb.1 hb.2 hn
theorem zs_top (v1 v2 : EV) (x : Int32) : (zo_top g v1 v2).1 ≤ ze_b x ∧ ze_b x ≤ (zo_top g v1 v2).2 := ⟨Nat.zero_le _, ze_b_top x⟩
theorem zs_c2 (f : Int32 → Int32 → Int32) (a b : Nat) : f (nI a) (nI b) = nI (zo_c2 f a b) := (ze_e_eq _).symm
theorem zs_un {fc : Nat → Nat} {lo hi : Nat} (F : Int32 → Int32) (hK : ze_KK p l e R s m args below meth c Q z0 dC dI dA sp xs A nL V kk) (hfc : ∀ a, F (nI a) = nI (fc a)) (hbd : ∀ x : Int32, lo ≤ ze_b (F x) ∧ ze_b (F x) ≤ hi)
    (hn : ze_at V nx pc2) (h : zo_un fc lo hi nx ca cb cd tl jp kk k cal mc ms ls st w g nc ns = true) (hH : ze_H z0 dC dI dA sp xs A s nL ls st w g ρ ws H locs la vs)
    (row : ∀ (x : Int32) (rest : List Value), W p l e R s m args below meth c H locs nc ns Q (F0 m pc2 la (.int (F x) :: rest)) → W p l e R s m args below meth c H locs nc ns Q (F0 m pc la (.int x :: rest))) : W p l e R s m args below meth c H locs nc ns Q (F0 m pc la vs) := by
  match st, h, hH with
  | [], h, _ => exact absurd h (by intro q; cases q)
  | v1 :: rest, h, hH =>
    obtain ⟨y1, r1, e1, V1, L1⟩ := hH.2.2.2.2.2.2.2.cons
    subst e1
    have hH2 := hH.stk L1
    have h : ze_rs g v1 _ _ = true := h
    obtain ⟨x, ex, hx⟩ := ze_rs_spec h hH.1 V1
    subst ex
    refine row x r1 ?_
    rcases hx with ⟨a, ea, hx⟩ | ⟨i, ei, hi, hx⟩
    · rw [ze_f_eq] at hx
      refine hK _ _ _ _ _ _ _ hx _ hn _ _ _ _ _ _ (hH2.stk ⟨?_, L1⟩)
      show Value.int (F x) = .int (nI (fc a))
      rw [ea, hfc]
    · exact zs_fr hK hx hH2 (hbd x).1 (hbd x).2 hn
theorem zs_i2l (hK : ze_KK p l e R s m args below meth c Q z0 dC dI dA sp xs A nL V kk) (hn : ze_at V nx pc2) (h : zo_i2l nx ca cb cd tl jp kk k cal mc ms ls st w g nc ns = true) (hH : ze_H z0 dC dI dA sp xs A s nL ls st w g ρ ws H locs la vs)
    (row : ∀ (x : Int32) (rest : List Value), W p l e R s m args below meth c H locs nc ns Q (F0 m pc2 la (.long x.toInt64 :: rest)) → W p l e R s m args below meth c H locs nc ns Q (F0 m pc la (.int x :: rest))) : W p l e R s m args below meth c H locs nc ns Q (F0 m pc la vs) := by
  match st, h, hH with
  | [], h, _ => exact absurd h (by intro q; cases q)
  | v1 :: rest, h, hH =>
    obtain ⟨y1, r1, e1, V1, L1⟩ := hH.2.2.2.2.2.2.2.cons
    subst e1
    have h : ze_rs g v1 _ _ = true := h
    obtain ⟨x, ex, hx⟩ := ze_rs_spec h hH.1 V1
    subst ex
    refine row x r1 ?_
    rcases hx with ⟨a, ea, hx⟩ | ⟨i, ei, hi, hx⟩
    · rw [ze_f_eq] at hx
      refine hK _ _ _ _ _ _ _ hx _ hn _ _ _ _ _ _ (hH.stk ⟨?_, L1⟩)
      show Value.long _ = .long _
      rw [ze_el_eq, ea]
    · exact hK _ _ _ _ _ _ _ hx _ hn _ _ _ _ _ _ (hH.stk ⟨⟨x, hi, rfl⟩, L1⟩)
theorem zs_cst (hK : ze_KK p l e R s m args below meth c Q z0 dC dI dA sp xs A nL V kk) (hn : ze_at V nx pc2) (h : zo_cst nx ca cb cd tl jp kk k cal mc ms ls st w g nc ns = true) (hH : ze_H z0 dC dI dA sp xs A s nL ls st w g ρ ws H locs la vs)
    (row : W p l e R s m args below meth c H locs nc ns Q (F0 m pc2 la (.int (nI ca) :: vs)) → W p l e R s m args below meth c H locs nc ns Q (F0 m pc la vs)) : W p l e R s m args below meth c H locs nc ns Q (F0 m pc la vs) :=
  row (hK _ _ _ _ _ _ _ h _ hn _ _ _ _ _ _ (hH.stk ⟨rfl, hH.2.2.2.2.2.2.2⟩))
theorem zs_lcst (hK : ze_KK p l e R s m args below meth c Q z0 dC dI dA sp xs A nL V kk) (hn : ze_at V nx pc2) (h : zo_lcst nx ca cb cd tl jp kk k cal mc ms ls st w g nc ns = true) (hH : ze_H z0 dC dI dA sp xs A s nL ls st w g ρ ws H locs la vs)
    (row : W p l e R s m args below meth c H locs nc ns Q (F0 m pc2 la (.long (lN ca) :: vs)) → W p l e R s m args below meth c H locs nc ns Q (F0 m pc la vs)) : W p l e R s m args below meth c H locs nc ns Q (F0 m pc la vs) :=
  row (hK _ _ _ _ _ _ _ h _ hn _ _ _ _ _ _ (hH.stk ⟨rfl, hH.2.2.2.2.2.2.2⟩))
theorem zs_null (hK : ze_KK p l e R s m args below meth c Q z0 dC dI dA sp xs A nL V kk) (hn : ze_at V nx pc2) (h : zo_null nx ca cb cd tl jp kk k cal mc ms ls st w g nc ns = true) (hH : ze_H z0 dC dI dA sp xs A s nL ls st w g ρ ws H locs la vs)
    (row : W p l e R s m args below meth c H locs nc ns Q (F0 m pc2 la (.null :: vs)) → W p l e R s m args below meth c H locs nc ns Q (F0 m pc la vs)) : W p l e R s m args below meth c H locs nc ns Q (F0 m pc la vs) :=
  row (hK _ _ _ _ _ _ _ h _ hn _ _ _ _ _ _ (hH.stk ⟨rfl, hH.2.2.2.2.2.2.2⟩))
/-- a local -/
theorem ze_H.at {i : Nat} {v : EV} (hH : ze_H z0 dC dI dA sp xs A s nL ls st w g ρ ws H locs la vs) (hi : ls[i]? = some v) (hn : v ≠ eX 1) : ∃ x, la[i]? = some (.val x) ∧ ze_V sp ρ (ws.map (·.1)) v x := by
  obtain ⟨lv, hl, hL⟩ := hH.2.2.2.2.2.2.1
  obtain ⟨x, q1, q2⟩ := hL i v hi hn
  exact ⟨x, hl.2.2 _ q1, q2⟩
theorem ze_intV {v : Nat ⊕ Nat} {ad : List Nat} {x : Value} (h : ze_V sp ρ ad (.inl v) x) : ∃ z, x = .int z := by
  match v, h with
  | .inl n, h => exact ⟨_, h⟩
  | .inr i, ⟨z, _, b⟩ => exact ⟨z, b⟩
theorem ze_longV {v : Nat ⊕ Nat} {ad : List Nat} {x : Value} (h : ze_V sp ρ ad (.inr (.inl (.inr v))) x) : ∃ z, x = .long z := by
  match v, h with
  | .inl n, h => exact ⟨_, h⟩
  | .inr i, ⟨z, _, b⟩ => exact ⟨_, b⟩
theorem zs_iload (hK : ze_KK p l e R s m args below meth c Q z0 dC dI dA sp xs A nL V kk) (hn : ze_at V nx pc2) (h : zo_iload nx ca cb cd tl jp kk k cal mc ms ls st w g nc ns = true) (hH : ze_H z0 dC dI dA sp xs A s nL ls st w g ρ ws H locs la vs)
    (row : ∀ x : Int32, la[ca]? = some (.val (.int x)) → W p l e R s m args below meth c H locs nc ns Q (F0 m pc2 la (.int x :: vs)) → W p l e R s m args below meth c H locs nc ns Q (F0 m pc la vs)) : W p l e R s m args below meth c H locs nc ns Q (F0 m pc la vs) := by
  obtain ⟨v, hv, h2⟩ := ze_n_spec _ _ _ h
  match v, hv, h2 with
  | .inl u, hv, h2 =>
    obtain ⟨x, q1, q2⟩ := hH.at hv (by intro q; cases q)
    obtain ⟨z, ez⟩ := ze_intV q2
    subst ez
    exact row z q1 (hK _ _ _ _ _ _ _ h2 _ hn _ _ _ _ _ _ (hH.stk ⟨q2, hH.2.2.2.2.2.2.2⟩))
  | .inr u, hv, h2 => exact absurd h2 (by intro q; cases q)
theorem zs_lload (hK : ze_KK p l e R s m args below meth c Q z0 dC dI dA sp xs A nL V kk) (hn : ze_at V nx pc2) (h : zo_lload nx ca cb cd tl jp kk k cal mc ms ls st w g nc ns = true) (hH : ze_H z0 dC dI dA sp xs A s nL ls st w g ρ ws H locs la vs)
    (row : ∀ x : Int64, la[ca]? = some (.val (.long x)) → W p l e R s m args below meth c H locs nc ns Q (F0 m pc2 la (.long x :: vs)) → W p l e R s m args below meth c H locs nc ns Q (F0 m pc la vs)) : W p l e R s m args below meth c H locs nc ns Q (F0 m pc la vs) := by
  obtain ⟨v, hv, h2⟩ := ze_n_spec _ _ _ h
  match v, hv, h2 with
  | .inl u, hv, h2 => exact absurd h2 (by intro q; cases q)
  | .inr (.inl (.inl u)), hv, h2 => exact absurd h2 (by intro q; cases q)
  | .inr (.inr u), hv, h2 => exact absurd h2 (by intro q; cases q)
  | .inr (.inl (.inr u)), hv, h2 =>
    obtain ⟨x, q1, q2⟩ := hH.at hv (by intro q; cases q)
    obtain ⟨z, ez⟩ := ze_longV q2
    subst ez
    exact row _ q1 (hK _ _ _ _ _ _ _ h2 _ hn _ _ _ _ _ _ (hH.stk ⟨q2, hH.2.2.2.2.2.2.2⟩))
theorem zs_aload (hK : ze_KK p l e R s m args below meth c Q z0 dC dI dA sp xs A nL V kk) (hn : ze_at V nx pc2) (h : zo_aload nx ca cb cd tl jp kk k cal mc ms ls st w g nc ns = true) (hH : ze_H z0 dC dI dA sp xs A s nL ls st w g ρ ws H locs la vs)
    (row : ∀ x : Nat, la[ca]? = some (.val (.ref x)) → W p l e R s m args below meth c H locs nc ns Q (F0 m pc2 la (.ref x :: vs)) → W p l e R s m args below meth c H locs nc ns Q (F0 m pc la vs))
    (rowN : la[ca]? = some (.val .null) → W p l e R s m args below meth c H locs nc ns Q (F0 m pc2 la (.null :: vs)) → W p l e R s m args below meth c H locs nc ns Q (F0 m pc la vs)) : W p l e R s m args below meth c H locs nc ns Q (F0 m pc la vs) := by
  obtain ⟨v, hv, h2⟩ := ze_n_spec _ _ _ h
  match v, hv, h2 with
  | .inl u, hv, h2 => exact absurd h2 (by intro q; cases q)
  | .inr (.inl (.inr u)), hv, h2 => exact absurd h2 (by intro q; cases q)
  | .inr (.inl (.inl u)), hv, h2 =>
    obtain ⟨x, q1, q2⟩ := hH.at hv (by intro q; cases q)
    obtain ⟨z, z1, z2⟩ := q2
    have q2 : ze_V sp ρ (ws.map (·.1)) (eR u) x := ⟨z, z1, z2⟩
    subst z2
    exact row _ q1 (hK _ _ _ _ _ _ _ h2 _ hn _ _ _ _ _ _ (hH.stk ⟨q2, hH.2.2.2.2.2.2.2⟩))
  | .inr (.inr 0), hv, h2 =>
    obtain ⟨x, q1, q2⟩ := hH.at hv (by intro q; cases q)
    have ez : x = .null := q2
    subst ez
    exact rowN q1 (hK _ _ _ _ _ _ _ h2 _ hn _ _ _ _ _ _ (hH.stk ⟨q2, hH.2.2.2.2.2.2.2⟩))
  | .inr (.inr 1), hv, h2 => exact absurd h2 (by intro q; cases q)
  | .inr (.inr (u + 2)), hv, h2 =>
    obtain ⟨x, q1, q2⟩ := hH.at hv (by intro q; cases q)
    have ez : x = .ref (sp u) := q2
    subst ez
    exact row _ q1 (hK _ _ _ _ _ _ _ h2 _ hn _ _ _ _ _ _ (hH.stk ⟨q2, hH.2.2.2.2.2.2.2⟩))
end ZS
