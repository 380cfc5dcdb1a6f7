/-! what the cells of class and reference have to do with each other: counts that a deed brings back, the text -/
/-- the int at a field of an object's cell; the ints of an array's cell -/
def zq_at (ws : va_W) (k i : Nat) (x : Int32) : Prop := ∃ (a ci : Nat) (fs : List Value), ws[k]? = some (a, .inr (ci, fs)) ∧ fs[i]? = some (.int x)
def zq_ar (ws : va_W) (k : Nat) (f : Nat → Int32) : Prop := ∃ (a n : Nat) (C : ClassId), ws[k]? = some (a, .inl (C, n, .inl f))
theorem zq_at.det {ws : va_W} {k i : Nat} {x y : Int32} (h1 : zq_at ws k i x) (h2 : zq_at ws k i y) : x = y := by
  obtain ⟨a, ci, fs, e1, e2⟩ := h1
  obtain ⟨b, cj, gs, e3, e4⟩ := h2
  rw [e1] at e3
  cases e3
  rw [e2] at e4
  cases e4
  rfl
theorem zq_ar.det {ws : va_W} {k : Nat} {f g : Nat → Int32} (h1 : zq_ar ws k f) (h2 : zq_ar ws k g) : f = g := by
  obtain ⟨a, n, C, e1⟩ := h1
  obtain ⟨b, n2, C2, e3⟩ := h2
  rw [e1] at e3
  cases e3
  rfl
/-- the engine's value there -/
noncomputable def zq_e (w : EW) (k i : Nat) (f : (Nat ⊕ Nat) → Bool) : Bool := ze_g w k (fun c => zcd (Nat.ble c.1 99) (ze_n c.2 i (fun v => zv_i v f)) false)
noncomputable def zq_es (w : EW) (ks : List (Nat × Nat)) : (List (Nat ⊕ Nat) → Bool) → Bool := List.rec (motive := fun _ => (List (Nat ⊕ Nat) → Bool) → Bool) (fun f => f []) (fun k _ ih f => zq_e w k.1 k.2 (fun a => ih (fun l => f (a :: l)))) ks
noncomputable def zq_le (l1 : List (Nat ⊕ Nat)) : List (Nat ⊕ Nat) → Bool := List.rec (motive := fun _ => List (Nat ⊕ Nat) → Bool) (fun l2 => List.rec (motive := fun _ => Bool) true (fun _ _ _ => false) l2) (fun a _ ih l2 => List.rec (motive := fun _ => Bool) false (fun b t _ => zcd (zs_q a b) (ih t) false) l2) l1
theorem zq_le_ok : ∀ (l1 l2 : List (Nat ⊕ Nat)), zq_le l1 l2 = true → l1 = l2 := by
  intro l1
  induction l1 with
  | nil =>
    intro l2 h
    cases l2 with
    | nil => rfl
    | cons b t => cases h
  | cons a t ih =>
    intro l2 h
    cases l2 with
    | nil => cases h
    | cons b t2 =>
      obtain ⟨h1, h2⟩ := ze_condf (show zcd (zs_q a b) (zq_le t t2) false = true from h)
      rw [zs_q_ok h1, ih t2 h2]
section ZQR
variable {dA : Nat → ClassId} {sp : Nat → Nat} {ρ : List Int32} {w : EW} {ws : va_W}
theorem zq_e_ok (hW : ze_W dA sp ρ w ws) {k i : Nat} {f : (Nat ⊕ Nat) → Bool} (h : zq_e w k i f = true) : ∃ (a : Nat ⊕ Nat) (x : Int32), f a = true ∧ zv_at ρ a x ∧ zq_at ws k i x ∧ ∃ c, ze_gw w k = some c ∧ c.1 < 100 ∧ c.2[i]? = some (.inl a) := by
  obtain ⟨c, e1, h⟩ := ze_g_spec h
  replace h := ze_condf h
  obtain ⟨h1, h⟩ := h
  obtain ⟨v, e2, h⟩ := ze_n_spec _ _ _ h
  have h1 : c.1 < 100 := Nat.lt_succ_of_le (ze_ble' h1)
  obtain ⟨b, e, q1, q2⟩ := hW.2 k c e1
  obtain ⟨fs, rfl, hfs⟩ := q2.obj h1
  obtain ⟨X, e3, hX⟩ := hfs.get e2
  rcases v with a | v
  · obtain ⟨z, ez⟩ := ze_intV hX
    subst ez
    exact ⟨a, z, h, zv_atV hX, ⟨b, _, fs, q1, e3⟩, c, e1, h1, e2⟩
  · cases h
theorem zq_es_ok (hW : ze_W dA sp ρ w ws) : ∀ (ks : List (Nat × Nat)) (f : List (Nat ⊕ Nat) → Bool), zq_es w ks f = true → ∃ l, f l = true ∧ l.length = ks.length ∧ ∀ (j : Nat) (k : Nat × Nat), ks[j]? = some k → ∃ a x, l[j]? = some a ∧ zv_at ρ a x ∧ zq_at ws k.1 k.2 x := by
  intro ks
  induction ks with
  | nil => intro f h; exact ⟨[], h, rfl, fun j k hj => by cases hj⟩
  | cons k0 t ih =>
    intro f h
    obtain ⟨a, x, h1, h2, h3, -⟩ := zq_e_ok hW (show zq_e w k0.1 k0.2 (fun a => zq_es w t (fun l => f (a :: l))) = true from h)
    obtain ⟨l, q1, q2, q3⟩ := ih _ h1
    refine ⟨a :: l, q1, by simp [q2], fun j k hj => ?_⟩
    cases j with
    | zero => cases (Option.some.inj hj); exact ⟨a, x, rfl, h2, h3⟩
    | succ j => exact q3 j k hj
/-- a value written anew -/
theorem zq_wr (hW : ze_W dA sp ρ w ws) {k i : Nat} {c : EC} (hc : ze_gw w k = some c) (h1 : c.1 < 100) {a b : Nat ⊕ Nat} {x : Int32} (hi : c.2[i]? = some (.inl a)) (ha : zv_at ρ a x) (hb : zv_at ρ b x) : ze_W dA sp ρ (ze_ws w k (c.1, ze_s (.inl b) c.2 i)) ws := by
  obtain ⟨d, e, q1, q2⟩ := hW.2 k c hc
  obtain ⟨fs, rfl, hfs⟩ := q2.obj h1
  obtain ⟨X, e3, hX⟩ := hfs.get hi
  obtain ⟨z, ez⟩ := ze_intV hX
  subst ez
  have ez : z = x := (zv_atV hX).det ha
  subst ez
  refine hW.see q1 (Or.inl ⟨h1, fs, rfl, ?_⟩)
  rw [ze_s_eq]
  have e4 : fs.set i (.int z) = fs := by
    apply List.ext_getElem?
    intro j
    rw [List.getElem?_set]
    by_cases h9 : i = j
    · have hlt := (List.getElem?_eq_some_iff.mp e3).1
      rw [if_pos h9, if_pos hlt, ← h9, e3]
    · rw [if_neg h9]
  have h5 := ze_L.set (zv_Vat (sp := sp) (ad := ws.map (·.1)) hb) hfs i
  rw [e4] at h5
  exact h5
end ZQR
/-- intervals of one number -/
noncomputable def zq_sg (g : EG) (u : Nat) (f : Nat → Bool) : Bool := ze_n g u (fun p => zcd (Nat.beq p.1 p.2) (zcd (Nat.ble 2147483648 p.1) (f (Nat.sub p.1 2147483648)) false) false)
theorem zq_sg_ok {g : EG} {u : Nat} {f : Nat → Bool} {ρ : List Int32} {x : Int32} (h : zq_sg g u f = true) (hG : ze_G g ρ) (hx : ρ[u]? = some x) : ∃ n, f n = true ∧ x = nI n ∧ n < 2147483648 := by
  obtain ⟨p, e1, h⟩ := ze_n_spec _ _ _ h
  replace h := ze_condf h
  obtain ⟨h1, h⟩ := h
  replace h := ze_condf h
  obtain ⟨h2, h⟩ := h
  have h1 := ze_beq h1
  have h2 : 2147483648 ≤ p.1 := ze_ble' h2
  have hb := hG.2 u p x e1 hx
  have hx9 := ze_b_top x
  refine ⟨p.1 - 2147483648, h, ?_, by omega⟩
  have e : ze_b x = ze_b (nI (p.1 - 2147483648)) := by
    rw [ze_b_nI]
    omega
  exact ze_b_eq.mpr e

theorem zq_sg_sp {g : EG} {u : Nat} {f : Nat → Bool} (h : zq_sg g u f = true) : ∃ p, g[u]? = some p ∧ Nat.beq p.1 p.2 = true ∧ Nat.ble 2147483648 p.1 = true ∧ f (Nat.sub p.1 2147483648) = true := by
  obtain ⟨p, e1, h⟩ := ze_n_spec _ _ _ h
  replace h := ze_condf h
  obtain ⟨h1, h⟩ := h
  replace h := ze_condf h
  obtain ⟨h2, h⟩ := h
  exact ⟨p, e1, h1, h2, h⟩

/-! the relation: the ring of deeds, what was kept, the text -/
def zq_D (j : Nat) : Nat := 20 + 4 * j
def zq_S (j : Nat) : Nat := 80 + 4 * j
def zq_R (F S : Nat) (L : Int32) (d : Nat → Int32) : Prop := ∀ j, j < S → d ((F + j) % 15) = L
def zq_K (m : Nat) (L : Int32) (d : Nat → Int32) : Prop := ∀ j, j < 3 → m.testBit j = true → d j = L
def zq_T (T : Int32) (fa fb : Nat → Int32) : Prop := ∀ k, k < 80 → 2147483648 + k < ze_b T → fa k = fb k
/-- the values there -/
def zQv (ws : va_W) (F S m : Nat) (L P T : Int32) (d e sd se fa fb : Nat → Int32) : Prop := zq_at ws 17 2 (nI F) ∧ zq_at ws 17 3 (nI S) ∧ zq_at ws 17 4 (nI m) ∧ zq_at ws 5 3 L ∧ zq_at ws 5 4 P ∧ zq_at ws 1 1 T ∧ (∀ j, j < 15 → zq_at ws (zq_D j) 3 (d j) ∧ zq_at ws (zq_D j) 4 (e j)) ∧ (∀ j, j < 3 → zq_at ws (zq_S j) 3 (sd j) ∧ zq_at ws (zq_S j) 4 (se j)) ∧ zq_ar ws 2 fa ∧ zq_ar ws 124 fb
def zQp (F S m : Nat) (L P T : Int32) (d e sd se fa fb : Nat → Int32) : Prop := F < 15 ∧ S ≤ 15 ∧ m < 8 ∧ (zq_R F S L d ∧ zq_R F S P e) ∧ (zq_K m L sd ∧ zq_K m P se) ∧ zq_T T fa fb
def zQ (ws : va_W) : Prop := ∃ (F S m : Nat) (L P T : Int32) (d e sd se fa fb : Nat → Int32), zQv ws F S m L P T d e sd se fa fb ∧ zQp F S m L P T d e sd se fa fb
/-- the unknowns of a turn that stand for them -/
def zQt (τ : List Int32) (F S m : Nat) (L P T : Int32) (d e sd se fa fb : Nat → Int32) : Prop := τ[138]? = some (nI F) ∧ τ[139]? = some (nI S) ∧ τ[140]? = some (nI m) ∧ τ[12]? = some L ∧ τ[13]? = some P ∧ τ[10]? = some T ∧ (∀ j, j < 15 → τ[30 + 6 * j]? = some (d j) ∧ τ[31 + 6 * j]? = some (e j)) ∧ (∀ j, j < 3 → τ[120 + 6 * j]? = some (sd j) ∧ τ[121 + 6 * j]? = some (se j)) ∧ ∀ k, k < 80 → τ[196 + k]? = some (fa k) ∧ τ[276 + k]? = some (fb k) ∧ (2147483648 ≤ ze_b (fa k) ∧ ze_b (fa k) ≤ 2147483903) ∧ 2147483648 ≤ ze_b (fb k) ∧ ze_b (fb k) ≤ 2147483903
/-- how the ring changes -/
def zqr_up (d : Nat → Int32) (i : Nat) (L : Int32) : Nat → Int32 := fun j => if j = i then L else d j
theorem zq_R_push {F S : Nat} {L : Int32} {d : Nat → Int32} (h : zq_R F S L d) : zq_R F (S + 1) L (zqr_up d ((F + S) % 15) L) := by
  intro j hj
  unfold zqr_up
  by_cases e : (F + j) % 15 = (F + S) % 15
  · rw [if_pos e]
  · rw [if_neg e]
    exact h j (by
      rcases Nat.lt_or_ge j S with q | q
      · exact q
      · have : j = S := by omega
        subst this
        exact absurd rfl e)
theorem zq_R_full {F : Nat} {L : Int32} {d : Nat → Int32} (hF : F < 15) (h : zq_R F 15 L d) : zq_R ((F + 1) % 15) 15 L (zqr_up d (((F + 1) % 15 + 14) % 15) L) := by
  intro j hj
  unfold zqr_up
  by_cases e : ((F + 1) % 15 + j) % 15 = ((F + 1) % 15 + 14) % 15
  · rw [if_pos e]
  · rw [if_neg e]
    have h1 := h (j + 1) (by
      rcases Nat.lt_or_ge j 14 with q | q
      · omega
      · have : j = 14 := by omega
        subst this
        exact absurd rfl e)
    rw [show ((F + 1) % 15 + j) % 15 = (F + (j + 1)) % 15 by omega]
    exact h1
/-- small numbers as the machine has them -/
theorem zq_add {a b : Nat} : zo_F 0 (nI a) (nI b) = nI (a + b) := nI_add a b
theorem zq_rem : ∀ n, n < 31 → zo_F 6 (nI n) (nI 15) = nI (n % 15) := by decide +kernel
theorem zq_sub : ∀ n, n < 16 → zo_F 1 (nI (n + 1)) (nI 1) = nI n := by decide +kernel
theorem zq_sub0 : zo_F 1 (nI 0) (nI 1) = nI 4294967295 := by decide +kernel
/-! shifts, by bits (the first rows as the kit's BITS.to-paste has them) -/
def zb_t (x : Int32) (i : Nat) : Bool := x.toBitVec.getLsbD i
theorem zb_ext {x y : Int32} (h : ∀ i, i < 32 → zb_t x i = zb_t y i) : x = y := Int32.toBitVec_inj.mp (BitVec.eq_of_getLsbD_eq (fun i hi => h i hi))
theorem zb_and (x y : Int32) (i : Nat) : zb_t (x &&& y) i = (zb_t x i && zb_t y i) := by unfold zb_t; rw [Int32.toBitVec_and, BitVec.getLsbD_and]
theorem zb_255 : ∀ i, i < 32 → zb_t (nI 255) i = decide (i < 8) := by decide +kernel
theorem zb_s1 : ∀ n, n < 32 → ((nI n &&& 31).toBitVec.smod 32).toNat = n := by decide +kernel
theorem zb_s2 : ∀ n, n < 32 → (((nI n).toUInt32 &&& Int32.toUInt32 31).toBitVec % 32).toNat = n := by decide +kernel
theorem zb_ushr (n : Nat) (hn : n < 32) (x : Int32) (i : Nat) : zb_t ((x.toUInt32 >>> ((nI n).toUInt32 &&& Int32.toUInt32 31)).toInt32) i = zb_t x (n + i) := by
  show (x.toUInt32 >>> ((nI n).toUInt32 &&& Int32.toUInt32 31)).toBitVec.getLsbD i = x.toUInt32.toBitVec.getLsbD (n + i)
  rw [UInt32.toBitVec_shiftRight]
  show (x.toUInt32.toBitVec >>> (((nI n).toUInt32 &&& Int32.toUInt32 31).toBitVec % 32).toNat).getLsbD i = _
  rw [zb_s2 n hn, BitVec.getLsbD_ushiftRight]
theorem zb_sshr (n : Nat) (hn : n < 32) (x : Int32) {i : Nat} (hi : i < 32) : zb_t (x >>> (nI n &&& 31)) i = if n + i < 32 then zb_t x (n + i) else zb_t x 31 := by
  unfold zb_t
  rw [Int32.toBitVec_shiftRight]
  show (x.toBitVec.sshiftRight ((nI n &&& 31).toBitVec.smod 32).toNat).getLsbD i = _
  rw [zb_s1 n hn, BitVec.getLsbD_sshiftRight, BitVec.msb_eq_getLsbD_last]
  simp [hi]
theorem zq_sh {n : Nat} (hn : n ≤ 24) (v : Int32) : zo_F 3 (zo_F 4 v (nI n)) (nI 255) = zo_F 3 (zo_F 5 v (nI n)) (nI 255) := by
  refine zb_ext fun i hi => ?_
  show zb_t ((v >>> (nI n &&& 31)) &&& nI 255) i = zb_t (((v.toUInt32 >>> ((nI n).toUInt32 &&& Int32.toUInt32 31)).toInt32) &&& nI 255) i
  rw [zb_and, zb_and, zb_255 i hi, zb_ushr n (by omega), zb_sshr n (by omega) v hi]
  by_cases h8 : i < 8
  · rw [if_pos (by omega)]
  · rw [decide_eq_false h8, Bool.and_false, Bool.and_false]
/-! unknowns of a turn that no cell holds, one by one -/
def zq_gv (τ : List Int32) (a : Nat ⊕ Nat) : Int32 := match a with
  | .inl n => nI n
  | .inr i => τ.getD i 0
def zq_gx (τ : List Int32) : List (Nat × (Nat ⊕ Nat) × (Nat ⊕ Nat)) → List Int32
  | [] => τ
  | e :: t => zq_gx (τ ++ [zo_F e.1 (zq_gv τ e.2.1) (zq_gv τ e.2.2)]) t
def zq_gw (n : Nat) (a : Nat ⊕ Nat) : Bool := match a with
  | .inl _ => true
  | .inr i => decide (i < n)
def zqr_wf : Nat → List (Nat × (Nat ⊕ Nat) × (Nat ⊕ Nat)) → Bool
  | _, [] => true
  | n, e :: t => zq_gw n e.2.1 && zq_gw n e.2.2 && zqr_wf (n + 1) t
theorem zq_gv_at {τ : List Int32} {a : Nat ⊕ Nat} (h : zq_gw τ.length a = true) : zv_at τ a (zq_gv τ a) := by
  match a, h with
  | .inl n, _ => exact rfl
  | .inr i, h =>
    have h : i < τ.length := of_decide_eq_true h
    show τ[i]? = some (τ.getD i 0)
    rw [List.getD_eq_getElem?_getD, List.getElem?_eq_getElem h]
    rfl
theorem zq_gx_ok : ∀ (GD : List (Nat × (Nat ⊕ Nat) × (Nat ⊕ Nat))) (τ : List Int32), zqr_wf τ.length GD = true → τ <+: zq_gx τ GD ∧ (zq_gx τ GD).length = τ.length + GD.length ∧ ∀ (j : Nat) (e : Nat × (Nat ⊕ Nat) × (Nat ⊕ Nat)), GD[j]? = some e → ∃ x y, zv_at (zq_gx τ GD) e.2.1 x ∧ zv_at (zq_gx τ GD) e.2.2 y ∧ (zq_gx τ GD)[τ.length + j]? = some (zo_F e.1 x y) := by
  intro GD
  induction GD with
  | nil => intro τ _; exact ⟨List.prefix_refl _, rfl, fun j e h => by cases h⟩
  | cons e t ih =>
    intro τ h
    have h : (zq_gw τ.length e.2.1 && zq_gw τ.length e.2.2 && zqr_wf (τ.length + 1) t) = true := h
    rw [Bool.and_eq_true, Bool.and_eq_true] at h
    obtain ⟨⟨h1, h2⟩, h3⟩ := h
    have hl : (τ ++ [zo_F e.1 (zq_gv τ e.2.1) (zq_gv τ e.2.2)]).length = τ.length + 1 := by simp
    obtain ⟨q1, q2, q3⟩ := ih (τ ++ [zo_F e.1 (zq_gv τ e.2.1) (zq_gv τ e.2.2)]) (by rw [hl]; exact h3)
    have hp : τ <+: zq_gx τ (e :: t) := (List.prefix_append τ _).trans q1
    refine ⟨hp, ?_, fun j e2 hj => ?_⟩
    · show (zq_gx (τ ++ [_]) t).length = _
      rw [q2, hl, List.length_cons]
      omega
    · cases j with
      | zero =>
        cases (Option.some.inj hj)
        refine ⟨_, _, (zq_gv_at h1).mono hp, (zq_gv_at h2).mono hp, ?_⟩
        refine ze_pre q1 ?_
        rw [Nat.add_zero, List.getElem?_append_right (Nat.le_refl _), Nat.sub_self]
        rfl
      | succ j =>
        obtain ⟨x, y, r1, r2, r3⟩ := q3 j e2 hj
        refine ⟨x, y, r1, r2, ?_⟩
        rw [hl] at r3
        rw [show τ.length + (j + 1) = τ.length + 1 + j by omega]
        exact r3
def zT_GD : List (Nat × (Nat ⊕ Nat) × (Nat ⊕ Nat)) := [(0, .inr 138, .inr 139), (6, .inr 356, .inl 15), (0, .inr 139, .inl 1), (0, .inr 138, .inl 1), (6, .inr 359, .inl 15), (0, .inr 360, .inl 14), (6, .inr 361, .inl 15), (1, .inr 139, .inl 1), (0, .inr 138, .inr 363), (6, .inr 364, .inl 15), (5, .inr 1, .inl 24), (3, .inr 366, .inl 255), (4, .inr 1, .inl 24), (5, .inr 1, .inl 16), (3, .inr 369, .inl 255), (4, .inr 1, .inl 16), (5, .inr 1, .inl 8), (3, .inr 372, .inl 255), (4, .inr 1, .inl 8), (5, .inr 1, .inl 0), (3, .inr 375, .inl 255), (4, .inr 1, .inl 0)]
def zT_FA : List ZFf := [(0, .inr 138, .inr 139, 356), (6, .inr 356, .inl 15, 357), (0, .inr 139, .inl 1, 358), (0, .inr 138, .inl 1, 359), (6, .inr 359, .inl 15, 360), (0, .inr 360, .inl 14, 361), (6, .inr 361, .inl 15, 362), (1, .inr 139, .inl 1, 363), (0, .inr 138, .inr 363, 364), (6, .inr 364, .inl 15, 365), (5, .inr 1, .inl 24, 366), (3, .inr 366, .inl 255, 367), (4, .inr 1, .inl 24, 368), (5, .inr 1, .inl 16, 369), (3, .inr 369, .inl 255, 370), (4, .inr 1, .inl 16, 371), (5, .inr 1, .inl 8, 372), (3, .inr 372, .inl 255, 373), (4, .inr 1, .inl 8, 374), (5, .inr 1, .inl 0, 375), (3, .inr 375, .inl 255, 376), (4, .inr 1, .inl 0, 377), (3, .inr 368, .inl 255, 367), (3, .inr 371, .inl 255, 370), (3, .inr 374, .inl 255, 373), (3, .inr 377, .inl 255, 376)]
theorem zT_GDw : zqr_wf 356 zT_GD = true := by decide +kernel
theorem zT_FAd : ∀ f ∈ zT_FA, (∃ j, j < 22 ∧ f.2.2.2 = 356 + j ∧ zT_GD[j]? = some (f.1, f.2.1, f.2.2.1)) ∨ (∃ k, k < 4 ∧ f = (3, .inr (368 + 3 * k), .inl 255, 367 + 3 * k)) := by
  intro f hf
  unfold zT_FA at hf
  simp only [List.mem_cons, List.not_mem_nil, or_false] at hf
  rcases hf with rfl | rfl | rfl | rfl | rfl | rfl | rfl | rfl | rfl | rfl | rfl | rfl | rfl | rfl | rfl | rfl | rfl | rfl | rfl | rfl | rfl | rfl | rfl | rfl | rfl | rfl
  · exact Or.inl ⟨0, by decide, rfl, rfl⟩
  · exact Or.inl ⟨1, by decide, rfl, rfl⟩
  · exact Or.inl ⟨2, by decide, rfl, rfl⟩
  · exact Or.inl ⟨3, by decide, rfl, rfl⟩
  · exact Or.inl ⟨4, by decide, rfl, rfl⟩
  · exact Or.inl ⟨5, by decide, rfl, rfl⟩
  · exact Or.inl ⟨6, by decide, rfl, rfl⟩
  · exact Or.inl ⟨7, by decide, rfl, rfl⟩
  · exact Or.inl ⟨8, by decide, rfl, rfl⟩
  · exact Or.inl ⟨9, by decide, rfl, rfl⟩
  · exact Or.inl ⟨10, by decide, rfl, rfl⟩
  · exact Or.inl ⟨11, by decide, rfl, rfl⟩
  · exact Or.inl ⟨12, by decide, rfl, rfl⟩
  · exact Or.inl ⟨13, by decide, rfl, rfl⟩
  · exact Or.inl ⟨14, by decide, rfl, rfl⟩
  · exact Or.inl ⟨15, by decide, rfl, rfl⟩
  · exact Or.inl ⟨16, by decide, rfl, rfl⟩
  · exact Or.inl ⟨17, by decide, rfl, rfl⟩
  · exact Or.inl ⟨18, by decide, rfl, rfl⟩
  · exact Or.inl ⟨19, by decide, rfl, rfl⟩
  · exact Or.inl ⟨20, by decide, rfl, rfl⟩
  · exact Or.inl ⟨21, by decide, rfl, rfl⟩
  · exact Or.inr ⟨0, by decide, rfl⟩
  · exact Or.inr ⟨1, by decide, rfl⟩
  · exact Or.inr ⟨2, by decide, rfl⟩
  · exact Or.inr ⟨3, by decide, rfl⟩
theorem zT_GDs : ∀ k, k < 4 → zT_GD[10 + 3 * k]? = some (5, .inr 1, .inl (24 - 8 * k)) ∧ zT_GD[10 + 3 * k + 1]? = some (3, .inr (366 + 3 * k), .inl 255) ∧ zT_GD[10 + 3 * k + 2]? = some (4, .inr 1, .inl (24 - 8 * k)) := fun k hk => match k, hk with
  | 0, _ => ⟨rfl, rfl, rfl⟩
  | 1, _ => ⟨rfl, rfl, rfl⟩
  | 2, _ => ⟨rfl, rfl, rfl⟩
  | 3, _ => ⟨rfl, rfl, rfl⟩
  | k + 4, hk => absurd hk (by omega)
theorem zT_FAok {τ : List Int32} (hl : τ.length = 356) : zF_ok zT_FA (zq_gx τ zT_GD) := by
  obtain ⟨q1, q2, q3⟩ := zq_gx_ok zT_GD τ (by rw [hl]; exact zT_GDw)
  rw [hl] at q3
  intro f hf
  rcases zT_FAd f hf with ⟨j, -, e1, e2⟩ | ⟨k, hk, rfl⟩
  · obtain ⟨x, y, r1, r2, r3⟩ := q3 j _ e2
    exact ⟨x, y, r1, r2, by rw [e1]; exact r3⟩
  · obtain ⟨d1, d2, d3⟩ := zT_GDs k hk
    obtain ⟨x1, y1, a1, a2, a3⟩ := q3 _ _ d1
    obtain ⟨x2, y2, b1, b2, b3⟩ := q3 _ _ d2
    obtain ⟨x3, y3, c1, c2, c3⟩ := q3 _ _ d3
    have ey1 : y1 = nI (24 - 8 * k) := a2
    have ey2 : y2 = nI 255 := b2
    have ey3 : y3 = nI (24 - 8 * k) := c2
    have ex : x1 = x3 := a1.det c1
    subst ey1; subst ey2; subst ey3; subst ex
    have eu : x2 = zo_F 5 x1 (nI (24 - 8 * k)) := by
      refine b1.det ?_
      show _ = _
      rw [show 366 + 3 * k = 356 + (10 + 3 * k) by omega]
      exact a3
    subst eu
    refine ⟨zo_F 4 x1 (nI (24 - 8 * k)), nI 255, ?_, rfl, ?_⟩
    · show _ = _
      rw [show 368 + 3 * k = 356 + (10 + 3 * k + 2) by omega]
      exact c3
    · show (zq_gx τ zT_GD)[367 + 3 * k]? = some (zo_F 3 (zo_F 4 x1 (nI (24 - 8 * k))) (nI 255))
      rw [zq_sh (by omega), show 367 + 3 * k = 356 + (10 + 3 * k + 1) by omega]
      exact b3
theorem zF_sub {FA FB : List ZFf} {τ : List Int32} (h : zF_ok FB τ) (hs : ∀ f ∈ FA, f ∈ FB) : zF_ok FA τ := fun f hf => h f (hs f hf)
/-! a turn's start: the text by its signs, unknowns for the ring -/
theorem zq_Dlt {j : Nat} : zq_D j = 20 + 4 * j := rfl
/-- m signs of the first list, then the others of the second -/
noncomputable def zT_mx (m : Nat) : List EV → List EV → List EV := Nat.rec (motive := fun _ => List EV → List EV → List EV) (fun _ b => b) (fun _ ih a b => List.rec (motive := fun _ => List EV) b (fun x t _ => x :: ih t (ze_t1 b)) a) m
theorem zT_mx_get : ∀ (m : Nat) (a b : List EV), a.length = b.length → (zT_mx m a b).length = b.length ∧ ∀ j, (zT_mx m a b)[j]? = if j < m then a[j]? else b[j]? := by
  intro m
  induction m with
  | zero => intro a b _; exact ⟨rfl, fun j => by rw [if_neg (Nat.not_lt_zero j)]; rfl⟩
  | succ m ih =>
    intro a b h
    cases a with
    | nil =>
      refine ⟨rfl, fun j => ?_⟩
      have hb : b = [] := List.length_eq_zero_iff.mp h.symm
      subst hb
      show ([] : List EV)[j]? = _
      split <;> rfl
    | cons x t =>
      cases b with
      | nil => cases h
      | cons y r =>
        have h1 : t.length = r.length := Nat.succ.inj h
        obtain ⟨q1, q2⟩ := ih t r h1
        refine ⟨congrArg Nat.succ q1, fun j => ?_⟩
        show (x :: zT_mx m t r)[j]? = _
        cases j with
        | zero => rw [if_pos (Nat.succ_pos m)]; rfl
        | succ j =>
          rw [List.getElem?_cons_succ, q2 j]
          by_cases hj : j < m
          · rw [if_pos hj, if_pos (Nat.succ_lt_succ hj)]; rfl
          · rw [if_neg hj, if_neg (fun q => hj (Nat.lt_of_succ_lt_succ q))]; rfl
def zT_A0 : List EV := (List.range 80).map (fun j => eU (196 + j))
def zT_B0 : List EV := (List.range 80).map (fun j => eU (276 + j))
noncomputable def zT_Ac : List EV := [eU 196, eU 197, eU 198, eU 199, eU 200, eU 201, eU 202, eU 203, eU 204, eU 205, eU 206, eU 207, eU 208, eU 209, eU 210, eU 211, eU 212, eU 213, eU 214, eU 215, eU 216, eU 217, eU 218, eU 219, eU 220, eU 221, eU 222, eU 223, eU 224, eU 225, eU 226, eU 227, eU 228, eU 229, eU 230, eU 231, eU 232, eU 233, eU 234, eU 235, eU 236, eU 237, eU 238, eU 239, eU 240, eU 241, eU 242, eU 243, eU 244, eU 245, eU 246, eU 247, eU 248, eU 249, eU 250, eU 251, eU 252, eU 253, eU 254, eU 255, eU 256, eU 257, eU 258, eU 259, eU 260, eU 261, eU 262, eU 263, eU 264, eU 265, eU 266, eU 267, eU 268, eU 269, eU 270, eU 271, eU 272, eU 273, eU 274, eU 275]
noncomputable def zT_Bc : List EV := [eU 276, eU 277, eU 278, eU 279, eU 280, eU 281, eU 282, eU 283, eU 284, eU 285, eU 286, eU 287, eU 288, eU 289, eU 290, eU 291, eU 292, eU 293, eU 294, eU 295, eU 296, eU 297, eU 298, eU 299, eU 300, eU 301, eU 302, eU 303, eU 304, eU 305, eU 306, eU 307, eU 308, eU 309, eU 310, eU 311, eU 312, eU 313, eU 314, eU 315, eU 316, eU 317, eU 318, eU 319, eU 320, eU 321, eU 322, eU 323, eU 324, eU 325, eU 326, eU 327, eU 328, eU 329, eU 330, eU 331, eU 332, eU 333, eU 334, eU 335, eU 336, eU 337, eU 338, eU 339, eU 340, eU 341, eU 342, eU 343, eU 344, eU 345, eU 346, eU 347, eU 348, eU 349, eU 350, eU 351, eU 352, eU 353, eU 354, eU 355]
set_option maxRecDepth 100000 in
theorem zT_Ae : zT_Ac = zT_A0 := rfl
set_option maxRecDepth 100000 in
theorem zT_Be : zT_Bc = zT_B0 := rfl
noncomputable def zT_mB (p1 : Nat) : List EV := zT_mx (ze_mn 10 (Nat.sub p1 2147483648)) zT_Ac zT_Bc
noncomputable def zT_wx (wk : EW) (g : EG) (f : EW → Bool) : Bool := ze_n g 10 (fun p => f (ze_ws (ze_ws wk 2 (101, zT_Ac)) 124 (100, zT_mB p.1)))
/-- intervals by how many deeds there are -/
noncomputable def zT_n1 (p : Nat × Nat) (g : EG) : EG := zcd (Nat.ble p.2 2147483662) (zcd (Nat.ble 2147483648 p.1) (ze_s (Nat.succ p.1, Nat.succ p.2) g 358) g) g
noncomputable def zT_n2 (p : Nat × Nat) (g : EG) : EG := zcd (Nat.ble 2147483649 p.1) (zcd (Nat.ble p.2 2147483663) (ze_s (2147483648, 2147483662) (ze_s (Nat.pred p.1, Nat.add p.2 13) (ze_s (Nat.pred p.1, Nat.pred p.2) g 363) 364) 365) g) g
noncomputable def zT_nm (g : EG) (f : EG → Bool) : Bool := ze_n g 139 (fun p => f (zT_n2 p (zT_n1 p g)))
/-- what is known of a turn's unknowns -/
def zT_K (τ : List Int32) (F S m : Nat) (L P T : Int32) (d e sd se fa fb : Nat → Int32) : Prop := zQt τ F S m L P T d e sd se fa fb ∧ zQp F S m L P T d e sd se fa fb ∧ zF_ok zT_FA τ
theorem zT_fact {τ : List Int32} (h : zF_ok zT_FA τ) {op : Nat} {a b : Nat ⊕ Nat} {r : Nat} (hm : (op, a, b, r) ∈ zT_FA) {x y : Int32} (ha : zv_at τ a x) (hb : zv_at τ b y) : τ[r]? = some (zo_F op x y) := by
  obtain ⟨x2, y2, q1, q2, q3⟩ := h _ hm
  have e1 := q1.det ha
  have e2 := q2.det hb
  subst e1; subst e2
  exact q3
section ZTK
variable {τ : List Int32} {F S m : Nat} {L P T : Int32} {d e sd se fa fb : Nat → Int32}
theorem zT_Ks (h : zT_K τ F S m L P T d e sd se fa fb) : τ[356]? = some (nI (F + S)) := by
  have h1 := zT_fact h.2.2 (op := 0) (a := .inr 138) (b := .inr 139) (r := 356) (List.mem_of_getElem? (i := 0) rfl) h.1.1 h.1.2.1
  rw [zq_add] at h1
  exact h1
theorem zT_Kr (h : zT_K τ F S m L P T d e sd se fa fb) : τ[357]? = some (nI ((F + S) % 15)) := by
  have h0 := h.2.1
  have h1 := zT_fact h.2.2 (op := 6) (a := .inr 356) (b := .inl 15) (r := 357) (List.mem_of_getElem? (i := 1) rfl) (zT_Ks h) rfl
  rw [zq_rem (F + S) (by have := h0.1; have := h0.2.1; omega)] at h1
  exact h1
theorem zT_Kz (h : zT_K τ F S m L P T d e sd se fa fb) : τ[358]? = some (nI (S + 1)) := by
  have h1 := zT_fact h.2.2 (op := 0) (a := .inr 139) (b := .inl 1) (r := 358) (List.mem_of_getElem? (i := 2) rfl) h.1.2.1 rfl
  rw [zq_add] at h1
  exact h1
theorem zT_Kf1 (h : zT_K τ F S m L P T d e sd se fa fb) : τ[359]? = some (nI (F + 1)) := by
  have h1 := zT_fact h.2.2 (op := 0) (a := .inr 138) (b := .inl 1) (r := 359) (List.mem_of_getElem? (i := 3) rfl) h.1.1 rfl
  rw [zq_add] at h1
  exact h1
theorem zT_Kfn (h : zT_K τ F S m L P T d e sd se fa fb) : τ[360]? = some (nI ((F + 1) % 15)) := by
  have h0 := h.2.1
  have h1 := zT_fact h.2.2 (op := 6) (a := .inr 359) (b := .inl 15) (r := 360) (List.mem_of_getElem? (i := 4) rfl) (zT_Kf1 h) rfl
  rw [zq_rem (F + 1) (by have := h0.1; omega)] at h1
  exact h1
theorem zT_Ks2 (h : zT_K τ F S m L P T d e sd se fa fb) : τ[361]? = some (nI ((F + 1) % 15 + 14)) := by
  have h1 := zT_fact h.2.2 (op := 0) (a := .inr 360) (b := .inl 14) (r := 361) (List.mem_of_getElem? (i := 5) rfl) (zT_Kfn h) rfl
  rw [zq_add] at h1
  exact h1
theorem zT_Kr2 (h : zT_K τ F S m L P T d e sd se fa fb) : τ[362]? = some (nI (((F + 1) % 15 + 14) % 15)) := by
  have h1 := zT_fact h.2.2 (op := 6) (a := .inr 361) (b := .inl 15) (r := 362) (List.mem_of_getElem? (i := 6) rfl) (zT_Ks2 h) rfl
  rw [zq_rem ((F + 1) % 15 + 14) (by omega)] at h1
  exact h1
theorem zT_Kzm (h : zT_K τ F S m L P T d e sd se fa fb) (hS : 1 ≤ S) : τ[363]? = some (nI (S - 1)) := by
  have h0 := h.2.1
  have h1 := zT_fact h.2.2 (op := 1) (a := .inr 139) (b := .inl 1) (r := 363) (List.mem_of_getElem? (i := 7) rfl) h.1.2.1 rfl
  obtain ⟨S9, rfl⟩ : ∃ k, S = k + 1 := ⟨S - 1, by omega⟩
  rw [zq_sub S9 (by have := h0.2.1; omega)] at h1
  exact h1
theorem zT_Ksm (h : zT_K τ F S m L P T d e sd se fa fb) (hS : 1 ≤ S) : τ[364]? = some (nI (F + (S - 1))) := by
  have h1 := zT_fact h.2.2 (op := 0) (a := .inr 138) (b := .inr 363) (r := 364) (List.mem_of_getElem? (i := 8) rfl) h.1.1 (zT_Kzm h hS)
  rw [zq_add] at h1
  exact h1
theorem zT_Krm (h : zT_K τ F S m L P T d e sd se fa fb) (hS : 1 ≤ S) : τ[365]? = some (nI ((F + (S - 1)) % 15)) := by
  have h0 := h.2.1
  have h1 := zT_fact h.2.2 (op := 6) (a := .inr 364) (b := .inl 15) (r := 365) (List.mem_of_getElem? (i := 9) rfl) (zT_Ksm h hS) rfl
  rw [zq_rem (F + (S - 1)) (by have := h0.1; have := h0.2.1; omega)] at h1
  exact h1
theorem zq_bn {n : Nat} (h : n ≤ 1000) : ze_b (nI n) = 2147483648 + n := by
  rw [ze_b_nI]
  omega
theorem zT_nm_ok (h : zT_K τ F S m L P T d e sd se fa fb) {ρ : List Int32} (hτ : τ <+: ρ) {g : EG} {f : EG → Bool} (hG : ze_G g ρ) (hf : zT_nm g f = true) : ∃ g', f g' = true ∧ ze_G g' ρ := by
  obtain ⟨p, e1, hf⟩ := ze_n_spec _ _ _ hf
  have h0 := h.2.1
  have hS := ze_pre hτ h.1.2.1
  have hb := hG.2 _ _ _ e1 hS
  have hSl := h0.2.1
  rw [zq_bn (by omega)] at hb
  refine ⟨_, hf, ?_⟩
  have g1 : ze_G (zT_n1 p g) ρ := by
    unfold zT_n1
    cases c1 : Nat.ble p.2 2147483662 with
    | false => exact hG
    | true =>
      cases c2 : Nat.ble 2147483648 p.1 with
      | false => exact hG
      | true =>
        have c1 := ze_ble' c1
        have hz := ze_pre hτ (zT_Kz h)
        have hbz : ze_b (nI (S + 1)) = 2147483648 + (S + 1) := zq_bn (by omega)
        exact hG.set (p := (p.1 + 1, p.2 + 1)) hz (by rw [hbz]; omega) (by rw [hbz]; omega)
  unfold zT_n2
  cases c1 : Nat.ble 2147483649 p.1 with
  | false => exact g1
  | true =>
    cases c2 : Nat.ble p.2 2147483663 with
    | false => exact g1
    | true =>
      have c1 : 2147483649 ≤ p.1 := ze_ble' c1
      have c2 : p.2 ≤ 2147483663 := ze_ble' c2
      have hS1 : 1 ≤ S := by omega
      have b1 : ze_b (nI (S - 1)) = 2147483648 + (S - 1) := zq_bn (by omega)
      have b2 : ze_b (nI (F + (S - 1))) = 2147483648 + (F + (S - 1)) := zq_bn (by have := h0.1; omega)
      have b3 : ze_b (nI ((F + (S - 1)) % 15)) = 2147483648 + (F + (S - 1)) % 15 := zq_bn (by omega)
      have k1 := g1.set (p := (Nat.pred p.1, Nat.pred p.2)) (ze_pre hτ (zT_Kzm h hS1)) (by rw [b1]; show p.1 - 1 ≤ _; omega) (by rw [b1]; show _ ≤ p.2 - 1; omega)
      have k2 := k1.set (p := (Nat.pred p.1, Nat.add p.2 13)) (ze_pre hτ (zT_Ksm h hS1)) (by rw [b2]; show p.1 - 1 ≤ _; omega) (by rw [b2]; show _ ≤ p.2 + 13; have := h0.1; omega)
      exact k2.set (p := (2147483648, 2147483662)) (ze_pre hτ (zT_Krm h hS1)) (by rw [b3]; omega) (by rw [b3]; omega)
end ZTK
/-! a turn's end: does the relation hold? -/
def zT_Dk : List (Nat × Nat) := [(20, 3), (24, 3), (28, 3), (32, 3), (36, 3), (40, 3), (44, 3), (48, 3), (52, 3), (56, 3), (60, 3), (64, 3), (68, 3), (72, 3), (76, 3)]
def zT_Ek : List (Nat × Nat) := [(20, 4), (24, 4), (28, 4), (32, 4), (36, 4), (40, 4), (44, 4), (48, 4), (52, 4), (56, 4), (60, 4), (64, 4), (68, 4), (72, 4), (76, 4)]
def zT_SDk : List (Nat × Nat) := [(80, 3), (84, 3), (88, 3)]
def zT_SEk : List (Nat × Nat) := [(80, 4), (84, 4), (88, 4)]
def zT_D0 : List (Nat ⊕ Nat) := [.inr 30, .inr 36, .inr 42, .inr 48, .inr 54, .inr 60, .inr 66, .inr 72, .inr 78, .inr 84, .inr 90, .inr 96, .inr 102, .inr 108, .inr 114]
def zT_E0 : List (Nat ⊕ Nat) := [.inr 31, .inr 37, .inr 43, .inr 49, .inr 55, .inr 61, .inr 67, .inr 73, .inr 79, .inr 85, .inr 91, .inr 97, .inr 103, .inr 109, .inr 115]
def zT_SD0 : List (Nat ⊕ Nat) := [.inr 120, .inr 126, .inr 132]
def zT_SE0 : List (Nat ⊕ Nat) := [.inr 121, .inr 127, .inr 133]
theorem zT_Dkg : ∀ j, j < 15 → zT_Dk[j]? = some (zq_D j, 3) ∧ zT_Ek[j]? = some (zq_D j, 4) ∧ zT_D0[j]? = some (.inr (30 + 6 * j)) ∧ zT_E0[j]? = some (.inr (31 + 6 * j)) := fun j hj => match j, hj with
  | 0, _ => ⟨rfl, rfl, rfl, rfl⟩
  | 1, _ => ⟨rfl, rfl, rfl, rfl⟩
  | 2, _ => ⟨rfl, rfl, rfl, rfl⟩
  | 3, _ => ⟨rfl, rfl, rfl, rfl⟩
  | 4, _ => ⟨rfl, rfl, rfl, rfl⟩
  | 5, _ => ⟨rfl, rfl, rfl, rfl⟩
  | 6, _ => ⟨rfl, rfl, rfl, rfl⟩
  | 7, _ => ⟨rfl, rfl, rfl, rfl⟩
  | 8, _ => ⟨rfl, rfl, rfl, rfl⟩
  | 9, _ => ⟨rfl, rfl, rfl, rfl⟩
  | 10, _ => ⟨rfl, rfl, rfl, rfl⟩
  | 11, _ => ⟨rfl, rfl, rfl, rfl⟩
  | 12, _ => ⟨rfl, rfl, rfl, rfl⟩
  | 13, _ => ⟨rfl, rfl, rfl, rfl⟩
  | 14, _ => ⟨rfl, rfl, rfl, rfl⟩
  | j + 15, hj => absurd hj (by omega)
theorem zT_Skg : ∀ j, j < 3 → zT_SDk[j]? = some (zq_S j, 3) ∧ zT_SEk[j]? = some (zq_S j, 4) ∧ zT_SD0[j]? = some (.inr (120 + 6 * j)) ∧ zT_SE0[j]? = some (.inr (121 + 6 * j)) := fun j hj => match j, hj with
  | 0, _ => ⟨rfl, rfl, rfl, rfl⟩
  | 1, _ => ⟨rfl, rfl, rfl, rfl⟩
  | 2, _ => ⟨rfl, rfl, rfl, rfl⟩
  | j + 3, hj => absurd hj (by omega)
noncomputable def zT_bit (m i : Nat) : Bool := Nat.beq (Nat.mod (Nat.div m (Nat.pow 2 i)) 2) 1
theorem zT_bit_eq : ∀ m, m < 8 → ∀ i, i < 3 → zT_bit m i = m.testBit i := by decide +kernel
/-- a count brought back from a deed, or from what was kept, is what it was -/
noncomputable def zT_f1 (d0 : List (Nat ⊕ Nat)) (v : Nat ⊕ Nat) (g : EG) : Bool := zq_sg g 365 (fun i => zcd (Nat.ble i 14) (zcd (ze_n d0 i (fun a => zs_q a v)) (ze_n g 139 (fun p => Nat.ble 2147483649 p.1)) false) false)
noncomputable def zT_f3 (s0 : List (Nat ⊕ Nat)) (v : Nat ⊕ Nat) (m i : Nat) : Bool := zcd (zT_bit m i) (ze_n s0 i (fun a => zs_q a v)) false
noncomputable def zT_f2 (s0 : List (Nat ⊕ Nat)) (v : Nat ⊕ Nat) (g : EG) : Bool := zq_sg g 140 (fun m => zcd (Nat.ble m 7) (zcd (zT_f3 s0 v m 0) true (zcd (zT_f3 s0 v m 1) true (zT_f3 s0 v m 2))) false)
noncomputable def zT_fx (d0 s0 : List (Nat ⊕ Nat)) (u : Nat) (v : Nat ⊕ Nat) (g : EG) (f : (Nat ⊕ Nat) → Bool) : Bool := zcd (zcd (zT_f1 d0 v g) true (zT_f2 s0 v g)) (f (.inr u)) (f v)
/-- the ring -/
noncomputable def zT_sm (nl np : Nat ⊕ Nat) : Bool := zcd (zs_q nl (.inr 12)) (zs_q np (.inr 13)) false
noncomputable def zT_r0 (F' S' : Nat ⊕ Nat) : Bool := zcd (zs_q F' (.inr 138)) (zs_q S' (.inl 0)) false
noncomputable def zT_r1 (F' S' : Nat ⊕ Nat) (D' E' : List (Nat ⊕ Nat)) : Bool := zcd (zs_q F' (.inr 138)) (zcd (zs_q S' (.inr 139)) (zcd (zq_le D' zT_D0) (zq_le E' zT_E0) false) false) false
noncomputable def zT_rp (r : Nat) (D' E' : List (Nat ⊕ Nat)) (g : EG) : Bool := zq_sg g r (fun i => zcd (Nat.ble i 14) (zcd (zq_le D' (ze_s (.inr 12) zT_D0 i)) (zq_le E' (ze_s (.inr 13) zT_E0 i)) false) false)
noncomputable def zT_r2 (F' S' : Nat ⊕ Nat) (D' E' : List (Nat ⊕ Nat)) (g : EG) : Bool := zcd (zs_q F' (.inr 138)) (zcd (zs_q S' (.inr 358)) (zcd (ze_n g 139 (fun p => Nat.ble p.2 2147483662)) (zT_rp 357 D' E' g) false) false) false
noncomputable def zT_r3 (F' S' : Nat ⊕ Nat) (D' E' : List (Nat ⊕ Nat)) (g : EG) : Bool := zcd (zs_q F' (.inr 360)) (zcd (zs_q S' (.inl 15)) (zcd (ze_n g 139 (fun p => Nat.ble 2147483663 p.1)) (zT_rp 362 D' E' g) false) false) false
noncomputable def zT_r4 (F' S' : Nat ⊕ Nat) (D' E' : List (Nat ⊕ Nat)) (g : EG) : Bool := zcd (zs_q F' (.inr 138)) (zcd (zs_q S' (.inr 363)) (zcd (ze_n g 139 (fun p => Nat.ble 2147483649 p.1)) (zcd (zq_le D' zT_D0) (zq_le E' zT_E0) false) false) false) false
noncomputable def zT_rg (nl np F' S' : Nat ⊕ Nat) (D' E' : List (Nat ⊕ Nat)) (g : EG) : Bool := zcd (zT_r0 F' S') true (zcd (zT_sm nl np) (zcd (zT_r1 F' S' D' E') true (zcd (zT_r2 F' S' D' E' g) true (zcd (zT_r3 F' S' D' E' g) true (zT_r4 F' S' D' E' g)))) false)
/-- what was kept -/
noncomputable def zT_k1 (m m' : Nat) (SD' SE' : List (Nat ⊕ Nat)) (i : Nat) : Bool := zcd (zT_bit m' i) (zcd (zcd (ze_n SD' i (fun a => zs_q a (.inr 12))) (ze_n SE' i (fun a => zs_q a (.inr 13))) false) true (zcd (zT_bit m i) (zcd (ze_n SD' i (fun a => zs_q a (.inr (Nat.add 120 (Nat.mul 6 i))))) (ze_n SE' i (fun a => zs_q a (.inr (Nat.add 121 (Nat.mul 6 i))))) false) false)) true
noncomputable def zT_kp (nl np M' : Nat ⊕ Nat) (SD' SE' : List (Nat ⊕ Nat)) (g : EG) : Bool := zcd (zs_q M' (.inl 0)) true (zcd (zT_sm nl np) (zcd (zcd (zs_q M' (.inr 140)) (zcd (zq_le SD' zT_SD0) (zq_le SE' zT_SE0) false) false) true (zv_s M' (fun m' => zcd (Nat.ble m' 7) (zq_sg g 140 (fun m => zcd (Nat.ble m 7) (zcd (zT_k1 m m' SD' SE' 0) (zcd (zT_k1 m m' SD' SE' 1) (zT_k1 m m' SD' SE' 2) false) false) false)) false) (fun _ => false))) false)
/-- the text -/
noncomputable def zT_hi (g : EG) (v : Nat ⊕ Nat) (f : Nat → Bool) : Bool := zv_s v (fun n => f (ze_z n)) (fun i => ze_n g i (fun p => f p.2))
noncomputable def zT_tl (sm : Bool) (lo hi : Nat) (la : List EV) : List EV → Nat → Bool := List.rec (motive := fun _ => List EV → Nat → Bool) (fun _ _ => true) (fun a _ ih lb k => List.rec (motive := fun _ => Bool) false (fun b t _ => zcd (zcd (Nat.ble hi (Nat.add 2147483648 k)) true (zcd (zh_eq a b) true (zcd (zh_eq a (eU (Nat.add 196 k))) (zcd (zh_eq b (eU (Nat.add 276 k))) (zcd sm true (Nat.ble (Nat.add 2147483649 k) lo)) false) false))) (ih t (Nat.succ k)) false) lb) la
noncomputable def zT_ak (w : EW) (k : Nat) : Bool := ze_g w k (fun c => zcd (zcd (Nat.ble 100 c.1) (Nat.ble c.1 149) false) true (zcd (Nat.ble 1100 c.1) (Nat.ble c.1 1149) false))
noncomputable def zT_tx (w : EW) (g : EG) (T' : Nat ⊕ Nat) : Bool := zcd (zT_ak w 2) (zcd (zT_ak w 124) (zT_hi g T' (fun hi => zcd (Nat.ble hi 2147483648) true (ze_g w 2 (fun ca => ze_g w 124 (fun cb => zcd (Nat.beq ca.1 101) (zcd (Nat.beq cb.1 100) (zcd (Nat.beq ca.2.length 80) (zcd (Nat.beq cb.2.length 80) (ze_n g 10 (fun p => zT_tl (zs_q T' (.inr 10)) p.1 hi ca.2 cb.2 0)) false) false) false) false))))) false) false
/-- the text's arrays, seen by their interval again -/
def zT_S3 : List EV := [eC 80, eC 2147483648, eC 2147483903]
noncomputable def zT_sl (g : EG) (l : List EV) : Nat → Bool := List.rec (motive := fun _ => Nat → Bool) (fun _ => true) (fun a _ ih k => zcd (zcd (zh_eq a (eU (Nat.add 196 k))) true (zcd (zh_eq a (eU (Nat.add 276 k))) true (zo_wi g a 2147483648 2147483903))) (ih (Nat.succ k)) false) l
noncomputable def zT_su1 (g : EG) (ca cb : EC) : Bool := zcd (Nat.beq ca.1 101) (zcd (Nat.beq cb.1 100) (zcd (Nat.beq ca.2.length 80) (zcd (Nat.beq cb.2.length 80) (zcd (zT_sl g ca.2 0) (zT_sl g cb.2 0) false) false) false) false) false
noncomputable def zT_su (w : EW) (g : EG) (f : EW → Bool) : Bool := ze_g w 2 (fun ca => ze_g w 124 (fun cb => zcd (zT_su1 g ca cb) (f (ze_ws (ze_ws w 2 (1101, zT_S3)) 124 (1100, zT_S3))) (f w)))
noncomputable def zT_chk (w : EW) (g : EG) (f : EW → EG → Bool) : Bool :=
  zq_e w 5 3 (fun nl => zq_e w 5 4 (fun np => zT_fx zT_D0 zT_SD0 12 nl g (fun nl2 => zT_fx zT_E0 zT_SE0 13 np g (fun np2 =>
    zq_e w 17 2 (fun F' => zq_e w 17 3 (fun S' => zq_e w 17 4 (fun M' => zq_e w 1 1 (fun T' =>
      zq_es w zT_Dk (fun D' => zq_es w zT_Ek (fun E' => zq_es w zT_SDk (fun SD' => zq_es w zT_SEk (fun SE' =>
        zcd (zT_rg nl2 np2 F' S' D' E' g) (zcd (zT_kp nl2 np2 M' SD' SE' g) (zcd (zT_tx w g T')
          (ze_g w 5 (fun c => zT_nm g (fun g2 => zT_su (ze_ws (ze_ws w 5 (c.1, ze_s (.inl nl2) c.2 3)) 5 (c.1, ze_s (.inl np2) (ze_s (.inl nl2) c.2 3) 4)) g2 (fun w9 => f w9 g2)))) false) false) false))))))))))))
theorem zq_nI {a b : Nat} (ha : a ≤ 1000) (hb : b < 2147483648) (h : nI a = nI b) : a = b := by
  have h1 := congrArg ze_b h
  rw [ze_b_nI, ze_b_nI] at h1
  omega
section ZTC
variable {dA : Nat → ClassId} {sp : Nat → Nat} {τ ρ : List Int32} {w : EW} {ws : va_W} {g : EG} {F S m : Nat} {L P T : Int32} {d e sd se fa fb : Nat → Int32}
theorem zT_fx_ok (h : zT_K τ F S m L P T d e sd se fa fb) (hτ : τ <+: ρ) (hG : ze_G g ρ) {d0 s0 : List (Nat ⊕ Nat)} {u : Nat} {V : Int32} {dd sdd : Nat → Int32} {b sb : Nat → Nat} (hd : ∀ j, j < 15 → d0[j]? = some (.inr (b j)) ∧ τ[b j]? = some (dd j)) (hs : ∀ j, j < 3 → s0[j]? = some (.inr (sb j)) ∧ τ[sb j]? = some (sdd j)) (hu : τ[u]? = some V) (hR : zq_R F S V dd) (hK : zq_K m V sdd) {v : Nat ⊕ Nat} {x : Int32} {f : (Nat ⊕ Nat) → Bool} (hv : zv_at ρ v x) (hf : zT_fx d0 s0 u v g f = true) : ∃ v', f v' = true ∧ zv_at ρ v' x := by
  rcases ze_cond hf with ⟨h1, h2⟩ | ⟨-, h2⟩
  · have hx : x = V := by
      replace h1 := ze_cond h1
      rcases h1 with ⟨h1, -⟩ | ⟨-, h1⟩
      · unfold zT_f1 at h1
        obtain ⟨p9, e1, c1, c2, h1⟩ := zq_sg_sp h1
        replace h1 := ze_condf h1
        obtain ⟨c3, h1⟩ := h1
        obtain ⟨h1, h3⟩ := ze_condf h1
        obtain ⟨a, e2, h1⟩ := ze_n_spec _ _ _ h1
        have e3 := zs_q_ok h1
        subst e3
        obtain ⟨p8, e4, h3⟩ := ze_n_spec _ _ _ h3
        have h3 : 2147483649 ≤ p8.1 := ze_ble' h3
        have hbS := hG.2 _ _ _ e4 (ze_pre hτ h.1.2.1)
        rw [zq_bn (by have := h.2.1.2.1; omega)] at hbS
        have hS1 : 1 ≤ S := by omega
        have c1 := ze_beq c1
        have c2 : 2147483648 ≤ p9.1 := ze_ble' c2
        have c3 : Nat.sub p9.1 2147483648 ≤ 14 := ze_ble' c3
        have c3 : p9.1 - 2147483648 ≤ 14 := c3
        have hbr := hG.2 _ _ _ e1 (ze_pre hτ (zT_Krm h hS1))
        rw [zq_bn (by omega)] at hbr
        have ei : p9.1 - 2147483648 = (F + (S - 1)) % 15 := by omega
        have e2 : d0[p9.1 - 2147483648]? = some a := e2
        obtain ⟨k1, k2⟩ := hd (p9.1 - 2147483648) (by omega)
        rw [e2] at k1
        cases k1
        have hx : x = dd (p9.1 - 2147483648) := hv.det (zv_at.mono (a := .inr _) hτ k2)
        rw [hx, ei]
        exact hR (S - 1) (by omega)
      · unfold zT_f2 at h1
        obtain ⟨p9, e1, c1, c2, h1⟩ := zq_sg_sp h1
        replace h1 := ze_condf h1
        obtain ⟨c3, h1⟩ := h1
        have c1 := ze_beq c1
        have c2 : 2147483648 ≤ p9.1 := ze_ble' c2
        have c3 : Nat.sub p9.1 2147483648 ≤ 7 := ze_ble' c3
        have c3 : p9.1 - 2147483648 ≤ 7 := c3
        have hm8 := h.2.1.2.2.1
        have hbm := hG.2 _ _ _ e1 (ze_pre hτ h.1.2.2.1)
        rw [zq_bn (by omega)] at hbm
        have em : Nat.sub p9.1 2147483648 = m := by show p9.1 - 2147483648 = m; omega
        rw [em] at h1
        have key : ∀ i, i < 3 → zT_f3 s0 v m i = true → x = V := by
          intro i hi hk
          obtain ⟨k1, k2⟩ := ze_condf hk
          rw [zT_bit_eq m hm8 i hi] at k1
          obtain ⟨a, e2, k2⟩ := ze_n_spec _ _ _ k2
          have e3 := zs_q_ok k2
          subst e3
          obtain ⟨k3, k4⟩ := hs i hi
          rw [e2] at k3
          cases k3
          have hx : x = sdd i := hv.det (zv_at.mono (a := .inr _) hτ k4)
          rw [hx]
          exact hK i hi k1
        replace h1 := ze_cond h1
        rcases h1 with ⟨h1, -⟩ | ⟨-, h1⟩
        · exact key 0 (by omega) h1
        · replace h1 := ze_cond h1
          rcases h1 with ⟨h1, -⟩ | ⟨-, h1⟩
          · exact key 1 (by omega) h1
          · exact key 2 (by omega) h1
    subst hx
    exact ⟨_, h2, zv_at.mono (a := .inr _) hτ hu⟩
  · exact ⟨v, h2, hv⟩
/-- values of a row of places -/
theorem zT_vals {ks : List (Nat × Nat)} {l : List (Nat ⊕ Nat)} (h : ∀ (j : Nat) (k : Nat × Nat), ks[j]? = some k → ∃ a x, l[j]? = some a ∧ zv_at ρ a x ∧ zq_at ws k.1 k.2 x) : ∃ dd : Nat → Int32, ∀ (j : Nat) (k : Nat × Nat), ks[j]? = some k → zq_at ws k.1 k.2 (dd j) ∧ ∃ a, l[j]? = some a ∧ zv_at ρ a (dd j) := by
  have h0 : ∀ j : Nat, ∃ x, ∀ k, ks[j]? = some k → zq_at ws k.1 k.2 x ∧ ∃ a, l[j]? = some a ∧ zv_at ρ a x := by
    intro j
    cases hk : ks[j]? with
    | none => exact ⟨0, fun k h => by cases h⟩
    | some k =>
      obtain ⟨a, x, q1, q2, q3⟩ := h j k hk
      exact ⟨x, fun k2 h2 => by cases h2; exact ⟨q3, a, q1, q2⟩⟩
  exact ⟨fun j => (h0 j).choose, fun j k hk => (h0 j).choose_spec k hk⟩
theorem zT_same {l0 l : List (Nat ⊕ Nat)} {dd d' : Nat → Int32} {b : Nat → Nat} {N : Nat} (hτ : τ <+: ρ) (hd : ∀ j, j < N → l0[j]? = some (.inr (b j)) ∧ τ[b j]? = some (dd j)) (hl : l = l0) (h' : ∀ j, j < N → ∃ a, l[j]? = some a ∧ zv_at ρ a (d' j)) : ∀ j, j < N → d' j = dd j := by
  intro j hj
  obtain ⟨a, q1, q2⟩ := h' j hj
  obtain ⟨k1, k2⟩ := hd j hj
  rw [hl, k1] at q1
  cases q1
  exact q2.det (zv_at.mono (a := .inr _) hτ k2)
theorem zT_upd {l0 l : List (Nat ⊕ Nat)} {dd d' : Nat → Int32} {b : Nat → Nat} {N i u : Nat} {V : Int32} (hτ : τ <+: ρ) (hd : ∀ j, j < N → l0[j]? = some (.inr (b j)) ∧ τ[b j]? = some (dd j)) (hu : τ[u]? = some V) (hl : l = ze_s (.inr u) l0 i) (h' : ∀ j, j < N → ∃ a, l[j]? = some a ∧ zv_at ρ a (d' j)) : ∀ j, j < N → d' j = zqr_up dd i V j := by
  intro j hj
  obtain ⟨a, q1, q2⟩ := h' j hj
  obtain ⟨k1, k2⟩ := hd j hj
  rw [hl, ze_s_eq, List.getElem?_set] at q1
  unfold zqr_up
  by_cases e1 : i = j
  · have hlt := (List.getElem?_eq_some_iff.mp k1).1
    subst e1
    rw [if_pos rfl, if_pos hlt] at q1
    cases q1
    rw [if_pos rfl]
    exact q2.det (zv_at.mono (a := .inr _) hτ hu)
  · rw [if_neg e1, k1] at q1
    cases q1
    rw [if_neg (Ne.symm e1)]
    exact q2.det (zv_at.mono (a := .inr _) hτ k2)
theorem zq_R.congr {F S : Nat} {L : Int32} {d d' : Nat → Int32} (h : ∀ j, j < 15 → d' j = d j) (hR : zq_R F S L d) : zq_R F S L d' := fun j hj => by
  rw [h _ (Nat.mod_lt _ (by omega))]
  exact hR j hj
theorem zT_Kd (h : zT_K τ F S m L P T d e sd se fa fb) : (∀ j, j < 15 → zT_D0[j]? = some (.inr (30 + 6 * j)) ∧ τ[30 + 6 * j]? = some (d j)) ∧ (∀ j, j < 15 → zT_E0[j]? = some (.inr (31 + 6 * j)) ∧ τ[31 + 6 * j]? = some (e j)) ∧ (∀ j, j < 3 → zT_SD0[j]? = some (.inr (120 + 6 * j)) ∧ τ[120 + 6 * j]? = some (sd j)) ∧ (∀ j, j < 3 → zT_SE0[j]? = some (.inr (121 + 6 * j)) ∧ τ[121 + 6 * j]? = some (se j)) :=
  ⟨fun j hj => ⟨(zT_Dkg j hj).2.2.1, (h.1.2.2.2.2.2.2.1 j hj).1⟩, fun j hj => ⟨(zT_Dkg j hj).2.2.2, (h.1.2.2.2.2.2.2.1 j hj).2⟩, fun j hj => ⟨(zT_Skg j hj).2.2.1, (h.1.2.2.2.2.2.2.2.1 j hj).1⟩, fun j hj => ⟨(zT_Skg j hj).2.2.2, (h.1.2.2.2.2.2.2.2.1 j hj).2⟩⟩
theorem zT_rp_ok (h : zT_K τ F S m L P T d e sd se fa fb) (hτ : τ <+: ρ) (hG : ze_G g ρ) {r i0 : Nat} (hr : τ[r]? = some (nI i0)) (hi0 : i0 < 15) {D' E' : List (Nat ⊕ Nat)} {d' e' : Nat → Int32} (hD : ∀ j, j < 15 → ∃ a, D'[j]? = some a ∧ zv_at ρ a (d' j)) (hE : ∀ j, j < 15 → ∃ a, E'[j]? = some a ∧ zv_at ρ a (e' j)) (hk : zT_rp r D' E' g = true) : (∀ j, j < 15 → d' j = zqr_up d i0 L j) ∧ ∀ j, j < 15 → e' j = zqr_up e i0 P j := by
  obtain ⟨i, hk, ei, -⟩ := zq_sg_ok hk hG (ze_pre hτ hr)
  replace hk := ze_condf hk
  obtain ⟨k1, hk⟩ := hk
  obtain ⟨k2, k3⟩ := ze_condf hk
  have k1 : i ≤ 14 := ze_ble' k1
  have e9 : i0 = i := zq_nI (by omega) (by omega) ei
  subst e9
  obtain ⟨q1, q2, -, -⟩ := zT_Kd h
  exact ⟨zT_upd hτ q1 h.1.2.2.2.1 (zq_le_ok _ _ k2) hD, zT_upd hτ q2 h.1.2.2.2.2.1 (zq_le_ok _ _ k3) hE⟩
theorem zT_rg_ok (h : zT_K τ F S m L P T d e sd se fa fb) (hτ : τ <+: ρ) (hG : ze_G g ρ) {nl np F' S' : Nat ⊕ Nat} {xl xp xF xS : Int32} (hnl : zv_at ρ nl xl) (hnp : zv_at ρ np xp) (hF' : zv_at ρ F' xF) (hS' : zv_at ρ S' xS) {D' E' : List (Nat ⊕ Nat)} {d' e' : Nat → Int32} (hD : ∀ j, j < 15 → ∃ a, D'[j]? = some a ∧ zv_at ρ a (d' j)) (hE : ∀ j, j < 15 → ∃ a, E'[j]? = some a ∧ zv_at ρ a (e' j)) (hk : zT_rg nl np F' S' D' E' g = true) : ∃ F9 S9 : Nat, xF = nI F9 ∧ xS = nI S9 ∧ F9 < 15 ∧ S9 ≤ 15 ∧ zq_R F9 S9 xl d' ∧ zq_R F9 S9 xp e' := by
  obtain ⟨q1, q2, -, -⟩ := zT_Kd h
  have hF15 := h.2.1.1
  have hS15 := h.2.1.2.1
  have hRd := h.2.1.2.2.2.1.1
  have hRe := h.2.1.2.2.2.1.2
  have vF : zv_at ρ (.inr 138) (nI F) := ze_pre hτ h.1.1
  have vS : zv_at ρ (.inr 139) (nI S) := ze_pre hτ h.1.2.1
  unfold zT_rg at hk
  replace hk := ze_cond hk
  rcases hk with ⟨hk, -⟩ | ⟨-, hk⟩
  · obtain ⟨k1, k2⟩ := ze_condf hk
    have e1 := zs_q_ok k1
    have e2 := zs_q_ok k2
    subst e1; subst e2
    exact ⟨F, 0, hF'.det vF, hS', hF15, by omega, fun j hj => absurd hj (Nat.not_lt_zero j), fun j hj => absurd hj (Nat.not_lt_zero j)⟩
  · replace hk := ze_condf hk
    obtain ⟨hsm, hk⟩ := hk
    obtain ⟨k1, k2⟩ := ze_condf hsm
    have e1 := zs_q_ok k1
    have e2 := zs_q_ok k2
    subst e1; subst e2
    have el : xl = L := hnl.det (ze_pre hτ h.1.2.2.2.1)
    have ep : xp = P := hnp.det (ze_pre hτ h.1.2.2.2.2.1)
    subst el; subst ep
    replace hk := ze_cond hk
    rcases hk with ⟨hk, -⟩ | ⟨-, hk⟩
    · replace hk := ze_condf hk
      obtain ⟨k1, hk⟩ := hk
      replace hk := ze_condf hk
      obtain ⟨k2, hk⟩ := hk
      obtain ⟨k3, k4⟩ := ze_condf hk
      have e1 := zs_q_ok k1
      have e2 := zs_q_ok k2
      subst e1; subst e2
      exact ⟨F, S, hF'.det vF, hS'.det vS, hF15, hS15, hRd.congr (zT_same hτ q1 (zq_le_ok _ _ k3) hD), hRe.congr (zT_same hτ q2 (zq_le_ok _ _ k4) hE)⟩
    · replace hk := ze_cond hk
      rcases hk with ⟨hk, -⟩ | ⟨-, hk⟩
      · replace hk := ze_condf hk
        obtain ⟨k1, hk⟩ := hk
        replace hk := ze_condf hk
        obtain ⟨k2, hk⟩ := hk
        obtain ⟨k3, k4⟩ := ze_condf hk
        have e1 := zs_q_ok k1
        have e2 := zs_q_ok k2
        subst e1; subst e2
        obtain ⟨p, e3, k3⟩ := ze_n_spec _ _ _ k3
        have k3 : p.2 ≤ 2147483662 := ze_ble' k3
        have hb := hG.2 _ _ _ e3 vS
        rw [zq_bn (by omega)] at hb
        obtain ⟨r1, r2⟩ := zT_rp_ok h hτ hG (zT_Kr h) (Nat.mod_lt _ (by omega)) hD hE k4
        exact ⟨F, S + 1, hF'.det vF, hS'.det (ze_pre hτ (zT_Kz h)), hF15, by omega, (zq_R_push hRd).congr r1, (zq_R_push hRe).congr r2⟩
      · replace hk := ze_cond hk
        rcases hk with ⟨hk, -⟩ | ⟨-, hk⟩
        · replace hk := ze_condf hk
          obtain ⟨k1, hk⟩ := hk
          replace hk := ze_condf hk
          obtain ⟨k2, hk⟩ := hk
          obtain ⟨k3, k4⟩ := ze_condf hk
          have e1 := zs_q_ok k1
          have e2 := zs_q_ok k2
          subst e1; subst e2
          obtain ⟨p, e3, k3⟩ := ze_n_spec _ _ _ k3
          have k3 : 2147483663 ≤ p.1 := ze_ble' k3
          have hb := hG.2 _ _ _ e3 vS
          rw [zq_bn (by omega)] at hb
          have e4 : S = 15 := by omega
          subst e4
          obtain ⟨r1, r2⟩ := zT_rp_ok h hτ hG (zT_Kr2 h) (Nat.mod_lt _ (by omega)) hD hE k4
          exact ⟨(F + 1) % 15, 15, hF'.det (ze_pre hτ (zT_Kfn h)), hS', Nat.mod_lt _ (by omega), Nat.le_refl _, (zq_R_full hF15 hRd).congr r1, (zq_R_full hF15 hRe).congr r2⟩
        · replace hk := ze_condf hk
          obtain ⟨k1, hk⟩ := hk
          replace hk := ze_condf hk
          obtain ⟨k2, hk⟩ := hk
          replace hk := ze_condf hk
          obtain ⟨k3, hk⟩ := hk
          obtain ⟨k4, k5⟩ := ze_condf hk
          have e1 := zs_q_ok k1
          have e2 := zs_q_ok k2
          subst e1; subst e2
          obtain ⟨p, e3, k3⟩ := ze_n_spec _ _ _ k3
          have k3 : 2147483649 ≤ p.1 := ze_ble' k3
          have hb := hG.2 _ _ _ e3 vS
          rw [zq_bn (by omega)] at hb
          have hS1 : 1 ≤ S := by omega
          exact ⟨F, S - 1, hF'.det vF, hS'.det (ze_pre hτ (zT_Kzm h hS1)), hF15, by omega, zq_R.congr (zT_same hτ q1 (zq_le_ok _ _ k4) hD) (fun j hj => hRd j (by omega)), zq_R.congr (zT_same hτ q2 (zq_le_ok _ _ k5) hE) (fun j hj => hRe j (by omega))⟩
theorem zT_kp_ok (h : zT_K τ F S m L P T d e sd se fa fb) (hτ : τ <+: ρ) (hG : ze_G g ρ) {nl np M' : Nat ⊕ Nat} {xl xp xM : Int32} (hnl : zv_at ρ nl xl) (hnp : zv_at ρ np xp) (hM' : zv_at ρ M' xM) {SD' SE' : List (Nat ⊕ Nat)} {sd' se' : Nat → Int32} (hD : ∀ j, j < 3 → ∃ a, SD'[j]? = some a ∧ zv_at ρ a (sd' j)) (hE : ∀ j, j < 3 → ∃ a, SE'[j]? = some a ∧ zv_at ρ a (se' j)) (hk : zT_kp nl np M' SD' SE' g = true) : ∃ m9 : Nat, xM = nI m9 ∧ m9 < 8 ∧ zq_K m9 xl sd' ∧ zq_K m9 xp se' := by
  obtain ⟨-, -, q1, q2⟩ := zT_Kd h
  have hm8 := h.2.1.2.2.1
  have hKd := h.2.1.2.2.2.2.1.1
  have hKe := h.2.1.2.2.2.2.1.2
  have vM : zv_at ρ (.inr 140) (nI m) := ze_pre hτ h.1.2.2.1
  unfold zT_kp at hk
  replace hk := ze_cond hk
  rcases hk with ⟨hk, -⟩ | ⟨-, hk⟩
  · have e1 := zs_q_ok hk
    subst e1
    exact ⟨0, hM', by omega, (fun j _ hb => by rw [Nat.zero_testBit] at hb; cases hb), (fun j _ hb => by rw [Nat.zero_testBit] at hb; cases hb)⟩
  · replace hk := ze_condf hk
    obtain ⟨hsm, hk⟩ := hk
    obtain ⟨k1, k2⟩ := ze_condf hsm
    have e1 := zs_q_ok k1
    have e2 := zs_q_ok k2
    subst e1; subst e2
    have el : xl = L := hnl.det (ze_pre hτ h.1.2.2.2.1)
    have ep : xp = P := hnp.det (ze_pre hτ h.1.2.2.2.2.1)
    subst el; subst ep
    replace hk := ze_cond hk
    rcases hk with ⟨hk, -⟩ | ⟨-, hk⟩
    · replace hk := ze_condf hk
      obtain ⟨k1, hk⟩ := hk
      obtain ⟨k3, k4⟩ := ze_condf hk
      have e1 := zs_q_ok k1
      subst e1
      have s1 := zT_same hτ q1 (zq_le_ok _ _ k3) hD
      have s2 := zT_same hτ q2 (zq_le_ok _ _ k4) hE
      exact ⟨m, hM'.det vM, hm8, fun j hj hb => by rw [s1 j hj]; exact hKd j hj hb, fun j hj hb => by rw [s2 j hj]; exact hKe j hj hb⟩
    · rcases M' with m' | i
      · obtain ⟨c1, hk⟩ := ze_condf (show zcd (Nat.ble m' 7) (zq_sg g 140 _) false = true from hk)
        have c1 : m' ≤ 7 := ze_ble' c1
        obtain ⟨m2, hk, em, hm2⟩ := zq_sg_ok hk hG vM
        replace hk := ze_condf hk
        obtain ⟨c2, hk⟩ := hk
        have c2 : m2 ≤ 7 := ze_ble' c2
        have em : m = m2 := zq_nI (by omega) hm2 em
        subst em
        replace hk := ze_condf hk
        obtain ⟨c3, hk⟩ := hk
        obtain ⟨c4, c5⟩ := ze_condf hk
        have key : ∀ i, i < 3 → zT_k1 m m' SD' SE' i = true → m'.testBit i = true → sd' i = xl ∧ se' i = xp := by
          intro i hi hk hb
          rw [← zT_bit_eq m' (by omega) i hi] at hb
          have hk := ze_condt hk hb
          obtain ⟨a, a1, a2⟩ := hD i hi
          obtain ⟨b, b1, b2⟩ := hE i hi
          replace hk := ze_cond hk
          rcases hk with ⟨hk, -⟩ | ⟨-, hk⟩
          · obtain ⟨k1, k2⟩ := ze_condf hk
            obtain ⟨a9, e3, k1⟩ := ze_n_spec _ _ _ k1
            obtain ⟨b9, e4, k2⟩ := ze_n_spec _ _ _ k2
            rw [a1] at e3
            rw [b1] at e4
            cases e3; cases e4
            rw [zs_q_ok k1] at a2
            rw [zs_q_ok k2] at b2
            exact ⟨a2.det (ze_pre hτ h.1.2.2.2.1), b2.det (ze_pre hτ h.1.2.2.2.2.1)⟩
          · replace hk := ze_condf hk
            obtain ⟨k0, hk⟩ := hk
            rw [zT_bit_eq m hm8 i hi] at k0
            obtain ⟨k1, k2⟩ := ze_condf hk
            obtain ⟨a9, e3, k1⟩ := ze_n_spec _ _ _ k1
            obtain ⟨b9, e4, k2⟩ := ze_n_spec _ _ _ k2
            rw [a1] at e3
            rw [b1] at e4
            cases e3; cases e4
            rw [zs_q_ok k1] at a2
            rw [zs_q_ok k2] at b2
            have x1 : sd' i = sd i := a2.det (ze_pre hτ (q1 i hi).2)
            have x2 : se' i = se i := b2.det (ze_pre hτ (q2 i hi).2)
            rw [x1, x2]
            exact ⟨hKd i hi k0, hKe i hi k0⟩
        have key2 : ∀ i, i < 3 → m'.testBit i = true → sd' i = xl ∧ se' i = xp := by
          intro i hi hb
          match i, hi with
          | 0, _ => exact key 0 (by omega) c3 hb
          | 1, _ => exact key 1 (by omega) c4 hb
          | 2, _ => exact key 2 (by omega) c5 hb
        exact ⟨m', hM', by omega, fun j hj hb => (key2 j hj hb).1, fun j hj hb => (key2 j hj hb).2⟩
      · cases hk
theorem zT_ak_ok (hW : ze_W dA sp ρ w ws) {k : Nat} (h : zT_ak w k = true) : ∃ f, zq_ar ws k f := by
  obtain ⟨c, e1, h⟩ := ze_g_spec h
  obtain ⟨a, e9, q1, q2⟩ := hW.2 k c e1
  replace h := ze_cond h
  rcases h with ⟨h, -⟩ | ⟨-, h⟩
  · obtain ⟨k1, k2⟩ := ze_condf h
    obtain ⟨f, ef, -⟩ := q2.ints (ze_ble' k1) (Nat.lt_succ_of_le (ze_ble' k2))
    subst ef
    exact ⟨f, a, _, _, q1⟩
  · obtain ⟨k1, k2⟩ := ze_condf h
    obtain ⟨n, lo, hi, f, -, ef, -⟩ := q2.sumI (ze_ble' k1) (Nat.lt_succ_of_le (ze_ble' k2))
    subst ef
    exact ⟨f, a, _, _, q1⟩
theorem zT_tl_ok {sm : Bool} {lo hi : Nat} : ∀ (la lb : List EV) (k0 : Nat), zT_tl sm lo hi la lb k0 = true → ∀ (j : Nat) (a : EV), la[j]? = some a → ∃ b, lb[j]? = some b ∧ (hi ≤ 2147483648 + (k0 + j) ∨ a = b ∨ (a = eU (196 + (k0 + j)) ∧ b = eU (276 + (k0 + j)) ∧ (sm = true ∨ 2147483649 + (k0 + j) ≤ lo))) := by
  intro la
  induction la with
  | nil => intro lb k0 _ j a h; cases h
  | cons x t ih =>
    intro lb k0 h j a hj
    cases lb with
    | nil => cases h
    | cons y r =>
      obtain ⟨h1, h2⟩ := ze_condf (show zcd (zcd (Nat.ble hi (Nat.add 2147483648 k0)) true (zcd (zh_eq x y) true (zcd (zh_eq x (eU (Nat.add 196 k0))) (zcd (zh_eq y (eU (Nat.add 276 k0))) (zcd sm true (Nat.ble (Nat.add 2147483649 k0) lo)) false) false))) (zT_tl sm lo hi t r (Nat.succ k0)) false = true from h)
      cases j with
      | zero =>
        cases (Option.some.inj hj)
        refine ⟨y, rfl, ?_⟩
        replace h1 := ze_cond h1
        rcases h1 with ⟨h1, -⟩ | ⟨-, h1⟩
        · exact Or.inl (ze_ble' h1)
        · replace h1 := ze_cond h1
          rcases h1 with ⟨h1, -⟩ | ⟨-, h1⟩
          · exact Or.inr (Or.inl (zh_eq_ok h1))
          · replace h1 := ze_condf h1
            obtain ⟨k1, h1⟩ := h1
            replace h1 := ze_condf h1
            obtain ⟨k2, h1⟩ := h1
            refine Or.inr (Or.inr ⟨zh_eq_ok k1, zh_eq_ok k2, ?_⟩)
            replace h1 := ze_cond h1
            rcases h1 with ⟨h1, -⟩ | ⟨-, h1⟩
            · exact Or.inl h1
            · exact Or.inr (ze_ble' h1)
      | succ j =>
        obtain ⟨b, q1, q2⟩ := ih r (Nat.succ k0) h2 j a hj
        refine ⟨b, q1, ?_⟩
        rw [show k0 + (j + 1) = Nat.succ k0 + j by omega]
        exact q2
theorem zT_tx_ok (h : zT_K τ F S m L P T d e sd se fa fb) (hτ : τ <+: ρ) (hG : ze_G g ρ) (hW : ze_W dA sp ρ w ws) {T' : Nat ⊕ Nat} {xT : Int32} (hT' : zv_at ρ T' xT) (hk : zT_tx w g T' = true) : ∃ fa' fb', zq_ar ws 2 fa' ∧ zq_ar ws 124 fb' ∧ zq_T xT fa' fb' := by
  replace hk := ze_condf hk
  obtain ⟨k1, hk⟩ := hk
  replace hk := ze_condf hk
  obtain ⟨k2, hk⟩ := hk
  obtain ⟨fa', hfa⟩ := zT_ak_ok hW k1
  obtain ⟨fb', hfb⟩ := zT_ak_ok hW k2
  refine ⟨fa', fb', hfa, hfb, fun k hk8 hkT => ?_⟩
  have hhi : ∀ G : Nat → Bool, zT_hi g T' G = true → ∃ hi, ze_b xT ≤ hi ∧ G hi = true := by
    intro G hk
    rcases T' with n | i
    · refine ⟨ze_z n, ?_, hk⟩
      have e1 : xT = nI n := hT'
      rw [e1, ze_b_nI]
      exact Nat.le_refl _
    · obtain ⟨p, e1, h2⟩ := ze_n_spec g i (fun p => G p.2) hk
      exact ⟨p.2, (hG.2 i p xT e1 hT').2, h2⟩
  obtain ⟨hi, hle, hk⟩ := hhi _ hk
  replace hk := ze_cond hk
  rcases hk with ⟨hk, -⟩ | ⟨-, hk⟩
  · have := ze_ble' hk
    omega
  · obtain ⟨ca, e1, hk⟩ := ze_g_spec hk
    obtain ⟨cb, e2, hk⟩ := ze_g_spec hk
    replace hk := ze_condf hk
    obtain ⟨k1, hk⟩ := hk
    replace hk := ze_condf hk
    obtain ⟨k2, hk⟩ := hk
    replace hk := ze_condf hk
    obtain ⟨k3, hk⟩ := hk
    replace hk := ze_condf hk
    obtain ⟨k4, hk⟩ := hk
    obtain ⟨p, e3, hk⟩ := ze_n_spec _ _ _ hk
    have k1 : ca.1 = 101 := ze_beq k1
    have k2 : cb.1 = 100 := ze_beq k2
    have k3 : ca.2.length = 80 := ze_beq k3
    obtain ⟨a1, g1, q1, q2⟩ := hW.2 _ ca e1
    obtain ⟨a2, g2, q3, q4⟩ := hW.2 _ cb e2
    obtain ⟨f1, r1, r2⟩ := q2.ints (by omega) (by omega)
    obtain ⟨f2, r3, r4⟩ := q4.ints (by omega) (by omega)
    subst r1; subst r3
    have ef1 : fa' = f1 := hfa.det ⟨a1, _, _, q1⟩
    have ef2 : fb' = f2 := hfb.det ⟨a2, _, _, q3⟩
    subst ef1; subst ef2
    have hl : k < ca.2.length := by omega
    obtain ⟨b, s1, s2⟩ := zT_tl_ok _ _ _ hk k ca.2[k] (List.getElem?_eq_getElem hl)
    have v1 := r2 k _ (List.getElem?_eq_getElem hl)
    have v2 := r4 k b s1
    rw [Nat.zero_add] at s2
    rcases s2 with s2 | s2 | ⟨s2, s3, s4⟩
    · omega
    · rw [s2] at v1
      exact Value.int.inj (ze_V_int v1 v2)
    · rw [s2] at v1
      rw [s3] at v2
      have v1 := zv_atV v1
      have v2 := zv_atV v2
      have x1 : fa' k = fa k := v1.det (ze_pre hτ (h.1.2.2.2.2.2.2.2.2 k hk8).1)
      have x2 : fb' k = fb k := v2.det (ze_pre hτ (h.1.2.2.2.2.2.2.2.2 k hk8).2.1)
      rw [x1, x2]
      refine h.2.1.2.2.2.2.2 k hk8 ?_
      rcases s4 with s4 | s4
      · have e9 := zs_q_ok s4
        rw [e9] at hT'
        have ex : xT = T := hT'.det (ze_pre hτ h.1.2.2.2.2.2.1)
        rw [← ex]
        exact hkT
      · have hb := (hG.2 _ p T e3 (ze_pre hτ h.1.2.2.2.2.2.1)).1
        omega
theorem zT_sl_ok (h : zT_K τ F S m L P T d e sd se fa fb) (hτ : τ <+: ρ) (hG : ze_G g ρ) {ad : List Nat} : ∀ (l : List EV) (k0 : Nat) (f9 : Nat → Int32), zT_sl g l k0 = true → k0 + l.length ≤ 80 → (∀ (j : Nat) (v : EV), l[j]? = some v → ze_V sp ρ ad v (.int (f9 j))) → ∀ j, j < l.length → 2147483648 ≤ ze_b (f9 j) ∧ ze_b (f9 j) ≤ 2147483903 := by
  intro l
  induction l with
  | nil => intro k0 f9 _ _ _ j hj; exact absurd hj (Nat.not_lt_zero j)
  | cons a t ih =>
    intro k0 f9 hs hl hv j hj
    have hl : k0 + (t.length + 1) ≤ 80 := hl
    obtain ⟨h1, h2⟩ := ze_condf (show zcd (zcd (zh_eq a (eU (Nat.add 196 k0))) true (zcd (zh_eq a (eU (Nat.add 276 k0))) true (zo_wi g a 2147483648 2147483903))) (zT_sl g t (Nat.succ k0)) false = true from hs)
    have hb := h.1.2.2.2.2.2.2.2.2 k0 (by omega)
    cases j with
    | zero =>
      have v1 := hv 0 a rfl
      rcases ze_cond h1 with ⟨h1, -⟩ | ⟨-, h1⟩
      · rw [zh_eq_ok h1] at v1
        have x1 : f9 0 = fa k0 := (zv_atV v1).det (ze_pre hτ hb.1)
        rw [x1]
        exact hb.2.2.1
      · rcases ze_cond h1 with ⟨h1, -⟩ | ⟨-, h1⟩
        · rw [zh_eq_ok h1] at v1
          have x1 : f9 0 = fb k0 := (zv_atV v1).det (ze_pre hτ hb.2.1)
          rw [x1]
          exact hb.2.2.2
        · exact zo_wi_spec h1 hG v1
    | succ j => exact ih (Nat.succ k0) (fun j => f9 (j + 1)) h2 (by show k0 + 1 + t.length ≤ 80; omega) (fun j v hj => hv (j + 1) v hj) j (Nat.lt_of_succ_lt_succ hj)
theorem zT_su_ok (h : zT_K τ F S m L P T d e sd se fa fb) (hτ : τ <+: ρ) (hG : ze_G g ρ) (hW : ze_W dA sp ρ w ws) {f : EW → Bool} (hk : zT_su w g f = true) : ∃ w2, f w2 = true ∧ ze_W dA sp ρ w2 ws := by
  obtain ⟨ca, e1, hk⟩ := ze_g_spec hk
  obtain ⟨cb, e2, hk⟩ := ze_g_spec hk
  rcases ze_cond hk with ⟨hs, hf⟩ | ⟨-, hf⟩
  · obtain ⟨k1, hs⟩ := ze_condf hs
    obtain ⟨k2, hs⟩ := ze_condf hs
    obtain ⟨k3, hs⟩ := ze_condf hs
    obtain ⟨k4, hs⟩ := ze_condf hs
    obtain ⟨k5, k6⟩ := ze_condf hs
    have k1 : ca.1 = 101 := ze_beq k1
    have k2 : cb.1 = 100 := ze_beq k2
    have k3 : ca.2.length = 80 := ze_beq k3
    have k4 : cb.2.length = 80 := ze_beq k4
    obtain ⟨a1, g1, q1, q2⟩ := hW.2 _ ca e1
    obtain ⟨a2, g2, q3, q4⟩ := hW.2 _ cb e2
    obtain ⟨f1, r1, r2⟩ := q2.ints (by omega) (by omega)
    obtain ⟨f2, r3, r4⟩ := q4.ints (by omega) (by omega)
    rw [k1, k3] at r1
    rw [k2, k4] at r3
    subst r1; subst r3
    have b1 := zT_sl_ok h hτ hG ca.2 0 f1 k5 (by omega) r2
    have b2 := zT_sl_ok h hτ hG cb.2 0 f2 k6 (by omega) r4
    rw [k3] at b1
    rw [k4] at b2
    have hW1 := hW.see (c1 := (1101, zT_S3)) q1 (Or.inr (Or.inr (Or.inr (Or.inr (Or.inl (Or.inl ⟨by show 1100 ≤ 1101; decide, by show 1101 < 1150; decide, 80, 2147483648, 2147483903, f1, rfl, rfl, b1⟩))))))
    exact ⟨_, hf, hW1.see (c1 := (1100, zT_S3)) q3 (Or.inr (Or.inr (Or.inr (Or.inr (Or.inl (Or.inl ⟨by show 1100 ≤ 1100; decide, by show 1100 < 1150; decide, 80, 2147483648, 2147483903, f2, rfl, rfl, b2⟩))))))⟩
  · exact ⟨_, hf, hW⟩
theorem zT_chk_ok (h : zT_K τ F S m L P T d e sd se fa fb) (hτ : τ <+: ρ) (hG : ze_G g ρ) (hW : ze_W dA sp ρ w ws) {f : EW → EG → Bool} (hk : zT_chk w g f = true) : ∃ w2 g2, f w2 g2 = true ∧ ze_G g2 ρ ∧ ze_W dA sp ρ w2 ws ∧ zQ ws := by
  obtain ⟨q1, q2, q3, q4⟩ := zT_Kd h
  obtain ⟨nl, xl, hk, vl, al, c1, c2, c3, c4⟩ := zq_e_ok hW hk
  obtain ⟨np, xp, hk, vp, ap, c5, c6, c7, c8⟩ := zq_e_ok hW hk
  obtain ⟨nl2, hk, vl2⟩ := zT_fx_ok h hτ hG q1 q3 h.1.2.2.2.1 h.2.1.2.2.2.1.1 h.2.1.2.2.2.2.1.1 vl hk
  obtain ⟨np2, hk, vp2⟩ := zT_fx_ok h hτ hG q2 q4 h.1.2.2.2.2.1 h.2.1.2.2.2.1.2 h.2.1.2.2.2.2.1.2 vp hk
  obtain ⟨F', xF, hk, vF, aF, -⟩ := zq_e_ok hW hk
  obtain ⟨S', xS, hk, vS, aS, -⟩ := zq_e_ok hW hk
  obtain ⟨M', xM, hk, vM, aM, -⟩ := zq_e_ok hW hk
  obtain ⟨T', xT, hk, vT, aT, -⟩ := zq_e_ok hW hk
  obtain ⟨D', hk, -, lD⟩ := zq_es_ok hW _ _ hk
  obtain ⟨E', hk, -, lE⟩ := zq_es_ok hW _ _ hk
  obtain ⟨SD', hk, -, lSD⟩ := zq_es_ok hW _ _ hk
  obtain ⟨SE', hk, -, lSE⟩ := zq_es_ok hW _ _ hk
  obtain ⟨d', hD⟩ := zT_vals lD
  obtain ⟨e', hE⟩ := zT_vals lE
  obtain ⟨sd', hSD⟩ := zT_vals lSD
  obtain ⟨se', hSE⟩ := zT_vals lSE
  replace hk := ze_condf hk
  obtain ⟨k1, hk⟩ := hk
  replace hk := ze_condf hk
  obtain ⟨k2, hk⟩ := hk
  replace hk := ze_condf hk
  obtain ⟨k3, hk⟩ := hk
  obtain ⟨F9, S9, x1, x2, x3, x4, x5, x6⟩ := zT_rg_ok h hτ hG vl2 vp2 vF vS (fun j hj => (hD j _ (zT_Dkg j hj).1).2) (fun j hj => (hE j _ (zT_Dkg j hj).2.1).2) k1
  obtain ⟨m9, y1, y2, y3, y4⟩ := zT_kp_ok h hτ hG vl2 vp2 vM (fun j hj => (hSD j _ (zT_Skg j hj).1).2) (fun j hj => (hSE j _ (zT_Skg j hj).2.1).2) k2
  obtain ⟨fa', fb', z1, z2, z3⟩ := zT_tx_ok h hτ hG hW vT k3
  obtain ⟨c9, c10, hk⟩ := ze_g_spec hk
  rw [c2] at c10
  have e10 := Option.some.inj c10
  subst e10
  rw [c2] at c6
  have e11 := Option.some.inj c6
  subst e11
  obtain ⟨g2, hk, hG2⟩ := zT_nm_ok h hτ hG hk
  have hW1 := zq_wr hW c2 c3 c4 vl vl2
  have hg1 : ze_gw (ze_ws w 5 (c1.1, ze_s (.inl nl2) c1.2 3)) 5 = some (c1.1, ze_s (.inl nl2) c1.2 3) := by
    rw [ze_ws_get, if_pos rfl, c2]
    rfl
  have hg2 : (ze_s (.inl nl2) c1.2 3)[4]? = some (.inl np) := by
    rw [ze_s_eq, List.getElem?_set_ne (by decide)]
    exact c8
  have hW2 := zq_wr hW1 hg1 c3 hg2 vp vp2
  subst x1; subst x2; subst y1
  obtain ⟨w9, hk, hW9⟩ := zT_su_ok h hτ hG2 hW2 hk
  exact ⟨w9, g2, hk, hG2, hW9, F9, S9, m9, xl, xp, xT, d', e', sd', se', fa', fb', ⟨aF, aS, aM, al, ap, aT, fun j hj => ⟨(hD j _ (zT_Dkg j hj).1).1, (hE j _ (zT_Dkg j hj).2.1).1⟩, fun j hj => ⟨(hSD j _ (zT_Skg j hj).1).1, (hSE j _ (zT_Skg j hj).2.1).1⟩, z1, z2⟩, ⟨x3, x4, y2, ⟨x5, x6⟩, ⟨y3, y4⟩, z3⟩⟩
end ZTC
