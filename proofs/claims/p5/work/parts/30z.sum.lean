/-! THE ENGINE, part 8: arrays known by their intervals, longs that are ints, the law's place in the script -/
theorem zv_c_spec {v : EV} {f : Nat → Bool} (h : zv_c v f = true) : ∃ n, v = eC n ∧ f n = true := by
  rcases v with (n | i) | ((q | (n2 | u)) | x)
  · exact ⟨n, rfl, h⟩
  all_goals cases h
theorem zo_s3_spec {l : List EV} {f : Nat → Nat → Nat → Bool} (h : zo_s3 l f = true) : ∃ n lo hi, l = [eC n, eC lo, eC hi] ∧ f n lo hi = true := by
  rcases l with _ | ⟨a, l⟩
  · cases h
  rcases a with (n | i) | ((q | (n | u)) | x)
  · rcases l with _ | ⟨b, l⟩
    · cases h
    rcases b with (lo | i) | ((q | (n2 | u)) | x)
    · rcases l with _ | ⟨c, l⟩
      · cases h
      rcases c with (hi | i) | ((q | (n2 | u)) | x)
      · rcases l with _ | ⟨d, l⟩
        · exact ⟨n, lo, hi, rfl, h⟩
        · cases h
      all_goals cases h
    all_goals cases h
  all_goals cases h
theorem zo_in_spec {sp : Nat → Nat} {g : EG} {ρ : List Int32} {ad : List Nat} {i : EV} {n : Nat} {X : Value} (h : zo_in g i n = true) (hG : ze_G g ρ) (hv : ze_V sp ρ ad i X) : ∃ x : Int32, X = .int x ∧ vp_in x n ∧ x.toNatClampNeg < n := by
  rcases i with u | ((q | u) | x)
  · obtain ⟨x, ex⟩ := ze_intV hv
    subst ex
    obtain ⟨h1, h2⟩ := ze_condf (show zcd (Nat.ble 2147483648 (zo_iv g (.inl u)).1) (Nat.ble (Nat.succ (zo_iv g (.inl u)).2) (Nat.add 2147483648 n)) false = true from h)
    have h1 := ze_ble' h1
    have h2 : (zo_iv g (.inl u)).2 + 1 ≤ 2147483648 + n := ze_ble' h2
    have hb := zi_iv hG hv
    obtain ⟨e1, e2⟩ := zi_nn (x := x) (by omega)
    have hc : x.toNatClampNeg = ze_b x - 2147483648 := by
      conv => lhs; rw [e1]
      exact nI_clamp e2
    refine ⟨x, rfl, ?_, by omega⟩
    intro q
    rcases q with q | q
    · rw [e1] at q
      exact nI_pos e2 q
    · omega
  · cases h
  · cases h
  · cases h
theorem zo_wi_spec {sp : Nat → Nat} {g : EG} {ρ : List Int32} {ad : List Nat} {v : EV} {lo hi : Nat} {x : Int32} (h : zo_wi g v lo hi = true) (hG : ze_G g ρ) (hv : ze_V sp ρ ad v (.int x)) : lo ≤ ze_b x ∧ ze_b x ≤ hi := by
  rcases v with u | ((q | u) | y)
  · obtain ⟨h1, h2⟩ := ze_condf (show zcd (Nat.ble lo (zo_iv g (.inl u)).1) (Nat.ble (zo_iv g (.inl u)).2 hi) false = true from h)
    have h1 := ze_ble' h1
    have h2 := ze_ble' h2
    have hb := zi_iv hG hv
    omega
  · cases h
  · cases h
  · cases h
theorem zi_na {x : Int32} (h : 2147483648 ≤ ze_b x) : ∃ a, x = nI a ∧ a < 2147483648 ∧ ze_b x = 2147483648 + a := by
  obtain ⟨e1, e2⟩ := zi_nn h
  exact ⟨_, e1, e2, by omega⟩
theorem zi_l0 {a : Nat} (h : a < 2147483648) : (nI a).toInt64 = lN a := by
  have h9 := zi_long a (by omega)
  rw [Nat.mod_eq_of_lt (show a < 4294967296 by omega)] at h9
  exact h9.symm
theorem zi_nz {p : Nat × Nat} {x : Int32} (hb : p.1 ≤ ze_b x ∧ ze_b x ≤ p.2) (h : zcd (Nat.ble 2147483649 p.1) true (Nat.ble p.2 2147483647) = true) : ¬ x = 0 := by
  intro e
  subst e
  have h0 : ze_b 0 = 2147483648 := by decide +kernel
  rcases ze_cond h with ⟨h1, -⟩ | ⟨-, h1⟩
  · have := ze_ble' h1
    omega
  · have := ze_ble' h1
    omega
theorem ze_cond3 (t : Nat) : (t = 1 ∧ zcd (Nat.beq t 1) 2147483649 (zcd (Nat.beq t 4) 2147549183 0) = 2147483649) ∨ (t = 4 ∧ zcd (Nat.beq t 1) 2147483649 (zcd (Nat.beq t 4) 2147549183 0) = 2147549183) ∨ (¬ t = 1 ∧ zcd (Nat.beq t 1) 2147483649 (zcd (Nat.beq t 4) 2147549183 0) = 0) := by
  cases h1 : Nat.beq t 1 with
  | true => exact Or.inl ⟨ze_beq h1, rfl⟩
  | false =>
    cases h2 : Nat.beq t 4 with
    | true => exact Or.inr (Or.inl ⟨ze_beq h2, rfl⟩)
    | false => exact Or.inr (Or.inr ⟨ze_nbeq h1, rfl⟩)
theorem ze_fitg {sp : Nat → Nat} {g : EG} {ρ : List Int32} {ad : List Nat} {t : Nat} {ty : FieldType} {v : EV} {x : Value} (h : ze_ty t ty) (hc : ze_tcg g t v = true) (hG : ze_G g ρ) (hv : ze_V sp ρ ad v x) : narrow ty x = x ∧ fits ty x = true := by
  rcases ze_cond hc with ⟨hc, -⟩ | ⟨-, hc⟩
  · exact ze_fit h hc hv
  · have hi : ∃ y, x = .int y := by
      rcases v with u | ((q | u) | y)
      · exact ze_intV hv
      · cases hc
      · cases hc
      · cases hc
    obtain ⟨y, ey⟩ := hi
    subst ey
    have hb := zo_wi_spec hc hG hv
    obtain ⟨a, e1, -, e2⟩ := zi_na hb.1
    subst e1
    have key : ze_tc t (eC a) = true := by
      unfold ze_tm at hb
      rcases ze_cond3 t with ⟨h1, h2⟩ | ⟨h1, h2⟩ | ⟨h1, h2⟩
      · rw [h2] at hb
        subst h1
        show Nat.ble a 1 = true
        exact ze_ble (by omega)
      · rw [h2] at hb
        subst h1
        show Nat.ble a 65535 = true
        exact ze_ble (by omega)
      · rw [h2] at hb
        omega
    exact ze_fit (ρ := ρ) (ad := ad) (sp := sp) h key rfl
section ZCK
variable {sp : Nat → Nat} {g : EG} {ρ : List Int32} {ad : List Nat} {v1 v2 : EV} {x y : Int32}
theorem zi_ckn {F : Int64 → Int64 → Int64} (_ : ze_G g ρ) (c : zo_ckn g v1 v2 = true) (_ : ze_V sp ρ ad v1 (.int x)) (_ : ze_V sp ρ ad v2 (.int y)) : ∃ z : Int32, F x.toInt64 y.toInt64 = z.toInt64 ∧ (zo_top g v1 v2).1 ≤ ze_b z ∧ ze_b z ≤ (zo_top g v1 v2).2 := by cases c
theorem zi_cka (hG : ze_G g ρ) (c : zo_cka g v1 v2 = true) (h1 : ze_V sp ρ ad v1 (.int x)) (h2 : ze_V sp ρ ad v2 (.int y)) : ∃ z : Int32, x.toInt64 + y.toInt64 = z.toInt64 ∧ (zo_badd g v1 v2).1 ≤ ze_b z ∧ ze_b z ≤ (zo_badd g v1 v2).2 := by
  obtain ⟨c1, c⟩ := ze_condf c
  obtain ⟨c2, c3⟩ := ze_condf c
  have c1 := ze_ble' c1
  have c2 := ze_ble' c2
  have c3 : (zo_iv g v1).2 + (zo_iv g v2).2 ≤ 6442450943 := ze_ble' c3
  have a1 := zi_iv hG h1
  have a2 := zi_iv hG h2
  refine ⟨x + y, ?_, zi_add hG v1 v2 x y h1 h2⟩
  obtain ⟨a, e1, e2, e5⟩ := zi_na (x := x) (by omega)
  obtain ⟨b, e3, e4, e6⟩ := zi_na (x := y) (by omega)
  have hs : a + b < 2147483648 := by omega
  clear e5 e6 a1 a2 h1 h2
  subst e1; subst e3
  rw [zi_l0 e2, zi_l0 e4, nI_add, zi_l0 hs]
  exact (Int64.ofNat_add a b).symm
theorem zi_ckm (hG : ze_G g ρ) (c : zo_ckm g v1 v2 = true) (h1 : ze_V sp ρ ad v1 (.int x)) (h2 : ze_V sp ρ ad v2 (.int y)) : ∃ z : Int32, x.toInt64 * y.toInt64 = z.toInt64 ∧ (zo_bml g v1 v2).1 ≤ ze_b z ∧ ze_b z ≤ (zo_bml g v1 v2).2 := by
  obtain ⟨c1, c⟩ := ze_condf c
  obtain ⟨c2, c3⟩ := ze_condf c
  have c1 := ze_ble' c1
  have c2 := ze_ble' c2
  have c3 : ((zo_iv g v1).2 - 2147483648) * ((zo_iv g v2).2 - 2147483648) ≤ 2147483647 := ze_ble' c3
  have a1 := zi_iv hG h1
  have a2 := zi_iv hG h2
  refine ⟨x * y, ?_, zi_ml hG v1 v2 x y h1 h2⟩
  obtain ⟨a, e1, e2, e5⟩ := zi_na (x := x) (by omega)
  obtain ⟨b, e3, e4, e6⟩ := zi_na (x := y) (by omega)
  have hs : a * b < 2147483648 := by
    have h9 := Nat.mul_le_mul (show a ≤ (zo_iv g v1).2 - 2147483648 by omega) (show b ≤ (zo_iv g v2).2 - 2147483648 by omega)
    omega
  clear e5 e6 a1 a2 h1 h2
  subst e1; subst e3
  rw [zi_l0 e2, zi_l0 e4, pk_mul, zi_l0 hs]
  exact (Int64.ofNat_mul a b).symm
theorem zi_ckd (hG : ze_G g ρ) (c : zo_ckd g v1 v2 = true) (h1 : ze_V sp ρ ad v1 (.int x)) (h2 : ze_V sp ρ ad v2 (.int y)) : ∃ z : Int32, x.toInt64 / y.toInt64 = z.toInt64 ∧ (zo_bld g v1 v2).1 ≤ ze_b z ∧ ze_b z ≤ (zo_bld g v1 v2).2 := by
  obtain ⟨c1, c2⟩ := ze_condf c
  have c1 := ze_ble' c1
  have c2 := ze_ble' c2
  have a1 := zi_iv hG h1
  have a2 := zi_iv hG h2
  obtain ⟨a, e1, e2, e5⟩ := zi_na (x := x) (by omega)
  obtain ⟨b, e3, e4, e6⟩ := zi_na (x := y) (by omega)
  have hp : 0 < b := by omega
  have hu : 2147483648 + a ≤ (zo_iv g v1).2 := by omega
  clear e5 e6 a1 a2 h1 h2
  subst e1; subst e3
  have hd : a / b ≤ a := Nat.div_le_self _ _
  refine ⟨nI (a / b), ?_, ?_⟩
  · rw [zi_l0 e2, zi_l0 e4, pk_lDiv (by omega) hp (by omega), zi_l0 (by omega)]
  · rw [ze_b_nI]
    show 2147483648 ≤ _ ∧ _ ≤ (zo_iv g v1).2
    obtain ⟨t, ht⟩ : ∃ t, a / b = t := ⟨_, rfl⟩
    rw [ht] at hd ⊢
    omega
theorem zi_ckr (hG : ze_G g ρ) (c : zo_ckd g v1 v2 = true) (h1 : ze_V sp ρ ad v1 (.int x)) (h2 : ze_V sp ρ ad v2 (.int y)) : ∃ z : Int32, x.toInt64 - x.toInt64 / y.toInt64 * y.toInt64 = z.toInt64 ∧ (zo_brem g v1 v2).1 ≤ ze_b z ∧ ze_b z ≤ (zo_brem g v1 v2).2 := by
  obtain ⟨c1, c2⟩ := ze_condf c
  have c1 := ze_ble' c1
  have c2 := ze_ble' c2
  have a1 := zi_iv hG h1
  have a2 := zi_iv hG h2
  refine ⟨x - x / y * y, ?_, zi_rem hG v1 v2 x y h1 h2⟩
  obtain ⟨a, e1, e2, e5⟩ := zi_na (x := x) (by omega)
  obtain ⟨b, e3, e4, e6⟩ := zi_na (x := y) (by omega)
  have hp : 0 < b := by omega
  clear e5 e6 a1 a2 h1 h2
  subst e1; subst e3
  have hd : a % b < b := Nat.mod_lt _ hp
  rw [zi_l0 e2, zi_l0 e4, pk_lRem (by omega) hp (by omega), pk_rem (by omega) hp (by omega), zi_l0 (by omega)]
end ZCK
theorem zo_i5_spec {v1 v2 : EV} {f : Nat → Bool} {d : Bool} (h : zo_i5 v1 v2 f d = true) : d = true ∨ ∃ n, v1 = eU 5 ∧ v2 = eC n ∧ 1 ≤ n ∧ n ≤ 4 ∧ f n = true := by
  rcases v1 with (n | i) | ((q | q) | q)
  · exact Or.inl h
  · rcases ze_cond (show zcd (Nat.beq i 5) _ d = true from h) with ⟨h1, h2⟩ | ⟨-, h2⟩
    · have h1 := ze_beq h1
      subst h1
      rcases v2 with (n | j) | ((q | q) | q)
      · rcases ze_cond (show zcd (Nat.ble 1 n) (zcd (Nat.ble n 4) (f n) d) d = true from h2) with ⟨h3, h4⟩ | ⟨-, h4⟩
        · rcases ze_cond h4 with ⟨h5, h6⟩ | ⟨-, h6⟩
          · exact Or.inr ⟨n, rfl, rfl, ze_ble' h3, ze_ble' h5, h6⟩
          · exact Or.inl h6
        · exact Or.inl h4
      · exact Or.inl h2
      · exact Or.inl h2
      · exact Or.inl h2
      · exact Or.inl h2
    · exact Or.inl h2
  · exact Or.inl h
  · exact Or.inl h
  · exact Or.inl h
section ZSU
variable {p : Program} {l : Launch} {e : Env} {R : Room} {s : State} {m : MethodId} {args : Array Value} {below : List Frame} {meth : Method} {c : Code} {Q : State → Prop}
variable {z0 : List Int32 × List Nat} {dC : Nat → ClassId} {dI : Nat → Nat → Nat} {dA : Nat → ClassId} {sp : Nat → Nat} {xs : ZXs} {A : Nat → Prop} {nL : Nat} {V : List ECE → Prop}
variable {kk : EKn} {k : ERt} {cal : ECal} {mc ms pc pc2 ca cb cd nc ns : Nat} {nx : List ECE} {jp : EJp} {tl : List Nat} {ls st : List EV} {w : EW} {g : EG} {ρ : List Int32} {ws : va_W} {H : Heap} {locs : List Loc} {la : Array Slot} {vs : List Value}
variable {cc : ByteArray} {own : String} {idx : Nat}
theorem zs_iinc (hK : ze_KK p l e R s m args below meth c Q z0 dC dI dA sp xs A nL V kk) (hn : ze_at V nx pc2) (h : zo_iinc nx ca cb cd tl jp kk k cal mc ms ls st w g nc ns = true) (hH : ze_H z0 dC dI dA sp xs A s nL ls st w g ρ ws H locs la vs)
    (row : ∀ (x : Int32) (lv : List (Nat × Value)) (j : Nat), lv_has la nL lv → lv[j]? = some (ca, .int x) → (∀ la' : Array Slot, lv_has la' nL ((ca, Value.int (x + nI cb)) :: lv.filter (fun q => !(q.1 == ca) && !(q.1 + 1 == ca && q.2.category == 2))) → W p l e R s m args below meth c H locs nc ns Q (F0 m pc2 la' vs)) → W p l e R s m args below meth c H locs nc ns Q (F0 m pc la vs)) : W p l e R s m args below meth c H locs nc ns Q (F0 m pc la vs) := by
  rw [zo_iinc_eq] at h
  obtain ⟨v, hv, h2⟩ := ze_n_spec _ _ _ h
  obtain ⟨lv, hl, hL⟩ := hH.2.2.2.2.2.2.1
  have hne : v ≠ eX 1 := by
    intro q
    subst q
    cases h2
  obtain ⟨y, q1, q2⟩ := hL ca v hv hne
  obtain ⟨j, hj⟩ := List.getElem?_of_mem q1
  obtain ⟨x, ex, hx⟩ := ze_rs_spec h2 hH.1 q2
  subst ex
  refine row x lv j hl hj (fun la' hl' => ?_)
  rcases hx with ⟨a, ea, hx⟩ | ⟨i, ei, hi, hx⟩
  · rw [ze_f_eq] at hx
    refine hK _ _ _ _ _ _ _ hx _ hn _ _ _ _ _ _ (hH.st1 hL (x := .int (x + nI cb)) ?_ hl' hH.2.2.2.2.2.2.2)
    show Value.int _ = .int _
    rw [ea, ze_add]
    rfl
  · rw [ze_f_eq] at hx
    have hb9 := zi_add hH.1 v (eC cb) x (nI cb) q2 rfl
    obtain ⟨p9, hp9⟩ : ∃ p9, zo_badd g v (eC cb) = p9 := ⟨_, rfl⟩
    rw [hp9] at hx hb9
    have hF := hH.fr (lo := p9.1) (hi := p9.2) (x := x + nI cb) hb9.1 hb9.2
    have hp : ρ <+: ρ ++ [x + nI cb] := List.prefix_append _ _
    exact hK _ _ _ _ _ _ _ hx _ hn _ _ _ _ _ _ (hF.st1 (hL.mono hp (List.prefix_refl _)) (x := .int (x + nI cb)) ⟨_, hH.1.new _, rfl⟩ hl' hF.2.2.2.2.2.2.2)
theorem zs_lb {ck : EG → EV → EV → Bool} {bd : EG → EV → EV → Nat × Nat} (F : Int64 → Int64 → Int64) (hck : ∀ (v1 v2 : EV) (x y : Int32), ck g v1 v2 = true → ze_V sp ρ (ws.map (·.1)) v1 (.int x) → ze_V sp ρ (ws.map (·.1)) v2 (.int y) → ∃ z : Int32, F x.toInt64 y.toInt64 = z.toInt64 ∧ (bd g v1 v2).1 ≤ ze_b z ∧ ze_b z ≤ (bd g v1 v2).2) (hK : ze_KK p l e R s m args below meth c Q z0 dC dI dA sp xs A nL V kk) (hn : ze_at V nx pc2) (h : zo_lb F ck bd nx ca cb cd tl jp kk k cal mc ms ls st w g nc ns = true) (hH : ze_H z0 dC dI dA sp xs A s nL ls st w g ρ ws H locs la vs)
    (row : ∀ (x y : Int64) (rest : List Value), vs = .long y :: .long x :: rest → W p l e R s m args below meth c H locs nc ns Q (F0 m pc2 la (.long (F x y) :: rest)) → W p l e R s m args below meth c H locs nc ns Q (F0 m pc la (.long y :: .long x :: rest))) : W p l e R s m args below meth c H locs nc ns Q (F0 m pc la vs) := by
  unfold zo_lb at h
  split at h
  · rename_i y x rest
    obtain ⟨y2, r1, e1, V2, L1⟩ := hH.2.2.2.2.2.2.2.cons
    obtain ⟨y1, r2, e2, V1, L2⟩ := L1.cons
    subst e1; subst e2
    obtain ⟨X, eX⟩ := ze_longV V1
    obtain ⟨Y, eY⟩ := ze_longV V2
    subst eX; subst eY
    refine row X Y r2 rfl ?_
    have slow : ze_li ze_lr ze_l32 x (fun x2 => ze_li ze_lr ze_l32 y (fun y2 => zcd (ck g x2 y2) (ze_f g.length (fun i => kk nx ls (eLU i :: rest) w (g ++ [bd g x2 y2]) nc ns)) false) false) false = true → W p l e R s m args below meth c H locs nc ns Q (F0 m pc2 la (.long (F X Y) :: r2)) := by
      intro q
      rcases zi_li zi_lr q V1 with ⟨x9, vx, ex, hvx, hf⟩ | hd
      · rcases zi_li zi_lr hf V2 with ⟨y9, vy, ey, hvy, hf2⟩ | hd
        · obtain ⟨c1, c2⟩ := ze_condf hf2
          have ex : X = x9.toInt64 := Value.long.inj ex
          have ey : Y = y9.toInt64 := Value.long.inj ey
          obtain ⟨z, e9, b1, b2⟩ := hck _ _ _ _ c1 hvx hvy
          rw [ex, ey, e9]
          rw [ze_f_eq] at c2
          have hF := (hH.stk L2).fr b1 b2
          exact hK _ _ _ _ _ _ _ c2 _ hn _ _ _ _ _ _ (hF.stk ⟨⟨z, hH.1.new z, rfl⟩, hF.2.2.2.2.2.2.2⟩)
        · cases hd
      · cases hd
    unfold zv_s at h
    rcases x with x0 | xi
    · rcases y with y0 | yi
      · dsimp only at h
        rw [ze_f_eq] at h
        have ex : X = lN x0 := Value.long.inj V1
        have ey : Y = lN y0 := Value.long.inj V2
        rw [ex, ey]
        refine hK _ _ _ _ _ _ _ h _ hn _ _ _ _ _ _ (hH.stk ⟨?_, L2⟩)
        show Value.long _ = .long _
        rw [ze_el_eq]
      · dsimp only at h
        exact slow h
    · dsimp only at h
      exact slow h
  · cases h
theorem zs_ldv {ck : EG → EV → EV → Bool} {bd : EG → EV → EV → Nat × Nat} (F : Int64 → Int64 → Int64) (hck : ∀ (v1 v2 : EV) (x y : Int32), ck g v1 v2 = true → ze_V sp ρ (ws.map (·.1)) v1 (.int x) → ze_V sp ρ (ws.map (·.1)) v2 (.int y) → ∃ z : Int32, F x.toInt64 y.toInt64 = z.toInt64 ∧ (bd g v1 v2).1 ≤ ze_b z ∧ ze_b z ≤ (bd g v1 v2).2) (hK : ze_KK p l e R s m args below meth c Q z0 dC dI dA sp xs A nL V kk) (hn : ze_at V nx pc2) (h : zo_ldv (zo_lb F ck bd) nx ca cb cd tl jp kk k cal mc ms ls st w g nc ns = true) (hH : ze_H z0 dC dI dA sp xs A s nL ls st w g ρ ws H locs la vs)
    (row : ∀ (x y : Int64) (rest : List Value), ¬ y = 0 → W p l e R s m args below meth c H locs nc ns Q (F0 m pc2 la (.long (F x y) :: rest)) → W p l e R s m args below meth c H locs nc ns Q (F0 m pc la (.long y :: .long x :: rest))) : W p l e R s m args below meth c H locs nc ns Q (F0 m pc la vs) := by
  unfold zo_ldv at h
  split at h
  · rename_i y0 rest0
    obtain ⟨y1, r1, e1, V1, -⟩ := hH.2.2.2.2.2.2.2.cons
    rcases y0 with n | i
    · rcases ze_cond (show zcd (Nat.beq (Nat.mod n 18446744073709551616) 0) false _ = true from h) with ⟨_, q⟩ | ⟨q1, q2⟩
      · cases q
      · refine zs_lb F hck hK hn q2 hH (fun x y rest e9 k9 => row x y rest ?_ k9)
        have e8 : y = lN n := by
          rw [e1] at e9
          have h8 := (List.cons.inj e9).1
          rw [show y1 = .long (lN n) from V1] at h8
          exact (Value.long.inj h8).symm
        rw [e8]
        intro q9
        have h7 := congrArg (fun z : Int64 => z.toBitVec.toNat) q9
        have h6 : (lN n).toBitVec.toNat = n % 18446744073709551616 := by
          show (BitVec.ofNat 64 n).toNat = _
          rw [BitVec.toNat_ofNat]
        have h5 : n % 18446744073709551616 = 0 := by
          rw [← h6]
          exact h7
        exact ze_nbeq q1 h5
    · obtain ⟨p9, hp9, q⟩ := ze_n_spec _ _ _ (show ze_n g i (fun p => zcd (Nat.ble 2147483649 p.1) _ false) = true from h)
      obtain ⟨q1, q2⟩ := ze_condf q
      refine zs_lb F hck hK hn q2 hH (fun x y rest e9 k9 => row x y rest ?_ k9)
      obtain ⟨z, hz, ez⟩ := id V1
      have e8 : y = z.toInt64 := by
        rw [e1] at e9
        have h8 := (List.cons.inj e9).1
        rw [ez] at h8
        exact (Value.long.inj h8).symm
      rw [e8]
      intro q9
      have h7 := congrArg Int64.toInt q9
      rw [Int32.toInt_toInt64, Int64.toInt_zero] at h7
      have h6 := ze_b_int z
      have h5 := hH.1.2 i p9 z hp9 hz
      have h4 := ze_ble' q1
      omega
  · cases h
theorem zs_lsf (F : Int64 → Int32 → Int64) (hK : ze_KK p l e R s m args below meth c Q z0 dC dI dA sp xs A nL V kk) (hn : ze_at V nx pc2) (h : zo_lsf F nx ca cb cd tl jp kk k cal mc ms ls st w g nc ns = true) (hH : ze_H z0 dC dI dA sp xs A s nL ls st w g ρ ws H locs la vs)
    (row : ∀ (x : Int64) (y : Int32) (rest : List Value), W p l e R s m args below meth c H locs nc ns Q (F0 m pc2 la (.long (F x y) :: rest)) → W p l e R s m args below meth c H locs nc ns Q (F0 m pc la (.int y :: .long x :: rest))) : W p l e R s m args below meth c H locs nc ns Q (F0 m pc la vs) := by
  unfold zo_lsf at h
  split at h
  · obtain ⟨y2, r1, e1, V2, L1⟩ := hH.2.2.2.2.2.2.2.cons
    obtain ⟨y1, r2, e2, V1, L2⟩ := L1.cons
    subst e1; subst e2
    obtain ⟨n, g', en, hG', hx⟩ := ze_ix_spec h hH.1 V2
    subst en
    rw [show y1 = _ from V1] at *
    rw [ze_f_eq] at hx
    refine row _ _ _ ?_
    refine hK _ _ _ _ _ _ _ hx _ hn _ _ _ _ _ _ ((hH.gs hG').stk ⟨?_, L2⟩)
    show Value.long _ = .long _
    rw [ze_el_eq]
  · cases h
theorem zs_l2i (hK : ze_KK p l e R s m args below meth c Q z0 dC dI dA sp xs A nL V kk) (hn : ze_at V nx pc2) (h : zo_l2i nx ca cb cd tl jp kk k cal mc ms ls st w g nc ns = true) (hH : ze_H z0 dC dI dA sp xs A s nL ls st w g ρ ws H locs la vs)
    (row : ∀ (x : Int64) (rest : List Value), W p l e R s m args below meth c H locs nc ns Q (F0 m pc2 la (.int x.toInt32 :: rest)) → W p l e R s m args below meth c H locs nc ns Q (F0 m pc la (.long x :: rest))) : W p l e R s m args below meth c H locs nc ns Q (F0 m pc la vs) := by
  unfold zo_l2i at h
  split at h
  · rename_i x rest
    obtain ⟨y2, r1, e1, V2, L1⟩ := hH.2.2.2.2.2.2.2.cons
    subst e1
    rcases x with n | i
    · have h : ze_f (ze_e (lN n).toInt32) (fun r => kk nx ls (eC r :: rest) w g nc ns) = true := h
      rw [show y2 = _ from V2] at *
      rw [ze_f_eq] at h
      refine row _ _ ?_
      refine hK _ _ _ _ _ _ _ h _ hn _ _ _ _ _ _ (hH.stk ⟨?_, L1⟩)
      show Value.int _ = .int _
      rw [ze_e_eq]
    · obtain ⟨z, hz, ez⟩ := id V2
      subst ez
      refine row _ _ ?_
      refine hK _ _ _ _ _ _ _ (show kk nx ls (eU i :: rest) w g nc ns = true from h) _ hn _ _ _ _ _ _ (hH.stk ⟨⟨z, hz, ?_⟩, L1⟩)
      rw [Int32.toInt32_toInt64]
  · cases h
theorem zi_ch {x : Int32} (h1 : 2147483648 ≤ ze_b x) (h2 : ze_b x ≤ 2147549183) : (x.toUInt32 % 65536).toInt32 = x := by
  obtain ⟨e1, e2⟩ := zi_nn h1
  have hk : ze_b x - 2147483648 ≤ 65535 := by omega
  generalize ze_b x - 2147483648 = a at e1 e2 hk
  subst e1
  rw [pk_char, ze_tn]
  congr 1
  omega
theorem zs_i2c (hK : ze_KK p l e R s m args below meth c Q z0 dC dI dA sp xs A nL V kk) (hn : ze_at V nx pc2) (h : zo_i2c nx ca cb cd tl jp kk k cal mc ms ls st w g nc ns = true) (hH : ze_H z0 dC dI dA sp xs A s nL ls st w g ρ ws H locs la vs)
    (row : ∀ (x : Int32) (rest : List Value), W p l e R s m args below meth c H locs nc ns Q (F0 m pc2 la (.int (x.toUInt32 % 65536).toInt32 :: rest)) → W p l e R s m args below meth c H locs nc ns Q (F0 m pc la (.int x :: rest))) : W p l e R s m args below meth c H locs nc ns Q (F0 m pc la vs) := by
  match st, h, hH with
  | [], h, _ => exact absurd h (by intro q; cases q)
  | v1 :: rest, h, hH =>
    obtain ⟨y1, r1, e1, V1, L1⟩ := hH.2.2.2.2.2.2.2.cons
    subst e1
    have hH2 := hH.stk L1
    have h : ze_rs g v1 _ _ = true := h
    obtain ⟨x, ex, hx⟩ := ze_rs_spec h hH.1 V1
    subst ex
    refine row x r1 ?_
    rcases hx with ⟨a, ea, hx⟩ | ⟨i, ei, hi, hx⟩
    · rw [ze_f_eq] at hx
      refine hK _ _ _ _ _ _ _ hx _ hn _ _ _ _ _ _ (hH2.stk ⟨?_, L1⟩)
      show Value.int _ = .int _
      rw [ea]
      unfold zo_c1
      rw [ze_e_eq]
    · obtain ⟨p9, hp9, hx⟩ := ze_n_spec _ _ _ hx
      have hb := hH.1.2 i p9 x hp9 hi
      rcases ze_cond hx with ⟨c1, hx⟩ | ⟨-, hx⟩
      · obtain ⟨c1, c2⟩ := ze_condf c1
        have c1 := ze_ble' c1
        have c2 := ze_ble' c2
        rw [zi_ch (by omega) (by omega)]
        exact hK _ _ _ _ _ _ _ hx _ hn _ _ _ _ _ _ (hH2.stk ⟨⟨x, hi, rfl⟩, L1⟩)
      · refine zs_fr hK hx hH2 ?_ ?_ hn
        · rw [pk_char, ze_b_nI]
          omega
        · rw [pk_char, ze_b_nI]
          omega
theorem zs_neg (hK : ze_KK p l e R s m args below meth c Q z0 dC dI dA sp xs A nL V kk) (hn : ze_at V nx pc2) (h : zo_ineg nx ca cb cd tl jp kk k cal mc ms ls st w g nc ns = true) (hH : ze_H z0 dC dI dA sp xs A s nL ls st w g ρ ws H locs la vs)
    (row : ∀ (x : Int32) (rest : List Value), W p l e R s m args below meth c H locs nc ns Q (F0 m pc2 la (.int (-x) :: rest)) → W p l e R s m args below meth c H locs nc ns Q (F0 m pc la (.int x :: rest))) : W p l e R s m args below meth c H locs nc ns Q (F0 m pc la vs) := by
  match st, h, hH with
  | [], h, _ => exact absurd h (by intro q; cases q)
  | v1 :: rest, h, hH =>
    obtain ⟨y1, r1, e1, V1, L1⟩ := hH.2.2.2.2.2.2.2.cons
    subst e1
    have hH2 := hH.stk L1
    have h : ze_rs g v1 _ _ = true := h
    obtain ⟨x, ex, hx⟩ := ze_rs_spec h hH.1 V1
    subst ex
    refine row x r1 ?_
    rcases hx with ⟨a, ea, hx⟩ | ⟨i, ei, hi, hx⟩
    · rw [ze_f_eq] at hx
      refine hK _ _ _ _ _ _ _ hx _ hn _ _ _ _ _ _ (hH2.stk ⟨?_, L1⟩)
      show Value.int (-x) = .int (nI (zo_c1 (fun x => -x) a))
      rw [ea]
      exact congrArg Value.int (ze_e_eq _).symm
    · have hb := zi_sb hH.1 (eC 0) v1 (nI 0) x rfl V1
      rw [show nI 0 - x = -x from Int32.zero_sub x] at hb
      exact zs_fr hK hx hH2 hb.1 hb.2 hn
theorem zs_iadd (hsc : ze_X sp xs A s) (hK : ze_KK p l e R s m args below meth c Q z0 dC dI dA sp xs A nL V kk) (hn : ze_at V nx pc2) (h : zo_iadd0 nx ca cb cd tl jp kk k cal mc ms ls st w g nc ns = true) (hH : ze_H z0 dC dI dA sp xs A s nL ls st w g ρ ws H locs la vs)
    (row : ∀ (x y : Int32) (rest : List Value), W p l e R s m args below meth c H locs nc ns Q (F0 m pc2 la (.int (x + y) :: rest)) → W p l e R s m args below meth c H locs nc ns Q (F0 m pc la (.int y :: .int x :: rest))) : W p l e R s m args below meth c H locs nc ns Q (F0 m pc la vs) := by
  match st, h, hH with
  | [], h, _ => exact absurd h (by intro q; cases q)
  | [_], h, _ => exact absurd h (by intro q; cases q)
  | v2 :: v1 :: rest, h, hH =>
    rcases zo_i5_spec (show zo_i5 v1 v2 _ _ = true from h) with h | ⟨n, e1, e2, c1, c2, h9⟩
    · rcases ze_cond h with ⟨h0, h⟩ | ⟨-, h⟩
      · rcases v1 with u1 | ((v1 | v1) | v1)
        · obtain ⟨n0, e0, h8⟩ := zv_c_spec (show zv_c v2 (fun n => Nat.beq n 0) = true from h0)
          have h7 : n0 = 0 := ze_beq h8
          subst e0
          subst h7
          obtain ⟨y2, r1, e1, V2, L1⟩ := hH.2.2.2.2.2.2.2.cons
          obtain ⟨y1, r2, e2, V1, L2⟩ := L1.cons
          subst e1; subst e2
          obtain ⟨z, ez⟩ := ze_intV V1
          have e3 : y2 = .int (nI 0) := V2
          subst ez; subst e3
          refine row z (nI 0) r2 ?_
          rw [show z + nI 0 = z from Int32.add_zero z]
          exact hK _ _ _ _ _ _ _ h _ hn _ _ _ _ _ _ (hH.stk ⟨V1, L2⟩)
        · cases h0
        · cases h0
        · cases h0
      · exact zs_bin (fun x y => x + y) hK (fun a b => ze_add a b) (fun v1 v2 x y a b => zi_add hH.1 v1 v2 x y a b) hn (show zo_bin (fun a b => Nat.mod (Nat.add a b) 4294967296) zo_badd nx ca cb cd tl jp kk k cal mc ms ls (v2 :: v1 :: rest) w g nc ns = true from h) hH (fun x y rest _ k9 => row x y rest k9)
    · subst e1; subst e2
      obtain ⟨y2, r1, e1, V2, L1⟩ := hH.2.2.2.2.2.2.2.cons
      obtain ⟨y1, r2, e2, V1, L2⟩ := L1.cons
      subst e1; subst e2
      obtain ⟨z, hz, ez⟩ := id V1
      have e3 : y2 = .int (nI n) := V2
      subst ez; subst e3
      refine row z (nI n) r2 ?_
      have h5 := hH.2.1.1.1 5 (by omega)
      rw [h5] at hz
      cases hz
      have kn := hsc.2.2.2.2.1.1 n (by omega)
      refine hK _ _ _ _ _ _ _ h9 _ hn _ _ _ _ _ _ (hH.stk ⟨⟨_, hH.2.1.1.1 (5 + n) (by omega), ?_⟩, L2⟩)
      rw [kn]
theorem zs_aldS {kd : Nat} (h1k : 100 ≤ kd) (h2k : kd < 150) (hK : ze_KK p l e R s m args below meth c Q z0 dC dI dA sp xs A nL V kk) (hn : ze_at V nx pc2) (h : zo_ald kd nx ca cb cd tl jp kk k cal mc ms ls st w g nc ns = true) (hH : ze_H z0 dC dI dA sp xs A s nL ls st w g ρ ws H locs la vs)
    (row : ∀ (q a n : Nat) (f : Nat → Int32) (i : Int32) (rest : List Value), ws[q]? = some (a, .inl (dA kd, n, .inl f)) → vp_in i n → W p l e R s m args below meth c H locs nc ns Q (F0 m pc2 la (.int (f i.toNatClampNeg) :: rest)) → W p l e R s m args below meth c H locs nc ns Q (F0 m pc la (.int i :: .ref a :: rest))) : W p l e R s m args below meth c H locs nc ns Q (F0 m pc la vs) := by
  rcases st with _ | ⟨i, _ | ⟨r, rest⟩⟩
  · cases h
  · cases h
  rcases r with a | ((q | a) | a)
  · cases h
  · obtain ⟨cl, g1, h2⟩ := ze_g_spec (show ze_g w q (fun c => zcd (Nat.ble 1000 c.1) (zo_als kd i c nx kk ls rest w g nc ns) (zo_ald0 kd nx ca cb cd tl jp kk k cal mc ms ls (i :: .inr (.inl (.inl q)) :: rest) w g nc ns)) = true from h)
    rcases ze_cond h2 with ⟨-, h3⟩ | ⟨-, h3⟩
    · obtain ⟨k1, h3⟩ := ze_condf h3
      obtain ⟨n, lo, hi, e2, h3⟩ := zo_s3_spec h3
      obtain ⟨k2, h3⟩ := ze_condf h3
      obtain ⟨y1, r1, e1, V1, L1⟩ := hH.2.2.2.2.2.2.2.cons
      obtain ⟨y2, r2, e3, V2, L2⟩ := L1.cons
      subst e1; subst e3
      obtain ⟨x, ex, hin, hlt⟩ := zo_in_spec k2 hH.1 V1
      subst ex
      obtain ⟨a, eq, ex, hw, hC⟩ := hH.2.2.1.ref g1 V2
      subst ex
      have k1 : cl.1 = 1000 + kd := ze_beq k1
      obtain ⟨n', lo', hi', f, e3, e4, hf⟩ := hC.sumI (by omega) (by omega)
      have e5 := e2.symm.trans e3
      injection e5 with a1 t1
      injection t1 with a2 t2
      injection t2 with a3 _
      cases a1; cases a2; cases a3
      rw [show cl.1 - 1000 = kd by omega] at e4
      subst e4
      refine row _ a _ f x r2 hw hin ?_
      have hb := hf x.toNatClampNeg hlt
      exact zs_fr hK h3 (hH.stk L2) hb.1 hb.2 hn
    · exact zs_ald h1k h2k hK hn h3 hH row
  · cases h
  · cases h
theorem zs_lald (hK : ze_KK p l e R s m args below meth c Q z0 dC dI dA sp xs A nL V kk) (hn : ze_at V nx pc2) (h : zo_lald nx ca cb cd tl jp kk k cal mc ms ls st w g nc ns = true) (hH : ze_H z0 dC dI dA sp xs A s nL ls st w g ρ ws H locs la vs)
    (row : ∀ (q a n : Nat) (f : Nat → Int64) (i : Int32) (rest : List Value), ws[q]? = some (a, .inl (dA 150, n, .inr (.inl f))) → vp_in i n → W p l e R s m args below meth c H locs nc ns Q (F0 m pc2 la (.long (f i.toNatClampNeg) :: rest)) → W p l e R s m args below meth c H locs nc ns Q (F0 m pc la (.int i :: .ref a :: rest))) : W p l e R s m args below meth c H locs nc ns Q (F0 m pc la vs) := by
  rcases st with _ | ⟨i, _ | ⟨r, rest⟩⟩
  · cases h
  · cases h
  rcases r with a | ((q | a) | a)
  · cases h
  · obtain ⟨cl, g1, h2⟩ := ze_g_spec (show ze_g w q (fun c => zcd (Nat.ble 1000 c.1) (zo_all i c nx kk ls rest w g nc ns) (zo_ald0 150 nx ca cb cd tl jp kk k cal mc ms ls (i :: .inr (.inl (.inl q)) :: rest) w g nc ns)) = true from h)
    rcases ze_cond h2 with ⟨-, h3⟩ | ⟨-, h3⟩
    · obtain ⟨k1, h3⟩ := ze_condf h3
      obtain ⟨n, lo, hi, e2, h3⟩ := zo_s3_spec h3
      obtain ⟨k2, h3⟩ := ze_condf h3
      obtain ⟨y1, r1, e1, V1, L1⟩ := hH.2.2.2.2.2.2.2.cons
      obtain ⟨y2, r2, e3, V2, L2⟩ := L1.cons
      subst e1; subst e3
      obtain ⟨x, ex, hin, hlt⟩ := zo_in_spec k2 hH.1 V1
      subst ex
      obtain ⟨a, eq, ex, hw, hC⟩ := hH.2.2.1.ref g1 V2
      subst ex
      have k1 : cl.1 = 1150 := ze_beq k1
      obtain ⟨n', lo', hi', f, e3, e4, hf⟩ := hC.sumL (by omega) (by omega)
      have e5 := e2.symm.trans e3
      injection e5 with a1 t1
      injection t1 with a2 t2
      injection t2 with a3 _
      cases a1; cases a2; cases a3
      rw [show cl.1 - 1000 = 150 by omega] at e4
      subst e4
      refine row _ a _ f x r2 hw hin ?_
      obtain ⟨z, ez, b1, b2⟩ := hf x.toNatClampNeg hlt
      rw [ez]
      rw [ze_f_eq] at h3
      have hF := (hH.stk L2).fr b1 b2
      exact hK _ _ _ _ _ _ _ h3 _ hn _ _ _ _ _ _ (hF.stk ⟨⟨z, hH.1.new z, rfl⟩, hF.2.2.2.2.2.2.2⟩)
    · exact zs_lald0 hK hn h3 hH row
  · cases h
  · cases h
theorem zo_m3_spec {l : List EV} {f : EV → Nat → Nat → Bool} (h : zo_m3 l f = true) : ∃ v k t, l = [v, eC k, eC t] ∧ f v k t = true := by
  rcases l with _ | ⟨v, l⟩
  · cases h
  rcases l with _ | ⟨b, l⟩
  · cases h
  rcases b with (k | i) | ((q | (n2 | u)) | x)
  · rcases l with _ | ⟨c, l⟩
    · cases h
    rcases c with (t | i) | ((q | (n2 | u)) | x)
    · rcases l with _ | ⟨d, l⟩
      · exact ⟨v, k, t, rfl, h⟩
      · cases h
    all_goals cases h
  all_goals cases h
theorem zl_spec {l : List EV} {f : EV → List EV → Bool} (h : zl_ l f = true) : ∃ v r, l = v :: r ∧ f v r = true := by
  rcases l with _ | ⟨v, r⟩
  · cases h
  · exact ⟨v, r, rfl, h⟩
theorem zl_0_spec {l : List EV} {d : Bool} (h : zl_0 l d = true) : l = [] ∧ d = true := by
  rcases l with _ | ⟨v, r⟩
  · exact ⟨rfl, h⟩
  · cases h
theorem zo_m8_spec {l : List EV} {f : EV → Nat → EV → EV → Nat → EV → EV → Nat → Bool} (h : zo_m8 l f = true) : ∃ h d c p q t b e, l = [h, eC d, c, p, eC q, t, b, eC e] ∧ f h d c p q t b e = true := by
  obtain ⟨v1, r1, e1, h1⟩ := zl_spec h
  obtain ⟨v2, r2, e2, h2⟩ := zl_spec h1
  obtain ⟨d, e3, h3⟩ := zv_c_spec h2
  obtain ⟨v3, r3, e4, h4⟩ := zl_spec h3
  obtain ⟨v4, r4, e5, h5⟩ := zl_spec h4
  obtain ⟨v5, r5, e6, h6⟩ := zl_spec h5
  obtain ⟨q, e7, h7⟩ := zv_c_spec h6
  obtain ⟨v6, r6, e8, h8⟩ := zl_spec h7
  obtain ⟨v7, r7, e9, h9⟩ := zl_spec h8
  obtain ⟨v8, r8, e10, h10⟩ := zl_spec h9
  obtain ⟨e, e11, h11⟩ := zv_c_spec h10
  obtain ⟨e12, h12⟩ := zl_0_spec h11
  refine ⟨v1, d, v3, v4, q, v6, v7, e, ?_, h12⟩
  rw [e1, e2, e3, e4, e5, e6, e7, e8, e9, e10, e11, e12]
theorem zo_m4_spec {l : List EV} {f : Nat → Nat → EV → Nat → EV → EV → EV → Bool} (h : zo_m4 l f = true) : ∃ o k c d x y z, l = [eC o, eC k, c, eC d, x, y, z] ∧ f o k c d x y z = true := by
  obtain ⟨v1, r1, e1, h1⟩ := zl_spec h
  obtain ⟨o, e2, h2⟩ := zv_c_spec h1
  obtain ⟨v2, r2, e3, h3⟩ := zl_spec h2
  obtain ⟨k, e4, h4⟩ := zv_c_spec h3
  obtain ⟨v3, r3, e5, h5⟩ := zl_spec h4
  obtain ⟨v4, r4, e6, h6⟩ := zl_spec h5
  obtain ⟨d, e7, h7⟩ := zv_c_spec h6
  obtain ⟨x, r5, e8, h8⟩ := zl_spec h7
  obtain ⟨y, r6, e9, h9⟩ := zl_spec h8
  obtain ⟨z, r7, e10, h10⟩ := zl_spec h9
  obtain ⟨e11, h11⟩ := zl_0_spec h10
  refine ⟨o, k, v3, d, x, y, z, ?_, h11⟩
  rw [e1, e2, e3, e4, e5, e6, e7, e8, e9, e10, e11]
theorem zP_cl_ok {sp : Nat → Nat} {g : EG} {ρ : List Int32} {ad : List Nat} {v : EV} {x : Int32} {t : Nat} {f : Nat → Bool} (h : zP_cl g v t f = true) (hG : ze_G g ρ) (hv : ze_V sp ρ ad v (.int x)) : ∃ t', f t' = true ∧ zq_st (ze_b x) t = some t' := by
  rcases ze_cond h with ⟨h1, h2⟩ | ⟨-, h⟩
  · have hb := zo_wi_spec h1 hG hv
    exact ⟨_, h2, zq_st_1 hb.1 hb.2⟩
  · rcases ze_cond h with ⟨h1, h2⟩ | ⟨-, h⟩
    · have hb := zo_wi_spec h1 hG hv
      obtain ⟨h3, h2⟩ := ze_condf h2
      exact ⟨_, h2, zq_st_3 (by omega) (ze_ble' h3)⟩
    · obtain ⟨h1, h2⟩ := ze_condf h
      have hb := zo_wi_spec h1 hG hv
      obtain ⟨h3, h2⟩ := ze_condf h2
      exact ⟨_, h2, zq_st_2 hb.1 hb.2 (ze_ble' h3)⟩
/-- the engine's cell changes, the machine's does not -/
theorem ze_H.see {q a : Nat} {e1 : va_E} {c1 : EC} (hH : ze_H z0 dC dI dA sp xs A s nL ls st w g ρ ws H locs la vs) (hq : ws[q]? = some (a, e1)) (hC : ze_C dA sp ρ (ws.map (·.1)) c1 e1) : ze_H z0 dC dI dA sp xs A s nL ls st (ze_ws w q c1) g ρ ws H locs la vs := by
  have e7 : ws.set q (a, e1) = ws := by
    apply List.ext_getElem?
    intro i
    by_cases hi : q = i
    · subst hi
      rw [List.getElem?_set_self (List.getElem?_eq_some_iff.mp hq).1, hq]
    · rw [List.getElem?_set_ne hi]
  have hs := hH.2.2.1.set hq hC
  rw [e7] at hs
  exact ⟨hH.1, hH.2.1, hs, hH.2.2.2⟩
theorem ze_bn {x : Int32} {n K : Nat} (hx : x = nI n) (hn : n ≤ 1000000) (h : ze_b x = 2147483648 + K) : K = n := by
  rw [hx, ze_bC hn] at h
  omega
/-- a load of a number that is known, or of another one -/
theorem zs_plt {kd n lo hi q : Nat} {i : EV} {cl : EC} {rest : List EV} {y1 : Value} {r2 : List Value} {a : Nat} {f : Nat → Int32} {pv vv : EV} {zp zv : Int32} {PP : Nat} (hK : ze_KK p l e R s m args below meth c Q z0 dC dI dA sp xs A nL V kk) (hn : ze_at V nx pc2) (h : zP_lt kd n lo hi q i cl nx kk ls rest w g nc ns = true) (hH : ze_H z0 dC dI dA sp xs A s nL ls rest w g ρ ws H locs la r2)
    (V1 : ze_V sp ρ (ws.map (·.1)) i y1) (hw : ws[q]? = some (a, .inl (dA 100, n, .inl f))) (he : cl.2 = [pv, vv]) (i1 : ze_V sp ρ (ws.map (·.1)) pv (.int zp)) (i2 : ze_V sp ρ (ws.map (·.1)) vv (.int zv)) (b1 : ze_b zp = 2147483648 + PP) (b2 : PP < n) (hn9 : n ≤ 1000) (b3 : f PP = zv) (b4 : ∀ j, j < n → lo ≤ ze_b (f j) ∧ ze_b (f j) ≤ hi)
    (hC : ∀ (ρ' : List Int32) (x v : Int32) (X : Nat) (u1 u2 : EV), ze_V sp ρ' (ws.map (·.1)) u1 (.int x) → ze_V sp ρ' (ws.map (·.1)) u2 (.int v) → ze_b x = 2147483648 + X → X < n → f X = v → ze_C dA sp ρ' (ws.map (·.1)) (kd, [u1, u2]) (.inl (dA 100, n, .inl f))) :
    ∃ x : Int32, y1 = .int x ∧ vp_in x n ∧ W p l e R s m args below meth c H locs nc ns Q (F0 m pc2 la (.int (f x.toNatClampNeg) :: r2)) := by
  obtain ⟨u1, l1, e1, h2⟩ := zl_spec h
  obtain ⟨u2, l2, e2, h3⟩ := zl_spec h2
  obtain ⟨e3, h4⟩ := zl_0_spec h3
  rw [e1, e2, e3] at he
  injection he with t1 t2
  injection t2 with t2 _
  rw [t1, t2] at h4
  rcases ze_cond h4 with ⟨k2, h5⟩ | ⟨-, h5⟩
  · have e4 := zh_eq_ok k2
    have e5 : y1 = .int zp := by
      rw [e4] at V1
      exact ze_V_int V1 i1
    obtain ⟨a9, e6, e7, e8⟩ := zi_na (x := zp) (by omega)
    have e9 : PP = a9 := by omega
    subst e9
    refine ⟨zp, e5, by rw [e6]; exact ze_vin (by omega) (by omega), ?_⟩
    have e10 : zp.toNatClampNeg = PP := by rw [e6]; exact ze_cln (by omega)
    rw [e10, b3]
    exact hK _ _ _ _ _ _ _ h5 _ hn _ _ _ _ _ _ (hH.stk ⟨i2, hH.2.2.2.2.2.2.2⟩)
  · obtain ⟨k3, h6⟩ := ze_condf h5
    obtain ⟨x, ex, hin, hlt⟩ := zo_in_spec k3 hH.1 V1
    subst ex
    refine ⟨x, rfl, hin, ?_⟩
    rw [ze_f_eq] at h6
    have hb := b4 x.toNatClampNeg hlt
    have hF := hH.frs hb.1 hb.2
    have hp : ρ <+: ρ ++ [f x.toNatClampNeg] := List.prefix_append _ _
    have hnn : 2147483648 ≤ ze_b x := by
      rcases i with u | ((q | u) | x9)
      · obtain ⟨w1, -⟩ := ze_condf (show zcd (Nat.ble 2147483648 (zo_iv g (.inl u)).1) (Nat.ble (Nat.succ (zo_iv g (.inl u)).2) (Nat.add 2147483648 n)) false = true from k3)
        have w1 := ze_ble' w1
        have w2 := zi_iv hH.1 V1
        omega
      · cases k3
      · cases k3
      · cases k3
    obtain ⟨a9, e6, e7, e8⟩ := zi_na hnn
    have e9 : x.toNatClampNeg = a9 := by rw [e6]; exact nI_clamp e7
    exact hK _ _ _ _ _ _ _ h6 _ hn _ _ _ _ _ _ (hF.see hw (hC _ x (f x.toNatClampNeg) x.toNatClampNeg i (eU g.length) (V1.mono hp (List.prefix_refl _)) ⟨_, hH.1.new _, rfl⟩ (by omega) hlt rfl))
theorem zs_pal (hK : ze_KK p l e R s m args below meth c Q z0 dC dI dA sp xs A nL V kk) (hn : ze_at V nx pc2) (h : zo_pal nx ca cb cd tl jp kk k cal mc ms ls st w g nc ns = true) (hH : ze_H z0 dC dI dA sp xs A s nL ls st w g ρ ws H locs la vs)
    (row : ∀ (q a n : Nat) (f : Nat → Int32) (i : Int32) (rest : List Value), ws[q]? = some (a, .inl (dA 100, n, .inl f)) → vp_in i n → W p l e R s m args below meth c H locs nc ns Q (F0 m pc2 la (.int (f i.toNatClampNeg) :: rest)) → W p l e R s m args below meth c H locs nc ns Q (F0 m pc la (.int i :: .ref a :: rest))) : W p l e R s m args below meth c H locs nc ns Q (F0 m pc la vs) := by
  rcases st with _ | ⟨i, _ | ⟨r, rest⟩⟩
  · cases h
  · cases h
  rcases r with a | ((q | a) | a)
  · cases h
  · obtain ⟨cl, g1, h2⟩ := ze_g_spec (show ze_g w q (fun c => zcd (Nat.ble 1300 c.1) (zcd (Nat.beq c.1 1303) (zP_lt 1303 80 2147483648 2147483903 q i c nx kk ls rest w g nc ns) (zcd (Nat.beq c.1 1304) (zP_lt 1304 60 2147483393 2147483903 q i c nx kk ls rest w g nc ns) (ze_ix g i (fun n g => zP_ld q n c nx kk ls rest w g nc ns)))) false) = true from h)
    obtain ⟨h0, h2⟩ := ze_condf h2
    have h0 := ze_ble' h0
    obtain ⟨y1, r1, e1, V1, L1⟩ := hH.2.2.2.2.2.2.2.cons
    obtain ⟨y2, r2, e2, V2, L2⟩ := L1.cons
    subst e1; subst e2
    obtain ⟨a, eq, ex, hw, hC⟩ := hH.2.2.1.ref g1 V2
    subst ex
    obtain ⟨-, hk4, zs, f, hI, he, hP⟩ := hC.pred h0
    subst he
    rcases ze_cond h2 with ⟨k1, h3⟩ | ⟨-, h2⟩
    · have k1 : cl.1 = 1303 := ze_beq k1
      have en9 : zP_n cl.1 = 80 := by rw [k1]; rfl
      obtain ⟨zp, zv, PP, ez, b1, b2, b3, b4⟩ := zP_t hP k1
      subst ez
      rw [en9] at hw
      obtain ⟨pv, vv, e9, i1, i2⟩ := hI.two
      obtain ⟨x, ex, hin, hW9⟩ := zs_plt hK hn h3 (hH.stk L2) V1 hw e9 i1 i2 b1 b2 (by omega) b3 b4 (fun ρ' x v X u1 u2 w1 w2 w3 w4 w5 => Or.inr (Or.inr (Or.inr (Or.inr (Or.inr ⟨(by show 1300 ≤ 1303; decide), (by show 1303 < 1400; decide), [x, v], f, ze_I.push w1 (ze_I.push w2 ze_I.nil), rfl, Or.inr (Or.inr (Or.inr ⟨Nat.le_refl _, Or.inl ⟨rfl, x, v, X, rfl, w3, w4, w5, b4⟩⟩))⟩)))))
      subst ex
      exact row _ a _ f x r2 hw hin hW9
    rcases ze_cond h2 with ⟨k1, h3⟩ | ⟨-, h2⟩
    · have k1 : cl.1 = 1304 := ze_beq k1
      have en9 : zP_n cl.1 = 60 := by rw [k1]; rfl
      obtain ⟨zp, zv, PP, ez, b1, b2, b3, b4⟩ := zP_a hP k1
      subst ez
      rw [en9] at hw
      obtain ⟨pv, vv, e9, i1, i2⟩ := hI.two
      obtain ⟨x, ex, hin, hW9⟩ := zs_plt hK hn h3 (hH.stk L2) V1 hw e9 i1 i2 b1 b2 (by omega) b3 b4 (fun ρ' x v X u1 u2 w1 w2 w3 w4 w5 => Or.inr (Or.inr (Or.inr (Or.inr (Or.inr ⟨(by show 1300 ≤ 1304; decide), (by show 1304 < 1400; decide), [x, v], f, ze_I.push w1 (ze_I.push w2 ze_I.nil), rfl, Or.inr (Or.inr (Or.inr ⟨(by show 1303 ≤ 1304; decide), Or.inr (Or.inl ⟨rfl, x, v, X, rfl, w3, w4, w5, b4⟩)⟩))⟩)))))
      subst ex
      exact row _ a _ f x r2 hw hin hW9
    obtain ⟨n, g', en, hG', h2⟩ := ze_ix_spec h2 hH.1 V1
    subst en
    have hH1 := hH.gs hG'
    rcases ze_cond h2 with ⟨k1, h2⟩ | ⟨-, h2⟩
    · have k1 : cl.1 = 1300 := ze_beq k1
      obtain ⟨v, kx, t, e3, h2⟩ := zo_m3_spec h2
      obtain ⟨k2, h2⟩ := ze_condf h2
      obtain ⟨k3, h2⟩ := ze_condf h2
      obtain ⟨k4, h2⟩ := ze_condf h2
      obtain ⟨k5, h2⟩ := ze_condf h2
      obtain ⟨hA, h2⟩ := ze_condf h2
      obtain ⟨hB, hC3⟩ := ze_condf h2
      have k2 : kx = n := ze_beq k2
      have k3 := ze_ble' k3
      have k4 := ze_ble' k4
      have k5 : 2147483649 + n ≤ (zo_iv g' v).1 := ze_ble' k5
      subst k2
      rcases hP with ⟨-, hP⟩ | ⟨q9, -⟩ | ⟨q9, -⟩ | ⟨q9, -⟩
      · obtain ⟨zv, zk, zt, VV, KK, TT, ez, b1, b2, b3, ⟨t9, hV⟩, hKT⟩ := hP
        subst ez
        rw [e3] at hI
        obtain ⟨i1, hI2⟩ := hI.cons
        obtain ⟨i2, hI3⟩ := hI2.cons
        obtain ⟨i3, -⟩ := hI3.cons
        have eK : KK = kx := ze_bn (ze_VC i2) (by omega) b2
        have eT : TT = t := ze_bn (ze_VC i3) (by omega) b3
        subst eK; subst eT
        have hiv := zi_iv hG' i1
        obtain ⟨t', s1, s2⟩ := zq_h_ld hV (show KK < VV by omega) hKT
        have en9 : zP_n cl.1 = 80 := by rw [k1]; rfl
        refine row _ a _ f _ r2 hw (by rw [en9]; exact ze_vin (by omega) (by omega)) ?_
        rw [ze_cln (by omega)]
        have mk : ∀ u, u ≤ 100000 → zq_h f (KK + 1) = some u → ze_C dA sp ρ (ws.map (·.1)) (1300, [v, eC (KK + 1), eC u]) (.inl (dA 100, zP_n cl.1, .inl f)) := fun u hu hq => Or.inr (Or.inr (Or.inr (Or.inr (Or.inr ⟨(by show 1300 ≤ 1300; decide), (by show 1300 < 1400; decide), [zv, nI (KK + 1), nI u], f, ze_I.push i1 (ze_I.push rfl (ze_I.push rfl ze_I.nil)), by rw [k1], Or.inl ⟨rfl, zv, nI (KK + 1), nI u, VV, KK + 1, u, rfl, b1, ze_bC (by omega), ze_bC (by omega), ⟨t9, hV⟩, hq⟩⟩))))
        rcases zq_st_cases s1 with ⟨a1, a2, a3⟩ | ⟨a1, a2, a3, a4⟩ | ⟨a1, a2, a3⟩
        · rw [a3] at s2
          exact zs_fr hK hC3 ((hH1.stk L2).see hw (mk _ (by omega) s2)) a1 a2 hn
        · rw [a4] at s2
          exact zs_fr hK (ze_condt hB (ze_ble a3)) ((hH1.stk L2).see hw (mk _ (by show TT - 1 ≤ 100000; omega) s2)) a1 a2 hn
        · rw [a3] at s2
          have ef : f KK = nI 3000 := (ze_unb a1).symm
          refine hK _ _ _ _ _ _ _ (ze_condt hA (ze_ble a2)) _ hn _ _ _ _ _ _ (((hH1.stk L2).see hw (mk _ (by omega) s2)).stk ⟨?_, L2⟩)
          show Value.int _ = .int (nI 3000)
          rw [ef]
      · omega
      · omega
      · omega
    rcases ze_cond h2 with ⟨k1, h2⟩ | ⟨-, h2⟩
    case inr.inr =>
      obtain ⟨k1, h2⟩ := ze_condf h2
      have k1 : cl.1 = 1305 := ze_beq k1
      have en9 : zP_n cl.1 = 29 := by rw [k1]; rfl
      obtain ⟨k3, h2⟩ := ze_condf h2
      have k3 := ze_ble' k3
      obtain ⟨o, kx, cv, d, xv, yv, tv, e3, h3⟩ := zo_m4_spec h2
      obtain ⟨k4, h3⟩ := ze_condf h3
      obtain ⟨k4, k5⟩ := ze_condf k4
      obtain ⟨k5, k6⟩ := ze_condf k5
      obtain ⟨hA, h3⟩ := ze_condf h3
      obtain ⟨hB, hC3⟩ := ze_condf h3
      have k4 : kx = n := ze_beq k4
      have k5 := ze_ble' k5
      have k6 := ze_ble' k6
      subst k4
      obtain ⟨zo, zj, zc, zd, zx, zy, zt, OO, JJ, CC, DD, XX, YY, TT, ez, b1, b2, b3, b4, b5, b6, b7, hq, hT⟩ := zP_c hP k1
      subst ez
      rw [e3] at hI
      obtain ⟨i1, hI2⟩ := hI.cons
      obtain ⟨i2, hI3⟩ := hI2.cons
      obtain ⟨i3, hI4⟩ := hI3.cons
      obtain ⟨i4, hI5⟩ := hI4.cons
      obtain ⟨i5, hI6⟩ := hI5.cons
      obtain ⟨i6, hI7⟩ := hI6.cons
      obtain ⟨i7, -⟩ := hI7.cons
      have eO : OO = o := ze_bn (ze_VC i1) (by omega) b1
      have eJ : JJ = kx := ze_bn (ze_VC i2) (by omega) b2
      have eD : DD = d := ze_bn (ze_VC i4) (by omega) b4
      subst eO; subst eJ; subst eD
      refine row _ a _ f _ r2 hw (by rw [en9]; exact ze_vin (by omega) (by omega)) ?_
      rw [ze_cln (by omega)]
      have mk : ∀ u, u ≤ 100000 → zq_c f OO (JJ + 1) = CC + u → ze_C dA sp ρ (ws.map (·.1)) (1305, [eC OO, eC (JJ + 1), cv, eC u, xv, yv, tv]) (.inl (dA 100, zP_n cl.1, .inl f)) := fun u hu hq => Or.inr (Or.inr (Or.inr (Or.inr (Or.inr ⟨(by show 1300 ≤ 1305; decide), (by show 1305 < 1400; decide), [nI OO, nI (JJ + 1), zc, nI u, zx, zy, zt], f, ze_I.push rfl (ze_I.push rfl (ze_I.push i3 (ze_I.push rfl (ze_I.push i5 (ze_I.push i6 (ze_I.push i7 ze_I.nil)))))), by rw [k1], Or.inr (Or.inr (Or.inr ⟨(by show 1303 ≤ 1305; decide), Or.inr (Or.inr (Or.inl ⟨rfl, nI OO, nI (JJ + 1), zc, nI u, zx, zy, zt, OO, JJ + 1, CC, u, XX, YY, TT, rfl, ze_bC (by omega), ze_bC (by omega), b3, ze_bC (by omega), b5, b6, b7, hq, hT⟩))⟩))⟩))))
      have hs := zq_c_s f OO JJ
      by_cases c1 : ze_b (f JJ) = 2147483658 + OO
      · rw [if_pos c1] at hs
        obtain ⟨a9, e6, e7, e8⟩ := zi_na (x := f JJ) (by omega)
        have e9 : a9 = 10 + OO := by omega
        subst e9
        refine hK _ _ _ _ _ _ _ hA _ hn _ _ _ _ _ _ (((hH1.stk L2).see hw (mk (DD + 1) (by omega) (by omega))).stk ⟨?_, L2⟩)
        show Value.int _ = .int (nI (10 + OO))
        rw [e6]
      · rw [if_neg c1] at hs
        rcases Nat.lt_or_ge (ze_b (f JJ)) (2147483658 + OO) with q9 | q9
        · exact zs_fr hK hB ((hH1.stk L2).see hw (mk DD (by omega) (by omega))) (Nat.zero_le _) (by show ze_b (f JJ) ≤ 2147483657 + OO; omega) hn
        · exact zs_fr hK hC3 ((hH1.stk L2).see hw (mk DD (by omega) (by omega))) (by show 2147483659 + OO ≤ ze_b (f JJ); omega) (ze_b_top _) hn
    · have k1 : cl.1 = 1302 := ze_beq k1
      obtain ⟨k3, h2⟩ := ze_condf h2
      have k3 := ze_ble' k3
      obtain ⟨v, k2, h2⟩ := ze_n_spec _ _ _ h2
      rcases hP with ⟨q9, -⟩ | ⟨q9, -⟩ | ⟨-, hP⟩ | ⟨q9, -⟩
      · omega
      · omega
      · obtain ⟨x, x1, x2⟩ := hI.2 _ _ k2
        obtain ⟨b1, b2, b3⟩ := hP.2 _ _ x1
        have en9 : zP_n cl.1 = 12 := by rw [k1]; rfl
        refine row _ a _ f _ r2 hw (by rw [en9]; exact ze_vin (by omega) (by omega)) ?_
        rw [ze_cln (by omega)]
        obtain ⟨X9, Y9, eX9, eY9, c1, c2⟩ := ze_lt_spec h2 hG' x2 (show ze_V sp ρ (ws.map (·.1)) (eC 2) (.int (nI 2)) from rfl)
        cases eX9
        cases eY9
        by_cases hlt : x < nI 2
        · obtain ⟨g2, hG2, h2⟩ := c1 hlt
          exact zs_fr hK h2 ((hH.gs hG2).stk L2) b1 b2 hn
        · obtain ⟨g2, hG2, h2⟩ := c2 hlt
          have h9 : ¬ ze_b x < ze_b (nI 2) := fun q => hlt (ze_b_lt.mpr q)
          rw [ze_bC (by omega)] at h9
          exact zs_fr hK h2 ((hH.gs hG2).stk L2) b1 (b3 (by omega)) hn
      · omega
  · cases h
  · cases h
theorem zs_pas (hx : p.tables.exec = Jvm.exec) (hb9 : c.code = cc) (hKs : ze_K dC dI dA s) (hai : (100, FieldType.int) ∈ ze_arr) (hdg : decode cc pc = .ok (.iastore, 1)) (hK : ze_KK p l e R s m args below meth c Q z0 dC dI dA sp xs A nL V kk) (hn : ze_at V nx (pc + 1)) (h : zo_pas nx ca cb cd tl jp kk k cal mc ms ls st w g nc ns = true) (hH : ze_H z0 dC dI dA sp xs A s nL ls st w g ρ ws H locs la vs) : W p l e R s m args below meth c H locs nc ns Q (F0 m pc la vs) := by
  rcases st with _ | ⟨v, _ | ⟨i, _ | ⟨r, rest⟩⟩⟩
  · cases h
  · cases h
  · cases h
  rcases r with a | ((q | a) | a)
  · cases h
  · rcases v with u | ((v | v) | v)
    · obtain ⟨cl, g1, h2⟩ := ze_g_spec (show ze_g w q (fun c => zcd (Nat.ble 1300 c.1) (zcd (Nat.beq c.1 1304) (zP_s4 q (.inl u) i nx kk ls rest w g nc ns) (ze_ix g i (fun n g => zP_st q n (.inl u) c nx kk ls rest w g nc ns))) false) = true from h)
      obtain ⟨h0, h2⟩ := ze_condf h2
      have h0 := ze_ble' h0
      obtain ⟨y1, r1, e1, V1, L1⟩ := hH.2.2.2.2.2.2.2.cons
      obtain ⟨y2, r2, e2, V2, L2⟩ := L1.cons
      obtain ⟨y3, r3, e3, V3, L3⟩ := L2.cons
      subst e1; subst e2; subst e3
      obtain ⟨z, ez⟩ := ze_intV V1
      subst ez
      obtain ⟨a, eq, ex, hw, hC⟩ := hH.2.2.1.ref g1 V3
      subst ex
      obtain ⟨-, hk4, zs, f, hI, he, hP⟩ := hC.pred h0
      subst he
      rcases ze_cond h2 with ⟨k1, h3⟩ | ⟨-, h2⟩
      · have k1 : cl.1 = 1304 := ze_beq k1
        have en9 : zP_n cl.1 = 60 := by rw [k1]; rfl
        obtain ⟨zp, zv, PP, ez, b1, b2, b3, b4⟩ := zP_a hP k1
        rw [en9] at hw
        obtain ⟨k2, h4⟩ := ze_condf h3
        obtain ⟨k3, h5⟩ := ze_condf h4
        obtain ⟨x, ex, hin, hlt⟩ := zo_in_spec k2 hH.1 V2
        subst ex
        have hb := zo_wi_spec k3 hH.1 V1
        have hnn : 2147483648 ≤ ze_b x := by
          rcases i with u9 | ((q9 | u9) | x9)
          · obtain ⟨w1, -⟩ := ze_condf (show zcd (Nat.ble 2147483648 (zo_iv g (.inl u9)).1) (Nat.ble (Nat.succ (zo_iv g (.inl u9)).2) (Nat.add 2147483648 60)) false = true from k2)
            have w1 := ze_ble' w1
            have w2 := zi_iv hH.1 V2
            omega
          · cases k2
          · cases k2
          · cases k2
        obtain ⟨a9, e6, e7, e8⟩ := zi_na hnn
        have e9 : x.toNatClampNeg = a9 := by rw [e6]; exact nI_clamp e7
        refine va_iast (D := (dC, dI)) hx hb9 (hKs.k1 hai) hH.2.2.2.1 hH.2.2.2.2.1 hH.2.2.2.2.2.1 _ 0 hw rfl hin hdg (fun H1 locs1 g1 g2 g3 => ?_)
        exact hK _ _ _ _ _ _ _ h5 _ hn _ _ _ _ _ _ ((hH.stk L3).put hw (Or.inr (Or.inr (Or.inr (Or.inr (Or.inr ⟨(by show 1300 ≤ 1304; decide), (by show 1304 < 1400; decide), [x, z], upd f x.toNatClampNeg z, ze_I.push V2 (ze_I.push V1 ze_I.nil), rfl, Or.inr (Or.inr (Or.inr ⟨(by show 1303 ≤ 1304; decide), Or.inr (Or.inl ⟨rfl, x, z, x.toNatClampNeg, rfl, by omega, hlt, pk_us, fun j hj => by
          by_cases e10 : j = x.toNatClampNeg
          · rw [e10, pk_us]; exact hb
          · rw [pk_un e10]; exact b4 j hj⟩)⟩))⟩))))) g1 g2 g3 L3)
      obtain ⟨n, g', en, hG', h2⟩ := ze_ix_spec h2 hH.1 V2
      subst en
      have hH1 := (hH.gs hG').stk L3
      have fin : ∀ (c1 : EC), n < zP_n cl.1 → n ≤ 1073741824 → kk nx ls rest (ze_ws w q c1) g' nc ns = true → ze_C dA sp ρ (ws.map (·.1)) c1 (.inl (dA 100, zP_n cl.1, .inl (upd f n z))) → W p l e R s m args below meth c H locs nc ns Q (F0 m pc la (.int z :: .int (nI n) :: .ref a :: r3)) := by
        intro c1 j1 j2 hk hC1
        refine va_iast (D := (dC, dI)) hx hb9 (hKs.k1 hai) hH.2.2.2.1 hH.2.2.2.2.1 hH.2.2.2.2.2.1 _ 0 hw rfl (ze_vin j2 j1) hdg (fun H1 locs1 g1 g2 g3 => ?_)
        rw [ze_cln j2] at g1 g2
        exact hK _ _ _ _ _ _ _ hk _ hn _ _ _ _ _ _ (hH1.put hw hC1 g1 g2 g3 L3)
      rcases ze_cond h2 with ⟨k1, h2⟩ | ⟨-, h2⟩
      · have k1 : cl.1 = 1300 := ze_beq k1
        have en9 : zP_n cl.1 = 80 := by rw [k1]; rfl
        obtain ⟨v0, kx, t, e3, h2⟩ := zo_m3_spec h2
        obtain ⟨k2, h2⟩ := ze_condf h2
        obtain ⟨k3, h2⟩ := ze_condf h2
        obtain ⟨k4, h2⟩ := ze_condf h2
        have k2 : kx = n := ze_beq k2
        have k3 := ze_ble' k3
        have k4 := ze_ble' k4
        subst k2
        obtain ⟨t', hk, hq⟩ := zP_cl_ok h2 hG' V1
        rcases hP with ⟨-, hP⟩ | ⟨q9, -⟩ | ⟨q9, -⟩ | ⟨q9, -⟩
        · obtain ⟨zv, zk, zt, VV, KK, TT, ez, b1, b2, b3, ⟨t9, hV⟩, hKT⟩ := hP
          subst ez
          rw [e3] at hI
          obtain ⟨i1, hI2⟩ := hI.cons
          obtain ⟨i2, hI3⟩ := hI2.cons
          obtain ⟨i3, -⟩ := hI3.cons
          have eK : KK = kx := ze_bn (ze_VC i2) (by omega) b2
          have eT : TT = t := ze_bn (ze_VC i3) (by omega) b3
          subst eK; subst eT
          have hle := zq_st_le hq
          have hp := zq_h_put (f' := upd f KK z) hKT pk_us (fun j hj => pk_un (by omega)) hq
          exact fin _ (by omega) (by omega) hk (Or.inr (Or.inr (Or.inr (Or.inr (Or.inr ⟨(by show 1300 ≤ 1300; decide), (by show 1300 < 1400; decide), [nI (KK + 1), nI (KK + 1), nI t'], _, ze_I.push rfl (ze_I.push rfl (ze_I.push rfl ze_I.nil)), by rw [k1], Or.inl ⟨rfl, nI (KK + 1), nI (KK + 1), nI t', KK + 1, KK + 1, t', rfl, ze_bC (by omega), ze_bC (by omega), ze_bC (by omega), ⟨t', hp⟩, hp⟩⟩)))))
        · omega
        · omega
        · omega
      · rcases ze_cond h2 with ⟨k1, h2⟩ | ⟨-, h2⟩
        · have k1 : cl.1 = 1301 := ze_beq k1
          have en9 : zP_n cl.1 = 80 := by rw [k1]; rfl
          obtain ⟨hv, d, cv, pv, o, tv, bv, r9, e3, h2⟩ := zo_m8_spec h2
          obtain ⟨k2, h2⟩ := ze_condf h2
          obtain ⟨k3, k2⟩ := ze_condf k2
          obtain ⟨k4, k5⟩ := ze_condf k2
          have k3 := ze_ble' k3
          have k4 := ze_ble' k4
          have k5 := ze_ble' k5
          obtain ⟨k6, h2⟩ := ze_condf h2
          rcases hP with ⟨q9, -⟩ | ⟨-, hP⟩ | (⟨q9, -⟩ | ⟨q9, -⟩)
          · omega
          · obtain ⟨zh, zd, zc, zp, zo, zt, zb, zr, HH, DD, CC, PP, QQ, TT, BB, RR, ez, b1, b2, b3, b4, b5, b6, b7, b8, hD, s1, s2, s3⟩ := hP
            subst ez
            rw [e3] at hI
            obtain ⟨i1, hI⟩ := hI.cons
            obtain ⟨i2, hI⟩ := hI.cons
            obtain ⟨i3, hI⟩ := hI.cons
            obtain ⟨i4, hI⟩ := hI.cons
            obtain ⟨i5, hI⟩ := hI.cons
            obtain ⟨i6, hI⟩ := hI.cons
            obtain ⟨i7, hI⟩ := hI.cons
            obtain ⟨i8, -⟩ := hI.cons
            have hcv := zo_wi_spec k6 hG' i3
            have hcv1 : 2147483648 + n ≤ ze_b zc := hcv.1
            have hcv2 : ze_b zc ≤ 2147483648 + n := hcv.2
            have eC9 : CC = n := by omega
            subst eC9
            have eO : QQ = o := ze_bn (ze_VC i5) (by omega) b5
            subst eO
            have mk : ∀ d2, d2 ≤ 1000 → (d2 = 255 ∨ zq_h (upd f CC z) (CC + 1) = some (HH + d2)) → ze_C dA sp ρ (ws.map (·.1)) (1301, [hv, eC d2, eC (CC + 1), pv, eC (Nat.pred QQ), tv, bv, eC r9]) (.inl (dA 100, zP_n cl.1, .inl (upd f CC z))) := fun d2 hd2 hq => by
              have ep : Nat.pred QQ = QQ - 1 := rfl
              rw [ep]
              exact Or.inr (Or.inr (Or.inr (Or.inr (Or.inr ⟨(by show 1300 ≤ 1301; decide), (by show 1301 < 1400; decide), [zh, nI d2, nI (CC + 1), zp, nI (QQ - 1), zt, zb, zr], _, ze_I.push i1 (ze_I.push rfl (ze_I.push rfl (ze_I.push i4 (ze_I.push rfl (ze_I.push i6 (ze_I.push i7 (ze_I.push i8 ze_I.nil))))))), by rw [k1], Or.inr (Or.inl ⟨rfl, zh, nI d2, nI (CC + 1), zp, nI (QQ - 1), zt, zb, zr, HH, d2, CC + 1, PP, QQ - 1, TT, BB, RR, rfl, b1, ze_bC (by omega), ze_bC (by omega), b4, ze_bC (by omega), b6, b7, b8, hq, by omega, s2, s3⟩)⟩))))
            rcases ze_cond h2 with ⟨k7, h2⟩ | ⟨k7, h2⟩
            · exact fin _ (by omega) (by omega) h2 (mk 255 (by omega) (Or.inl rfl))
            · obtain ⟨k8, h2⟩ := ze_condf h2
              have k8 := ze_ble' k8
              have k7 := ze_nbeq k7
              obtain ⟨d2, hk, hq⟩ := zP_cl_ok h2 hG' V1
              have eD : DD = d := ze_bn (ze_VC i2) (by omega) b2
              subst eD
              have hle := zq_st_le hq
              rcases hD with hD | hD
              · omega
              · have hp := zq_h_put (f' := upd f CC z) hD pk_us (fun j hj => pk_un (by omega)) (zq_st_up (H := HH) hq)
                exact fin _ (by omega) (by omega) hk (mk d2 (by omega) (Or.inr hp))
          · omega
          · omega
        · obtain ⟨k1, h2⟩ := ze_condf h2
          have k1 : cl.1 = 1302 := ze_beq k1
          have en9 : zP_n cl.1 = 12 := by rw [k1]; rfl
          obtain ⟨k3, h2⟩ := ze_condf h2
          have k3 := ze_ble' k3
          rcases hP with ⟨q9, -⟩ | ⟨q9, -⟩ | ⟨-, hP⟩ | ⟨q9, -⟩
          · omega
          · omega
          · have hl : zs.length = 12 := hP.1
            have mk : ∀ (o : Nat), o ≤ 2 → 2147483648 ≤ ze_b z → ze_b z ≤ 2147483657 → (2 ≤ o → ze_b z ≤ 2147483652) → ze_C dA sp ρ (ws.map (·.1)) (1302, ze_s (eC o) cl.2 n) (.inl (dA 100, zP_n cl.1, .inl (upd f n z))) := fun o ho z1 z2 z3 => by
              rw [ze_s_eq]
              refine Or.inr (Or.inr (Or.inr (Or.inr (Or.inr ⟨(by show 1300 ≤ 1302; decide), (by show 1302 < 1400; decide), zs.set n (nI o), _, ⟨by rw [List.length_set, List.length_set]; exact hI.1, fun t v ht => ?_⟩, by rw [k1], Or.inr (Or.inr (Or.inl ⟨rfl, by rw [List.length_set]; exact hl, fun j w9 hj => ?_⟩))⟩))))
              · by_cases e9 : n = t
                · subst e9
                  rw [List.getElem?_set_self (by rw [hI.1, hl]; omega)] at ht
                  cases ht
                  exact ⟨nI o, List.getElem?_set_self (by rw [hl]; omega), rfl⟩
                · rw [List.getElem?_set_ne e9] at ht ⊢
                  exact hI.2 t v ht
              · by_cases e9 : n = j
                · subst e9
                  rw [List.getElem?_set_self (by rw [hl]; omega)] at hj
                  cases hj
                  rw [pk_us, ze_bC (by omega)]
                  exact ⟨z1, z2, fun q => z3 (by omega)⟩
                · rw [List.getElem?_set_ne e9] at hj
                  rw [pk_un (Ne.symm e9)]
                  exact hP.2 j w9 hj
            rcases ze_cond h2 with ⟨k7, h2⟩ | ⟨-, h2⟩
            · have hz := zo_wi_spec k7 hG' V1
              exact fin _ (by omega) (by omega) h2 (mk 2 (by omega) hz.1 (by omega) (fun _ => hz.2))
            · obtain ⟨k7, h2⟩ := ze_condf h2
              have hz := zo_wi_spec k7 hG' V1
              exact fin _ (by omega) (by omega) h2 (mk 0 (by omega) hz.1 hz.2 (fun q => by omega))
          · omega
    · cases h
    · cases h
    · cases h
  · cases h
  · cases h
theorem zs_iald (hx : p.tables.exec = Jvm.exec) (hb : c.code = cc) (hKs : ze_K dC dI dA s) (hsc : ze_X sp xs A s) (hai : (100, FieldType.int) ∈ ze_arr) (hdg : decode cc pc = .ok (.iaload, 1)) (hK : ze_KK p l e R s m args below meth c Q z0 dC dI dA sp xs A nL V kk) (hn : ze_at V nx (pc + 1)) (h : zo_iald nx ca cb cd tl jp kk k cal mc ms ls st w g nc ns = true) (hH : ze_H z0 dC dI dA sp xs A s nL ls st w g ρ ws H locs la vs) : W p l e R s m args below meth c H locs nc ns Q (F0 m pc la vs) := by
  replace h := zo_iald_of h
  unfold zo_iald0 at h
  split at h
  · rename_i n s9 rest
    obtain ⟨y1, r1, e1, V1, L1⟩ := hH.2.2.2.2.2.2.2.cons
    obtain ⟨y2, r2, e2, V2, L2⟩ := L1.cons
    subst e1; subst e2
    obtain ⟨h1, h2⟩ := ze_condf h
    obtain ⟨p5, hp5, h2⟩ := ze_n_spec _ _ _ h2
    obtain ⟨h15, h2⟩ := ze_condf h2
    obtain ⟨h3, h4⟩ := ze_condf h2
    obtain ⟨h5, h4⟩ := ze_condf h4
    have e1 := ze_beq h1
    subst e1
    have e2 : y2 = .ref (sp 0) := V2
    subst e2
    have h3 := ze_ble' h3
    have h5 := ze_ble' h5
    obtain ⟨z, hz, ez⟩ := id V1
    subst ez
    rw [hH.2.1.1.1 n (by omega)] at hz
    cases hz
    obtain ⟨j, rfl⟩ : ∃ j, n = 5 + j := ⟨n - 5, by omega⟩
    have hb5 := (hH.1.2 5 p5 (xs.1 5) hp5 (hH.2.1.1.1 5 (by omega))).1
    have h15 := ze_ble' h15
    obtain ⟨n5, hL1, ex5, hx5⟩ : ∃ n, n + 4 < sp 1 ∧ xs.1 5 = nI n ∧ ∀ k, k < 5 → xs.1 k = xs.1 (10 + (n + k)) := by
      rcases hsc.2.2.2.2.1.2 with h9 | h9
      · omega
      · exact h9
    have hL := hsc.2.2.2.1
    have kj : xs.1 (5 + j) = nI (n5 + j) := by rw [hsc.2.2.2.2.1.1 j (by omega), ex5, nI_add]
    rw [kj]
    refine va_sld hx hb hsc.1 hsc.2.1 hsc.2.2.1 hH.2.2.2.2.2.1 (ze_vin (by omega) (by omega)) hdg ?_
    rw [ze_cln (by omega)]
    rw [← hx5 j (by omega)]
    have e9 : Nat.sub (5 + j) 5 = j := by show 5 + j - 5 = j; omega
    rw [e9] at h4
    exact hK _ _ _ _ _ _ _ h4 _ hn _ _ _ _ _ _ (hH.stk ⟨⟨_, hH.2.1.1.1 j (by omega), rfl⟩, L2⟩)
  · rcases ze_cond h with ⟨h, -⟩ | ⟨-, h⟩
    · refine zs_pal hK hn h hH (fun q a n f i rest hw hin k9 => ?_)
      exact va_iald (D := (dC, dI)) hx hb (hKs.k1 hai) hH.2.2.2.1 q 0 hw rfl hin hdg k9
    · refine zs_aldS (by decide) (by decide) hK hn h hH (fun q a n f i rest hw hin k9 => ?_)
      exact va_iald (D := (dC, dI)) hx hb (hKs.k1 hai) hH.2.2.2.1 q 0 hw rfl hin hdg k9
/-- a store into an array known by its interval -/
theorem zs_pus {kd : Nat} (h1k : 100 ≤ kd) (h2k : kd < 150) {v i : EV} {q : Nat} {c1 : EC} {rest : List EV} {vr : List Value} {y1 y2 : Value} {x : Int32} (hK : ze_KK p l e R s m args below meth c Q z0 dC dI dA sp xs A nL V kk) (hn : ze_at V nx pc2) (h : zo_pus kd v i c1 nx kk ls rest w g nc ns = true) (hc : ze_gw w q = some c1) (hH : ze_H z0 dC dI dA sp xs A s nL ls rest w g ρ ws H locs la vr)
    (V0 : ze_V sp ρ (ws.map (·.1)) v (.int x)) (V1 : ze_V sp ρ (ws.map (·.1)) i y1) (V2 : ze_V sp ρ (ws.map (·.1)) (eR q) y2) : ∃ (a n : Nat) (f : Nat → Int32) (j : Int32), y1 = .int j ∧ y2 = .ref a ∧ vp_in j n ∧ ws[q]? = some (a, .inl (dA kd, n, .inl f)) ∧
      ∀ (H1 : Heap) (locs1 : List Loc), va_P (dC, dI) vwCl (ws.set q (a, .inl (dA kd, n, .inl (upd f j.toNatClampNeg x)))) H1 → va_D A (ws.set q (a, .inl (dA kd, n, .inl (upd f j.toNatClampNeg x)))) → va_S A s.heap H1 locs1 → W p l e R s m args below meth c H1 locs1 nc ns Q (F0 m pc2 la vr) := by
  obtain ⟨k1, h⟩ := ze_condf h
  obtain ⟨n, lo, hi, e2, h⟩ := zo_s3_spec h
  obtain ⟨k2, h⟩ := ze_condf h
  obtain ⟨k3, h⟩ := ze_condf h
  obtain ⟨j, ej, hin, hlt⟩ := zo_in_spec k2 hH.1 V1
  have hb := zo_wi_spec k3 hH.1 V0
  obtain ⟨a, eq, ex, hw, hC⟩ := hH.2.2.1.ref hc V2
  have k1 : c1.1 = 1000 + kd := ze_beq k1
  obtain ⟨n', lo', hi', f, e3, e4, hf⟩ := hC.sumI (by omega) (by omega)
  have e5 := e2.symm.trans e3
  injection e5 with a1 t1
  injection t1 with a2 t2
  injection t2 with a3 _
  cases a1; cases a2; cases a3
  have e6 : c1.1 - 1000 = kd := by omega
  rw [e6] at e4
  subst e4
  refine ⟨a, n, f, j, ej, ex, hin, hw, fun H1 locs1 g1 g2 g3 => ?_⟩
  refine hK _ _ _ _ _ _ _ h _ hn _ _ _ _ _ _ (hH.keep hc hw (Or.inr (Or.inr (Or.inr (Or.inr (Or.inl (Or.inl ⟨by omega, by omega, n, lo, hi, upd f j.toNatClampNeg x, e3, by rw [e6], fun t ht => ?_⟩)))))) g1 g2 g3 hH.2.2.2.2.2.2.2)
  by_cases hj : t = j.toNatClampNeg
  · rw [hj, pk_us]
    exact hb
  · rw [pk_un hj]
    exact hf t ht
theorem zs_isI {kd : Nat} {v i : EV} {c1 : EC} {rest : List EV} {ad : List Nat} {X : Value} (h : zo_pus kd v i c1 nx kk ls rest w g nc ns = true) (hv : ze_V sp ρ ad v X) : ∃ x, X = .int x := by
  obtain ⟨-, h⟩ := ze_condf h
  obtain ⟨n, lo, hi, -, h⟩ := zo_s3_spec h
  obtain ⟨-, h⟩ := ze_condf h
  obtain ⟨h, -⟩ := ze_condf h
  rcases v with u | ((q | u) | y)
  · exact ze_intV hv
  · cases h
  · cases h
  · cases h
theorem zs_iast (hx : p.tables.exec = Jvm.exec) (hb : c.code = cc) (hKs : ze_K dC dI dA s) (hai : (100, FieldType.int) ∈ ze_arr) (hdg : decode cc pc = .ok (.iastore, 1)) (hK : ze_KK p l e R s m args below meth c Q z0 dC dI dA sp xs A nL V kk) (hn : ze_at V nx (pc + 1)) (h : zo_iast nx ca cb cd tl jp kk k cal mc ms ls st w g nc ns = true) (hH : ze_H z0 dC dI dA sp xs A s nL ls st w g ρ ws H locs la vs) : W p l e R s m args below meth c H locs nc ns Q (F0 m pc la vs) := by
  rcases ze_cond h with ⟨h, -⟩ | ⟨-, h⟩
  · exact zs_pas hx hb hKs hai hdg hK hn h hH
  rcases st with _ | ⟨v, _ | ⟨i, _ | ⟨r, rest⟩⟩⟩
  · cases h
  · cases h
  · cases h
  rcases r with a | ((q | a) | a)
  · cases h
  · obtain ⟨cl, g1, h2⟩ := ze_g_spec (show ze_g w q (fun c => zcd (Nat.ble 1000 c.1) (zo_pus 100 v i c nx kk ls rest w g nc ns) (zo_iast0 nx ca cb cd tl jp kk k cal mc ms ls (v :: i :: .inr (.inl (.inl q)) :: rest) w g nc ns)) = true from h)
    rcases ze_cond h2 with ⟨-, h3⟩ | ⟨-, h3⟩
    · obtain ⟨y1, r1, e1, V1, L1⟩ := hH.2.2.2.2.2.2.2.cons
      obtain ⟨y2, r2, e2, V2, L2⟩ := L1.cons
      obtain ⟨y3, r3, e3, V3, L3⟩ := L2.cons
      subst e1; subst e2; subst e3
      obtain ⟨x, ex⟩ := zs_isI h3 V1
      subst ex
      obtain ⟨a, n, f, j, ej, ea, hin, hw, k9⟩ := zs_pus (by decide) (by decide) hK hn h3 g1 (hH.stk L3) V1 V2 V3
      subst ej; subst ea
      exact va_iast (D := (dC, dI)) hx hb (hKs.k1 hai) hH.2.2.2.1 hH.2.2.2.2.1 hH.2.2.2.2.2.1 _ 0 hw rfl hin hdg k9
    · exact zs_iast0 hx hb hKs hai hdg hK hn h3 hH
  · cases h
  · cases h
theorem zs_cast (hx : p.tables.exec = Jvm.exec) (hb : c.code = cc) (hKs : ze_K dC dI dA s) (hai : (101, FieldType.char) ∈ ze_arr) (hdg : decode cc pc = .ok (.castore, 1)) (hK : ze_KK p l e R s m args below meth c Q z0 dC dI dA sp xs A nL V kk) (hn : ze_at V nx (pc + 1)) (h : zo_cast nx ca cb cd tl jp kk k cal mc ms ls st w g nc ns = true) (hH : ze_H z0 dC dI dA sp xs A s nL ls st w g ρ ws H locs la vs) : W p l e R s m args below meth c H locs nc ns Q (F0 m pc la vs) := by
  rcases st with _ | ⟨v, _ | ⟨i, _ | ⟨r, rest⟩⟩⟩
  · cases h
  · cases h
  · cases h
  rcases r with a | ((q | a) | a)
  · cases h
  · obtain ⟨cl, g1, h2⟩ := ze_g_spec (show ze_g w q (fun c => zcd (Nat.ble 1000 c.1) (zcd (zo_wi g v 2147483648 2147549183) (zo_pus 101 v i c nx kk ls rest w g nc ns) false) (zo_cast0 nx ca cb cd tl jp kk k cal mc ms ls (v :: i :: .inr (.inl (.inl q)) :: rest) w g nc ns)) = true from h)
    rcases ze_cond h2 with ⟨-, h3⟩ | ⟨-, h3⟩
    · obtain ⟨hwi, h3⟩ := ze_condf h3
      obtain ⟨y1, r1, e1, V1, L1⟩ := hH.2.2.2.2.2.2.2.cons
      obtain ⟨y2, r2, e2, V2, L2⟩ := L1.cons
      obtain ⟨y3, r3, e3, V3, L3⟩ := L2.cons
      subst e1; subst e2; subst e3
      obtain ⟨x, ex⟩ := zs_isI h3 V1
      subst ex
      have hb2 := zo_wi_spec hwi hH.1 V1
      obtain ⟨a, n, f, j, ej, ea, hin, hw, k9⟩ := zs_pus (by decide) (by decide) hK hn h3 g1 (hH.stk L3) V1 V2 V3
      subst ej; subst ea
      have hnr : vp_nar .char x = x := by
        obtain ⟨e1, e2⟩ := zi_nn hb2.1
        rw [e1]
        exact ze_narC (by omega)
      refine va_cast (D := (dC, dI)) hx hb (hKs.k1 hai) hH.2.2.2.1 hH.2.2.2.2.1 hH.2.2.2.2.2.1 _ 0 hw rfl hin hdg ?_
      rw [hnr]
      exact k9
    · exact zs_cast0 hx hb hKs hai hdg hK hn h3 hH
  · cases h
  · cases h
theorem zs_bast (hx : p.tables.exec = Jvm.exec) (hb : c.code = cc) (hKs : ze_K dC dI dA s) (hai : (104, FieldType.boolean) ∈ ze_arr) (hdg : decode cc pc = .ok (.bastore, 1)) (hK : ze_KK p l e R s m args below meth c Q z0 dC dI dA sp xs A nL V kk) (hn : ze_at V nx (pc + 1)) (h : zo_bast nx ca cb cd tl jp kk k cal mc ms ls st w g nc ns = true) (hH : ze_H z0 dC dI dA sp xs A s nL ls st w g ρ ws H locs la vs) : W p l e R s m args below meth c H locs nc ns Q (F0 m pc la vs) := by
  rcases st with _ | ⟨v, _ | ⟨i, _ | ⟨r, rest⟩⟩⟩
  · cases h
  · cases h
  · cases h
  rcases r with a | ((q | a) | a)
  · cases h
  · obtain ⟨cl, g1, h2⟩ := ze_g_spec (show ze_g w q (fun c => zcd (Nat.ble 1000 c.1) (zcd (zo_wi g v 2147483648 2147483649) (zo_pus 104 v i c nx kk ls rest w g nc ns) false) (zo_bast0 nx ca cb cd tl jp kk k cal mc ms ls (v :: i :: .inr (.inl (.inl q)) :: rest) w g nc ns)) = true from h)
    rcases ze_cond h2 with ⟨-, h3⟩ | ⟨-, h3⟩
    · obtain ⟨hwi, h3⟩ := ze_condf h3
      obtain ⟨y1, r1, e1, V1, L1⟩ := hH.2.2.2.2.2.2.2.cons
      obtain ⟨y2, r2, e2, V2, L2⟩ := L1.cons
      obtain ⟨y3, r3, e3, V3, L3⟩ := L2.cons
      subst e1; subst e2; subst e3
      obtain ⟨x, ex⟩ := zs_isI h3 V1
      subst ex
      have hb2 := zo_wi_spec hwi hH.1 V1
      obtain ⟨a, n, f, j, ej, ea, hin, hw, k9⟩ := zs_pus (by decide) (by decide) hK hn h3 g1 (hH.stk L3) V1 V2 V3
      subst ej; subst ea
      have hnr : vp_nar .boolean x = x := by
        obtain ⟨e1, e2⟩ := zi_nn hb2.1
        rw [e1]
        exact ze_narZ (by omega)
      refine va_zast (D := (dC, dI)) hx hb (hKs.k1 hai) hH.2.2.2.1 hH.2.2.2.2.1 hH.2.2.2.2.2.1 _ 0 hw rfl hin hdg ?_
      rw [hnr]
      exact k9
    · exact zs_bast0 hx hb hKs hai hdg hK hn h3 hH
  · cases h
  · cases h
theorem zs_last (hx : p.tables.exec = Jvm.exec) (hb : c.code = cc) (hKs : ze_K dC dI dA s) (hai : (150, FieldType.long) ∈ ze_arr) (hdg : decode cc pc = .ok (.lastore, 1)) (hK : ze_KK p l e R s m args below meth c Q z0 dC dI dA sp xs A nL V kk) (hn : ze_at V nx (pc + 1)) (h : zo_last nx ca cb cd tl jp kk k cal mc ms ls st w g nc ns = true) (hH : ze_H z0 dC dI dA sp xs A s nL ls st w g ρ ws H locs la vs) : W p l e R s m args below meth c H locs nc ns Q (F0 m pc la vs) := by
  rcases st with _ | ⟨v, _ | ⟨i, _ | ⟨r, rest⟩⟩⟩
  · cases h
  · cases h
  · cases h
  rcases r with a | ((q | a) | a)
  · cases h
  · obtain ⟨cl, g1, h2⟩ := ze_g_spec (show ze_g w q (fun c => zcd (Nat.ble 1000 c.1) (zv_l v (fun u => ze_li ze_lr ze_l32 u (fun v2 => zo_pus 150 v2 i c nx kk ls rest w g nc ns) false)) (zo_last0 nx ca cb cd tl jp kk k cal mc ms ls (v :: i :: .inr (.inl (.inl q)) :: rest) w g nc ns)) = true from h)
    rcases ze_cond h2 with ⟨-, h3⟩ | ⟨-, h3⟩
    · obtain ⟨y1, r1, e1, V1, L1⟩ := hH.2.2.2.2.2.2.2.cons
      obtain ⟨y2, r2, e2, V2, L2⟩ := L1.cons
      obtain ⟨y3, r3, e3, V3, L3⟩ := L2.cons
      subst e1; subst e2; subst e3
      rcases v with u | ((u | u) | u)
      · cases h3
      · cases h3
      · obtain ⟨X, eX⟩ := ze_longV V1
        subst eX
        rcases zi_li zi_lr (show ze_li ze_lr ze_l32 u (fun v2 => zo_pus 150 v2 i cl nx kk ls rest w g nc ns) false = true from h3) V1 with ⟨x9, vx, ex, hvx, hf⟩ | hd
        · have ex : X = x9.toInt64 := Value.long.inj ex
          obtain ⟨k1, hf⟩ := ze_condf hf
          obtain ⟨n, lo, hi, e2, hf⟩ := zo_s3_spec hf
          obtain ⟨k2, hf⟩ := ze_condf hf
          obtain ⟨k3, hf⟩ := ze_condf hf
          obtain ⟨j, ej, hin, hlt⟩ := zo_in_spec k2 hH.1 V2
          have hb2 := zo_wi_spec k3 hH.1 hvx
          obtain ⟨a, eq, ea, hw, hC⟩ := hH.2.2.1.ref g1 V3
          have k1 : cl.1 = 1150 := ze_beq k1
          obtain ⟨n', lo', hi', f, e3, e4, hff⟩ := hC.sumL (by omega) (by omega)
          have e5 := e2.symm.trans e3
          injection e5 with a1 t1
          injection t1 with a2 t2
          injection t2 with a3 _
          cases a1; cases a2; cases a3
          have e6 : cl.1 - 1000 = 150 := by omega
          rw [e6] at e4
          subst e4; subst ej; subst ea
          refine va_last (D := (dC, dI)) hx hb (hKs.k1 hai) hH.2.2.2.1 hH.2.2.2.2.1 hH.2.2.2.2.2.1 _ 0 hw rfl hin hdg (fun H1 locs1 g1' g2 g3 => ?_)
          refine hK _ _ _ _ _ _ _ hf _ hn _ _ _ _ _ _ ((hH.stk L3).keep g1 hw (Or.inr (Or.inr (Or.inr (Or.inr (Or.inl (Or.inr ⟨by omega, by omega, n, lo, hi, vp_updL f j.toNatClampNeg X, e3, by rw [e6], fun t ht => ?_⟩)))))) g1' g2 g3 L3)
          by_cases hj : t = j.toNatClampNeg
          · rw [hj, pk_uLs]
            exact ⟨x9, ex, hb2⟩
          · rw [pk_uLn hj]
            exact hff t ht
        · cases hd
      · cases h3
    · exact zs_last0 hx hb hKs hai hdg hK hn h3 hH
  · cases h
  · cases h
theorem zs_mabs (hx : p.tables.exec = Jvm.exec) (hb : c.code = cc) (hml : c.maxLocals = nL) (hown : s.vm.findClass own = some m.cls) (hts : ∀ w ∈ zb_T, w.before args s = true) (hRR : R.cells = mc ∧ R.slots = ms) (hR : 1 ≤ R.frames ∧ 40 ≤ R.locals) (hw1 : Cond.methodLink own idx Lib.Math.abs.name ∈ zb_T) (hw2 : Cond.static Lib.Math.abs.name ∈ zb_T) (hw3 : Cond.initialized "java/lang/Math" ∈ zb_T) (hw4 : Cond.code Lib.Math.abs.name Lib.Math.abs.code 1 (some .int) ∈ zb_T)
    (hdg : decode cc pc = .ok (.invokestatic idx, 3)) (hK : ze_KK p l e R s m args below meth c Q z0 dC dI dA sp xs A nL V kk) (hn : ze_at V nx (pc + 3)) (h : zo_abs nx ca cb cd tl jp kk k cal mc ms ls st w g nc ns = true) (hH : ze_H z0 dC dI dA sp xs A s nL ls st w g ρ ws H locs la vs) : W p l e R s m args below meth c H locs nc ns Q (F0 m pc la vs) := by
  match st, h, hH with
  | [], h, _ => exact absurd h (by intro q; cases q)
  | v1 :: rest, h, hH =>
    obtain ⟨c1, h⟩ := ze_condf (show zcd (Nat.ble (ze_cs rest) 8) (zcd (Nat.ble nc mc) (zcd (Nat.ble ns ms) (ze_lt g v1 (eC 0) (fun g => zo_fr (zo_bsb g (eC 0) v1).1 (zo_bsb g (eC 0) v1).2 nx kk ls rest w g nc ns) (fun g => kk nx ls (v1 :: rest) w g nc ns)) false) false) false = true from h)
    obtain ⟨c2, h⟩ := ze_condf h
    obtain ⟨c3, h⟩ := ze_condf h
    obtain ⟨y1, r1, e1, V1, L1⟩ := hH.2.2.2.2.2.2.2.cons
    subst e1
    have V0 : ze_V sp ρ (ws.map (·.1)) (eC 0) (.int (nI 0)) := rfl
    obtain ⟨x, y, ex, ey, q1, q2⟩ := ze_lt_spec h hH.1 V1 V0
    subst ex
    have ey : nI 0 = y := Value.int.inj ey
    subst ey
    obtain ⟨lv, hl, -⟩ := hH.2.2.2.2.2.2.1
    have hc8 : (r1.map fun v => v.category).sum ≤ 8 := by rw [ze_cs_sum L1]; exact ze_ble' c1
    refine va_mabs hx hb (hml.trans hl.1.symm) hown (hts _ hw1) (hts _ hw2) (hts _ hw3) (hts _ hw4) hR.1 (by omega) (by rw [hRR.1]; exact ze_ble' c2) (by rw [hRR.2]; exact ze_ble' c3) hdg ?_
    rw [nI_0] at q1 q2
    by_cases hc : x < 0
    · rw [if_neg (Int32.not_le.mpr hc)]
      obtain ⟨g', hG, q⟩ := q1 hc
      have hb9 := zi_sb hG (eC 0) v1 (nI 0) x V0 V1
      rw [nI_0] at hb9
      exact zs_fr hK q ((hH.stk L1).gs hG) hb9.1 hb9.2 hn
    · rw [if_pos (Int32.not_lt.mp hc)]
      obtain ⟨g', hG, q⟩ := q2 hc
      exact hK _ _ _ _ _ _ _ q _ hn _ _ _ _ _ _ ((hH.stk (st' := v1 :: rest) (vs' := .int x :: r1) ⟨V1, L1⟩).gs hG)
theorem zs_cps (hx : p.tables.exec = Jvm.exec) (hb : c.code = cc) (hml : c.maxLocals = nL) (hown : s.vm.findClass own = some m.cls) (hKs : ze_K dC dI dA s) (hts : ∀ w ∈ zb_T, w.before args s = true) (hai : (100, FieldType.int) ∈ ze_arr) (hR : 1 ≤ R.frames ∧ 40 ≤ R.locals) (hw1 : Cond.methodLink own idx arraycopyName ∈ zb_T) (hw2 : Cond.native arraycopyName ∈ zb_T) (hw3 : Cond.static arraycopyName ∈ zb_T) (hw4 : Cond.initialized "java/lang/System" ∈ zb_T)
    (hdg : decode cc pc = .ok (.invokestatic idx, 3)) (hK : ze_KK p l e R s m args below meth c Q z0 dC dI dA sp xs A nL V kk) (hn : ze_at V nx (pc + 3)) (h : zo_cps nx ca cb cd tl jp kk k cal mc ms ls st w g nc ns = true) (hH : ze_H z0 dC dI dA sp xs A s nL ls st w g ρ ws H locs la vs) : W p l e R s m args below meth c H locs nc ns Q (F0 m pc la vs) := by
  unfold zo_cps at h
  split at h
  · rename_i n dp d p0 s0 rest
    obtain ⟨v1, r1, e1, V1, L1⟩ := hH.2.2.2.2.2.2.2.cons
    obtain ⟨v2, r2, e2, V2, L2⟩ := L1.cons
    obtain ⟨v3, r3, e3, V3, L3⟩ := L2.cons
    obtain ⟨v4, r4, e4, V4, L4⟩ := L3.cons
    obtain ⟨v5, r5, e5, V5, L5⟩ := L4.cons
    subst e1; subst e2; subst e3; subst e4; subst e5
    obtain ⟨h1, h⟩ := ze_condf h
    obtain ⟨h0, h1⟩ := ze_condf h1
    obtain ⟨h2, h⟩ := ze_condf h
    obtain ⟨h3, h⟩ := ze_condf h
    have h0 := ze_ble' h0
    have h1 := ze_ble' h1
    have h2 := ze_ble' h2
    have h3 := ze_ble' h3
    obtain ⟨h4, h⟩ := ze_condf h
    obtain ⟨cs, g1, h⟩ := ze_g_spec h
    obtain ⟨k1, h⟩ := ze_condf h
    obtain ⟨c2, g2, h⟩ := ze_g_spec h
    obtain ⟨k2, h⟩ := ze_condf h
    obtain ⟨sn, slo, shi, m1, h⟩ := zo_s3_spec h
    obtain ⟨dn, dlo, dhi, m2, h⟩ := zo_s3_spec h
    obtain ⟨q1, h⟩ := ze_condf h
    obtain ⟨q2, h⟩ := ze_condf h
    obtain ⟨q1, q3⟩ := ze_condf q1
    obtain ⟨q2, q4⟩ := ze_condf q2
    have q1 : p0 + n ≤ sn := ze_ble' q1
    have q3 : dp + n ≤ dn := ze_ble' q3
    have q2 := ze_ble' q2
    have q4 := ze_ble' q4
    have k1 := ze_beq k1
    have k2 := ze_beq k2
    obtain ⟨a5, e05, ex5, hw5, hC5⟩ := hH.2.2.1.ref g1 V5
    obtain ⟨a3, e03, ex3, hw3', hC3⟩ := hH.2.2.1.ref g2 V3
    obtain ⟨n5, lo5, hi5, f5, m5, ef5, hf5⟩ := hC5.sumI (by omega) (by omega)
    obtain ⟨n3, lo3, hi3, f3, m3, ef3, hf3⟩ := hC3.sumI (by omega) (by omega)
    have e5 := m1.symm.trans m5
    injection e5 with a1 t1
    injection t1 with a2 t2
    injection t2 with a3 _
    cases a1; cases a2; cases a3
    have e5 := m2.symm.trans m3
    injection e5 with a1 t1
    injection t1 with a2 t2
    injection t2 with a3 _
    cases a1; cases a2; cases a3
    rw [show cs.1 - 1000 = 100 by omega] at ef5
    have e6 : c2.1 - 1000 = 100 := by omega
    rw [e6] at ef3
    subst ef5; subst ef3; subst ex5; subst ex3
    have z1 : v1 = .int (nI n) := V1
    have z2 : v2 = .int (nI dp) := V2
    have z4 : v4 = .int (nI p0) := V4
    subst z1; subst z2; subst z4
    obtain ⟨lv, hl, hLL⟩ := hH.2.2.2.2.2.2.1
    refine va_copyi (D := (dC, dI)) hx hb (by rw [hml]; exact hl.1.symm) hown (hts _ hw1) (hts _ hw2) (hts _ hw3) (hts _ hw4) (hKs.k1 hai) hH.2.2.2.1 hH.2.2.2.2.1 hH.2.2.2.2.2.1 _ _ 0 0 hw5 hw3' rfl rfl rfl (nI_pos (by omega)) (nI_pos (by omega)) (nI_pos (by omega)) (by rw [ze_cln (by omega), ze_cln (by omega)]; exact q1) (by rw [ze_cln (by omega), ze_cln (by omega)]; exact q3) (fun _ _ => rfl) hR.1 ?_ hdg (fun H1 locs1 g1' g2' g3' => ?_)
    · rw [ze_cs_sum L5]
      have := ze_ble' h4
      show ze_cs rest + (7 + 11) ≤ R.locals
      omega
    · rw [ze_cln (by omega), ze_cln (by omega), ze_cln (by omega)] at g1' g2'
      refine hK _ _ _ _ _ _ _ h _ hn _ _ _ _ _ _ ((hH.stk L5).keep g2 hw3' (Or.inr (Or.inr (Or.inr (Or.inr (Or.inl (Or.inl ⟨by omega, by omega, dn, dlo, dhi, va_cpy f5 f3 p0 dp n, m2, by rw [e6], fun t ht => ?_⟩)))))) g1' g2' g3' L5)
      by_cases hr : dp ≤ t ∧ t < dp + n
      · rw [pk_cpy_in hr.1 hr.2]
        have h9 := hf5 (p0 + (t - dp)) (by omega)
        omega
      · rw [pk_cpy_out (by omega)]
        exact hf3 t ht
  · cases h
theorem zs_copy (hx : p.tables.exec = Jvm.exec) (hb : c.code = cc) (hml : c.maxLocals = nL) (hown : s.vm.findClass own = some m.cls) (hKs : ze_K dC dI dA s) (hts : ∀ w ∈ zb_T, w.before args s = true) (hai : (100, FieldType.int) ∈ ze_arr) (hR : 1 ≤ R.frames ∧ 40 ≤ R.locals) (hw1 : Cond.methodLink own idx arraycopyName ∈ zb_T) (hw2 : Cond.native arraycopyName ∈ zb_T) (hw3 : Cond.static arraycopyName ∈ zb_T) (hw4 : Cond.initialized "java/lang/System" ∈ zb_T)
    (hdg : decode cc pc = .ok (.invokestatic idx, 3)) (hK : ze_KK p l e R s m args below meth c Q z0 dC dI dA sp xs A nL V kk) (hn : ze_at V nx (pc + 3)) (h : zo_stat nx ca cb cd [] jp kk k cal mc ms ls st w g nc ns = true) (hH : ze_H z0 dC dI dA sp xs A s nL ls st w g ρ ws H locs la vs) : W p l e R s m args below meth c H locs nc ns Q (F0 m pc la vs) := by
  rcases ze_cond (show zcd (zo_cps nx ca cb cd [] jp kk k cal mc ms ls st w g nc ns) true (zo_copy0 nx ca cb cd [] jp kk k cal mc ms ls st w g nc ns) = true from h) with ⟨h, -⟩ | ⟨-, h⟩
  · exact zs_cps hx hb hml hown hKs hts hai hR hw1 hw2 hw3 hw4 hdg hK hn h hH
  · exact zs_copy0 hx hb hml hown hKs hts hai hR hw1 hw2 hw3 hw4 hdg hK hn h hH
end ZSU
