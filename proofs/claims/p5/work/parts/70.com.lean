/-! common of the reference: by Euclid's steps -/
def zk_r : Nat → Nat → Nat → Prop
  | 0, _, b => b = 0
  | n + 1, a, b => b = 0 ∨ zk_r n b (a % b)
theorem zk_r_mono : ∀ (n a b : Nat), zk_r n a b → zk_r (n + 1) a b := by
  intro n
  induction n with
  | zero => intro a b h; exact Or.inl h
  | succ n ih =>
    intro a b h
    rcases h with h | h
    · exact Or.inl h
    · exact Or.inr (ih _ _ h)
theorem zk_r_le {n a b : Nat} (q : zk_r n a b) : ∀ j, zk_r (n + j) a b := by
  intro j
  induction j with
  | zero => exact q
  | succ j ih => exact zk_r_mono _ _ _ ih
theorem zk_half {b r : Nat} (h1 : r < b) (h0 : ¬ r = 0) : 2 * (b % r) < b := by
  have h2 : b % r < r := Nat.mod_lt _ (by omega)
  have h3 := Nat.div_add_mod b r
  have h4 : 1 ≤ b / r := Nat.div_pos (by omega) (by omega)
  have h5 : r * 1 ≤ r * (b / r) := Nat.mul_le_mul_left r h4
  omega
theorem zk_r_log : ∀ (k a b : Nat), b < 2 ^ k → zk_r (2 * k) a b := by
  intro k
  induction k with
  | zero =>
    intro a b h
    have h : b < 1 := h
    show b = 0
    omega
  | succ k ih =>
    intro a b h
    show zk_r (2 * k + 1 + 1) a b
    by_cases hb : b = 0
    · exact Or.inl hb
    · refine Or.inr ?_
      by_cases hr : a % b = 0
      · exact Or.inl hr
      · refine Or.inr (ih _ _ ?_)
        have h1 := zk_half (b := b) (r := a % b) (Nat.mod_lt _ (by omega)) hr
        rw [Nat.pow_succ] at h
        omega
theorem zk_gcd (a b : Nat) : Nat.gcd b (a % b) = Nat.gcd a b := by
  rw [Nat.gcd_comm a b, Nat.gcd_rec b a, Nat.gcd_comm]
theorem zk_cmp {x : Int64} (h : ¬ x = 0) : ¬ lg_cmp x 0 = 0 := by
  unfold lg_cmp
  by_cases h1 : (0 : Int64) < x
  · rw [if_pos h1]; decide +kernel
  · rw [if_neg h1, if_neg h]; decide +kernel
theorem zk_step {l : Launch} {n a b : Nat} (ha : a < 2147483648) (hb : b < 2147483648) (hc : ¬ b = 0 → ∃ d, n = d + 1 ∧ Met l yX12_common (.code yX12_common cX12_common 4 (some .long) :: zb_T) (ze_rm d 0 0) (va_Pc [.long (lN b), .long (lN (a % b))] (fun _ => True)) (va_Ql (fun r (_ : Unit) => r = lN (Nat.gcd b (a % b))) (fun _ _ => True) zw_no) 0 0 zw_no) : Met l yX12_common (.code yX12_common cX12_common 4 (some .long) :: zb_T) (ze_rm n 0 0) (va_Pc [.long (lN a), .long (lN b)] (fun _ => True)) (va_Ql (fun r (_ : Unit) => r = lN (Nat.gcd a b)) (fun _ _ => True) zw_no) 0 0 zw_no := by
  refine Met.ofW (cc := cX12_common) (maxL := 4) (ret := (some .long)) (by decide +kernel) rfl ?_
  intro p e s m args below meth c s₁ B hml hP
  obtain ⟨rfl, -⟩ := hP
  have hts := atoms_spec (ws := Cond.code yX12_common cX12_common 4 (some .long) :: zb_T) B.pre
  have hw : ∀ w ∈ zb_T, w.before ([.long (lN a), .long (lN b)] : List Value).toArray s = true := fun w h => hts w (List.mem_cons_of_mem _ h)
  have hown : s.vm.findClass RX12 = some m.cls := findClass_of_methodNamed B.named
  rw [lg_entry_eq]
  have hl2 := lv_entry ([.long (lN a), .long (lN b)] : List Value) (n := 4) (by show 4 ≤ 4; decide)
  generalize ((lg_sl ([.long (lN a), .long (lN b)] : List Value) ++ List.replicate (4 - (lg_sl ([.long (lN a), .long (lN b)] : List Value)).length) Slot.unset).toArray) = la at hl2
  have hl3 : lv_has la 4 [(0, .long (lN a)), (2, .long (lN b))] := hl2
  have hS0 : va_S zw_no s.heap s.heap [] := va_S.rf
  refine lv_lload_n B.exec B.bytes (k := 2) (i := 2) (x := lN b) (by decide +kernel) rfl (lv_at hl3 1 rfl) ?_
  refine lv_lconst B.exec B.bytes (n := 0) (v := 0) (by decide +kernel) (by decide +kernel) ?_
  refine W.lcmp B.exec B.bytes (by decide +kernel) ?_
  by_cases h0 : b = 0
  · have e9 : lg_cmp (lN b) 0 = 0 := by rw [h0]; decide +kernel
    rw [e9]
    refine lv_if_ne B.exec B.bytes (off := 7) (tgt := 10) (by decide +kernel) rfl (fun h => absurd rfl h) (fun _ => ?_)
    refine lv_lload_n B.exec B.bytes (k := 0) (i := 0) (x := lN a) (by decide +kernel) rfl (lv_at hl3 0 rfl) ?_
    refine lv_goto B.exec B.bytes (off := 10) (tgt := 17) (by decide +kernel) rfl ?_
    exact W.lret B.exec B.bytes B.returns (fun t9 ht9 hw9 => ⟨⟨lN a, (), rfl, by rw [h0, Nat.gcd_zero_right], trivial⟩, (hS0).F ht9⟩) (hS0).2.2 (by decide +kernel) B.notSynchronized
  · have hn0 : ¬ lN b = 0 := by
      refine zi_ldiv0 ?_
      cases hq : Nat.beq (Nat.mod b 18446744073709551616) 0 with
      | false => rfl
      | true =>
        have h9 := ze_beq hq
        have h9 : b % 18446744073709551616 = 0 := h9
        rw [Nat.mod_eq_of_lt (by omega)] at h9
        exact absurd h9 h0
    obtain ⟨d, e1, M⟩ := hc h0
    subst e1
    refine lv_if_ne B.exec B.bytes (off := 7) (tgt := 10) (by decide +kernel) rfl (fun _ => ?_) (fun h => absurd h (zk_cmp hn0))
    refine lv_lload_n B.exec B.bytes (k := 2) (i := 2) (x := lN b) (by decide +kernel) rfl (lv_at hl3 1 rfl) ?_
    refine lv_lload_n B.exec B.bytes (k := 0) (i := 0) (x := lN a) (by decide +kernel) rfl (lv_at hl3 0 rfl) ?_
    refine lv_lload_n B.exec B.bytes (k := 2) (i := 2) (x := lN b) (by decide +kernel) rfl (lv_at hl3 1 rfl) ?_
    refine lv_lrem B.exec B.bytes (by decide +kernel) hn0 ?_
    rw [pk_lRem (by omega) (by omega) (by omega)]
    have hrm := ze_room (R := (headSpec (Cond.code yX12_common cX12_common 4 (some .long) :: zb_T) (ze_rm (d + 1) 0 0)).room) (cy := 0) (sy := 0) (yL := 4) (d := d) ⟨Nat.le_refl _, Nat.le_refl _⟩ (by decide)
    have hPs : PreS s s.heap (va_Pc [.long (lN b), .long (lN (a % b))] (fun _ => True)) [.long (lN b), .long (lN (a % b))] := ⟨fun a U g mk q => ⟨q.1, trivial⟩, fun U hU hWm => ⟨rfl, trivial⟩⟩
    have hrun := va_runS (e := e) (below := below) (H := s.heap) (locs := []) (cells := 0) (slots := 0) (meth := meth) (As := [.long (lN b), .long (lN (a % b))]) (rest := []) (g := F0 m 14 la [.long (lN (a % b)), .long (lN b)]) ⟨B.exec, B.bytes, hml, hown, hw⟩ M ⟨callB_of 2 hw (zg_in (zg_code zx_8_143)) rfl rfl rfl (hw _ zx_1_14) (hw _ zx_8_141) ⟨by decide, by decide, by decide +kernel⟩ hrm, hw _ zx_8_142⟩ hPs rfl rfl hl3.1 rfl (by show 2 * 0 + 0 ≤ 8; decide) (show decode cX12_common 14 = .ok (.invokestatic 7, 3) by decide +kernel) ⟨Nat.le_refl _, Nat.le_refl _⟩
    refine va_calll hrun hS0 (fun q _ hq => hq) (fun q hq => hq) ?_
    intro r1 u1 t1 H1 locs1 ht1 hal1 hr1 _ hsz1 hkeep1 hS1
    subst hr1
    exact W.lret B.exec B.bytes B.returns (fun t9 ht9 hw9 => ⟨⟨lN (Nat.gcd b (a % b)), (), rfl, by rw [zk_gcd], trivial⟩, (hS1).F ht9⟩) (hS1).2.2 (by decide +kernel) B.notSynchronized
theorem zk_com {l : Launch} : ∀ (n a b : Nat), zk_r n a b → a < 2147483648 → b < 2147483648 → Met l yX12_common (.code yX12_common cX12_common 4 (some .long) :: zb_T) (ze_rm n 0 0) (va_Pc [.long (lN a), .long (lN b)] (fun _ => True)) (va_Ql (fun r (_ : Unit) => r = lN (Nat.gcd a b)) (fun _ _ => True) zw_no) 0 0 zw_no := by
  intro n
  induction n with
  | zero => intro a b h ha hb; exact zk_step ha hb (fun q => absurd h q)
  | succ n ih =>
    intro a b h ha hb
    refine zk_step ha hb (fun q => ⟨n, rfl, ?_⟩)
    have hlt : a % b < b := Nat.mod_lt _ (by omega)
    exact ih _ _ (h.resolve_left q) hb (by omega)
/-- its contract: of numbers that are none below 0 -/
noncomputable def zc_com : ECal := fun y av w g k => match av with
  | [.inr (.inl (.inr x)), .inr (.inl (.inr z))] => zcd (Nat.beq y 198) (ze_li ze_lr ze_l32 x (fun x2 => ze_li ze_lr ze_l32 z (fun z2 => zcd (Nat.ble 2147483648 (zo_iv g x2).1) (zcd (Nat.ble 2147483648 (zo_iv g z2).1) (ze_f g.length (fun i => k (some (eLU i)) w (g ++ [(zcd (Nat.ble 2147483649 (zo_iv g x2).1) 2147483649 (zcd (Nat.ble 2147483649 (zo_iv g z2).1) 2147483649 2147483648), zcd (Nat.ble (zo_iv g x2).2 (zo_iv g z2).2) (zo_iv g z2).2 (zo_iv g x2).2)]))) false) false) false) false) false
  | _ => false
theorem zk_gle {a b : Nat} : Nat.gcd a b ≤ a ∨ Nat.gcd a b ≤ b := by
  rcases Nat.eq_zero_or_pos a with h | h
  · right
    rw [h, Nat.gcd_zero_left]
    exact Nat.le_refl b
  · left
    exact Nat.le_of_dvd h (Nat.gcd_dvd_left a b)
theorem zc_com_y : ∀ y av w g k, zc_com y av w g k = true → y = 198 := by
  intro y av w g k h
  unfold zc_com at h
  split at h
  · exact ze_beq (ze_condf h).1
  · cases h
theorem zc_com_ok : ZE zc_com 62 := by
  refine ⟨zs_lt1 (y0 := 198) (q := (yX12_common, cX12_common, 4, some .long, 12, 0, 0)) rfl zc_com_y, fun l dC dI dA sp xs A D hD => ?_⟩
  refine zS_one (y0 := 198) (q0 := (yX12_common, cX12_common, 4, some .long, 12, 0, 0)) rfl zc_com_y ?_
  intro av w g k' h ρ ws avs hG hX hW hL
  unfold zc_com at h
  split at h
  · rename_i x z
    obtain ⟨-, h⟩ := ze_condf h
    obtain ⟨X, r1, e1, V1, L1⟩ := hL.cons
    obtain ⟨Y, r2, e2, V2, L2⟩ := L1.cons
    have e3 := L2.nil
    subst e3; subst e2; subst e1
    rcases zi_li zi_lr h V1 with ⟨x9, vx, ex, hvx, hf⟩ | hd
    · rcases zi_li zi_lr hf V2 with ⟨y9, vy, ey, hvy, hf2⟩ | hd
      · subst ex; subst ey
        obtain ⟨c1, hf2⟩ := ze_condf hf2
        obtain ⟨c2, hf2⟩ := ze_condf hf2
        rw [ze_f_eq] at hf2
        have c1 := ze_ble' c1
        have c2 := ze_ble' c2
        have a1 := zi_iv hG hvx
        have a2 := zi_iv hG hvy
        obtain ⟨a, f1, f2, f3⟩ := zi_na (x := x9) (by omega)
        obtain ⟨b, f4, f5, f6⟩ := zi_na (x := y9) (by omega)
        have g1 : Nat.gcd a b ≤ a ∨ Nat.gcd a b ≤ b := zk_gle
        have g2 : a ≠ 0 → 1 ≤ Nat.gcd a b := fun q => Nat.gcd_pos_of_pos_left b (by omega)
        have g3 : b ≠ 0 → 1 ≤ Nat.gcd a b := fun q => Nat.gcd_pos_of_pos_right a (by omega)
        have p31 : (2 : Nat) ^ 31 = 2147483648 := by decide
        have hr9 : zk_r (2 * 31) a b := zk_r_log 31 a b (by rw [p31]; exact f5)
        have M := zk_com (l := l) (62 + (D - 62)) a b (zk_r_le hr9 (D - 62)) f2 f5
        rw [show 62 + (D - 62) = D by omega] at M
        obtain ⟨q9, hq9⟩ : ∃ q9, Nat.gcd a b = q9 := ⟨_, rfl⟩
        rw [hq9] at M g1 g2 g3
        have hlt : q9 < 2147483648 := by omega
        have hb9 : ze_b (nI q9) = 2147483648 + q9 := by
          rw [ze_b_nI]
          omega
        have hl9 : (nI q9).toInt64 = lN q9 := zi_l0 hlt
        have k1 := zi_l0 f2
        have k2 := zi_l0 f5
        rw [← f1] at k1
        rw [← f4] at k2
        rw [← k1, ← k2] at M
        intro p e ha hc hk s m args below hf happ hpp h9
        obtain ⟨n9, oc, r1, r2, r3, hQ, L9, hFE, hL9⟩ := M p e ha hc hk s m args below hf happ ⟨hpp.1, trivial⟩ h9
        obtain ⟨⟨r, u, ho, hr, -⟩, hsz, hkp⟩ := hQ
        subst hr
        refine ⟨n9, oc, r1, r2, r3, ?_, L9, hFE, fun q hq => (hL9 q hq).elim⟩
        have hP := hpp.2
        refine ⟨⟨_, w, _, ρ ++ [nI q9], ws, some (.long (lN q9)), hf2, List.prefix_append _ _, List.prefix_refl _, hG.push ?_ ?_, hW.rho (List.prefix_append _ _), hP.1.kept (fun k q9 hk => hkp _ (hP.1 _ _ hk).lt (fun z => z)), hP.2.2.1, ⟨nI q9, hG.new _, by rw [hl9]⟩, ho⟩, hsz, fun q h1 _ => hkp q h1 (fun z => z)⟩
        · rw [hb9]
          show zcd _ _ _ ≤ _
          cases e1 : Nat.ble 2147483649 (zo_iv g vx).1 with
          | true => have := ze_ble' e1; have := g2 (by omega); show 2147483649 ≤ _; omega
          | false =>
            cases e2 : Nat.ble 2147483649 (zo_iv g vy).1 with
            | true => have := ze_ble' e2; have := g3 (by omega); show 2147483649 ≤ _; omega
            | false => show 2147483648 ≤ _; omega
        · rw [hb9]
          show _ ≤ zcd _ _ _
          cases e1 : Nat.ble (zo_iv g vx).2 (zo_iv g vy).2 with
          | true => have := ze_ble' e1; show _ ≤ (zo_iv g vy).2; omega
          | false =>
            have h7 : ¬ (zo_iv g vx).2 ≤ (zo_iv g vy).2 := fun q => by rw [Nat.ble_eq_true_of_le q] at e1; cases e1
            show _ ≤ (zo_iv g vx).2
            omega
      · cases hd
    · cases hd
  · cases h
