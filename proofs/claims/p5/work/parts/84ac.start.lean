/-! a turn's start -/
def zT_gx : EG := zT_g ++ (List.replicate 160 (2147483648, 2147483903) ++ [(2147483648, 2147483677), (2147483648, 2147483662), (2147483649, 2147483664), (2147483649, 2147483663), (2147483648, 2147483662), (2147483662, 2147483676), (2147483648, 2147483662), (0, 4294967295), (0, 4294967295), (0, 4294967295), (0, 4294967295), (2147483648, 2147483903), (0, 4294967295), (0, 4294967295), (2147483648, 2147483903), (0, 4294967295), (0, 4294967295), (2147483648, 2147483903), (0, 4294967295), (0, 4294967295), (2147483648, 2147483903), (0, 4294967295)])
def zT_GG : EG := [(2147483648, 2147483677), (2147483648, 2147483662), (2147483649, 2147483664), (2147483649, 2147483663), (2147483648, 2147483662), (2147483662, 2147483676), (2147483648, 2147483662), (0, 4294967295), (0, 4294967295), (0, 4294967295), (0, 4294967295), (2147483648, 2147483903), (0, 4294967295), (0, 4294967295), (2147483648, 2147483903), (0, 4294967295), (0, 4294967295), (2147483648, 2147483903), (0, 4294967295), (0, 4294967295), (2147483648, 2147483903), (0, 4294967295)]
theorem zT_gxl : zT_gx.length = 378 := by decide +kernel
noncomputable def zT_wc (wk : EW) : Bool := zcd (zq_e wk 17 2 (fun a => zs_q a (.inr 138))) (zcd (zq_e wk 17 3 (fun a => zs_q a (.inr 139))) (zcd (zq_e wk 17 4 (fun a => zs_q a (.inr 140))) (zcd (zq_e wk 5 3 (fun a => zs_q a (.inr 12))) (zcd (zq_e wk 5 4 (fun a => zs_q a (.inr 13))) (zcd (zq_e wk 1 1 (fun a => zs_q a (.inr 10))) (zcd (zq_es wk zT_Dk (fun l => zq_le l zT_D0)) (zcd (zq_es wk zT_Ek (fun l => zq_le l zT_E0)) (zcd (zq_es wk zT_SDk (fun l => zq_le l zT_SD0)) (zq_es wk zT_SEk (fun l => zq_le l zT_SE0)) false) false) false) false) false) false) false) false) false
theorem zT_wc01 : zT_wc zT_w0 = true ∧ zT_wc zT_w1 = true := by decide +kernel
set_option maxRecDepth 100000 in
theorem zT_wab : (∀ wk, wk = zT_w0 ∨ wk = zT_w1 → ze_gw wk 2 = some (1101, [eC 80, eC 2147483648, eC 2147483903]) ∧ ze_gw wk 124 = some (1100, [eC 80, eC 2147483648, eC 2147483903])) := by
  intro wk h
  rcases h with rfl | rfl
  · exact ⟨rfl, rfl⟩
  · exact ⟨rfl, rfl⟩
theorem zT_Acl : zT_Ac.length = 80 := by
  rw [zT_Ae]
  unfold zT_A0
  simp
theorem zT_Bcl : zT_Bc.length = 80 := by
  rw [zT_Be]
  unfold zT_B0
  simp
theorem zT_ABl : zT_Ac.length = zT_Bc.length := by rw [zT_Acl, zT_Bcl]
theorem zq_mn10 (a : Nat) : ze_mn 10 a ≤ a := by
  unfold ze_mn
  cases hb : Nat.ble 10 a with
  | true => exact ze_ble' hb
  | false => exact Nat.le_refl _
theorem zT_mB_len (p1 : Nat) : (zT_mB p1).length = 80 := by
  unfold zT_mB
  generalize ze_mn 10 (Nat.sub p1 2147483648) = q
  rw [(zT_mx_get q zT_Ac zT_Bc zT_ABl).1, zT_Bcl]
theorem zT_mB_get (p1 j : Nat) : (zT_mB p1)[j]? = if j < ze_mn 10 (Nat.sub p1 2147483648) then zT_A0[j]? else zT_B0[j]? := by
  unfold zT_mB
  generalize ze_mn 10 (Nat.sub p1 2147483648) = q
  rw [(zT_mx_get q zT_Ac zT_Bc zT_ABl).2 j, zT_Ae, zT_Be]
section ZTS
variable {dA : Nat → ClassId} {sp : Nat → Nat} {ws : va_W}
theorem zT_rd {ρ : List Int32} {w : EW} (hW : ze_W dA sp ρ w ws) {k i u : Nat} {x : Int32} (h : zq_e w k i (fun a => zs_q a (.inr u)) = true) (hx : zq_at ws k i x) : ρ[u]? = some x := by
  obtain ⟨a, y, h1, h2, h3, -⟩ := zq_e_ok hW h
  have e1 := zs_q_ok h1
  subst e1
  have e2 := h3.det hx
  subst e2
  exact h2
theorem zT_rds {ρ : List Int32} {w : EW} (hW : ze_W dA sp ρ w ws) {ks : List (Nat × Nat)} {l0 : List (Nat ⊕ Nat)} (h : zq_es w ks (fun l => zq_le l l0) = true) {j u : Nat} {k : Nat × Nat} {x : Int32} (hk : ks[j]? = some k) (hl : l0[j]? = some (.inr u)) (hx : zq_at ws k.1 k.2 x) : ρ[u]? = some x := by
  obtain ⟨l, h1, -, h3⟩ := zq_es_ok hW _ _ h
  have e1 := zq_le_ok _ _ h1
  subst e1
  obtain ⟨a, y, r1, r2, r3⟩ := h3 j k hk
  rw [hl] at r1
  cases r1
  have e2 := r3.det hx
  subst e2
  exact r2
theorem zT_start {p10 vals : List Int32} {wk : EW} (hwk : wk = zT_w0 ∨ wk = zT_w1) (h10 : p10.length = 10) (hlv : 196 = 10 + vals.length) (hG0 : ze_G zT_g (p10 ++ vals)) (hW : ze_W dA sp (p10 ++ vals) wk ws) (hQ : zQ ws) : ∃ (τ : List Int32) (F S m : Nat) (L P T : Int32) (d e sd se fa fb : Nat → Int32), (p10 ++ vals) <+: τ ∧ ze_G zT_gx τ ∧ zT_K τ F S m L P T d e sd se fa fb ∧ ∀ (g : EG) (f : EW → Bool), ze_G g τ → zT_wx wk g f = true → ∃ w', f w' = true ∧ ze_W dA sp τ w' ws := by
  obtain ⟨F, S, m, L, P, T, d, e, sd, se, fa, fb, ⟨v1, v2, v3, v4, v5, v6, v7, v8, v9, v10⟩, hp⟩ := hQ
  have hc : zT_wc wk = true := by
    rcases hwk with rfl | rfl
    · exact zT_wc01.1
    · exact zT_wc01.2
  obtain ⟨c1, hc⟩ := ze_condf hc
  obtain ⟨c2, hc⟩ := ze_condf hc
  obtain ⟨c3, hc⟩ := ze_condf hc
  obtain ⟨c4, hc⟩ := ze_condf hc
  obtain ⟨c5, hc⟩ := ze_condf hc
  obtain ⟨c6, hc⟩ := ze_condf hc
  obtain ⟨c7, hc⟩ := ze_condf hc
  obtain ⟨c8, hc⟩ := ze_condf hc
  obtain ⟨c9, c10⟩ := ze_condf hc
  have i1 := zT_rd hW c1 v1
  have i2 := zT_rd hW c2 v2
  have i3 := zT_rd hW c3 v3
  have i4 := zT_rd hW c4 v4
  have i5 := zT_rd hW c5 v5
  have i6 := zT_rd hW c6 v6
  have i7 : ∀ j, j < 15 → (p10 ++ vals)[30 + 6 * j]? = some (d j) ∧ (p10 ++ vals)[31 + 6 * j]? = some (e j) := fun j hj => ⟨zT_rds hW c7 (zT_Dkg j hj).1 (zT_Dkg j hj).2.2.1 (v7 j hj).1, zT_rds hW c8 (zT_Dkg j hj).2.1 (zT_Dkg j hj).2.2.2 (v7 j hj).2⟩
  have i8 : ∀ j, j < 3 → (p10 ++ vals)[120 + 6 * j]? = some (sd j) ∧ (p10 ++ vals)[121 + 6 * j]? = some (se j) := fun j hj => ⟨zT_rds hW c9 (zT_Skg j hj).1 (zT_Skg j hj).2.2.1 (v8 j hj).1, zT_rds hW c10 (zT_Skg j hj).2.1 (zT_Skg j hj).2.2.2 (v8 j hj).2⟩
  obtain ⟨w1, w2⟩ := zT_wab wk hwk
  obtain ⟨a1, e1, q1, q2⟩ := hW.2 _ _ w1
  obtain ⟨a2, e2, q3, q4⟩ := hW.2 _ _ w2
  obtain ⟨n1, lo1, hi1, f1, r1, r2, r3⟩ := q2.sumI (by show 1100 ≤ 1101; decide) (by show 1101 < 1150; decide)
  obtain ⟨n2, lo2, hi2, f2, s1, s2, s3⟩ := q4.sumI (by show 1100 ≤ 1100; decide) (by show 1100 < 1150; decide)
  injection r1 with t1 t2
  injection t2 with t2 t3
  injection t3 with t3 _
  cases t1; cases t2; cases t3
  injection s1 with t1 t2
  injection t2 with t2 t3
  injection t3 with t3 _
  cases t1; cases t2; cases t3
  have r2 : e1 = .inl (dA 101, 80, .inl f1) := r2
  have s2 : e2 = .inl (dA 100, 80, .inl f2) := s2
  subst r2; subst s2
  have ef1 : fa = f1 := v9.det ⟨a1, _, _, q1⟩
  have ef2 : fb = f2 := v10.det ⟨a2, _, _, q3⟩
  subst ef1; subst ef2
  have hl0 : (p10 ++ vals).length = 196 := by rw [List.length_append, h10]; exact hlv.symm
  obtain ⟨rA, hrA⟩ : ∃ r, r = (List.range 80).map fa ++ (List.range 80).map fb := ⟨_, rfl⟩
  have hlA : rA.length = 160 := by rw [hrA]; simp
  have hl1 : ((p10 ++ vals) ++ rA).length = 356 := by rw [List.length_append, hl0, hlA]
  obtain ⟨z1, z2, z3⟩ := zq_gx_ok zT_GD ((p10 ++ vals) ++ rA) (by rw [hl1]; exact zT_GDw)
  have hFA := zT_FAok hl1
  obtain ⟨τ, hτ⟩ : ∃ τ, τ = zq_gx ((p10 ++ vals) ++ rA) zT_GD := ⟨_, rfl⟩
  rw [← hτ] at z1 z2 z3 hFA
  have p0 : (p10 ++ vals) <+: τ := (List.prefix_append _ _).trans z1
  have hA : ∀ k, k < 80 → τ[196 + k]? = some (fa k) := by
    intro k hk
    refine ze_pre z1 ?_
    rw [List.getElem?_append_right (by omega), hl0, show 196 + k - 196 = k by omega, hrA, List.getElem?_append_left (by simpa using hk), List.getElem?_map, List.getElem?_range hk]
    rfl
  have hB : ∀ k, k < 80 → τ[276 + k]? = some (fb k) := by
    intro k hk
    refine ze_pre z1 ?_
    rw [List.getElem?_append_right (by omega), hl0, show 276 + k - 196 = 80 + k by omega, hrA, List.getElem?_append_right (by simp), List.getElem?_map]
    have e9 : 80 + k - ((List.range 80).map fa).length = k := by simp
    rw [e9, List.getElem?_range hk]
    rfl
  have hK : zT_K τ F S m L P T d e sd se fa fb := ⟨⟨ze_pre p0 i1, ze_pre p0 i2, ze_pre p0 i3, ze_pre p0 i4, ze_pre p0 i5, ze_pre p0 i6, fun j hj => ⟨ze_pre p0 (i7 j hj).1, ze_pre p0 (i7 j hj).2⟩, fun j hj => ⟨ze_pre p0 (i8 j hj).1, ze_pre p0 (i8 j hj).2⟩, fun k hk => ⟨hA k hk, hB k hk, r3 k hk, s3 k hk⟩⟩, hp, hFA⟩
  refine ⟨τ, F, S, m, L, P, T, d, e, sd, se, fa, fb, p0, ?_, hK, ?_⟩
  · obtain ⟨vx, hvx⟩ := z1
    have hlx : vx.length = 22 := by
      have h9 := congrArg List.length hvx
      rw [List.length_append, hl1, z2, hl1] at h9
      have h8 : zT_GD.length = 22 := by decide +kernel
      rw [h8] at h9
      omega
    have hgx : ∀ i, i < 22 → τ[356 + i]? = vx[i]? := by
      intro i hi
      rw [← hvx, List.getElem?_append_right (by omega), hl1, Nat.add_sub_cancel_left]
    have hG1 : ze_G (List.replicate 160 (2147483648, 2147483903) ++ zT_GG) (rA ++ vx) := by
      refine zx_app ⟨by rw [hlA]; rfl, fun i p x k1 k2 => ?_⟩ (by rw [hlx]; rfl) (fun i p x k1 k2 => ?_)
      · have hp9 := ze_rep k1
        subst hp9
        have hi : i < 160 := by rw [← hlA]; exact (List.getElem?_eq_some_iff.mp k2).1
        rw [hrA] at k2
        by_cases h8 : i < 80
        · rw [List.getElem?_append_left (by simpa using h8), List.getElem?_map, List.getElem?_range h8] at k2
          cases k2
          exact r3 i h8
        · rw [List.getElem?_append_right (by simpa using h8), List.getElem?_map] at k2
          have e9 : i - ((List.range 80).map fa).length = i - 80 := by simp
          rw [e9, List.getElem?_range (by omega)] at k2
          cases k2
          exact s3 (i - 80) (by omega)
      · have hi : i < 22 := by rw [← hlx]; exact (List.getElem?_eq_some_iff.mp k2).1
        rw [← hgx i hi] at k2
        have hF15 := hp.1
        have hS15 := hp.2.1
        have key : ∀ (n : Nat), n ≤ 1000 → τ[356 + i]? = some (nI n) → ze_b x = 2147483648 + n := by
          intro n hn hx
          rw [k2] at hx
          cases hx
          exact zq_bn hn
        have hand : ∀ y : Int32, x = y &&& nI 255 → 2147483648 ≤ ze_b x ∧ ze_b x ≤ 2147483903 := by
          intro y hy
          subst hy
          exact zi_and (sp := fun _ => 0) (g := []) (ρ := [y]) (ad := []) (eU 0) (eC 255) y (nI 255) ⟨y, rfl, rfl⟩ rfl
        match i, hi, k1, k2, key with
        | 0, _, k1, _, key =>
          have k1 : some ((2147483648, 2147483677) : Nat × Nat) = some p := k1
          cases k1
          have e9 := key _ (by omega) (zT_Ks hK)
          show 2147483648 ≤ ze_b x ∧ ze_b x ≤ 2147483677
          exact ⟨by omega, by omega⟩
        | 1, _, k1, _, key =>
          have k1 : some ((2147483648, 2147483662) : Nat × Nat) = some p := k1
          cases k1
          have e9 := key _ (by omega) (zT_Kr hK)
          show 2147483648 ≤ ze_b x ∧ ze_b x ≤ 2147483662
          exact ⟨by omega, by omega⟩
        | 2, _, k1, _, key =>
          have k1 : some ((2147483649, 2147483664) : Nat × Nat) = some p := k1
          cases k1
          have e9 := key _ (by omega) (zT_Kz hK)
          show 2147483649 ≤ ze_b x ∧ ze_b x ≤ 2147483664
          exact ⟨by omega, by omega⟩
        | 3, _, k1, _, key =>
          have k1 : some ((2147483649, 2147483663) : Nat × Nat) = some p := k1
          cases k1
          have e9 := key _ (by omega) (zT_Kf1 hK)
          show 2147483649 ≤ ze_b x ∧ ze_b x ≤ 2147483663
          exact ⟨by omega, by omega⟩
        | 4, _, k1, _, key =>
          have k1 : some ((2147483648, 2147483662) : Nat × Nat) = some p := k1
          cases k1
          have e9 := key _ (by omega) (zT_Kfn hK)
          show 2147483648 ≤ ze_b x ∧ ze_b x ≤ 2147483662
          exact ⟨by omega, by omega⟩
        | 5, _, k1, _, key =>
          have k1 : some ((2147483662, 2147483676) : Nat × Nat) = some p := k1
          cases k1
          have e9 := key _ (by omega) (zT_Ks2 hK)
          show 2147483662 ≤ ze_b x ∧ ze_b x ≤ 2147483676
          exact ⟨by omega, by omega⟩
        | 6, _, k1, _, key =>
          have k1 : some ((2147483648, 2147483662) : Nat × Nat) = some p := k1
          cases k1
          have e9 := key _ (by omega) (zT_Kr2 hK)
          show 2147483648 ≤ ze_b x ∧ ze_b x ≤ 2147483662
          exact ⟨by omega, by omega⟩
        | 7, _, k1, _, _ =>
          have k1 : some ((0, 4294967295) : Nat × Nat) = some p := k1
          cases k1
          exact ⟨Nat.zero_le _, ze_b_top _⟩
        | 8, _, k1, _, _ =>
          have k1 : some ((0, 4294967295) : Nat × Nat) = some p := k1
          cases k1
          exact ⟨Nat.zero_le _, ze_b_top _⟩
        | 9, _, k1, _, _ =>
          have k1 : some ((0, 4294967295) : Nat × Nat) = some p := k1
          cases k1
          exact ⟨Nat.zero_le _, ze_b_top _⟩
        | 10, _, k1, _, _ =>
          have k1 : some ((0, 4294967295) : Nat × Nat) = some p := k1
          cases k1
          exact ⟨Nat.zero_le _, ze_b_top _⟩
        | 11, _, k1, k2, _ =>
          have k1 : some ((2147483648, 2147483903) : Nat × Nat) = some p := k1
          cases k1
          obtain ⟨y1, y2, r1, r2, r3⟩ := z3 11 _ (show zT_GD[11]? = some (3, .inr 366, .inl 255) from rfl)
          have r2 : y2 = nI 255 := r2
          subst r2
          rw [hl1] at r3
          exact hand y1 (Option.some.inj (k2.symm.trans r3))
        | 12, _, k1, _, _ =>
          have k1 : some ((0, 4294967295) : Nat × Nat) = some p := k1
          cases k1
          exact ⟨Nat.zero_le _, ze_b_top _⟩
        | 13, _, k1, _, _ =>
          have k1 : some ((0, 4294967295) : Nat × Nat) = some p := k1
          cases k1
          exact ⟨Nat.zero_le _, ze_b_top _⟩
        | 14, _, k1, k2, _ =>
          have k1 : some ((2147483648, 2147483903) : Nat × Nat) = some p := k1
          cases k1
          obtain ⟨y1, y2, r1, r2, r3⟩ := z3 14 _ (show zT_GD[14]? = some (3, .inr 369, .inl 255) from rfl)
          have r2 : y2 = nI 255 := r2
          subst r2
          rw [hl1] at r3
          exact hand y1 (Option.some.inj (k2.symm.trans r3))
        | 15, _, k1, _, _ =>
          have k1 : some ((0, 4294967295) : Nat × Nat) = some p := k1
          cases k1
          exact ⟨Nat.zero_le _, ze_b_top _⟩
        | 16, _, k1, _, _ =>
          have k1 : some ((0, 4294967295) : Nat × Nat) = some p := k1
          cases k1
          exact ⟨Nat.zero_le _, ze_b_top _⟩
        | 17, _, k1, k2, _ =>
          have k1 : some ((2147483648, 2147483903) : Nat × Nat) = some p := k1
          cases k1
          obtain ⟨y1, y2, r1, r2, r3⟩ := z3 17 _ (show zT_GD[17]? = some (3, .inr 372, .inl 255) from rfl)
          have r2 : y2 = nI 255 := r2
          subst r2
          rw [hl1] at r3
          exact hand y1 (Option.some.inj (k2.symm.trans r3))
        | 18, _, k1, _, _ =>
          have k1 : some ((0, 4294967295) : Nat × Nat) = some p := k1
          cases k1
          exact ⟨Nat.zero_le _, ze_b_top _⟩
        | 19, _, k1, _, _ =>
          have k1 : some ((0, 4294967295) : Nat × Nat) = some p := k1
          cases k1
          exact ⟨Nat.zero_le _, ze_b_top _⟩
        | 20, _, k1, k2, _ =>
          have k1 : some ((2147483648, 2147483903) : Nat × Nat) = some p := k1
          cases k1
          obtain ⟨y1, y2, r1, r2, r3⟩ := z3 20 _ (show zT_GD[20]? = some (3, .inr 375, .inl 255) from rfl)
          have r2 : y2 = nI 255 := r2
          subst r2
          rw [hl1] at r3
          exact hand y1 (Option.some.inj (k2.symm.trans r3))
        | 21, _, k1, _, _ =>
          have k1 : some ((0, 4294967295) : Nat × Nat) = some p := k1
          cases k1
          exact ⟨Nat.zero_le _, ze_b_top _⟩
        | i + 22, hi, _, _, _ => exact absurd hi (by omega)
    rw [← hvx, List.append_assoc]
    show ze_G (zT_g ++ (List.replicate 160 (2147483648, 2147483903) ++ zT_GG)) _
    exact zx_app hG0 hG1.1 (fun i p x k1 k2 => hG1.2 i p x k1 k2)
  · intro g f hG hf
    obtain ⟨p, e1, hf⟩ := ze_n_spec _ _ _ hf
    replace hf : f (ze_ws (ze_ws wk 2 (101, zT_Ac)) 124 (100, zT_mB p.1)) = true := hf
    have hl9 := zT_mB_len p.1
    have hg9 := zT_mB_get p.1
    generalize zT_mB p.1 = B9 at hf hl9 hg9
    refine ⟨_, hf, ?_⟩
    have hWτ := hW.rho p0
    have hW1 := hWτ.see (c1 := (101, zT_Ac)) q1 (Or.inr (Or.inl ⟨by show 100 ≤ 101; decide, by show 101 < 150; decide, fa, by show _ = Sum.inl (dA 101, zT_Ac.length, _); rw [zT_Acl], fun j v hj => ?_⟩))
    · have hW2 := hW1.see (c1 := (100, B9)) q3 (Or.inr (Or.inl ⟨by show 100 ≤ 100; decide, by show 100 < 150; decide, fb, ?_, fun j v hj => ?_⟩))
      · exact hW2
      · show _ = Sum.inl (dA 100, B9.length, _)
        rw [hl9]
      · have hj : B9[j]? = some v := hj
        rw [hg9] at hj
        split at hj
        · rename_i hjm
          have hjl : j < 80 := by
            have h9 := (List.getElem?_eq_some_iff.mp hj).1
            simpa [zT_A0] using h9
          unfold zT_A0 at hj
          rw [List.getElem?_map, List.getElem?_range hjl] at hj
          cases hj
          have hjp : j < p.1 - 2147483648 := by
            have h9 : ze_mn 10 (Nat.sub p.1 2147483648) ≤ Nat.sub p.1 2147483648 := zq_mn10 _
            have h8 : Nat.sub p.1 2147483648 = p.1 - 2147483648 := rfl
            omega
          have hbT := (hG.2 _ p T e1 (ze_pre p0 i6)).1
          have hab := hp.2.2.2.2.2 j hjl (by omega)
          exact ⟨fb j, by rw [← hab]; exact hA j hjl, rfl⟩
        · have hjl : j < 80 := by
            have h9 := (List.getElem?_eq_some_iff.mp hj).1
            simpa [zT_B0] using h9
          unfold zT_B0 at hj
          rw [List.getElem?_map, List.getElem?_range hjl] at hj
          cases hj
          exact ⟨fb j, hB j hjl, rfl⟩
    · have hj : zT_Ac[j]? = some v := hj
      rw [zT_Ae] at hj
      have hjl : j < 80 := by
        have h9 := (List.getElem?_eq_some_iff.mp hj).1
        simpa [zT_A0] using h9
      unfold zT_A0 at hj
      rw [List.getElem?_map, List.getElem?_range hjl] at hj
      cases hj
      exact ⟨fa j, hA j hjl, rfl⟩
end ZTS
