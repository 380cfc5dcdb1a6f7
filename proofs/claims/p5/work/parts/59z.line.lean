/-! arrays of which one number is known, at a method's start; how many one holds, in line -/
theorem zx_ok.mem3 {wg wx : EW} {g0 gx : EG} {c N2 : Nat} (hc : ze_gw wg c = some (1100, [eC 80, eC 2147483648, eC 2147483903])) (hN : g0.length = N2) (hw : wx = ze_ws wg c (1303, [eC 0, eU N2])) (hg : gx = g0 ++ [(2147483648, 2147483903)]) : zx_ok wg g0 wx gx := by
  subst hw; subst hg; subst hN
  intro dA sp ρ ws hG hW
  obtain ⟨a, e, q1, q2⟩ := hW.2 c _ hc
  obtain ⟨n', lo', hi', f, e3, e4, hf⟩ := q2.sumI (by show 1100 ≤ 1100; decide) (by show 1100 < 1150; decide)
  injection e3 with a1 t1
  injection t1 with a2 t2
  injection t2 with a3 _
  cases a1; cases a2; cases a3
  have e4 : e = .inl (dA 100, 80, .inl f) := e4
  subst e4
  have hp : ρ <+: ρ ++ [f 0] := List.prefix_append _ _
  have h0 := hf 0 (by omega)
  exact ⟨[f 0], hG.push (p := (2147483648, 2147483903)) h0.1 h0.2, (hW.rho hp).see q1 (Or.inr (Or.inr (Or.inr (Or.inr (Or.inr ⟨(by show 1300 ≤ 1303; decide), (by show 1303 < 1400; decide), [nI 0, f 0], f, ze_I.push rfl (ze_I.push ⟨_, hG.new _, rfl⟩ ze_I.nil), rfl, Or.inr (Or.inr (Or.inr ⟨Nat.le_refl _, Or.inl ⟨rfl, nI 0, f 0, 0, rfl, ze_bC (by omega), by omega, rfl, hf⟩⟩))⟩)))))⟩
theorem zx_ok.mem4 {wg wx : EW} {g0 gx : EG} {c N2 : Nat} (hc : ze_gw wg c = some (1100, [eC 60, eC 2147483393, eC 2147483903])) (hN : g0.length = N2) (hw : wx = ze_ws wg c (1304, [eC 0, eU N2])) (hg : gx = g0 ++ [(2147483393, 2147483903)]) : zx_ok wg g0 wx gx := by
  subst hw; subst hg; subst hN
  intro dA sp ρ ws hG hW
  obtain ⟨a, e, q1, q2⟩ := hW.2 c _ hc
  obtain ⟨n', lo', hi', f, e3, e4, hf⟩ := q2.sumI (by show 1100 ≤ 1100; decide) (by show 1100 < 1150; decide)
  injection e3 with a1 t1
  injection t1 with a2 t2
  injection t2 with a3 _
  cases a1; cases a2; cases a3
  have e4 : e = .inl (dA 100, 60, .inl f) := e4
  subst e4
  have hp : ρ <+: ρ ++ [f 0] := List.prefix_append _ _
  have h0 := hf 0 (by omega)
  exact ⟨[f 0], hG.push (p := (2147483393, 2147483903)) h0.1 h0.2, (hW.rho hp).see q1 (Or.inr (Or.inr (Or.inr (Or.inr (Or.inr ⟨(by show 1300 ≤ 1304; decide), (by show 1304 < 1400; decide), [nI 0, f 0], f, ze_I.push rfl (ze_I.push ⟨_, hG.new _, rfl⟩ ze_I.nil), rfl, Or.inr (Or.inr (Or.inr ⟨(by show 1303 ≤ 1304; decide), Or.inr (Or.inl ⟨rfl, nI 0, f 0, 0, rfl, ze_bC (by omega), by omega, rfl, hf⟩)⟩))⟩)))))⟩
theorem zx_ok.line {wg wx : EW} {g0 : EG} {c : Nat} (hc : ze_gw wg c = some (1100, [eC 29, eC 0, eC 4294967295])) (hw : wx = ze_ws wg c (1306, [eC 20, eC 0, eC 0])) : zx_ok wg g0 wx g0 := by
  subst hw
  intro dA sp ρ ws hG hW
  obtain ⟨a, e, q1, q2⟩ := hW.2 c _ hc
  obtain ⟨n', lo', hi', f, e3, e4, hf⟩ := q2.sumI (by show 1100 ≤ 1100; decide) (by show 1100 < 1150; decide)
  injection e3 with a1 t1
  injection t1 with a2 t2
  injection t2 with a3 _
  cases a1; cases a2; cases a3
  have e4 : e = .inl (dA 100, 29, .inl f) := e4
  subst e4
  exact ⟨[], by rw [List.append_nil]; exact hG, by rw [List.append_nil]; exact hW.see q1 (Or.inr (Or.inr (Or.inr (Or.inr (Or.inr ⟨(by show 1300 ≤ 1306; decide), (by show 1306 < 1400; decide), [nI 20, nI 0, nI 0], f, ze_I.push rfl (ze_I.push rfl (ze_I.push rfl ze_I.nil)), rfl, Or.inr (Or.inr (Or.inr ⟨(by show 1303 ≤ 1306; decide), Or.inr (Or.inr (Or.inr ⟨rfl, nI 20, nI 0, nI 0, 20, 0, 0, rfl, ze_bC (by omega), ze_bC (by omega), ze_bC (by omega), Nat.zero_le _⟩))⟩))⟩)))))⟩
noncomputable def zl_kk (j v kx t : Nat) (k : ERt) : ERt := fun r w2 g2 => Option.rec (motive := fun _ => Bool) false (fun a => ze_g w2 j (fun c2 => zcd (Nat.beq c2.1 1305) (zo_m4 c2.2 (fun o2 k2 c9 d2 x y z => zcd (zcd (zcd (Nat.beq o2 kx) (zcd (Nat.beq k2 20) (Nat.beq d2 0) false) false) (zcd (zh_eq x (eC v)) (zcd (zh_eq y (eC kx)) (zh_eq z (eC t)) false) false) false) (zcd (zh_eq c9 a)
  (ze_eq g2 a (eC v) (fun g3 => zcd (Nat.ble 5 t) true (k (some a) (ze_ws w2 j (1306, [eC v, eC (Nat.succ kx), eC (Nat.succ t)])) g3)) (fun g3 => k (some a) (ze_ws w2 j (1306, [eC v, eC (Nat.succ kx), eC t])) g3)) false) false)) false)) r
noncomputable def zl_wr (y0 : Nat) (cal : ECal) : ECal := fun y av w g k => zcd (zcd (Nat.beq y y0) (Nat.ble (Nat.succ y) 400) false) (zl_ av (fun a r => zv_r a (fun j => zl_ r (fun b r => zv_c b (fun o => zl_0 r (ze_g w j (fun c => zcd (Nat.beq c.1 1306) (zo_m3 c.2 (fun vv kx t => zv_c vv (fun v => zcd (zcd (Nat.beq o kx) (zcd (Nat.ble kx 4) (zcd (Nat.ble v 1000) (Nat.ble t 1000) false) false) false)
  (cal y av (ze_ws w j (1305, [eC kx, eC 0, eC 0, eC 0, eC v, eC kx, eC t])) g (zl_kk j v kx t k)) false))) false))))))) false
section ZLM
variable {l : Launch} {dC : Nat → ClassId} {dI : Nat → Nat → Nat} {dA : Nat → ClassId} {sp : Nat → Nat} {xs : ZXs} {A : Nat → Prop}
theorem zl_wr_ok {y0 : Nat} {cal : ECal} {y d0 : Nat} {yn : MethodName} {yb : ByteArray} {yL : Nat} {yr : Option FieldType} {cy sy : Nat} (hcal : ze_Cal l dC dI dA sp xs A cal y d0 yn yb yL yr cy sy) : ze_Cal l dC dI dA sp xs A (zl_wr y0 cal) y d0 yn yb yL yr cy sy := by
  intro av w g k' h ρ ws avs hG hX hW hL
  obtain ⟨-, h⟩ := ze_condf h
  obtain ⟨a, r9, e1, h1⟩ := zl_spec h
  obtain ⟨j, e2, h2⟩ := zv_r_spec h1
  obtain ⟨b, r8, e3, h3⟩ := zl_spec h2
  obtain ⟨o, e4, h4⟩ := zv_c_spec h3
  obtain ⟨e5, h5⟩ := zl_0_spec h4
  obtain ⟨c, e6, h6⟩ := ze_g_spec h5
  obtain ⟨k1, h6⟩ := ze_condf h6
  have k1 : c.1 = 1306 := ze_beq k1
  obtain ⟨vv, kx, t, e7, h7⟩ := zo_m3_spec h6
  obtain ⟨v, e8, h8⟩ := zv_c_spec h7
  obtain ⟨c1, h9⟩ := ze_condf h8
  obtain ⟨-, c1⟩ := ze_condf c1
  obtain ⟨c2, c1⟩ := ze_condf c1
  obtain ⟨c3, c4⟩ := ze_condf c1
  have c2 := ze_ble' c2
  have c3 := ze_ble' c3
  have c4 := ze_ble' c4
  subst e8
  obtain ⟨a9, e9, p3, p4⟩ := hW.2 j c e6
  obtain ⟨-, -, zs, f, hI, he, hP⟩ := p4.pred (by omega)
  obtain ⟨zv, zk, zt, VV, KK, TT, ez, b1, b2, b3, hT⟩ := zP_l hP k1
  subst ez
  rw [e7] at hI
  obtain ⟨i1, hI2⟩ := hI.cons
  obtain ⟨i2, hI3⟩ := hI2.cons
  obtain ⟨i3, -⟩ := hI3.cons
  have eV : VV = v := ze_bn (ze_VC i1) (by omega) b1
  have eK : KK = kx := ze_bn (ze_VC i2) (by omega) b2
  have eT : TT = t := ze_bn (ze_VC i3) (by omega) b3
  subst eV; subst eK; subst eT
  have he : e9 = .inl (dA 100, 29, .inl f) := by rw [he, k1]; rfl
  subst he
  have hW' := hW.see p3 (c1 := (1305, [eC KK, eC 0, eC 0, eC 0, eC VV, eC KK, eC TT])) (Or.inr (Or.inr (Or.inr (Or.inr (Or.inr ⟨(by show 1300 ≤ 1305; decide), (by show 1305 < 1400; decide), [nI KK, nI 0, nI 0, nI 0, nI VV, nI KK, nI TT], f, ze_I.push rfl (ze_I.push rfl (ze_I.push rfl (ze_I.push rfl (ze_I.push rfl (ze_I.push rfl (ze_I.push rfl ze_I.nil)))))), rfl, Or.inr (Or.inr (Or.inr ⟨(by show 1303 ≤ 1305; decide), Or.inr (Or.inr (Or.inl ⟨rfl, nI KK, nI 0, nI 0, nI 0, nI VV, nI KK, nI TT, KK, 0, 0, 0, VV, KK, TT, rfl, ze_bC (by omega), ze_bC (by omega), ze_bC (by omega), ze_bC (by omega), ze_bC (by omega), ze_bC (by omega), ze_bC (by omega), rfl, hT⟩))⟩))⟩)))))
  refine zr_met (List.prefix_refl _) (fun r2 w2 gg ρ1 ws1 q3 q4 q5 q6 => ?_) (hcal av _ _ _ h9 ρ ws avs hG hX hW' hL)
  cases r2 with
  | none => cases q3
  | some a2 =>
    obtain ⟨c2', m1, q3⟩ := ze_g_spec (show ze_g w2 j _ = true from q3)
    obtain ⟨m2, q3⟩ := ze_condf q3
    have m2 : c2'.1 = 1305 := ze_beq m2
    obtain ⟨o2, k2, c9, d2, x, y9, z, m3, q7⟩ := zo_m4_spec q3
    obtain ⟨m4, q8⟩ := ze_condf q7
    obtain ⟨m4, m5⟩ := ze_condf m4
    obtain ⟨m4, m6⟩ := ze_condf m4
    obtain ⟨m6, m7⟩ := ze_condf m6
    obtain ⟨m8, m9⟩ := ze_condf m5
    obtain ⟨m9, m10⟩ := ze_condf m9
    obtain ⟨m11, q9⟩ := ze_condf q8
    have m4 : o2 = KK := ze_beq m4
    have m6 : k2 = 20 := ze_beq m6
    have m7 : d2 = 0 := ze_beq m7
    have m8 := zh_eq_ok m8
    have m9 := zh_eq_ok m9
    have m10 := zh_eq_ok m10
    have m11 := zh_eq_ok m11
    subst m4; subst m6; subst m7; subst m8; subst m9; subst m10; subst m11
    obtain ⟨a8, e8, n1, n2⟩ := q6.2 j c2' m1
    obtain ⟨-, -, zs2, f2, hI2, he2, hP2⟩ := n2.pred (by omega)
    obtain ⟨zo, zj, zc, zd, zx, zy, zt2, OO, JJ, CC, DD, XX, YY, T2, ez2, y1, y2, y3, y4, y5, y6, y7, hq2, hT2⟩ := zP_c hP2 m2
    subst ez2
    rw [m3] at hI2
    obtain ⟨s1, hI2⟩ := hI2.cons
    obtain ⟨s2, hI2⟩ := hI2.cons
    obtain ⟨s3, hI2⟩ := hI2.cons
    obtain ⟨s4, hI2⟩ := hI2.cons
    obtain ⟨s5, hI2⟩ := hI2.cons
    obtain ⟨s6, hI2⟩ := hI2.cons
    obtain ⟨s7, -⟩ := hI2.cons
    have eO : OO = o2 := ze_bn (ze_VC s1) (by omega) y1
    have eJ : JJ = 20 := ze_bn (ze_VC s2) (by omega) y2
    have eD : DD = 0 := ze_bn (ze_VC s4) (by omega) y4
    have eX : XX = VV := ze_bn (ze_VC s5) (by omega) y5
    have eY : YY = o2 := ze_bn (ze_VC s6) (by omega) y6
    have eT : T2 = TT := ze_bn (ze_VC s7) (by omega) y7
    subst eO; subst eJ; subst eD; subst eX; subst eT
    have he2 : e8 = .inl (dA 100, 29, .inl f2) := by rw [he2, m2]; rfl
    subst he2
    have mk : ∀ u, u ≤ 10000 → u ≤ zq_l f2 XX (OO + 1) 5 → ze_W dA sp ρ1 (ze_ws w2 j (1306, [eC XX, eC (OO + 1), eC u])) ws1 := fun u hu hq => q6.see n1 (Or.inr (Or.inr (Or.inr (Or.inr (Or.inr ⟨(by show 1300 ≤ 1306; decide), (by show 1306 < 1400; decide), [nI XX, nI (OO + 1), nI u], f2, ze_I.push rfl (ze_I.push rfl (ze_I.push rfl ze_I.nil)), rfl, Or.inr (Or.inr (Or.inr ⟨(by show 1303 ≤ 1306; decide), Or.inr (Or.inr (Or.inr ⟨rfl, nI XX, nI (OO + 1), nI u, XX, OO + 1, u, rfl, ze_bC (by omega), ze_bC (by omega), ze_bC (by omega), hq⟩))⟩))⟩)))))
    rw [eY] at hT2
    obtain ⟨X9, Y9, eX9, eY9, u1, u2⟩ := ze_eq_spec q9 q5 s3 (show ze_V sp ρ1 (ws1.map (·.1)) (eC XX) (.int (nI XX)) from rfl)
    cases eX9
    cases eY9
    by_cases hE : zc = nI XX
    · obtain ⟨g3, hG3, q10⟩ := u1 hE
      have e0 : CC = XX := ze_bn hE (by omega) y3
      have hadd := zq_l_add (f := f2) (v := XX) (k := OO) (by omega) 5 (by omega)
      have hle := zq_l_le (f := f2) (v := XX) (k := OO + 1) 5
      rcases ze_cond q10 with ⟨n5, -⟩ | ⟨-, q10⟩
      · have n5 := ze_ble' n5
        omega
      · exact ⟨_, g3, q10, hG3, mk (T2 + 1) (by omega) (by omega)⟩
    · obtain ⟨g3, hG3, q10⟩ := u2 hE
      have hm := zq_l_mono (f := f2) (v := XX) (k := OO) (v' := XX) (k' := OO + 1) (Or.inr ⟨rfl, by omega⟩) 5
      exact ⟨_, g3, q10, hG3, mk T2 (by omega) (by omega)⟩
end ZLM
theorem ZE.ln {SP : ECal} {d0 : Nat} (y0 : Nat) (h : ZE SP d0) : ZE (zl_wr y0 SP) d0 := ⟨fun y av w g k h9 => ze_ble' (ze_condf (ze_condf h9).1).2, fun l dC dI dA sp xs A D hD y q hy => zl_wr_ok (h.2 l dC dI dA sp xs A D hD y q hy)⟩
