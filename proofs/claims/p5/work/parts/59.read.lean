/-! calls on a row that is read, from another height: what is owed, the height and the signs taken are counted from the call on -/
section ZRR
variable {sp : Nat → Nat} {ρ : List Int32} {ad : List Nat} {dA : Nat → ClassId}
noncomputable def zr_F (sp : Nat → Nat) (ρ : List Int32) (ad : List Nat) (h : EV) (d : Nat) (cv p : EV) (q : Nat) (t b : EV) (r : Nat) (f : Nat → Int32) : Prop := ∃ (zh zc zp zt zb : Int32) (H C P T B : Nat), ze_V sp ρ ad h (.int zh) ∧ ze_V sp ρ ad cv (.int zc) ∧ ze_V sp ρ ad p (.int zp) ∧ ze_V sp ρ ad t (.int zt) ∧ ze_V sp ρ ad b (.int zb) ∧ ze_b zh = 2147483648 + H ∧ ze_b zc = 2147483648 + C ∧ ze_b zp = 2147483648 + P ∧ ze_b zt = 2147483648 + T ∧ ze_b zb = 2147483648 + B ∧ (d = 255 ∨ zq_h f C = some (H + d)) ∧ C + P + q ≤ T ∧ B + r ≤ T ∧ T ≤ 80
theorem zr_of {c : EC} {e : va_E} {h cv p t b : EV} {d q r : Nat} (hk : c.1 = 1301) (hl : c.2 = [h, eC d, cv, p, eC q, t, b, eC r]) (hd : d ≤ 1000) (hq : q ≤ 1000) (hr : r ≤ 1000) (hC : ze_C dA sp ρ ad c e) : ∃ f, e = .inl (dA 100, 80, .inl f) ∧ zr_F sp ρ ad h d cv p q t b r f := by
  obtain ⟨-, -, zs, f, hI, he, hP⟩ := hC.pred (by omega)
  refine ⟨f, by rw [he, hk]; rfl, ?_⟩
  rcases hP with ⟨q9, -⟩ | ⟨-, hP⟩ | (⟨q9, -⟩ | ⟨q9, -⟩)
  · omega
  · obtain ⟨zh, zd, zc, zp, zo, zt, zb, zr, HH, DD, CC, PP, QQ, TT, BB, RR, ez, b1, b2, b3, b4, b5, b6, b7, b8, hD, s1, s2, s3⟩ := hP
    subst ez
    rw [hl] at hI
    obtain ⟨i1, hI⟩ := hI.cons
    obtain ⟨i2, hI⟩ := hI.cons
    obtain ⟨i3, hI⟩ := hI.cons
    obtain ⟨i4, hI⟩ := hI.cons
    obtain ⟨i5, hI⟩ := hI.cons
    obtain ⟨i6, hI⟩ := hI.cons
    obtain ⟨i7, hI⟩ := hI.cons
    obtain ⟨i8, -⟩ := hI.cons
    have eD : DD = d := ze_bn (ze_VC i2) (by omega) b2
    have eQ : QQ = q := ze_bn (ze_VC i5) (by omega) b5
    have eR : RR = r := ze_bn (ze_VC i8) (by omega) b8
    subst eD; subst eQ; subst eR
    exact ⟨zh, zc, zp, zt, zb, HH, CC, PP, TT, BB, i1, i3, i4, i6, i7, b1, b3, b4, b6, b7, hD, s1, s2, s3⟩
  · omega
  · omega
theorem zr_to {h cv p t b : EV} {d q r : Nat} {f : Nat → Int32} (hd : d ≤ 1000) (hq : q ≤ 1000) (hr : r ≤ 1000) (hF : zr_F sp ρ ad h d cv p q t b r f) : ze_C dA sp ρ ad (1301, [h, eC d, cv, p, eC q, t, b, eC r]) (.inl (dA 100, 80, .inl f)) := by
  obtain ⟨zh, zc, zp, zt, zb, H, C, P, T, B, i1, i3, i4, i6, i7, b1, b3, b4, b6, b7, hD, s1, s2, s3⟩ := hF
  exact Or.inr (Or.inr (Or.inr (Or.inr (Or.inr ⟨(by show 1300 ≤ 1301; decide), (by show 1301 < 1400; decide), [zh, nI d, zc, zp, nI q, zt, zb, nI r], f, ze_I.push i1 (ze_I.push rfl (ze_I.push i3 (ze_I.push i4 (ze_I.push rfl (ze_I.push i6 (ze_I.push i7 (ze_I.push rfl ze_I.nil))))))), rfl, Or.inr (Or.inl ⟨rfl, zh, nI d, zc, zp, nI q, zt, zb, nI r, H, d, C, P, q, T, B, r, rfl, b1, ze_bC (by omega), b3, b4, ze_bC (by omega), b6, b7, ze_bC (by omega), hD, s1, s2, s3⟩)⟩))))
/-- the row, as it is at the call: all signs taken are counted -/
noncomputable def zr_P (ini : Bool) (g : EG) (fa : EV) (c : EC) (f : EV → Nat → EV → EV → Nat → EV → EV → Nat → Bool) : Bool :=
  zcd (Nat.beq c.1 1301) (zo_m8 c.2 (fun h d cv p q t b r => zcd (zh_n1 d q r 0) (zcd (zh_eq t fa) (f h d cv p q fa b r) (zh_dl g fa t (fun x y => zcd (zh_n1 (Nat.add q (Nat.sub x y)) (Nat.add r (Nat.sub x y)) 0 0) (f h d cv p (Nat.add q (Nat.sub x y)) fa b (Nat.add r (Nat.sub x y))) false))) false))
    (zcd (Nat.beq c.1 1300) (zcd ini (zcd (zh_eq fa (eC 0)) (f (eC 0) 0 (eC 0) (eC 0) 0 fa (eC 0) 0) false) false) false)
theorem zr_P_ok {ini : Bool} {g : EG} {fa : EV} {xa : Int32} {c : EC} {e : va_E} {f : EV → Nat → EV → EV → Nat → EV → EV → Nat → Bool} (h : zr_P ini g fa c f = true) (hG : ze_G g ρ) (ha : ze_V sp ρ ad fa (.int xa)) (hC : ze_C dA sp ρ ad c e) : ∃ h d cv p q b r ff, f h d cv p q fa b r = true ∧ e = .inl (dA 100, 80, .inl ff) ∧ zr_F sp ρ ad h d cv p q fa b r ff := by
  rcases ze_cond h with ⟨k1, h⟩ | ⟨-, h⟩
  · have k1 : c.1 = 1301 := ze_beq k1
    obtain ⟨hv, d, cv, p, q, t, b, r, e1, h⟩ := zo_m8_spec h
    obtain ⟨n1, h⟩ := ze_condf h
    obtain ⟨n2, n1⟩ := ze_condf n1
    obtain ⟨n3, n1⟩ := ze_condf n1
    obtain ⟨n4, -⟩ := ze_condf n1
    have n2 := ze_ble' n2
    have n3 := ze_ble' n3
    have n4 := ze_ble' n4
    obtain ⟨ff, he, hF⟩ := zr_of k1 e1 n2 n3 n4 hC
    rcases ze_cond h with ⟨k2, h⟩ | ⟨-, h⟩
    · have e2 := zh_eq_ok k2
      rw [e2] at hF
      exact ⟨hv, d, cv, p, q, b, r, ff, h, he, hF⟩
    · obtain ⟨zh, zc, zp, zt, zb, H, C, P, T, B, i1, i3, i4, i6, i7, b1, b3, b4, b6, b7, hD, s1, s2, s3⟩ := hF
      obtain ⟨j1, j2, j3⟩ := zh_dl_ok h hG ha i6
      obtain ⟨-, j1⟩ := ze_condf j1
      refine ⟨hv, d, cv, p, _, b, _, ff, j1, he, zh, zc, zp, xa, zb, H, C, P, ze_b xa - 2147483648, B, i1, i3, i4, ha, i7, b1, b3, b4, by omega, b7, hD, ?_, ?_, by omega⟩
      · show C + P + (q + (ze_b xa - ze_b zt)) ≤ _
        omega
      · show B + (r + (ze_b xa - ze_b zt)) ≤ _
        omega
  · obtain ⟨k1, h⟩ := ze_condf h
    obtain ⟨-, h⟩ := ze_condf h
    obtain ⟨k3, h⟩ := ze_condf h
    have k1 : c.1 = 1300 := ze_beq k1
    have e2 := zh_eq_ok k3
    subst e2
    obtain ⟨-, -, zs, ff, hI, he, hP⟩ := hC.pred (by omega)
    have e0 : ze_b (nI 0) = 2147483648 + 0 := ze_bC (by omega)
    exact ⟨eC 0, 0, eC 0, eC 0, 0, eC 0, 0, ff, h, by rw [he, k1]; rfl, nI 0, nI 0, nI 0, nI 0, nI 0, 0, 0, 0, 0, 0, rfl, rfl, rfl, rfl, rfl, e0, e0, e0, e0, e0, Or.inr rfl, by omega, by omega, by omega⟩
end ZRR
/-- an unknown is m at least; there is none: nothing is to be shown -/
noncomputable def zr_lo (g : EG) (v : EV) (m : Nat) (f : EG → Bool) : Bool := zv_ v (fun a => zv_s a (fun _ => f g) (fun x => ze_n g x (fun p => zcd (Nat.ble (ze_mx p.1 m) p.2) (f (ze_s (ze_mx p.1 m, p.2) g x)) true))) (fun _ => f g) (fun _ => f g) (fun _ => f g)
noncomputable def zr_hi (g : EG) (v : EV) (m : Nat) (f : EG → Bool) : Bool := zv_ v (fun a => zv_s a (fun _ => f g) (fun x => ze_n g x (fun p => zcd (Nat.ble p.1 (ze_mn p.2 m)) (f (ze_s (p.1, ze_mn p.2 m) g x)) true))) (fun _ => f g) (fun _ => f g) (fun _ => f g)
theorem zr_lo_ok {sp : Nat → Nat} {ρ : List Int32} {ad : List Nat} {g : EG} {v : EV} {m : Nat} {f : EG → Bool} {x : Int32} (h : zr_lo g v m f = true) (hG : ze_G g ρ) (hv : ze_V sp ρ ad v (.int x)) (hm : m ≤ ze_b x) : ∃ g', ze_G g' ρ ∧ f g' = true := by
  rcases v with (n | i) | ((q | q) | q)
  · exact ⟨g, hG, h⟩
  · obtain ⟨p, e1, h⟩ := ze_n_spec _ _ _ (show ze_n g i _ = true from h)
    obtain ⟨z, z1, z2⟩ := id hv
    cases z2
    have hb := hG.2 i p x e1 z1
    have h1 : ze_mx p.1 m ≤ ze_b x := ze_mx_le hb.1 hm
    have h2 := ze_condt h (ze_ble (Nat.le_trans h1 hb.2))
    exact ⟨_, hG.set (p := (ze_mx p.1 m, p.2)) z1 h1 hb.2, h2⟩
  · exact ⟨g, hG, h⟩
  · exact ⟨g, hG, h⟩
  · exact ⟨g, hG, h⟩
theorem zr_hi_ok {sp : Nat → Nat} {ρ : List Int32} {ad : List Nat} {g : EG} {v : EV} {m : Nat} {f : EG → Bool} {x : Int32} (h : zr_hi g v m f = true) (hG : ze_G g ρ) (hv : ze_V sp ρ ad v (.int x)) (hm : ze_b x ≤ m) : ∃ g', ze_G g' ρ ∧ f g' = true := by
  rcases v with (n | i) | ((q | q) | q)
  · exact ⟨g, hG, h⟩
  · obtain ⟨p, e1, h⟩ := ze_n_spec _ _ _ (show ze_n g i _ = true from h)
    obtain ⟨z, z1, z2⟩ := id hv
    cases z2
    have hb := hG.2 i p x e1 z1
    have h1 : ze_b x ≤ ze_mn p.2 m := ze_mn_le hb.2 hm
    have h2 := ze_condt h (ze_ble (Nat.le_trans hb.1 h1))
    exact ⟨_, hG.set (p := (p.1, ze_mn p.2 m)) z1 hb.1 h1, h2⟩
  · exact ⟨g, hG, h⟩
  · exact ⟨g, hG, h⟩
  · exact ⟨g, hG, h⟩
section ZRM
variable {l : Launch} {dC : Nat → ClassId} {dI : Nat → Nat → Nat} {dA : Nat → ClassId} {sp : Nat → Nat} {xs : ZXs} {A : Nat → Prop}
/-- another going on -/
theorem zr_met {yn : MethodName} {cs : List Cond} {rm : Room} {Pr : Array Value → State → Prop} {cy sy : Nat} {k1 k2 : ERt} {ρ ρ' : List Int32} {ad : List Nat} (hρ : ρ <+: ρ') (hk : ∀ (r : Option EV) (w : EW) (g : EG) (ρ1 : List Int32) (ws1 : va_W), k1 r w g = true → ρ' <+: ρ1 → ze_G g ρ1 → ze_W dA sp ρ1 w ws1 → ∃ w' g', k2 r w' g' = true ∧ ze_G g' ρ1 ∧ ze_W dA sp ρ1 w' ws1) (hM : Met l yn cs rm Pr (ze_Qc dC dI dA sp A k1 ρ' ad) cy sy A) : Met l yn cs rm Pr (ze_Qc dC dI dA sp A k2 ρ ad) cy sy A := by
  intro p e ha hc hk9 s m args below hf happ hpp h9
  obtain ⟨n9, oc, r1, r2, r3, hQ, L9, hFE, hL9⟩ := hM p e ha hc hk9 s m args below hf happ hpp h9
  refine ⟨n9, oc, r1, r2, r3, ?_, L9, hFE, hL9⟩
  obtain ⟨⟨r, w1, gg, ρ1, ws1, v, hke, hpre, had, hG1, hW1, hPt, hD1, hOV, ho⟩, hF1⟩ := hQ
  obtain ⟨w', g', q1, q2, q3⟩ := hk r w1 gg ρ1 ws1 hke hpre hG1 hW1
  exact ⟨⟨r, w', g', ρ1, ws1, v, q1, hρ.trans hpre, had, q2, q3, hPt, hD1, hOV, ho⟩, hF1⟩
/-- signs known by their interval, seen as such of which one is known -/
noncomputable def zr_t (ft : Nat) (cal : ECal) : ECal := fun y av w g k => zl_ av (fun a _ => zv_r a (fun i => ze_g w i (fun o => ze_n o.2 ft (fun tv => zv_r tv (fun jt => ze_g w jt (fun c => zcd (Nat.beq c.1 1303) (cal y av w g k)
  (zcd (Nat.beq c.1 1100) (zo_s3 c.2 (fun n lo hi => zcd (zcd (Nat.beq n 80) (zcd (Nat.ble 2147483648 lo) (Nat.ble hi 2147483903) false) false) (ze_f g.length (fun z => cal y av (ze_ws w jt (1303, [eC 0, eU z])) (g ++ [(2147483648, 2147483903)]) k)) false)) false)))))))
theorem ze_W.see {ρ : List Int32} {w : EW} {ws : va_W} {q a : Nat} {e1 : va_E} {c1 : EC} (hW : ze_W dA sp ρ w ws) (hq : ws[q]? = some (a, e1)) (hC : ze_C dA sp ρ (ws.map (·.1)) c1 e1) : ze_W dA sp ρ (ze_ws w q c1) ws := by
  have e7 : ws.set q (a, e1) = ws := by
    apply List.ext_getElem?
    intro i
    by_cases hi : q = i
    · subst hi
      rw [List.getElem?_set_self (List.getElem?_eq_some_iff.mp hq).1, hq]
    · rw [List.getElem?_set_ne hi]
  have hs := hW.set hq hC
  rw [e7] at hs
  exact hs
theorem zv_r_spec {v : EV} {f : Nat → Bool} (h : zv_r v f = true) : ∃ q, v = eR q ∧ f q = true := by
  rcases v with a | ((q | a) | a)
  · cases h
  · exact ⟨q, rfl, h⟩
  · cases h
  · cases h
theorem zr_t_ok {ft : Nat} {cal : ECal} {y d : Nat} {yn : MethodName} {yb : ByteArray} {yL : Nat} {yr : Option FieldType} {cy sy : Nat} (hcal : ze_Cal l dC dI dA sp xs A cal y d yn yb yL yr cy sy) : ze_Cal l dC dI dA sp xs A (zr_t ft cal) y d yn yb yL yr cy sy := by
  intro av w g k' h ρ ws avs hG hX hW hL
  obtain ⟨a, r9, e1, h1⟩ := zl_spec h
  obtain ⟨i, e2, h2⟩ := zv_r_spec h1
  obtain ⟨o, e3, h3⟩ := ze_g_spec h2
  obtain ⟨tv, e4, h4⟩ := ze_n_spec _ _ _ h3
  obtain ⟨jt, e5, h5⟩ := zv_r_spec h4
  obtain ⟨c, e6, h6⟩ := ze_g_spec h5
  rcases ze_cond h6 with ⟨-, h7⟩ | ⟨-, h7⟩
  · exact hcal av w g k' h7 ρ ws avs hG hX hW hL
  · obtain ⟨k1, h7⟩ := ze_condf h7
    have k1 : c.1 = 1100 := ze_beq k1
    obtain ⟨n, lo, hi, e7, h8⟩ := zo_s3_spec h7
    obtain ⟨k2, h8⟩ := ze_condf h8
    obtain ⟨k2, k3⟩ := ze_condf k2
    obtain ⟨k3, k4⟩ := ze_condf k3
    have k2 : n = 80 := ze_beq k2
    have k3 := ze_ble' k3
    have k4 := ze_ble' k4
    rw [ze_f_eq] at h8
    obtain ⟨a9, e9, q1, q2⟩ := hW.2 jt c e6
    obtain ⟨n', lo', hi', f, e10, e11, hf⟩ := q2.sumI (by omega) (by omega)
    rw [e7] at e10
    injection e10 with a1 t1
    injection t1 with a2 t2
    injection t2 with a3 _
    cases a1; cases a2; cases a3
    have e11 : e9 = .inl (dA 100, 80, .inl f) := by rw [e11, k1, k2]
    subst e11
    have hb : ∀ j, j < 80 → 2147483648 ≤ ze_b (f j) ∧ ze_b (f j) ≤ 2147483903 := fun j hj => by have := hf j (by omega); omega
    have hp : ρ <+: ρ ++ [f 0] := List.prefix_append _ _
    have hG' := hG.push (p := (2147483648, 2147483903)) (hb 0 (by omega)).1 (hb 0 (by omega)).2
    have hW' := (hW.rho hp).see q1 (c1 := (1303, [eC 0, eU g.length])) (Or.inr (Or.inr (Or.inr (Or.inr (Or.inr ⟨(by show 1300 ≤ 1303; decide), (by show 1303 < 1400; decide), [nI 0, f 0], f, ze_I.push rfl (ze_I.push ⟨_, hG.new _, rfl⟩ ze_I.nil), rfl, Or.inr (Or.inr (Or.inr ⟨Nat.le_refl _, Or.inl ⟨rfl, nI 0, f 0, 0, rfl, ze_bC (by omega), by omega, rfl, hb⟩⟩))⟩)))))
    exact zr_met hp (fun r w1 g1 ρ1 ws1 q3 q4 q5 q6 => ⟨w1, g1, q3, q5, q6⟩) (hcal av _ _ k' h8 (ρ ++ [f 0]) ws avs hG' (hX.mono hp) hW' (hL.mono hp (List.prefix_refl _)))
/-- a shift of the row: from d1 on, owed q1 -/
noncomputable def zr_k (n j d d1 q q1 r : Nat) (h p t b : EV) (k : ERt) : ERt := fun r2 w2 g2 => ze_g w2 j (fun c2 => zcd (Nat.beq c2.1 1301) (zo_m8 c2.2 (fun h2 d2 cv2 p2 q2 t2 b2 e2 => zcd (zh_eq h2 (eU n)) (zcd (zh_eq p2 (eU (Nat.succ n))) (zcd (zh_eq b2 t) (zcd (zcd (zcd (Nat.ble d2 50) true (Nat.beq d2 255)) (zcd (Nat.ble q2 200) (Nat.ble e2 200) false) false)
  (zr_lo g2 t2 (Nat.add (zo_iv g2 t).1 e2) (fun g3 => zr_hi g3 cv2 (Nat.sub (Nat.sub (zo_iv g3 t2).2 (Nat.sub (zo_iv g3 p).1 2147483648)) (Nat.add q2 (Nat.sub q q1))) (fun g4 => k r2 (ze_ws w2 j (1301, [h, eC (zcd (Nat.beq d2 255) 255 (Nat.add d2 (Nat.sub d d1))), cv2, p, eC (Nat.add q2 (Nat.sub q q1)), t2, b, eC (Nat.add e2 r)])) g4))) false) false) false) false)) false)
noncomputable def zr_w (y0 fr fa d1 q1 : Nat) (ini : Bool) (cal : ECal) : ECal := fun y av w g k => zcd (zcd (Nat.beq y y0) (Nat.ble (Nat.succ y) 400) false) (zl_ av (fun a _ => zv_r a (fun i => ze_g w i (fun o => zcd (Nat.ble o.1 99) (ze_n o.2 fr (fun rv => zv_r rv (fun j => ze_n o.2 fa (fun at9 => zv_i at9 (fun au => ze_g w j (fun c => zr_P ini g (.inl au) c (fun h d cv p q t b r =>
  zcd (zcd (zcd (Nat.beq d1 255) (Nat.beq d 255) (zcd (Nat.beq d 255) false (zcd (Nat.ble d1 d) (Nat.ble d 50) false))) (zcd (Nat.ble q1 q) (zcd (Nat.ble q 200) (Nat.ble r 200) false) false) false)
    (ze_f g.length (fun n => cal y av (ze_ws w j (1301, [eU n, eC d1, cv, eU (Nat.succ n), eC q1, t, t, eC 0])) (g ++ [(2147483648, 4294967295), (2147483648, 4294967295)]) (zr_k n j d d1 q q1 r h p t b k))) false))))))) false)))) false
theorem zr_w_ok {y0 fr fa d1 q1 : Nat} {ini : Bool} (hd1 : d1 ≤ 50 ∨ d1 = 255) {cal : ECal} {y d0 : Nat} {yn : MethodName} {yb : ByteArray} {yL : Nat} {yr : Option FieldType} {cy sy : Nat} (hcal : ze_Cal l dC dI dA sp xs A cal y d0 yn yb yL yr cy sy) : ze_Cal l dC dI dA sp xs A (zr_w y0 fr fa d1 q1 ini cal) y d0 yn yb yL yr cy sy := by
  intro av w g k' h ρ ws avs hG hX hW hL
  obtain ⟨-, h⟩ := ze_condf h
  obtain ⟨a, r9, e1, h1⟩ := zl_spec h
  obtain ⟨i, e2, h2⟩ := zv_r_spec h1
  obtain ⟨o, e3, h3⟩ := ze_g_spec h2
  obtain ⟨k0, h3⟩ := ze_condf h3
  obtain ⟨rv, e4, h4⟩ := ze_n_spec _ _ _ h3
  obtain ⟨j, e5, h5⟩ := zv_r_spec h4
  obtain ⟨at9, e6, h6⟩ := ze_n_spec _ _ _ h5
  have k0 := ze_ble' k0
  rcases at9 with au | ((q9 | q9) | q9)
  case inr.inl.inl => cases h6
  case inr.inl.inr => cases h6
  case inr.inr => cases h6
  obtain ⟨c, e7, h7⟩ := ze_g_spec (show ze_g w j _ = true from h6)
  obtain ⟨a0, e0, p1, p2⟩ := hW.2 i o e3
  obtain ⟨fs, -, hfs⟩ := p2.obj (by omega)
  obtain ⟨X0, -, hX0⟩ := hfs.get e6
  obtain ⟨xa, exa⟩ := ze_intV hX0
  subst exa
  obtain ⟨a9, e9, p3, p4⟩ := hW.2 j c e7
  obtain ⟨hv, d, cv, p, q, b, r, ff, h8, he, hF⟩ := zr_P_ok h7 hG hX0 p4
  subst he
  obtain ⟨c1, h8⟩ := ze_condf h8
  obtain ⟨c1, c2⟩ := ze_condf c1
  obtain ⟨c2, c3⟩ := ze_condf c2
  obtain ⟨c3, c4⟩ := ze_condf c3
  have c2 := ze_ble' c2
  have c3 := ze_ble' c3
  have c4 := ze_ble' c4
  rw [ze_f_eq] at h8
  obtain ⟨zh, zc, zp, zt, zb, H, C, P, T, B, i1, i3, i4, i6, i7, b1, b3, b4, b6, b7, hD, s1, s2, s3⟩ := hF
  have hd : (d1 = 255 ∧ d = 255) ∨ (d1 ≤ d ∧ d ≤ 50 ∧ d ≠ 255 ∧ d1 ≠ 255) := by
    rcases ze_cond c1 with ⟨u1, u2⟩ | ⟨u1, u2⟩
    · exact Or.inl ⟨ze_beq u1, ze_beq u2⟩
    · rcases ze_cond u2 with ⟨-, u3⟩ | ⟨u3, u4⟩
      · cases u3
      · obtain ⟨u4, u5⟩ := ze_condf u4
        exact Or.inr ⟨ze_ble' u4, ze_ble' u5, ze_nbeq u3, ze_nbeq u1⟩
  -- the height that the call counts from
  obtain ⟨gh, H1, g1, g2⟩ : ∃ (gh : Int32) (H1 : Nat), ze_b gh = 2147483648 + H1 ∧ H1 = H + (d - d1) := by
    rcases hd with ⟨u1, u2⟩ | ⟨u1, u2, u3, u4⟩
    · exact ⟨zh, H, b1, by omega⟩
    · rcases hD with hD | hD
      · omega
      · have hle := zq_h_le _ _ hD
        exact ⟨nI (H + (d - d1)), H + (d - d1), ze_bC (by omega), rfl⟩
  have g3 : ze_b (nI (P + (q - q1))) = 2147483648 + (P + (q - q1)) := ze_bC (by omega)
  have hp : ρ <+: ρ ++ [gh, nI (P + (q - q1))] := List.prefix_append _ _
  have hl0 : ρ.length = g.length := hG.1.symm
  have v1 : (ρ ++ [gh, nI (P + (q - q1))])[g.length]? = some gh := by
    rw [List.getElem?_append_right (by omega), hl0, Nat.sub_self]
    rfl
  have v2 : (ρ ++ [gh, nI (P + (q - q1))])[g.length + 1]? = some (nI (P + (q - q1))) := by
    rw [List.getElem?_append_right (by omega), hl0, Nat.add_sub_cancel_left]
    rfl
  have hG' : ze_G (g ++ [(2147483648, 4294967295), (2147483648, 4294967295)]) (ρ ++ [gh, nI (P + (q - q1))]) := by
    have w1 := hG.push (x := gh) (p := (2147483648, 4294967295)) (by show 2147483648 ≤ ze_b gh; omega) (ze_b_top _)
    have w2 := w1.push (x := nI (P + (q - q1))) (p := (2147483648, 4294967295)) (by show 2147483648 ≤ ze_b (nI (P + (q - q1))); omega) (ze_b_top _)
    rw [List.append_assoc, List.append_assoc] at w2
    exact w2
  have hF1 : zr_F sp (ρ ++ [gh, nI (P + (q - q1))]) (ws.map (·.1)) (eU g.length) d1 cv (eU (g.length + 1)) q1 (.inl au) (.inl au) 0 ff := by
    refine ⟨gh, zc, nI (P + (q - q1)), zt, zt, H1, C, P + (q - q1), T, T, ⟨_, v1, rfl⟩, i3.mono hp (List.prefix_refl _), ⟨_, v2, rfl⟩, i6.mono hp (List.prefix_refl _), i6.mono hp (List.prefix_refl _), g1, b3, g3, b6, b6, ?_, by omega, by omega, s3⟩
    rcases hd with ⟨u1, u2⟩ | ⟨u1, u2, u3, u4⟩
    · exact Or.inl u1
    · rcases hD with hD | hD
      · omega
      · exact Or.inr (by rw [hD, g2, show H + (d - d1) + d1 = H + d by omega])
  have hW' := (hW.rho hp).see p3 (zr_to (dA := dA) (by omega) (by omega) (by omega) hF1)
  refine zr_met hp (fun r2 w2 gg ρ1 ws1 q3 q4 q5 q6 => ?_) (hcal av _ _ _ h8 _ ws avs hG' (hX.mono hp) hW' (hL.mono hp (List.prefix_refl _)))
  obtain ⟨c2', m1, q3⟩ := ze_g_spec q3
  obtain ⟨m2, q3⟩ := ze_condf q3
  have m2 : c2'.1 = 1301 := ze_beq m2
  obtain ⟨h2, d2, cv2, p2', o2, t2, b2, r2', m3, q3⟩ := zo_m8_spec q3
  obtain ⟨m4, q3⟩ := ze_condf q3
  obtain ⟨m5, q3⟩ := ze_condf q3
  obtain ⟨m6, q3⟩ := ze_condf q3
  obtain ⟨m7, q3⟩ := ze_condf q3
  obtain ⟨m7, m8⟩ := ze_condf m7
  obtain ⟨m8, m9⟩ := ze_condf m8
  have m8 := ze_ble' m8
  have m9 := ze_ble' m9
  have m7 : d2 ≤ 50 ∨ d2 = 255 := by
    rcases ze_cond m7 with ⟨u, -⟩ | ⟨-, u⟩
    · exact Or.inl (ze_ble' u)
    · exact Or.inr (ze_beq u)
  obtain ⟨a8, e8, n1, n2⟩ := q6.2 j c2' m1
  obtain ⟨ff2, he2, hF2⟩ := zr_of m2 m3 (by omega) (by omega) (by omega) n2
  subst he2
  rw [zh_eq_ok m4, zh_eq_ok m5, zh_eq_ok m6] at hF2
  obtain ⟨zh2, zc2, zp2, zt2, zb2, H2, C2, P2, T2, B2, y1, y3, y4, y6, y7, x1, x3, x4, x6, x7, yD, t1, t2', t3⟩ := hF2
  have hp2 : ρ <+: ρ1 := hp.trans q4
  have f1 : zh2 = gh := by
    obtain ⟨z, z1, z2⟩ := id y1
    rw [ze_pre q4 v1] at z1
    cases z1
    exact Value.int.inj z2
  have f2 : zp2 = nI (P + (q - q1)) := by
    obtain ⟨z, z1, z2⟩ := id y4
    rw [ze_pre q4 v2] at z1
    cases z1
    exact Value.int.inj z2
  have f3 : zb2 = zt := by
    have z9 := i6.mono hp2 (List.prefix_refl (ws.map (·.1)))
    rcases au with n9 | i9
    · exact (ze_VC (n := n9) y7).trans (ze_VC (n := n9) i6).symm
    · obtain ⟨z1, z2, z3⟩ := id y7
      obtain ⟨z4, z5, z6⟩ := id z9
      rw [z2] at z5
      cases z5
      exact (Value.int.inj z3).trans (Value.int.inj z6).symm
  subst f1; subst f2; subst f3
  have f4 : H2 = H1 := by omega
  have f5 : P2 = P + (q - q1) := by omega
  have f6 : B2 = T := by omega
  subst f4; subst f5; subst f6
  have mo : ∀ {v : EV} {x : Int32}, ze_V sp ρ (ws.map (·.1)) v (.int x) → ze_V sp ρ1 (ws1.map (·.1)) v (.int x) := fun {v} {x} hv => by
    refine zf_ad (ad := ws.map (·.1)) (fun q9 e9 => ?_) (hv.mono hp2 (List.prefix_refl _))
    subst e9
    obtain ⟨_, _, z9⟩ := hv
    cases z9
  have z7 := zi_iv q5 y7
  obtain ⟨g3', hG3, q3⟩ := zr_lo_ok q3 q5 y6 (by show (zo_iv gg (.inl au)).1 + r2' ≤ ze_b zt2; omega)
  have z8 := zi_iv hG3 y6
  have z9 := zi_iv hG3 (mo i4)
  obtain ⟨g4', hG4, q3⟩ := zr_hi_ok q3 hG3 y3 (by show ze_b zc2 ≤ (zo_iv g3' t2).2 - ((zo_iv g3' p).1 - 2147483648) - (o2 + (q - q1)); omega)
  refine ⟨_, g4', q3, hG4, q6.see n1 (zr_to (dA := dA) (f := ff2) ?_ (by show o2 + (q - q1) ≤ 1000; omega) (by show r2' + r ≤ 1000; omega) ⟨zh, zc2, zp, zt2, zb, H, C2, P, T2, B, mo i1, y3, mo i4, y6, mo i7, b1, x3, b4, x6, b7, ?_, ?_, ?_, t3⟩)⟩
  · cases hq : Nat.beq d2 255 with
    | true => show (255 : Nat) ≤ 1000; omega
    | false =>
      show d2 + (d - d1) ≤ 1000
      omega
  · cases hq : Nat.beq d2 255 with
    | true => exact Or.inl rfl
    | false =>
      have hq := ze_nbeq hq
      rcases yD with yD | yD
      · omega
      · refine Or.inr ?_
        show zq_h ff2 C2 = some (H + (d2 + (d - d1)))
        rw [yD, g2, show H + (d - d1) + d2 = H + (d2 + (d - d1)) by omega]
  · show C2 + P + (o2 + (q - q1)) ≤ T2
    omega
  · show B + (r2' + r) ≤ T2
    omega
end ZRM
theorem ZE.rd {SP : ECal} {d0 : Nat} (y0 fr ft fa d1 q1 : Nat) (ini : Bool) (hd1 : d1 ≤ 50 ∨ d1 = 255) (h : ZE SP d0) : ZE (zr_w y0 fr fa d1 q1 ini (zr_t ft SP)) d0 := ⟨fun y av w g k h9 => ze_ble' (ze_condf (ze_condf h9).1).2, fun l dC dI dA sp xs A D hD y q hy => zr_w_ok hd1 (zr_t_ok (h.2 l dC dI dA sp xs A D hD y q hy))⟩
