/-! contracts under facts -/
noncomputable def zg_cal (y0 N : Nat) (ps : List (Nat ⊕ (Nat × Nat))) (pa : List Nat) (pl pk : List (Nat × Nat)) (pg : List EV) (FAs FA : List ZFf) (av0 : List EV) (wg : EW) (g0 : EG) (es : List ZN) : ECal := fun y av w g k => zcd (Nat.beq y y0) (zf_ix av w ps [] (fun idx => zg_at1 N idx pa pl pk pg FAs FA av0 wg g0 es av w g k)) false
/-- contracts that hold where the facts FA do -/
def ZEF (FA : List ZFf) (SP : ECal) (d0 : Nat) : Prop := ∀ (l : Launch) (dC : Nat → ClassId) (dI : Nat → Nat → Nat) (dA : Nat → ClassId) (sp : Nat → Nat) (xs : ZXs) (A : Nat → Prop), zF_ok FA xs.2 → ze_Op xs SP ∧ ∀ D, d0 ≤ D → ∀ y q, zm y = some q → ze_Cal l dC dI dA sp xs A SP y D q.1 q.2.1 q.2.2.1 q.2.2.2.1 q.2.2.2.2.2.1 q.2.2.2.2.2.2
theorem ZEF.of {FA : List ZFf} {SP : ECal} {d0 : Nat} (h : ZE SP d0) : ZEF FA SP d0 := fun l dC dI dA sp xs A _ => ⟨h.1.op, fun D hD => h.2 l dC dI dA sp xs A D hD⟩
theorem ZEF.or {FA : List ZFf} {a b : ECal} {d1 d2 d3 : Nat} (ha : ZEF FA a d1) (hb : ZEF FA b d2) (h1 : d1 ≤ d3) (h2 : d2 ≤ d3) : ZEF FA (zS_or a b) d3 := by
  intro l dC dI dA sp xs A hF
  obtain ⟨a1, a2⟩ := ha l dC dI dA sp xs A hF
  obtain ⟨b1, b2⟩ := hb l dC dI dA sp xs A hF
  refine ⟨fun op x y w g k' h => ?_, fun D hD y q hq av w g k' h => ?_⟩
  · rcases ze_cond (show zcd (a (Nat.add 400 op) [.inl x, .inl y] w g k') true (b (Nat.add 400 op) [.inl x, .inl y] w g k') = true from h) with ⟨h, -⟩ | ⟨-, h⟩
    · exact a1 op x y w g k' h
    · exact b1 op x y w g k' h
  · rcases ze_cond (show zcd (a y av w g k') true (b y av w g k') = true from h) with ⟨h, -⟩ | ⟨-, h⟩
    · exact a2 D (Nat.le_trans h1 hD) y q hq av w g k' h
    · exact b2 D (Nat.le_trans h2 hD) y q hq av w g k' h
theorem ZEF.fa {FA : List ZFf} : ZEF FA (zS_fa FA) 3 := by
  intro l dC dI dA sp xs A hF
  refine ⟨zS_fa_op hF, fun D hD y q hq av w g k' h => ?_⟩
  have h1 := zS_fa_y h
  have h2 := zm_lt hq
  omega
theorem zX_okF {l : Launch} {dC : Nat → ClassId} {dI : Nat → Nat → Nat} {dA : Nat → ClassId} {sp : Nat → Nat} {xs : ZXs} {A : Nat → Prop} {FA : List ZFf} {SP : ECal} {d0 : Nat} (h3d : 3 ≤ d0) (h : ZEF FA SP d0) (hF : zF_ok FA xs.2) (n : Nat) : ze_CalA l dC dI dA sp xs A (zX SP n) (d0 + n) := zX_ok h3d (h l dC dI dA sp xs A hF).1 (h l dC dI dA sp xs A hF).2 n
/-- a method from a pattern of its start to some ends, under facts -/
def ZGF (FAs : List ZFf) (q : ZMt) (D0 : Nat) (av0 : List EV) (wg : EW) (g0 : EG) (es : List ZN) : Prop := ∀ (l : Launch) (dC : Nat → ClassId) (dI : Nat → Nat → Nat) (dA : Nat → ClassId) (sp : Nat → Nat) (x0 : Nat → Int32) (D : Nat), D0 ≤ D → ∀ (A : Nat → Prop) (ρ : List Int32) (ws : va_W) (avs : List Value), g0.length ≤ ρ.length → ze_G g0 ρ → ze_Z (x0, ρ.take g0.length) ρ → zF_ok FAs (ρ.take g0.length) → ze_W dA sp ρ wg ws → ze_L sp ρ (ws.map (·.1)) av0 avs → Met l q.1 (.code q.1 q.2.1 q.2.2.1 q.2.2.2.1 :: zb_T) (ze_rm D q.2.2.2.2.2.1 q.2.2.2.2.2.2) (va_Pc avs (ze_Pc dC dI dA sp (x0, ρ.take g0.length) A ws)) (ze_Qc dC dI dA sp A (zy_ends g0.length es) (ρ.take g0.length) (ws.map (·.1))) q.2.2.2.2.2.1 q.2.2.2.2.2.2 A
theorem ZGF.met {FAs : List ZFf} {SP : ECal} {d0 n : Nat} (h3d : 3 ≤ d0) (hSP : ZEF FAs SP d0) {y0 : Nat} {q : ZMt} (hq : zm y0 = some q) {ch : List EM} {m9 : EM} (h1 : zp_all[y0 / 16]? = some ch) (h2 : ch[y0 % 16]? = some m9) {av0 : List EV} {wg : EW} {g0 : EG} {es : List ZN}
    {hd : List Nat} {F : Nat} {KS : List ZC} {js : List Nat} {N2 : Nat} (hN2 : g0.length = N2) (hg0 : 10 ≤ N2) {sp0 : List (Nat × List Nat)} (hE : zy_spl (fun g => zy_en m9 (zX SP n) (zy_ends N2 es) hd F (zy_B N2 KS js) av0 wg g) sp0 g0 = true) (hst : ∀ i, i < KS.length → zy_f N2 m9.1 (zX SP n) m9.2.2.1 m9.2.2.2 (zy_ends N2 es) hd F KS i = true) : ZGF FAs q (d0 + n + 1) av0 wg g0 es := by
  subst hN2
  intro l dC dI dA sp x0 D hD A ρ ws avs k1 k2 k3 kF k4 k5
  obtain ⟨g', hG', hE'⟩ := zy_spl_ok sp0 g0 hE k2
  have hlen : (ρ.take g0.length).length ≤ g0.length := by rw [List.length_take]; omega
  exact zy_met (xs := (x0, ρ.take g0.length)) hq h1 h2 hg0 hlen (zX_okF h3d hSP kF n) hE' hst (Nat.le_trans h3d (Nat.le_add_right _ _)) hD k1 hG' k3 k4 k5
theorem ZGF.ze {FAs FA : List ZFf} {y0 : Nat} {q : ZMt} (hq : zm y0 = some q) (hq0 : q.2.2.2.2.2.1 = 0 ∧ q.2.2.2.2.2.2 = 0) {D0 : Nat} {ps : List (Nat ⊕ (Nat × Nat))} {pa : List Nat} {pl pk : List (Nat × Nat)} {pg : List EV} {av0 : List EV} {wg : EW} {g0 : EG} {es : List ZN} (hrr : ∀ e ∈ es, e.1 ≠ some (eX 1)) (h : ZGF FAs q D0 av0 wg g0 es) : ZEF FA (zg_cal y0 10 ps pa pl pk pg FAs FA av0 wg g0 es) D0 := by
  intro l dC dI dA sp xs A hF
  have hy : ∀ y av w g k, zg_cal y0 10 ps pa pl pk pg FAs FA av0 wg g0 es y av w g k = true → y = y0 := fun _ _ _ _ _ h => ze_beq (ze_condf h).1
  refine ⟨(zs_lt1 hq hy).op, fun D hD => zS_one hq hy ?_⟩
  intro av w g k' h9 ρ ws avs hG hX hW hL
  obtain ⟨-, h9⟩ := ze_condf h9
  obtain ⟨idx, h9⟩ := zf_ix_ok ps [] h9
  have hloc := fun (sp : Nat → Nat) (A : Nat → Prop) (ρ : List Int32) (ws : va_W) (avs : List Value) k1 k2 k3 kF k4 k5 => h l dC dI dA sp xs.1 D hD A ρ ws avs k1 k2 k3 kF k4 k5
  rw [hq0.1, hq0.2] at hloc ⊢
  exact zg_met (by decide) hF hrr hloc h9 hG hX hW hL
