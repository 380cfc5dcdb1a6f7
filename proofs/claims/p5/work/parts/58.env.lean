/-! calls, some of them by contracts -/
section ZEV
variable {l : Launch} {dC : Nat → ClassId} {dI : Nat → Nat → Nat} {dA : Nat → ClassId} {sp : Nat → Nat} {xs : ZXs} {A : Nat → Prop}
noncomputable def ze_ex1 (pr : List (List EM)) (cal : ECal) : ECal := fun y av w g k => ze_n pr (Nat.div y 16) (fun ch => ze_n ch (Nat.mod y 16) (fun m => zcd (Nat.ble (ze_cs av) m.2.1) (ze_jp m.1 0 (fun cs => ze_loop (ze_jp m.1) cal m.2.2.1 m.2.2.2 k 1000000000 cs (ze_il av m.2.1) [] w g 0 0)) false))
theorem ze_ex1_ok (hZ : ZF) {pr : List (List EM)} (hT : ZT pr) {cal : ECal} {d : Nat} (h3d : 3 ≤ d) (hcal : ze_CalA l dC dI dA sp xs A cal d) : ∀ (y : Nat) (q : ZMt), zm y = some q → ze_Cal l dC dI dA sp xs A (ze_ex1 pr cal) y (d + 1) q.1 q.2.1 q.2.2.1 q.2.2.2.1 q.2.2.2.2.2.1 q.2.2.2.2.2.2 := by
  intro y q hq av w g k' h ρ ws avs hG hX hW hL
  obtain ⟨ch, h1, h⟩ := ze_n_spec _ _ _ h
  obtain ⟨m9, h2, h⟩ := ze_n_spec _ _ _ h
  obtain ⟨h3, h⟩ := ze_condf h
  obtain ⟨cs, h4, h⟩ := ze_jp_spec h
  obtain ⟨e1, e2, e3, hpl, hzn, ini, hini, hcode, e9, r9, h5, h6⟩ := hT y ch m9 q h1 h2 hq
  have e5 : cs = e9 :: r9 := by
    unfold ze_tgt at h4
    rw [show (0 / 16 : Nat) = 0 from rfl, h5] at h4
    exact (Option.some.inj h4).symm
  subst e5
  refine Met.ofW (cc := q.2.1) (maxL := q.2.2.1) (ret := q.2.2.2.1) hpl rfl ?_
  intro p e s m args below meth c s₁ B hml hP
  obtain ⟨rfl, hP1, hP2, hP3, hP4, hP5⟩ := hP
  have hts := atoms_spec (ws := Cond.code q.1 q.2.1 q.2.2.1 q.2.2.2.1 :: zb_T) B.pre
  have hown : s.vm.findClass q.1.cls = some m.cls := findClass_of_methodNamed B.named
  have hnm := (name_of_methodNamed B.named B.method).1
  have hFx : ze_Fx p l (headSpec (Cond.code q.1 q.2.1 q.2.2.1 q.2.2.2.1 :: zb_T) (ze_rm (d + 1) q.2.2.2.2.2.1 q.2.2.2.2.2.2)).room s m avs.toArray meth c dC dI dA sp xs A q.2.2.2.2.1 q.2.2.1 d q.2.1 q.2.2.2.1 ini m9.1 cal q.2.2.2.2.2.1 q.2.2.2.2.2.2 :=
    ⟨hZ, B.exec, B.bytes, hml, by rw [hzn]; exact hown, hP2, hP5, hP4, fun w hw => hts w (List.mem_cons_of_mem _ hw), ⟨rfl, rfl⟩, ⟨h3d, Nat.le_refl _, Nat.le_refl _⟩, fun hi => hnm.trans (hini hi), hcal, hcode⟩
  have hend := ze_ends (l := l) (dC := dC) (dI := dI) (dA := dA) (sp := sp) (xs := xs) (A := A) (e := e) (R := (headSpec (Cond.code q.1 q.2.1 q.2.2.1 q.2.2.2.1 :: zb_T) (ze_rm (d + 1) q.2.2.2.2.2.1 q.2.2.2.2.2.2)).room) (s := s) (m := m) (args := avs.toArray) (below := below) (nL := q.2.2.1) (mc := q.2.2.2.2.2.1) (ms := q.2.2.2.2.2.2) (k := k') (z0 := (ρ, ws.map (·.1))) B.exec B.bytes B.returns B.notSynchronized
  rw [lg_entry_eq]
  have hl := lv_entry avs (n := q.2.2.1) (Nat.le_trans (ze_sl_len avs) (by rw [ze_cs_sum hL, ← e1]; exact ze_ble' h3))
  rw [e1, e2, e3] at h
  refine ze_loop_ok hFx hend _ _ _ _ _ _ _ _ h 0 ⟨hcode _ (List.mem_of_getElem? h5), e9, r9, rfl, h6⟩ ρ ws s.heap [] _ [] ⟨hG, ⟨hX, List.prefix_refl _, List.prefix_refl _⟩, hW, hP1, hP3, ⟨Nat.le_refl _, fun _ _ _ => rfl, fun q hq => by cases hq⟩, ⟨_, hl, ?_⟩, trivial⟩
  intro j v hj hn
  obtain ⟨x, q1, q2⟩ := ze_il_LL av avs _ 0 hL j v hj hn
  rw [Nat.zero_add] at q1
  exact ⟨x, q1, q2⟩
/-- calls by contracts SP, all others run, n deep -/
noncomputable def zX (SP : ECal) (n : Nat) : ECal := Nat.rec (motive := fun _ => ECal) (fun _ _ _ _ _ => false) (fun _ ih y av w g k => zcd (SP y av w g k) true (ze_ex1 zp_all ih y av w g k)) n
theorem zp_len : zp_all.length ≤ 25 := by decide +kernel
theorem zm_len : zm_.length ≤ 25 := by decide +kernel
theorem zm_lt {y : Nat} {q : ZMt} (h : zm y = some q) : y < 400 := by
  rcases Nat.lt_or_ge y 400 with h1 | h1
  · exact h1
  · have h2 : zm_[y / 16]? = none := List.getElem?_eq_none (by have := zm_len; omega)
    unfold zm at h
    rw [h2] at h
    cases h
theorem zX_ok {SP : ECal} {d0 : Nat} (h3d : 3 ≤ d0) (hop : ze_Op xs SP) (hSP : ∀ D, d0 ≤ D → ∀ y q, zm y = some q → ze_Cal l dC dI dA sp xs A SP y D q.1 q.2.1 q.2.2.1 q.2.2.2.1 q.2.2.2.2.2.1 q.2.2.2.2.2.2) : ∀ (n : Nat), ze_CalA l dC dI dA sp xs A (zX SP n) (d0 + n) := by
  intro n
  induction n with
  | zero => exact ⟨fun y q hq av w g k' h => (by cases h), fun op a b w g k' h => (by cases h)⟩
  | succ n ih =>
    refine ⟨fun y q hq av w g k' h => ?_, fun op a b w g k' h => ?_⟩
    · rcases ze_cond (show zcd (SP y av w g k') true (ze_ex1 zp_all (zX SP n) y av w g k') = true from h) with ⟨h, -⟩ | ⟨-, h⟩
      · exact hSP (d0 + (n + 1)) (by omega) y q hq av w g k' h
      · exact ze_ex1_ok zF zp_ok (Nat.le_trans h3d (Nat.le_add_right _ _)) ih y q hq av w g k' h
    · rcases ze_cond (show zcd (SP (Nat.add 400 op) [.inl a, .inl b] w g k') true (ze_ex1 zp_all (zX SP n) (Nat.add 400 op) [.inl a, .inl b] w g k') = true from h) with ⟨h, -⟩ | ⟨-, h⟩
      · exact hop op a b w g k' h
      · obtain ⟨ch, h1, -⟩ := ze_n_spec _ _ _ h
        have h1 : zp_all[(400 + op) / 16]? = some ch := h1
        have h2 : zp_all[(400 + op) / 16]? = none := List.getElem?_eq_none (by have := zp_len; omega)
        rw [h2] at h1
        cases h1
noncomputable def zS_or (a b : ECal) : ECal := fun y av w g k => zcd (a y av w g k) true (b y av w g k)
noncomputable def zS_no : ECal := fun _ _ _ _ _ => false
/-- of one method, for all -/
theorem zS_one {a : ECal} {D y0 : Nat} {q0 : ZMt} (hq0 : zm y0 = some q0) (hy : ∀ y av w g k, a y av w g k = true → y = y0) (ha : ze_Cal l dC dI dA sp xs A a y0 D q0.1 q0.2.1 q0.2.2.1 q0.2.2.2.1 q0.2.2.2.2.2.1 q0.2.2.2.2.2.2) : ∀ y q, zm y = some q → ze_Cal l dC dI dA sp xs A a y D q.1 q.2.1 q.2.2.1 q.2.2.2.1 q.2.2.2.2.2.1 q.2.2.2.2.2.2 := by
  intro y q hq av w g k' h
  have e := hy _ _ _ _ _ h
  subst e
  rw [hq0] at hq
  cases hq
  exact ha av w g k' h
end ZEV
/-- contracts that speak of methods alone -/
def zs_lt (SP : ECal) : Prop := ∀ y av w g k, SP y av w g k = true → y < 400
theorem zs_lt.op {SP : ECal} {xs : ZXs} (h : zs_lt SP) : ze_Op xs SP := fun op a b w g k' h9 => by
  have h1 := h _ _ _ _ _ h9
  have h1 : 400 + op < 400 := h1
  omega
theorem zs_lt1 {a : ECal} {y0 : Nat} {q : ZMt} (hq : zm y0 = some q) (hy : ∀ y av w g k, a y av w g k = true → y = y0) : zs_lt a := fun y av w g k h => by
  rw [hy _ _ _ _ _ h]
  exact zm_lt hq
/-- contracts that hold from depth d0 on -/
def ZE (SP : ECal) (d0 : Nat) : Prop := zs_lt SP ∧ ∀ (l : Launch) (dC : Nat → ClassId) (dI : Nat → Nat → Nat) (dA : Nat → ClassId) (sp : Nat → Nat) (xs : ZXs) (A : Nat → Prop) (D : Nat), d0 ≤ D → ∀ y q, zm y = some q → ze_Cal l dC dI dA sp xs A SP y D q.1 q.2.1 q.2.2.1 q.2.2.2.1 q.2.2.2.2.2.1 q.2.2.2.2.2.2
theorem zX_okE {l : Launch} {dC : Nat → ClassId} {dI : Nat → Nat → Nat} {dA : Nat → ClassId} {sp : Nat → Nat} {xs : ZXs} {A : Nat → Prop} {SP : ECal} {d0 : Nat} (h3d : 3 ≤ d0) (h : ZE SP d0) (n : Nat) : ze_CalA l dC dI dA sp xs A (zX SP n) (d0 + n) := zX_ok h3d h.1.op (h.2 l dC dI dA sp xs A) n
theorem zS_no_ok : ZE zS_no 3 := ⟨fun _ _ _ _ _ h => (by cases h), fun _ _ _ _ _ _ _ _ _ _ _ _ _ _ _ _ h => by cases h⟩
theorem ZE.or {a b : ECal} {d1 d2 d3 : Nat} (ha : ZE a d1) (hb : ZE b d2) (h1 : d1 ≤ d3) (h2 : d2 ≤ d3) : ZE (zS_or a b) d3 := by
  refine ⟨fun y av w g k' h => ?_, fun l dC dI dA sp xs A D hD y q hq av w g k' h => ?_⟩
  · rcases ze_cond (show zcd (a y av w g k') true (b y av w g k') = true from h) with ⟨h, -⟩ | ⟨-, h⟩
    · exact ha.1 _ _ _ _ _ h
    · exact hb.1 _ _ _ _ _ h
  · rcases ze_cond (show zcd (a y av w g k') true (b y av w g k') = true from h) with ⟨h, -⟩ | ⟨-, h⟩
    · exact ha.2 l dC dI dA sp xs A D (Nat.le_trans h1 hD) y q hq av w g k' h
    · exact hb.2 l dC dI dA sp xs A D (Nat.le_trans h2 hD) y q hq av w g k' h
/-- contracts by their methods' numbers -/
noncomputable def zS_br (m : Nat) (a b : ECal) : ECal := fun y av w g k => zcd (Nat.ble y m) (a y av w g k) (b y av w g k)
theorem ZE.br {m : Nat} {a b : ECal} {d1 d2 d3 : Nat} (ha : ZE a d1) (hb : ZE b d2) (h1 : d1 ≤ d3) (h2 : d2 ≤ d3) : ZE (zS_br m a b) d3 := by
  refine ⟨fun y av w g k' h => ?_, fun l dC dI dA sp xs A D hD y q hq av w g k' h => ?_⟩
  · rcases ze_cond (show zcd (Nat.ble y m) (a y av w g k') (b y av w g k') = true from h) with ⟨-, h⟩ | ⟨-, h⟩
    · exact ha.1 _ _ _ _ _ h
    · exact hb.1 _ _ _ _ _ h
  · rcases ze_cond (show zcd (Nat.ble y m) (a y av w g k') (b y av w g k') = true from h) with ⟨-, h⟩ | ⟨-, h⟩
    · exact ha.2 l dC dI dA sp xs A D (Nat.le_trans h1 hD) y q hq av w g k' h
    · exact hb.2 l dC dI dA sp xs A D (Nat.le_trans h2 hD) y q hq av w g k' h
theorem zf_y {y0 N : Nat} {ps : List (Nat ⊕ (Nat × Nat))} {pa : List Nat} {pl pk : List (Nat × Nat)} {av0 : List EV} {wg : EW} {g0 : EG} {es : List ZN} : ∀ y av w g k, zf_cal y0 N ps pa pl pk av0 wg g0 es y av w g k = true → y = y0 := fun _ _ _ _ _ h => ze_beq (ze_condf h).1
/-- a check for numbers from a on, n of them -/
noncomputable def zy_ch (f : Nat → Bool) (a n : Nat) : Bool := Nat.rec (motive := fun _ => Bool) true (fun i ih => zcd (f (Nat.add a i)) ih false) n
theorem zy_ch_ok {f : Nat → Bool} {a : Nat} : ∀ {n : Nat}, zy_ch f a n = true → ∀ j, a ≤ j → j < a + n → f j = true := by
  intro n
  induction n with
  | zero => intro _ j h1 h2; omega
  | succ n ih =>
    intro h j h1 h2
    obtain ⟨h3, h4⟩ := ze_condf (show zcd (f (Nat.add a n)) (zy_ch f a n) false = true from h)
    by_cases hj : j = a + n
    · rw [hj]; exact h3
    · exact ih h4 j h1 (by omega)
/-- a method by its cuts: a contract -/
theorem ZE.met {SP : ECal} {d0 n : Nat} (h3d : 3 ≤ d0) (hSP : ZE SP d0) {y0 : Nat} {q : ZMt} (hq : zm y0 = some q) (hq0 : q.2.2.2.2.2.1 = 0 ∧ q.2.2.2.2.2.2 = 0) {ch : List EM} {m9 : EM} (h1 : zp_all[y0 / 16]? = some ch) (h2 : ch[y0 % 16]? = some m9) {ps : List (Nat ⊕ (Nat × Nat))} {pa : List Nat} {pl pk : List (Nat × Nat)} {av0 : List EV} {wg : EW} {g0 : EG} {es : List ZN} (hrr : ∀ e ∈ es, e.1 ≠ some (eX 1))
    {hd : List Nat} {F : Nat} {KS : List ZC} {js : List Nat} {N2 : Nat} (hN2 : g0.length = N2) (hg0 : 10 ≤ N2) {sp0 : List (Nat × List Nat)} (hE : zy_spl (fun g => zy_en m9 (zX SP n) (zy_ends N2 es) hd F (zy_B N2 KS js) av0 wg g) sp0 g0 = true) (hst : ∀ i, i < KS.length → zy_f N2 m9.1 (zX SP n) m9.2.2.1 m9.2.2.2 (zy_ends N2 es) hd F KS i = true) : ZE (zf_cal y0 10 ps pa pl pk av0 wg g0 es) (d0 + n + 1) := by
  subst hN2
  refine ⟨zs_lt1 hq zf_y, fun l dC dI dA sp xs A D hD => ?_⟩
  refine zS_one hq zf_y (zf_cal_ok (q := q) hq0 (by decide) hrr (fun sp A ρ ws avs k1 k2 k3 k4 k5 => ?_))
  obtain ⟨g', hG', hE'⟩ := zy_spl_ok sp0 g0 hE k2
  exact zy_met (xs := ze_x0 xs) hq h1 h2 hg0 ze_x0_len (zX_okE (l := l) (dC := dC) (dI := dI) (dA := dA) (sp := sp) (xs := ze_x0 xs) (A := A) h3d hSP n) hE' hst (Nat.le_trans h3d (Nat.le_add_right _ _)) hD k1 hG' k3 k4 k5
/-- a method from a pattern of its start to some ends -/
def ZH (q : ZMt) (D0 : Nat) (av0 : List EV) (wg : EW) (g0 : EG) (es : List ZN) : Prop := ∀ (l : Launch) (dC : Nat → ClassId) (dI : Nat → Nat → Nat) (dA : Nat → ClassId) (sp : Nat → Nat) (xs : ZXs) (D : Nat), D0 ≤ D → ∀ (A : Nat → Prop) (ρ : List Int32) (ws : va_W) (avs : List Value), g0.length ≤ ρ.length → ze_G g0 ρ → ze_Z (ze_x0 xs) ρ → ze_W dA sp ρ wg ws → ze_L sp ρ (ws.map (·.1)) av0 avs → Met l q.1 (.code q.1 q.2.1 q.2.2.1 q.2.2.2.1 :: zb_T) (ze_rm D q.2.2.2.2.2.1 q.2.2.2.2.2.2) (va_Pc avs (ze_Pc dC dI dA sp (ze_x0 xs) A ws)) (ze_Qc dC dI dA sp A (zy_ends g0.length es) (ρ.take g0.length) (ws.map (·.1))) q.2.2.2.2.2.1 q.2.2.2.2.2.2 A
theorem ZH.met {SP : ECal} {d0 n : Nat} (h3d : 3 ≤ d0) (hSP : ZE SP d0) {y0 : Nat} {q : ZMt} (hq : zm y0 = some q) {ch : List EM} {m9 : EM} (h1 : zp_all[y0 / 16]? = some ch) (h2 : ch[y0 % 16]? = some m9) {av0 : List EV} {wg : EW} {g0 : EG} {es : List ZN}
    {hd : List Nat} {F : Nat} {KS : List ZC} {js : List Nat} {N2 : Nat} (hN2 : g0.length = N2) (hg0 : 10 ≤ N2) {sp0 : List (Nat × List Nat)} (hE : zy_spl (fun g => zy_en m9 (zX SP n) (zy_ends N2 es) hd F (zy_B N2 KS js) av0 wg g) sp0 g0 = true) (hst : ∀ i, i < KS.length → zy_f N2 m9.1 (zX SP n) m9.2.2.1 m9.2.2.2 (zy_ends N2 es) hd F KS i = true) : ZH q (d0 + n + 1) av0 wg g0 es := by
  subst hN2
  intro l dC dI dA sp xs D hD A ρ ws avs k1 k2 k3 k4 k5
  obtain ⟨g', hG', hE'⟩ := zy_spl_ok sp0 g0 hE k2
  exact zy_met (xs := ze_x0 xs) hq h1 h2 hg0 ze_x0_len (zX_okE (l := l) (dC := dC) (dI := dI) (dA := dA) (sp := sp) (xs := ze_x0 xs) (A := A) h3d hSP n) hE' hst (Nat.le_trans h3d (Nat.le_add_right _ _)) hD k1 hG' k3 k4 k5
theorem ZH.ze {y0 : Nat} {q : ZMt} (hq : zm y0 = some q) (hq0 : q.2.2.2.2.2.1 = 0 ∧ q.2.2.2.2.2.2 = 0) {D0 : Nat} {ps : List (Nat ⊕ (Nat × Nat))} {pa : List Nat} {pl pk : List (Nat × Nat)} {av0 : List EV} {wg : EW} {g0 : EG} {es : List ZN} (hrr : ∀ e ∈ es, e.1 ≠ some (eX 1)) (h : ZH q D0 av0 wg g0 es) : ZE (zf_cal y0 10 ps pa pl pk av0 wg g0 es) D0 := ⟨zs_lt1 hq zf_y, fun l dC dI dA sp xs A D hD => zS_one hq zf_y (zf_cal_ok (q := q) hq0 (by decide) hrr (fun sp A ρ ws avs k1 k2 k3 k4 k5 => h l dC dI dA sp xs D hD A ρ ws avs k1 k2 k3 k4 k5))⟩
theorem ZH.le {q : ZMt} {D0 D1 : Nat} {av0 : List EV} {wg : EW} {g0 : EG} {es : List ZN} (hD : D0 ≤ D1) (h : ZH q D0 av0 wg g0 es) : ZH q D1 av0 wg g0 es := fun l dC dI dA sp xs D h1 => h l dC dI dA sp xs D (Nat.le_trans hD h1)
/-- two intervals side by side -/
theorem ZH.join {q : ZMt} {D0 : Nat} {av0 : List EV} {wg : EW} {b : EG} {es : List ZN} {u lo m hi : Nat} (hu : u < b.length) (h1 : ZH q D0 av0 wg (ze_s (lo, m) b u) es) (h2 : ZH q D0 av0 wg (ze_s (m + 1, hi) b u) es) : ZH q D0 av0 wg (ze_s (lo, hi) b u) es := by
  intro l dC dI dA sp xs D hD A ρ ws avs k1 k2 k3 k4 k5
  have hl : ∀ p : Nat × Nat, (ze_s p b u).length = b.length := fun p => by rw [ze_s_eq, List.length_set]
  have hx : ∃ x, ρ[u]? = some x := ⟨ρ[u]'(by have := hl (lo, hi); omega), List.getElem?_eq_getElem _⟩
  obtain ⟨x, hx⟩ := hx
  have e1 : (ze_s (lo, hi) b u)[u]? = some (lo, hi) := by rw [ze_s_eq]; exact List.getElem?_set_self hu
  have hb := k2.2 u _ x e1 hx
  have ss : ∀ p p2 : Nat × Nat, ze_s p (ze_s p2 b u) u = ze_s p b u := fun p p2 => by rw [ze_s_eq, ze_s_eq, ze_s_eq, List.set_set]
  rcases Nat.lt_or_ge m (ze_b x) with h9 | h9
  · have hG := k2.set (p := (m + 1, hi)) hx h9 hb.2
    rw [ss] at hG
    have r := h2 l dC dI dA sp xs D hD A ρ ws avs (by rw [hl] at k1 ⊢; exact k1) hG k3 k4 k5
    rw [hl] at r ⊢
    exact r
  · have hG := k2.set (p := (lo, m)) hx hb.1 h9
    rw [ss] at hG
    have r := h1 l dC dI dA sp xs D hD A ρ ws avs (by rw [hl] at k1 ⊢; exact k1) hG k3 k4 k5
    rw [hl] at r ⊢
    exact r
/-! arrays known by their intervals, seen by their numbers -/
noncomputable def zx_ok (wg : EW) (g0 : EG) (wx : EW) (gx : EG) : Prop := ∀ (dA : Nat → ClassId) (sp : Nat → Nat) (ρ : List Int32) (ws : va_W), ze_G g0 ρ → ze_W dA sp ρ wg ws → ∃ vals, ze_G gx (ρ ++ vals) ∧ ze_W dA sp (ρ ++ vals) wx ws
theorem zx_ok.trans {w1 w2 w3 : EW} {g1 g2 g3 : EG} (h1 : zx_ok w1 g1 w2 g2) (h2 : zx_ok w2 g2 w3 g3) : zx_ok w1 g1 w3 g3 := by
  intro dA sp ρ ws hG hW
  obtain ⟨v1, k1, k2⟩ := h1 dA sp ρ ws hG hW
  obtain ⟨v2, k3, k4⟩ := h2 dA sp _ ws k1 k2
  exact ⟨v1 ++ v2, by rw [← List.append_assoc]; exact k3, by rw [← List.append_assoc]; exact k4⟩
theorem zx_app {g1 g2 : EG} {r1 r2 : List Int32} (h1 : ze_G g1 r1) (hl : g2.length = r2.length) (h2 : ∀ (i : Nat) (p : Nat × Nat) (x : Int32), g2[i]? = some p → r2[i]? = some x → p.1 ≤ ze_b x ∧ ze_b x ≤ p.2) : ze_G (g1 ++ g2) (r1 ++ r2) := by
  refine ⟨by simp [h1.1, hl], fun i p x e1 e2 => ?_⟩
  by_cases hi : i < g1.length
  · rw [List.getElem?_append_left hi] at e1
    rw [List.getElem?_append_left (by rw [← h1.1]; exact hi)] at e2
    exact h1.2 i p x e1 e2
  · rw [List.getElem?_append_right (by omega)] at e1
    rw [List.getElem?_append_right (by rw [← h1.1]; omega), ← h1.1] at e2
    exact h2 _ p x e1 e2
theorem zx_ok.one {wg wx : EW} {g0 gx : EG} {c kd n lo hi N2 : Nat} (h1 : 100 ≤ kd) (h2 : kd < 150) (hc : ze_gw wg c = some (1000 + kd, [eC n, eC lo, eC hi])) (hN : g0.length = N2) (hw : wx = ze_ws wg c (kd, (List.range n).map (fun j => eU (N2 + j)))) (hg : gx = g0 ++ List.replicate n (lo, hi)) : zx_ok wg g0 wx gx := by
  subst hw; subst hg; subst hN
  intro dA sp ρ ws hG hW
  obtain ⟨a, e, q1, q2⟩ := hW.2 c _ hc
  obtain ⟨n', lo', hi', f, e3, e4, hf⟩ := q2.sumI (by show 1100 ≤ 1000 + kd; omega) (by show 1000 + kd < 1150; omega)
  injection e3 with a1 t1
  injection t1 with a2 t2
  injection t2 with a3 _
  cases a1; cases a2; cases a3
  have e5 : (1000 + kd : Nat) - 1000 = kd := by omega
  have e4 : e = .inl (dA kd, n, .inl f) := by rw [e4]; show Sum.inl (dA (1000 + kd - 1000), n, _) = _; rw [e5]
  subst e4
  have hp : ρ <+: ρ ++ (List.range n).map f := List.prefix_append _ _
  refine ⟨(List.range n).map f, zx_app hG (by simp) (fun i p x k1 k2 => ?_), ?_⟩
  · have hp9 := ze_rep k1
    subst hp9
    rw [List.getElem?_map] at k2
    have hi : i < n := by
      rcases Nat.lt_or_ge i n with q | q
      · exact q
      · rw [List.getElem?_eq_none (by simpa using q)] at k2
        cases k2
    rw [List.getElem?_range hi] at k2
    cases k2
    exact hf i hi
  · have hset := (hW.rho hp).set (c' := (kd, (List.range n).map (fun j => eU (g0.length + j)))) (e' := .inl (dA kd, n, .inl f)) q1 (Or.inr (Or.inl ⟨h1, h2, f, by show _ = Sum.inl (dA kd, ((List.range n).map (fun j => eU (g0.length + j))).length, _); simp, fun j v hj => ?_⟩))
    · have e7 : ws.set c (a, .inl (dA kd, n, .inl f)) = ws := by
        apply List.ext_getElem?
        intro i
        by_cases hi : c = i
        · subst hi
          rw [List.getElem?_set_self (List.getElem?_eq_some_iff.mp q1).1, q1]
        · rw [List.getElem?_set_ne hi]
      rw [e7] at hset
      exact hset
    · have hj : ((List.range n).map (fun j => eU (g0.length + j)))[j]? = some v := hj
      rw [List.getElem?_map] at hj
      have hi : j < n := by
        rcases Nat.lt_or_ge j n with q | q
        · exact q
        · rw [List.getElem?_eq_none (by simpa using q)] at hj
          cases hj
      rw [List.getElem?_range hi] at hj
      cases hj
      refine ⟨f j, ?_, rfl⟩
      rw [List.getElem?_append_right (by rw [← hG.1]; omega), ← hG.1, show g0.length + j - g0.length = j by omega, List.getElem?_map, List.getElem?_range hi]
      rfl
/-- as ZE.met, run with some arrays seen by their numbers -/
theorem ZE.metx {SP : ECal} {d0 n : Nat} (h3d : 3 ≤ d0) (hSP : ZE SP d0) {y0 : Nat} {q : ZMt} (hq : zm y0 = some q) (hq0 : q.2.2.2.2.2.1 = 0 ∧ q.2.2.2.2.2.2 = 0) {ch : List EM} {m9 : EM} (h1 : zp_all[y0 / 16]? = some ch) (h2 : ch[y0 % 16]? = some m9) {ps : List (Nat ⊕ (Nat × Nat))} {pa : List Nat} {pl pk : List (Nat × Nat)} {av0 : List EV} {wg wx : EW} {g0 gx : EG} {es : List ZN} (hrr : ∀ e ∈ es, e.1 ≠ some (eX 1))
    {hd : List Nat} {F : Nat} {KS : List ZC} {js : List Nat} {N2 Nx : Nat} (hN2 : g0.length = N2) (hNx : gx.length = Nx) (hg0 : 10 ≤ N2) (hle : N2 ≤ Nx) (hx : zx_ok wg g0 wx gx) {sp0 : List (Nat × List Nat)} (hE : zy_spl (fun g => zy_en m9 (zX SP n) (zy_ends N2 es) hd F (zy_B Nx KS js) av0 wx g) sp0 gx = true) (hst : ∀ i, i < KS.length → zy_f Nx m9.1 (zX SP n) m9.2.2.1 m9.2.2.2 (zy_ends N2 es) hd F KS i = true) : ZE (zf_cal y0 10 ps pa pl pk av0 wg g0 es) (d0 + n + 1) := by
  subst hN2; subst hNx
  refine ⟨zs_lt1 hq zf_y, fun l dC dI dA sp xs A D hD => ?_⟩
  refine zS_one hq zf_y (zf_cal_ok (q := q) hq0 (by decide) hrr (fun sp A ρ ws avs k1 k2 k3 k4 k5 => ?_))
  obtain ⟨vals, hGx, hWx⟩ := hx dA sp ρ ws k2 k4
  have hp : ρ <+: ρ ++ vals := List.prefix_append _ _
  obtain ⟨g', hG', hE'⟩ := zy_spl_ok sp0 gx hE hGx
  have M := zy_met (xs := ze_x0 xs) hq h1 h2 (show 10 ≤ gx.length by omega) ze_x0_len (zX_okE (l := l) (dC := dC) (dI := dI) (dA := dA) (sp := sp) (xs := ze_x0 xs) (A := A) h3d hSP n) hE' hst (Nat.le_trans h3d (Nat.le_add_right _ _)) hD (ρ := ρ ++ vals) (Nat.le_of_eq hGx.1) hG' (k3.mono hp) hWx (k5.mono hp (List.prefix_refl _))
  intro p e ha hc hk s m args below hf happ hpp h9
  obtain ⟨n9, oc, r1, r2, r3, hQ, L9, hFE, hL9⟩ := M p e ha hc hk s m args below hf happ hpp h9
  refine ⟨n9, oc, r1, r2, r3, ?_, L9, hFE, hL9⟩
  obtain ⟨⟨r, w1, gg, ρ1, ws1, v, hke, hpre, had, hG1, hW1, hPt, hD1, hOV, ho⟩, hF1⟩ := hQ
  refine ⟨⟨r, w1, gg, ρ1, ws1, v, hke, ?_, had, hG1, hW1, hPt, hD1, hOV, ho⟩, hF1⟩
  refine List.IsPrefix.trans ?_ hpre
  rw [hGx.1, List.take_length]
  exact List.IsPrefix.trans (List.take_prefix _ _) hp
