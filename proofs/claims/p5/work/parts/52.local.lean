/-! a method's contract by its cuts: from a pattern of its start to a pattern of its end. The unknowns below N stay (N = 6: the script's), the others are the method's own. -/
noncomputable def zy_end (N : Nat) (rr : Option EV) (pr : List Nat) (pl : List (Nat × Nat)) (we : EW) (ge : EG) : ERt := fun r w g => Option.rec (motive := fun _ => Bool) (Option.rec (motive := fun _ => Bool) (zh_chk N [] pl [] we ge [] w g) (fun _ => false) rr) (fun v => Option.rec (motive := fun _ => Bool) false (fun u => zh_chk N pr pl [u] we ge [v] w g) rr) r
/-- an end: answer, is it unknown, places that are, world, intervals -/
abbrev ZN : Type := Option EV × List Nat × List (Nat × Nat) × EW × EG
/-- one of some ends -/
noncomputable def zy_ends (N : Nat) (es : List ZN) : ERt := fun r w g => List.rec (motive := fun _ => Bool) false (fun e _ ih => zcd (zy_end N e.1 e.2.1 e.2.2.1 e.2.2.2.1 e.2.2.2.2 r w g) true ih) es
theorem zy_ends_ok {N : Nat} {r : Option EV} {w : EW} {g : EG} : ∀ (es : List ZN), zy_ends N es r w g = true → ∃ e ∈ es, zy_end N e.1 e.2.1 e.2.2.1 e.2.2.2.1 e.2.2.2.2 r w g = true := by
  intro es
  induction es with
  | nil => intro h; cases h
  | cons e t ih =>
    intro h
    rcases ze_cond (show zcd (zy_end N e.1 e.2.1 e.2.2.1 e.2.2.2.1 e.2.2.2.2 r w g) true (zy_ends N t r w g) = true from h) with ⟨h1, -⟩ | ⟨-, h1⟩
    · exact ⟨e, List.mem_cons_self, h1⟩
    · obtain ⟨e2, a, b⟩ := ih h1
      exact ⟨e2, List.mem_cons_of_mem _ a, b⟩
noncomputable def zy_en (m9 : EM) (cal : ECal) (ke : ERt) (ps : List Nat) (F : Nat) (base : EKn) (av0 : List EV) (wg : EW) (g0 : EG) : Bool := zcd (Nat.ble (ze_cs av0) m9.2.1) (ze_jp m9.1 0 (fun cs => zy_lp (ze_jp m9.1) cal m9.2.2.1 m9.2.2.2 ke ps base F cs (ze_il av0 m9.2.1) [] wg g0 0 0)) false
section ZYM
variable {l : Launch} {dC : Nat → ClassId} {dI : Nat → Nat → Nat} {dA : Nat → ClassId} {sp : Nat → Nat} {xs : ZXs} {A : Nat → Prop}
theorem zy_met {y0 : Nat} {q : ZMt} (hq : zm y0 = some q) {ch : List EM} {m9 : EM} (h1 : zp_all[y0 / 16]? = some ch) (h2 : ch[y0 % 16]? = some m9) {N : Nat} (hN6 : 10 ≤ N) (hNx : xs.2.length ≤ N) {cal : ECal} {d : Nat} (hcal : ze_CalA l dC dI dA sp xs A cal d)
    {ke : ERt} {ps : List Nat} {F : Nat} {KS : List ZC} {js : List Nat} {av0 : List EV} {wg : EW} {g0 : EG} (hE : zy_en m9 cal ke ps F (zy_B N KS js) av0 wg g0 = true) (hst : ∀ i, i < KS.length → zy_f N m9.1 cal m9.2.2.1 m9.2.2.2 ke ps F KS i = true)
    {D : Nat} (h3 : 3 ≤ d) (hD : d + 1 ≤ D) {ρ : List Int32} {ws : va_W} {avs : List Value} (hρ : N ≤ ρ.length) (hG : ze_G g0 ρ) (hX : ze_Z xs ρ) (hW : ze_W dA sp ρ wg ws) (hLv : ze_L sp ρ (ws.map (·.1)) av0 avs) :
    Met l q.1 (.code q.1 q.2.1 q.2.2.1 q.2.2.2.1 :: zb_T) (ze_rm D q.2.2.2.2.2.1 q.2.2.2.2.2.2) (va_Pc avs (ze_Pc dC dI dA sp xs A ws)) (ze_Qc dC dI dA sp A ke (ρ.take N) (ws.map (·.1))) q.2.2.2.2.2.1 q.2.2.2.2.2.2 A := by
  obtain ⟨c3, hE⟩ := ze_condf hE
  obtain ⟨cs, h4, hE⟩ := ze_jp_spec hE
  obtain ⟨e1, e2, e3, hpl, hzn, ini, hini, hcode, e9, r9, h5, h6⟩ := zp_ok y0 ch m9 q h1 h2 hq
  have e5 : cs = e9 :: r9 := by
    unfold ze_tgt at h4
    rw [show (0 / 16 : Nat) = 0 from rfl, h5] at h4
    exact (Option.some.inj h4).symm
  subst e5
  have hz : (ρ.take N).length = N := by rw [List.length_take]; omega
  refine Met.ofW (cc := q.2.1) (maxL := q.2.2.1) (ret := q.2.2.2.1) hpl rfl ?_
  intro p e s m args below meth c s₁ B hml hP
  obtain ⟨rfl, hP1, hP2, hP3, hP4, hP5⟩ := hP
  have hts := atoms_spec (ws := Cond.code q.1 q.2.1 q.2.2.1 q.2.2.2.1 :: zb_T) B.pre
  have hown : s.vm.findClass q.1.cls = some m.cls := findClass_of_methodNamed B.named
  have hnm := (name_of_methodNamed B.named B.method).1
  have hFx : ze_Fx p l (headSpec (Cond.code q.1 q.2.1 q.2.2.1 q.2.2.2.1 :: zb_T) (ze_rm D q.2.2.2.2.2.1 q.2.2.2.2.2.2)).room s m avs.toArray meth c dC dI dA sp xs A q.2.2.2.2.1 q.2.2.1 d q.2.1 q.2.2.2.1 ini m9.1 cal q.2.2.2.2.2.1 q.2.2.2.2.2.2 :=
    ⟨zF, B.exec, B.bytes, hml, by rw [hzn]; exact hown, hP2, hP5, hP4, fun w hw => hts w (List.mem_cons_of_mem _ hw), ⟨rfl, rfl⟩, ⟨h3, (by show d + 1 ≤ D; omega), (by show 70 * (d + 1) ≤ 70 * D; omega)⟩, fun hi => hnm.trans (hini hi), hcal, hcode⟩
  have hend := ze_ends (l := l) (dC := dC) (dI := dI) (dA := dA) (sp := sp) (xs := xs) (A := A) (e := e) (R := (headSpec (Cond.code q.1 q.2.1 q.2.2.1 q.2.2.2.1 :: zb_T) (ze_rm D q.2.2.2.2.2.1 q.2.2.2.2.2.2)).room) (s := s) (m := m) (args := avs.toArray) (below := below) (nL := q.2.2.1) (mc := q.2.2.2.2.2.1) (ms := q.2.2.2.2.2.2) (k := ke) (z0 := (ρ.take N, ws.map (·.1))) B.exec B.bytes B.returns B.notSynchronized
  rw [e2, e3] at hE
  have hst2 : ∀ i, i < KS.length → zy_f N m9.1 cal q.2.2.2.2.2.1 q.2.2.2.2.2.2 ke ps F KS i = true := by
    intro i hi
    have h9 := hst i hi
    rw [e2, e3] at h9
    exact h9
  have hall := zy_all (ps := ps) (F := F) (KS := KS) hFx hend hz hN6 hNx hst2
  rw [lg_entry_eq]
  have hl := lv_entry avs (n := q.2.2.1) (Nat.le_trans (ze_sl_len avs) (by rw [ze_cs_sum hLv, ← e1]; exact ze_ble' c3))
  refine zy_lp_ok hFx hend (zy_B_ok hz hN6 hNx (fun j K _ hK => ?_)) F _ _ _ _ _ _ _ hE 0 ⟨hcode _ (List.mem_of_getElem? h5), e9, r9, rfl, h6⟩ ρ ws s.heap [] _ [] ⟨hG, ⟨hX, List.take_prefix _ _, List.prefix_refl _⟩, hW, hP1, hP3, ⟨Nat.le_refl _, fun _ _ _ => rfl, fun q hq => by cases hq⟩, ⟨_, hl, ?_⟩, trivial⟩
  · exact hall KS.length j K (Nat.sub_le _ _) hK
  · intro j v hj hn
    rw [e1] at hj
    obtain ⟨x, q1, q2⟩ := ze_il_LL av0 avs _ 0 hLv j v hj hn
    rw [Nat.zero_add] at q1
    exact ⟨x, q1, q2⟩
end ZYM
