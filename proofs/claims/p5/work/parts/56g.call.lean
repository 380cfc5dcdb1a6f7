/-! a contract on a small world whose own unknowns are tied: facts are known of them, some are unknowns of the caller that no cell holds -/
noncomputable def zg_at0 (N : Nat) (idx : List Nat) (κ σ : List EV) (FAs FA : List ZFf) (av0 : List EV) (wg : EW) (g0 : EG) (es : List ZN) (av : List EV) (w : EW) (g : EG) (k : ERt) : Bool :=
  zcd (zg_fs N σ FA FAs) (zcd (Nat.beq g0.length (Nat.add N σ.length)) (zcd (zh_gi N σ g0 g) (zcd (zh_all (zf_v N σ idx κ) av0 av) (zcd (zf_w N σ g idx κ wg w) (zf_fin N g0.length σ idx κ w g k es) false) false) false) false) false
noncomputable def zg_at1 (N : Nat) (idx pa : List Nat) (pl pk : List (Nat × Nat)) (pg : List EV) (FAs FA : List ZFf) (av0 : List EV) (wg : EW) (g0 : EG) (es : List ZN) (av : List EV) (w : EW) (g : EG) (k : ERt) : Bool :=
  zcd (zf_nd idx) (zcd (Nat.ble N g.length) (zf_rk w (pk.map (fun p => (idx.getD p.1 0, p.2))) [] (fun κ => zh_rl av pa [] (fun s0 => zh_rd w (pl.map (fun p => (idx.getD p.1 0, p.2))) s0 (fun σ => zcd (zg_pg g pg) (zg_at0 N idx κ (σ ++ pg) FAs FA av0 wg g0 es av w g k) false)))) false) false
section ZFC
variable {l : Launch} {dC : Nat → ClassId} {dI : Nat → Nat → Nat} {dA : Nat → ClassId} {sp : Nat → Nat} {xs : ZXs} {A : Nat → Prop}
theorem zg_met {yn : MethodName} {wsy : List Cond} {rmy : Room} {N : Nat} {idx pa : List Nat} {pl pk : List (Nat × Nat)} {av0 : List EV} {wg : EW} {g0 : EG} {es : List ZN} (hN6 : 10 ≤ N) {pg : List EV} {FAs FA : List ZFf} (hFA : zF_ok FA xs.2) (hrr0 : ∀ e ∈ es, e.1 ≠ some (eX 1))
    (hloc : ∀ (sp : Nat → Nat) (A : Nat → Prop) (ρ : List Int32) (ws : va_W) (avs : List Value), g0.length ≤ ρ.length → ze_G g0 ρ → ze_Z (xs.1, ρ.take g0.length) ρ → zF_ok FAs (ρ.take g0.length) → ze_W dA sp ρ wg ws → ze_L sp ρ (ws.map (·.1)) av0 avs → Met l yn wsy rmy (va_Pc avs (ze_Pc dC dI dA sp (xs.1, ρ.take g0.length) A ws)) (ze_Qc dC dI dA sp A (zy_ends g0.length es) (ρ.take g0.length) (ws.map (·.1))) 0 0 A)
    {av : List EV} {w : EW} {g : EG} {k' : ERt} (h : zg_at1 N idx pa pl pk pg FAs FA av0 wg g0 es av w g k' = true) {ρ : List Int32} {ws : va_W} {avs : List Value} (hG : ze_G g ρ) (hX : ze_Z xs ρ) (hW : ze_W dA sp ρ w ws) (hL : ze_L sp ρ (ws.map (·.1)) av avs) :
    Met l yn wsy rmy (va_Pc avs (ze_Pc dC dI dA sp xs A ws)) (ze_Qc dC dI dA sp A k' ρ (ws.map (·.1))) 0 0 A := by
  obtain ⟨c1, h⟩ := ze_condf h
  obtain ⟨c2, h⟩ := ze_condf h
  obtain ⟨κ, h, hκ⟩ := zf_rk_ok hW _ [] _ (fun t v q => by cases q) h
  obtain ⟨sp', hsp⟩ := zf_sp_ex hκ
  obtain ⟨s0, v0, h, hσ0⟩ := zf_ra_ok hL pa [] [] _ ⟨rfl, fun t v q => by cases q⟩ h
  obtain ⟨σ0, vals0, h, hσ⟩ := zh_rd_ok hW _ s0 v0 _ hσ0 h
  obtain ⟨cg, h⟩ := ze_condf h
  obtain ⟨vg, hσg⟩ := zg_pg_ok (sp := sp) (ad := ws.map (·.1)) hG pg cg
  have hσ := zg_cat hσ hσg
  obtain ⟨σ, eσ⟩ : ∃ σ, σ = σ0 ++ pg := ⟨_, rfl⟩
  obtain ⟨vals, ev⟩ : ∃ vals, vals = vals0 ++ vg := ⟨_, rfl⟩
  rw [← eσ, ← ev] at hσ
  rw [← eσ] at h
  obtain ⟨cf, h⟩ := ze_condf h
  obtain ⟨c4, h⟩ := ze_condf h
  obtain ⟨c5, h⟩ := ze_condf h
  obtain ⟨c7, h⟩ := ze_condf h
  obtain ⟨c6, hfin⟩ := ze_condf h
  have hN : N ≤ ρ.length := by rw [← hG.1]; exact ze_ble' c2
  have hnd := zf_nd_ok idx c1
  obtain ⟨hlt, hWs⟩ := zf_W hG hσ hN hsp c6 hW
  obtain ⟨g1, g2⟩ := zf_sub_get idx hlt
  have hid : ∀ (n k : Nat), idx[n]? = some k → ((zf_sub ws idx).map (·.1))[n]? = (ws.map (·.1))[k]? := by
    intro n k hk
    rw [List.getElem?_map, List.getElem?_map, g2 n k hk]
  have hGs := zh_Gi hσ hN (ze_beq c4) c5 hG
  have hLs := zf_L hsp hσ hN hid _ _ _ c7 hL
  have hXs : ze_Z (xs.1, (ρ.take N ++ vals).take g0.length) (ρ.take N ++ vals) := ⟨fun j hj => by rw [zh_lo hN (by omega)]; exact hX.1 j hj, List.take_prefix _ _⟩
  have hFs : zF_ok FAs ((ρ.take N ++ vals).take g0.length) := by
    rw [List.take_of_length_le (Nat.le_of_eq hGs.1.symm)]
    exact zg_fs_ok hσ hN hX.2 hFA FAs cf
  intro p e ha hc hk s m args below hf happ hp _
  obtain ⟨rfl, hP1, hP2, hP3, hP4, hP5⟩ := hp
  have hsubA : ∀ q, q ∈ (zf_sub ws idx).map (·.1) → A q ∧ q < s.heap.size := by
    intro q hq
    obtain ⟨i, hi⟩ := List.getElem?_of_mem hq
    have hil : i < idx.length := by rw [← g1, ← List.length_map (f := fun x : Nat × va_E => x.1)]; exact (List.getElem?_eq_some_iff.mp hi).1
    rw [hid i idx[i] (List.getElem?_eq_getElem hil)] at hi
    obtain ⟨e9, he⟩ := zf_at hi
    exact ⟨hP3.2 _ _ he, (hP1 _ _ he).lt⟩
  have hAA : ∀ q, zf_A s.heap.size ((zf_sub ws idx).map (·.1)) q → A q := fun q hq => hq.elim (fun z => (hsubA q z).1) (fun z => hP4 q z)
  have hM := hloc sp' (zf_A s.heap.size ((zf_sub ws idx).map (·.1))) (ρ.take N ++ vals) (zf_sub ws idx) avs (Nat.le_of_eq hGs.1) hGs hXs hFs hWs hLs
  have hPs : va_Pc avs (ze_Pc dC dI dA sp' (xs.1, (ρ.take N ++ vals).take g0.length) (zf_A s.heap.size ((zf_sub ws idx).map (·.1))) (zf_sub ws idx)) avs.toArray s := by
    have hP5 := ze_X_sp hsp.1 hP5
    have e0 := hsp.1 0 (by omega)
    refine ⟨rfl, ?_, hP2, ⟨?_, ?_⟩, fun q hq => Or.inr hq, hP5.1, hP5.2.1, ?_, hP5.2.2.2.1, hP5.2.2.2.2.1, ⟨hP5.2.2.2.2.2.1.1.narrow hAA, hP5.2.2.2.2.2.1.2.1.narrow hAA, hP5.2.2.2.2.2.1.2.2.narrow hAA⟩, hP5.2.2.2.2.2.2⟩
    · intro k q hq
      have hkl : k < idx.length := by rw [← g1]; exact (List.getElem?_eq_some_iff.mp hq).1
      rw [g2 k idx[k] (List.getElem?_eq_getElem hkl)] at hq
      exact hP1 _ _ hq
    · intro i j q1 q2 h1 h2 h3
      have hi : i < idx.length := by rw [← g1]; exact (List.getElem?_eq_some_iff.mp h1).1
      have hj : j < idx.length := by rw [← g1]; exact (List.getElem?_eq_some_iff.mp h2).1
      rw [g2 i idx[i] (List.getElem?_eq_getElem hi)] at h1
      rw [g2 j idx[j] (List.getElem?_eq_getElem hj)] at h2
      have e9 := hP3.1 _ _ _ _ h1 h2 h3
      exact hnd i j idx[i] (List.getElem?_eq_getElem hi) (by rw [e9]; exact List.getElem?_eq_getElem hj)
    · intro k q hq
      exact Or.inl (List.mem_map.mpr ⟨q, List.mem_of_getElem? hq, rfl⟩)
    · intro hq
      rcases hq with hq | hq
      · exact hP5.2.2.1 (hsubA _ hq).1
      · exact absurd hP5.2.1 (Nat.not_lt.mpr hq)
  obtain ⟨n, oc, r1, r2, r3, hQ, L9, hFE, hL9⟩ := hM p e ha hc hk s m avs.toArray below hf happ hPs trivial
  refine ⟨n, oc, r1, r2, r3, ?_, L9, hFE, fun q hq => hAA _ (hL9 q hq)⟩
  obtain ⟨⟨r, w1, gg, ρ1, ws1, v, hke0, hpre1, had1, hG1, hW1, hPt, hD1, hOV, ho⟩, hF1⟩ := hQ
  obtain ⟨⟨rr, pr, pe, we, ge⟩, hmem, hke⟩ := zy_ends_ok es hke0
  have hrr := hrr0 _ hmem
  obtain ⟨c3, hup⟩ := zf_fin_ok es hfin _ hmem
  have hke : zy_end g0.length rr pr pe we ge r w1 gg = true := hke
  have hlN : (ρ.take N).length = N := by rw [List.length_take]; omega
  have hl0 : (ρ.take N ++ vals).length = g0.length := hGs.1.symm
  have hsl : g0.length = N + σ.length := ze_beq c4
  have htk : (ρ.take N ++ vals).take g0.length = ρ.take N ++ vals := by rw [← hl0]; exact List.take_length
  rw [htk] at hpre1
  have hN1 : g0.length ≤ ρ1.length := (zh_pre (vals := []) hpre1 hl0).2
  have htk1 : ρ1.take g0.length = ρ.take N ++ vals := by
    obtain ⟨t9, rfl⟩ := hpre1
    rw [← hl0]
    exact List.take_left
  obtain ⟨ve, hGe, hWe, hOVe⟩ : ∃ ve : List Int32, ze_G ge (ρ1.take g0.length ++ ve) ∧ ze_W dA sp' (ρ1.take g0.length ++ ve) we ws1 ∧ ze_OV sp' (ρ1.take g0.length ++ ve) (ws1.map (·.1)) rr v := by
    cases r with
    | none =>
      cases rr with
      | some u => cases hke
      | none =>
        obtain ⟨ve, k1, k2, -⟩ := zh_chk_ok (lv := []) (show zh_chk g0.length [] pe [] we ge [] w1 gg = true from hke) hN1 hG1 hW1 (fun i v h => by cases h)
        refine ⟨ve, k1, k2, ?_⟩
        cases v with
        | none => trivial
        | some x => exact hOV
    | some u0 =>
      cases rr with
      | none => cases hke
      | some u =>
        cases v with
        | none => exact absurd hOV (fun q => q)
        | some x =>
          have hOV : ze_V sp' ρ1 (ws1.map (·.1)) u0 x := hOV
          obtain ⟨ve, k1, k2, k3⟩ := zh_chk_ok (lv := [(0, x)]) (show zh_chk g0.length pr pe [u] we ge [u0] w1 gg = true from hke) hN1 hG1 hW1 (fun i v h _ => by
            cases i with
            | zero => cases (Option.some.inj h); exact ⟨x, List.mem_cons_self, hOV⟩
            | succ i => cases h)
          obtain ⟨x2, m1, m2⟩ := k3 0 u rfl (fun q => hrr (by rw [q]))
          have e9 : x2 = x := by
            rcases List.mem_cons.mp m1 with h9 | h9
            · cases h9; rfl
            · cases h9
          subst e9
          exact ⟨ve, k1, k2, m2⟩
  rw [htk1] at hGe hWe hOVe
  have hpreE : ∀ i, i < N → ((ρ.take N ++ vals) ++ ve)[i]? = ρ[i]? := by
    intro i hi
    rw [List.getElem?_append_left (by rw [hl0]; omega), zh_lo hN hi]
  have hmidE : ∀ i, N ≤ i → i < g0.length → ((ρ.take N ++ vals) ++ ve)[i]? = vals[i - N]? := by
    intro i hi hi2
    rw [List.getElem?_append_left (by rw [hl0]; exact hi2), zh_hi hN hi]
  have hvE : ∀ i, g0.length ≤ i → ((ρ.take N ++ vals) ++ ve)[i]? = ve[i - g0.length]? := by
    intro i hi
    rw [List.getElem?_append_right (by rw [hl0]; exact hi), hl0]
  have hl1 : ws1.length = idx.length := hWe.1.symm.trans (ze_beq c3)
  have had : ws1.map (·.1) = (zf_sub ws idx).map (·.1) := (had1.eq_of_length (by rw [List.length_map, List.length_map, g1, hl1])).symm
  have hidE : ∀ (n k : Nat), idx[n]? = some k → (ws1.map (·.1))[n]? = (ws.map (·.1))[k]? := fun n k hk => by rw [had]; exact hid n k hk
  rw [hG.1] at hup
  have hrr2 := zf_r2_ok hsp hsl hσ hpreE hmidE hvE (by rw [List.length_map]; exact hl1) hidE
  obtain ⟨w', hk9, hW9, had9⟩ := zf_up_ok (wse := ws1) (ρ2 := ρ ++ ve) (r := zf_r2 N g0.length ρ.length σ idx κ) hWe hrr2 (fun n => rfl) hidE idx 0 w ws _ rfl (fun i k h => by rw [Nat.zero_add]; exact h) (hW.rho (List.prefix_append ρ ve)) hup
  have hvv : ∀ (i k : Nat), idx[i]? = some k → ∃ a e e', ws[k]? = some (a, e) ∧ ws1[0 + i]? = some (a, e') := by
    intro i k hk
    have hkl := hlt k (List.mem_of_getElem? hk)
    have h9 : ws[k]? = some ws[k] := List.getElem?_eq_getElem hkl
    have h8 := hidE i k hk
    rw [List.getElem?_map (l := ws), h9] at h8
    obtain ⟨e', he'⟩ := zf_at h8
    exact ⟨ws[k].1, ws[k].2, e', h9, by rw [Nat.zero_add]; exact he'⟩
  have hadr : ∀ (k : Nat) (q : Nat × va_E), (zf_put ws1 idx 0 ws)[k]? = some q → ∃ e9, ws[k]? = some (q.1, e9) := by
    intro k q hq
    have h9 : ((zf_put ws1 idx 0 ws).map (·.1))[k]? = some q.1 := by rw [List.getElem?_map, hq]; rfl
    rw [had9] at h9
    exact zf_at h9
  have hGn : ze_G (g ++ ge.drop g0.length) (ρ ++ ve) := by
    refine ⟨?_, ?_⟩
    · have h9 := hGe.1
      rw [List.length_append, hl0] at h9
      rw [List.length_append, List.length_append, List.length_drop, hG.1]
      omega
    · intro i p9 x9 e1 e2
      by_cases hi : i < g.length
      · rw [List.getElem?_append_left hi] at e1
        rw [List.getElem?_append_left (by rw [← hG.1]; exact hi)] at e2
        exact hG.2 i p9 x9 e1 e2
      · rw [List.getElem?_append_right (by omega), List.getElem?_drop] at e1
        rw [List.getElem?_append_right (by rw [← hG.1]; omega), ← hG.1] at e2
        refine hGe.2 (g0.length + (i - g.length)) p9 x9 e1 ?_
        rw [hvE _ (by omega), show g0.length + (i - g.length) - g0.length = i - g.length by omega]
        exact e2
  obtain ⟨g9, hG9, hk9⟩ := zf_nw_ok (sp := sp) (ad := ws.map (·.1)) σ (ge.drop N) _ _ hk9 hGn (fun j s p9 j1 j2 => by
    obtain ⟨x, x1, x2⟩ := hσ.2 j s j1
    have hjl : j < σ.length := (List.getElem?_eq_some_iff.mp j1).1
    rw [List.getElem?_drop] at j2
    have hb := hGe.2 (N + j) p9 x j2 (by rw [hmidE (N + j) (by omega) (by omega), show N + j - N = j by omega]; exact x1)
    exact ⟨x, x2.mono (List.prefix_append ρ ve) (List.prefix_refl _), hb.1, hb.2⟩)
  refine ⟨⟨rr.map (zf_r2 N g0.length ρ.length σ idx κ), w', g9, ρ ++ ve, zf_put ws1 idx 0 ws, v, hk9, List.prefix_append _ _, by rw [had9]; exact List.prefix_refl _, hG9, hW9, ?_, ⟨?_, ?_⟩, ?_, ho⟩, hF1.1, fun q h1 h2 => hF1.2 q h1 (fun z => h2 (hAA q z))⟩
  · intro k q hq
    rcases zf_put_get idx 0 ws hvv k q hq with ⟨i, h1, h2⟩ | ⟨h1, h2⟩
    · exact hPt _ _ h2
    · have hat := hP1 k q h2
      refine hat.kept (hF1.2 q.1 hat.lt (fun hAs => ?_))
      rcases hAs with hm | hge
      · obtain ⟨i, hi⟩ := List.getElem?_of_mem hm
        have hil : i < idx.length := by rw [← g1, ← List.length_map (f := fun x : Nat × va_E => x.1)]; exact (List.getElem?_eq_some_iff.mp hi).1
        rw [hid i idx[i] (List.getElem?_eq_getElem hil)] at hi
        obtain ⟨e9, he⟩ := zf_at hi
        have e8 := hP3.1 _ _ _ _ h2 he rfl
        exact h1 (by rw [e8]; exact List.getElem_mem hil)
      · exact absurd hat.lt (Nat.not_lt.mpr hge)
  · intro i j p9 q9 h1 h2 h3
    obtain ⟨e1, k1⟩ := hadr i p9 h1
    obtain ⟨e2, k2⟩ := hadr j q9 h2
    exact hP3.1 _ _ _ _ k1 k2 h3
  · intro k q hq
    obtain ⟨e1, k1⟩ := hadr k q hq
    exact hP3.2 k (q.1, e1) k1
  · rw [had9]
    cases rr with
    | none =>
      cases v with
      | none => trivial
      | some x => exact hOVe
    | some u =>
      cases v with
      | none => exact hOVe
      | some x => exact hrr2 _ _ hOVe
end ZFC
