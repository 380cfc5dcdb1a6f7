/-! a turn of the law, and the law -/
noncomputable def zT_bs (k : Nat) (cal : ECal) : EKn := match k with
  | 0 => zT_inc
  | 1 => zT_h_law cal
  | 2 => zT_h_bit cal
  | 3 => zT_h_one cal
  | _ => zT_h_row cal
def zT_ps (k : Nat) : List Nat := match k with
  | 0 => [1702]
  | 1 => [371]
  | 2 => [411]
  | 3 => [451]
  | _ => [1682]
noncomputable def zT_F (j k : Nat) (cal : ECal) (wk : EW) (g : EG) : Bool := zT_nm g (fun g => zT_wx wk g (fun w => ze_jp zp_L_law_ 19 (fun cs => zcd (List.rec (motive := fun _ => Bool) false (fun e _ _ => Nat.beq e.2.1 32) cs) (ze_lb (ze_jp zp_L_law_) zS_no 10 100 zx_no (zL_B3 (zT_lp cal (zT_ps k) (zT_bs k cal)) j) 4 cs zT_ls [] w g 0 0) false)))
/-- cases that are run number by number -/
noncomputable def zT_sp (j : Nat) : List (Nat × List Nat) := zcd (Nat.beq j 0) [(10, [2147483648, 2147483649, 2147483650, 2147483651, 2147483652, 2147483653, 2147483654, 2147483655, 2147483656, 2147483657, 2147483658, 2147483659, 2147483660, 2147483661, 2147483662, 2147483663, 2147483664, 2147483665, 2147483666, 2147483667, 2147483668, 2147483669, 2147483670, 2147483671, 2147483672, 2147483673, 2147483674, 2147483675, 2147483676, 2147483677, 2147483678, 2147483679, 2147483680, 2147483681, 2147483682, 2147483683, 2147483684, 2147483685, 2147483686, 2147483687, 2147483688, 2147483689, 2147483690, 2147483691, 2147483692, 2147483693, 2147483694, 2147483695, 2147483696, 2147483697, 2147483698, 2147483699, 2147483700, 2147483701, 2147483702, 2147483703, 2147483704, 2147483705, 2147483706, 2147483707, 2147483708, 2147483709, 2147483710, 2147483711, 2147483712, 2147483713, 2147483714, 2147483715, 2147483716, 2147483717, 2147483718, 2147483719, 2147483720, 2147483721, 2147483722, 2147483723, 2147483724, 2147483725, 2147483726, 2147483727])] (zcd (Nat.beq j 1) [(10, [2147483648, 2147483649, 2147483650, 2147483651, 2147483652, 2147483653, 2147483654, 2147483655, 2147483656, 2147483657, 2147483658, 2147483659, 2147483660, 2147483661, 2147483662, 2147483663, 2147483664, 2147483665, 2147483666, 2147483667, 2147483668, 2147483669, 2147483670, 2147483671, 2147483672, 2147483673, 2147483674, 2147483675, 2147483676, 2147483677, 2147483678, 2147483679, 2147483680, 2147483681, 2147483682, 2147483683, 2147483684, 2147483685, 2147483686, 2147483687, 2147483688, 2147483689, 2147483690, 2147483691, 2147483692, 2147483693, 2147483694, 2147483695, 2147483696, 2147483697, 2147483698, 2147483699, 2147483700, 2147483701, 2147483702, 2147483703, 2147483704, 2147483705, 2147483706, 2147483707, 2147483708, 2147483709, 2147483710, 2147483711, 2147483712, 2147483713, 2147483714, 2147483715, 2147483716, 2147483717, 2147483718, 2147483719, 2147483720, 2147483721, 2147483722, 2147483723, 2147483724, 2147483725, 2147483726, 2147483727])] (zcd (Nat.beq j 2) [(12, [2147483648, 2147483649, 2147483650, 2147483651, 2147483652]), (10, [2147483648, 2147483649, 2147483650, 2147483651, 2147483652, 2147483653, 2147483654, 2147483655, 2147483656, 2147483657])] (zcd (Nat.beq j 3) [(13, [2147483648, 2147483649, 2147483650, 2147483651, 2147483652]), (10, [2147483648, 2147483649, 2147483650, 2147483651, 2147483652, 2147483653, 2147483654, 2147483655, 2147483656, 2147483657])] (zcd (Nat.beq j 9) [(139, [2147483662])] (zcd (Nat.beq j 10) [(139, [2147483662])] (zcd (Nat.beq j 11) [(139, [2147483662])] (zcd (Nat.beq j 12) [(139, [2147483662])] (zcd (Nat.beq j 13) [(139, [2147483662])] (zcd (Nat.beq j 14) [(139, [2147483662])] (zcd (Nat.beq j 15) [(139, [2147483662])] (zcd (Nat.beq j 16) [(139, [2147483662])] (zcd (Nat.beq j 17) [(139, [2147483662])] (zcd (Nat.beq j 18) [(139, [2147483648])] (zcd (Nat.beq j 50) [(140, [2147483648, 2147483649, 2147483650, 2147483651, 2147483652, 2147483653, 2147483654])] (zcd (Nat.beq j 51) [(140, [2147483648, 2147483649, 2147483650, 2147483651, 2147483652, 2147483653, 2147483654]), (1, [2147483647, 2147483648, 2147483649, 2147483650])] ([]))))))))))))))))
noncomputable def zT_go (j k : Nat) (cal : ECal) (wk : EW) : Bool := zy_spl (zT_F j k cal wk) (zT_sp j) zT_gx
theorem zy_sp1 {u : Nat} {f : EG → Bool} {g : EG} {lo hi : Nat} {ms : List Nat} (h : g[u]? = some (lo, hi)) (h2 : zy_s1 u f g hi ms lo = true) : zy_spl f [(u, ms)] g = true := by
  show ze_n g u (fun q => zy_s1 u (fun g => f g) g q.2 ms q.1) = true
  rw [ze_n_el, h]
  exact h2
theorem zy_s1_n {u : Nat} {f : EG → Bool} {g : EG} {lo hi : Nat} (h : f (ze_s (lo, hi) g u) = true) : zy_s1 u f g hi [] lo = true := h
theorem zy_s1_c {u : Nat} {f : EG → Bool} {g : EG} {lo hi m : Nat} {ms : List Nat} (h1 : f (ze_s (lo, m) g u) = true) (h2 : zy_s1 u f g hi ms (Nat.succ m) = true) : zy_s1 u f g hi (m :: ms) lo = true := by
  show zcd (f (ze_s (lo, m) g u)) (zy_s1 u f g hi ms (Nat.succ m)) false = true
  rw [h1]
  exact h2
def zT_ok (j : Nat) (wk : EW) : Prop := ∃ (SP : ECal) (FA : List ZFf) (d0 n k : Nat), 3 ≤ d0 ∧ 5 ≤ d0 + n ∧ d0 + n ≤ 1000 ∧ (∀ f ∈ FA, f ∈ zT_FA) ∧ ZEF FA SP d0 ∧ zT_go j k (zX SP n) wk = true
theorem zL_r10 {y1 : Nat → Int32} {vals : List Int32} {i : Nat} (hi : i < 10) : ((List.range 10).map y1 ++ vals)[i]? = some (y1 i) := by
  rw [List.getElem?_append_left (by simpa using hi), List.getElem?_map, List.getElem?_range hi]
  rfl
section ZLU
variable {p : Program} {l : Launch} {e : Env} {s : State} {m : MethodId} {below : List Frame} {meth : Method} {c : Code} {b L : Nat} {Q : State → Prop} {dC : Nat → ClassId} {dI : Nat → Nat → Nat} {dA : Nat → ClassId} {sp : Nat → Nat} {xs : ZXs} {x0 : Nat → Int32} {A : Nat → Prop}
theorem zL_turn {x1 : Nat → Int32} (t0 : zL_T p l s m meth c b dC dI dA sp (x1, []) A) {j : Nat} (hj : x1 0 &&& 63 = nI j) {wk : EW} (hok : zT_ok j wk)
    (hcont : ∀ (H1 : Heap) (locs1 : List Loc) (la1 : Array Slot) (lv1 : List (Nat × Value)) (nc ns : Nat), nc ≤ 10 → ns ≤ 100 → lv_has la1 8 lv1 → zL_J dC dI dA sp A H1 lv1 → (4, Value.int (x1 5)) ∈ lv1 → va_S A s.heap H1 locs1 → W p l e zT_R s m #[Value.ref b] below meth c H1 locs1 nc ns Q (F0 m 1702 la1 []))
    {H : Heap} {la : Array Slot} {lv : List (Nat × Value)} {vals : List Int32} {ws : va_W} (hwk : wk = zT_w0 ∨ wk = zT_w1) (j1 : 196 = 10 + vals.length) (j2 : ∀ (i : Nat) (q : Nat × Nat) (x : Int32), zT_g[10 + i]? = some q → vals[i]? = some x → q.1 ≤ ze_b x ∧ ze_b x ≤ q.2) (j3 : ze_W dA sp (zL_P0 ++ vals) wk ws) (hP : va_P (dC, dI) vwCl ws H) (hD : va_D A ws) (hQ : zQ ws) (hS : va_S A s.heap H []) (hl : lv_has la 8 lv)
    {a1 a2 a3 : Nat} (j6 : (ws.map (·.1))[0]? = some a1) (j7 : (ws.map (·.1))[119]? = some a2) (j8 : (ws.map (·.1))[151]? = some a3) (m0 : (0, Value.ref (sp 0)) ∈ lv) (m1 : (1, Value.ref a1) ∈ lv) (m2 : (2, Value.ref a2) ∈ lv) (m3 : (3, Value.ref a3) ∈ lv) (m4 : (4, Value.int (x1 5)) ∈ lv) (h5 : 2147483648 ≤ ze_b (x1 5) ∧ ze_b (x1 5) ≤ 3221225472) : W p l e zT_R s m #[Value.ref b] below meth c H [] 0 0 Q (F0 m 32 la []) := by
  obtain ⟨SP, FA, d0, n, k, q1, q2, q3, hFA, hSP, hgo⟩ := hok
  have hln : ((List.range 10).map x1).length = 10 := by simp
  have hG0 : ze_G zT_g ((List.range 10).map x1 ++ vals) := by
    refine ⟨?_, ?_⟩
    · rw [zT_gl, List.length_append, hln]
      exact j1
    · intro i q x k1 k2
      by_cases hi : i < 10
      · rw [zL_r10 hi] at k2
        cases k2
        by_cases h9 : i = 5
        · subst h9
          rw [zT_g5] at k1
          cases k1
          exact h5
        · rw [zT_g10 i hi h9] at k1
          cases k1
          exact ⟨Nat.zero_le _, ze_b_top _⟩
      · obtain ⟨r, rfl⟩ : ∃ r, i = 10 + r := ⟨i - 10, by omega⟩
        rw [List.getElem?_append_right (by rw [hln]; omega), hln, Nat.add_sub_cancel_left] at k2
        exact j2 r q x k1 k2
  have hwv : zT_wv wk = true := by
    rcases hwk with rfl | rfl
    · exact zT_wv0.1
    · exact zT_wv0.2
  obtain ⟨τ, F, S, m9, L9, P9, T9, d9, e9, sd9, se9, fa9, fb9, p0, hGx, hKt, hwx⟩ := zT_start hwk hln j1 hG0 (zT_W (zT_sw rfl hln) hwv j3) hQ
  have t : zL_T p l s m meth c b dC dI dA sp (x1, τ) A := t0
  have hZ : ze_Z (x1, τ) τ := ⟨fun j hj => ze_pre p0 (zL_r10 hj), List.prefix_refl _⟩
  have hcal := zX_okF (l := l) (dC := dC) (dI := dI) (dA := dA) (sp := sp) (xs := (x1, τ)) (A := A) q1 hSP (zF_sub hKt.2.2 hFA) n
  have hinc := zL_inc_ok (xs := (x1, τ)) hKt (p := p) (l := l) (e := e) (m := m) (below := below) (meth := meth) (c := c) (b := b) (Q := Q) hcont
  have hbs : ze_KK p l e zT_R s m #[Value.ref b] below meth c Q ([], []) dC dI dA sp (x1, τ) A 8 (fun cs => zk_code 14 code 8 ret false zp_L_law_ cs = true) (zT_bs k (zX SP n)) := by
    have k1 := zL_h_law_ok (e := e) (below := below) (Q := Q) t ⟨q2, q3⟩ hcal hinc
    have k2 := zL_h_bit_ok (e := e) (below := below) (Q := Q) t ⟨q2, q3⟩ hcal hinc
    have k3 := zL_h_one_ok (e := e) (below := below) (Q := Q) t ⟨q2, q3⟩ hcal hinc
    have k4 := zL_h_row_ok (e := e) (below := below) (Q := Q) t ⟨q2, q3⟩ hcal hinc
    rcases k with _ | _ | _ | _ | k
    · exact hinc
    · exact k1
    · exact k2
    · exact k3
    · exact k4
  obtain ⟨gS0, hGS0, hgo⟩ := zy_spl_ok _ _ hgo hGx
  obtain ⟨gS, hgo, hGS⟩ := zT_nm_ok hKt (List.prefix_refl τ) hGS0 hgo
  obtain ⟨wS, hgo, hWS⟩ := hwx gS _ hGS hgo
  obtain ⟨cs, g1, h⟩ := ze_jp_spec hgo
  obtain ⟨g2, h⟩ := ze_condf h
  have hV : zk_code 14 code 8 ret false zp_L_law_ cs = true := by
    unfold ze_tgt at g1
    cases hq : zp_L_law_[19 / 16]? with
    | none => rw [hq] at g1; cases g1
    | some c0 =>
      rw [hq] at g1
      exact zk_drop _ c0 _ (zq_L_law_ c0 (List.mem_of_getElem? hq)) g1
  have hat : ze_at (fun cs => zk_code 14 code 8 ret false zp_L_law_ cs = true) cs 32 := ⟨hV, by
    cases cs with
    | nil => cases g2
    | cons e8 r8 => exact ⟨e8, r8, rfl, ze_beq g2⟩⟩
  refine ze_lb_ok (zL_TF (d := 3) t ⟨by decide, by decide⟩ ⟨zS_no_ok.2 l dC dI dA sp (x1, τ) A 3 (Nat.le_refl 3), zS_no_ok.1.op⟩) zL_TR (zL_Bok3 t.2.1 t.2.2.1 hj (zL_lp_ok (d := d0 + n) t ⟨by omega, q3⟩ hcal hbs)) 4 _ _ _ _ _ _ _ h 32 hat τ ws H [] la [] ⟨hGS, ⟨hZ, List.nil_prefix, List.nil_prefix⟩, hWS, hP, hD, hS, ⟨lv, hl, ?_⟩, trivial⟩
  · intro i v hi hn
    match i, hi with
    | 0, hi =>
      have hi : some (eX 2) = some v := hi
      cases hi
      exact ⟨_, m0, rfl⟩
    | 1, hi =>
      have hi : some (eR 0) = some v := hi
      cases hi
      exact ⟨_, m1, a1, j6, rfl⟩
    | 2, hi =>
      have hi : some (eR 119) = some v := hi
      cases hi
      exact ⟨_, m2, a2, j7, rfl⟩
    | 3, hi =>
      have hi : some (eR 151) = some v := hi
      cases hi
      exact ⟨_, m3, a3, j8, rfl⟩
    | 4, hi =>
      have hi : some (eU 5) = some v := hi
      cases hi
      exact ⟨_, m4, x1 5, ze_pre p0 (zL_r10 (by decide)), rfl⟩
    | 5, hi => exact absurd (Option.some.inj (show some (eX 1) = some v from hi)).symm hn
    | 6, hi => exact absurd (Option.some.inj (show some (eX 1) = some v from hi)).symm hn
    | 7, hi => exact absurd (Option.some.inj (show some (eX 1) = some v from hi)).symm hn
    | i + 8, hi => cases hi
theorem zL_sub5 {L : Nat} (h : L ≤ 2560) : (Int32.ofNat L - 5).toInt = (L : Int) - 5 := by
  have h1 : (Int32.ofNat L).toInt = (L : Int) := nI_toInt (n := L) (by omega)
  rw [Int32.toInt_sub, h1, show (5 : Int32).toInt = 5 from rfl]
  unfold Int.bmod
  simp only []
  split <;> omega
/-- the loop's own test -/
theorem zL_head (hL : L ≤ 2560) (C0 : lw_At p s m meth c b L x0) {n cells slots : Nat} (hn : n ≤ L + 5) {H : Heap} {locs : List Loc} {la : Array Slot} {lv : List (Nat × Value)} (hl : lv_has la 8 lv) (h4 : (4, Value.int (nI n)) ∈ lv) (h0 : (0, Value.ref b) ∈ lv) (hS : va_S (zL_A s) s.heap H locs)
    (kt : L < n + 5 → W p l e room_1 s m #[Value.ref b] below meth c H locs cells slots Q (F0 m 1708 la [])) (kf : n + 4 < L → W p l e room_1 s m #[Value.ref b] below meth c H locs cells slots Q (F0 m 32 la [])) : W p l e room_1 s m #[Value.ref b] below meth c H locs cells slots Q (F0 m 23 la []) := by
  have hbl := C0.2.2.2.2.2.2.2.1
  refine lv_iload C0.1 C0.2.1 (i := 4) (x := nI n) (by decide +kernel) (hl.2.2 _ h4) ?_
  refine lv_aload_n C0.1 C0.2.1 (k := 0) (i := 0) (x := b) (by decide +kernel) rfl (hl.2.2 _ h0) ?_
  refine va_slen (A := zL_A s) C0.1 C0.2.1 C0.2.2.2.2.2.2.1 hbl (Nat.not_le.mpr hbl) hS (by decide +kernel) ?_
  refine lv_iconst C0.1 C0.2.1 (n := 5) (v := 5) (by decide +kernel) rfl ?_
  refine lv_isub C0.1 C0.2.1 (by decide +kernel) ?_
  have e1 := zL_sub5 hL
  have e2 : (nI n).toInt = (n : Int) := nI_toInt (by omega)
  refine lv_icmp_gt C0.1 C0.2.1 (off := 1679) (tgt := 1708) (by decide +kernel) rfl (fun h => kt ?_) (fun h => kf ?_)
  · rw [Int32.lt_iff_toInt_lt, e1, e2] at h
    omega
  · rw [Int32.lt_iff_toInt_lt, e1, e2] at h
    omega
theorem zL_exit (C0 : lw_At p s m meth c b L x0) {cells slots : Nat} (hc : cells ≤ 601024) (hs : slots ≤ 7293034) {H : Heap} {locs : List Loc} {la : Array Slot} (hS : va_S (zL_A s) s.heap H locs) : W p l e room_1 s m #[Value.ref b] below meth c H locs cells slots (lw_Z below #[Value.ref b] s) (F0 m 1708 la []) := by
  refine lv_iconst C0.1 C0.2.1 (n := 1) (v := 1) (by decide +kernel) rfl ?_
  exact va_forget (fun q hq => hS.2.2 q hq) (W.widen hc hs (lw_ret C0.1 C0.2.1 C0.2.2.1 C0.2.2.2.2.2.2.2.2.1 (by decide +kernel)))
theorem zL_xs5 {f : Nat → Int32} {i : Int32} : zL_xs x0 i f 5 = i := by
  show (if 5 < 5 then f 5 else if 5 < 10 then i + nI (5 - 5) else x0 (5 - 10)) = i
  rw [if_neg (by decide), if_pos (by decide)]
  exact Int32.add_zero i
theorem zL_main (hl : l.stackTraces = false) (hL : L ≤ 2560) (C0 : lw_At p s m meth c b L x0) (hK : ze_K dC dI dA s) (h0 : sp 0 = b) (h1 : sp 1 = L) (hSt : ze_S sp (zL_A s) s) (hall : ∀ j, j < 64 → zT_ok j zT_w0 ∧ zT_ok j zT_w1) : ∀ (k n : Nat), L + 5 ≤ n + k → n ≤ L + 5 → ∀ (H : Heap) (locs : List Loc) (la : Array Slot) (lv : List (Nat × Value)) (cells slots : Nat), cells ≤ 1000 + 2 * n → slots ≤ 20000 + 20 * n → lv_has la 8 lv → zL_J dC dI dA sp (zL_A s) H lv → (4, Value.int (nI n)) ∈ lv → va_S (zL_A s) s.heap H locs → W p l e room_1 s m #[Value.ref b] below meth c H locs cells slots (lw_Z below #[Value.ref b] s) (F0 m 23 la []) := by
  have hZ := zL_Zof C0
  have hbl := C0.2.2.2.2.2.2.2.1
  intro k
  induction k with
  | zero =>
    intro n hk hn H locs la lv cells slots hc hs hl8 hJ h4 hS
    have m0 : (0, Value.ref b) ∈ lv := by
      obtain ⟨vals, ws, wk, -, -, -, -, -, -, -, a1, a2, a3, -, -, -, m0, -⟩ := hJ
      rw [h0] at m0
      exact m0
    exact zL_head hL C0 hn hl8 h4 m0 hS (fun hx => zL_exit C0 (by omega) (by omega) hS) (fun hx => absurd hx (by omega))
  | succ k ih =>
    intro n hk hn H locs la lv cells slots hc hs hl8 hJ h4 hS
    obtain ⟨vals, ws, wk, hwk, j1, j2, j3, j4, j5, jq, a1, a2, a3, j6, j7, j8, m0, m1, m2, m3⟩ := hJ
    refine zL_head hL C0 hn hl8 h4 (by rw [← h0]; exact m0) hS (fun hx => zL_exit C0 (by omega) (by omega) hS) (fun hx => ?_)
    obtain ⟨j, hj64, hj⟩ := zL_j (x0 n)
    have hok : zT_ok j wk := by
      rcases hwk with rfl | rfl
      · exact (hall j hj64).1
      · exact (hall j hj64).2
    intro T hT X
    have Y0 := vx_rebase X (R' := zT_R) (Nat.le_refl _) (Nat.le_refl _) (by show cells + 10 ≤ 601024; omega) (by show slots + 100 ≤ 7293034; omega)
    obtain ⟨s', hs'⟩ : ∃ z, z = (T.setVm s.vm).setFrames (.invoking m #[Value.ref b] :: below) := ⟨_, rfl⟩
    rw [← hs'] at Y0
    have hvm : s'.vm = s.vm := by rw [hs']; rfl
    have hhp : s'.heap = H := by rw [hs']; exact hT
    have hW0 : s.WarmedH s'.vm := by rw [hvm]; exact State.WarmedH.refl s
    have hS' : va_S (zL_A s) s.heap s'.heap locs := by rw [hhp]; exact hS
    have t : zL_T p l s' m meth c b dC dI dA sp (zL_xs x0 (nI n) (fun k => x0 (n + k)), []) (zL_A s) := by
      refine ⟨hl, C0.1, C0.2.1, C0.2.2.2.1, by rw [hvm]; exact C0.2.2.2.2.1, hK.warm hW0, zL_X h0 h1 ((C0.2.2.2.2.2.2.1.kept (hS'.2.1 _ hbl (Nat.not_le.mpr hbl))).moved hW0.alike) (Nat.lt_of_lt_of_le hbl hS'.1) (Nat.not_le.mpr hbl) (by omega) (Or.inr ⟨n, hx, rfl, fun k hk => rfl⟩) (hSt.at hS' hW0), fun q hq => Nat.le_trans hS'.1 hq, fun w hw => ?_, hZ.at hS' hW0⟩
      exact vx_ot_at hW0 hvm.symm (by unfold vx_ot; rw [(zb_good w hw).2]; exact Bool.or_true _) (C0.2.2.2.2.2.1 w (zb_good w hw).1)
    have e5 : zL_xs x0 (nI n) (fun k => x0 (n + k)) 5 = nI n := zL_xs5
    have e0 : zL_xs x0 (nI n) (fun k => x0 (n + k)) 0 = x0 n := if_pos (by decide)
    have hb5 : ze_b (nI n) = 2147483648 + n := by
      rw [ze_b_nI]
      omega
    have K := zL_turn (e := e) (below := below) (Q := lw_Z below #[Value.ref b] s) t (j := j) (by rw [e0]; exact hj) hok ?_ (H := H) (la := la) hwk j1 j2 j3 j4 j5 jq (by rw [hhp]; exact va_S.rf) hl8 j6 j7 j8 m0 m1 m2 m3 (by rw [e5]; exact h4) (by rw [e5, hb5]; omega)
    · exact K T hT Y0
    intro H1 locs1 la1 lv1 nc ns hnc hns hl1 hJ1 h41 hS1 T1 hT1 Y1
    rw [hs'] at Y1
    have X1 := zL_back X Y1
    have hS2 : va_S (zL_A s) s.heap H1 (locs ++ locs1) := ⟨Nat.le_trans hS'.1 hS1.1, fun q g1 g2 => by rw [hS1.2.1 q (Nat.lt_of_lt_of_le g1 hS'.1) g2]; exact hS'.2.1 q g1 g2, fun q hq => (List.mem_append.mp hq).elim (hS.2.2 q) (hS1.2.2 q)⟩
    rw [e5] at h41
    obtain ⟨i4, hi4⟩ := List.getElem?_of_mem h41
    have K2 : W p l e room_1 s m #[Value.ref b] below meth c H1 (locs ++ locs1) (cells + nc) (slots + ns) (lw_Z below #[Value.ref b] s) (F0 m 1702 la1 []) := by
      refine lv_iinc C0.1 C0.2.1 (i := 4) (n := 5) (x := nI n) (v := nI (n + 5)) (by decide +kernel) hl1 hi4 (by rw [show Int32.ofInt 5 = nI 5 by decide +kernel, nI_add]) (by decide) rfl (fun la2 hl2 => ?_)
      refine lv_goto C0.1 C0.2.1 (off := -1682) (tgt := 23) (by decide +kernel) rfl ?_
      refine ih (n + 5) (by omega) (by omega) H1 (locs ++ locs1) la2 _ (cells + nc) (slots + ns) (by omega) (by omega) hl2 (hJ1.lv fun i a hi hm => List.mem_cons_of_mem _ (List.mem_filter.mpr ⟨hm, ?_⟩)) List.mem_cons_self hS2
      have h9 : (i == 4) = false := beq_eq_false_iff_ne.mpr (by omega)
      show (!(i == 4) && !(i + 1 == 4 && (Value.ref a).category == 2)) = true
      rw [h9, show ((Value.ref a).category == 2) = false from rfl, Bool.and_false]
      rfl
    exact K2 T1 hT1 X1
end ZLU
/-! the entry -/
def zT_lz : List EV := [eX 2, eR 0, eR 119, eR 151, eC 0, eX 1, eX 1, eX 1]
noncomputable def zT_gz : EG := ze_s (0, 4294967295) zT_g 5
noncomputable def zT_ch0 (w : EW) : Bool := zq_e w 17 2 (fun F => zq_e w 17 3 (fun S => zq_e w 17 4 (fun M => zq_e w 5 3 (fun _ => zq_e w 5 4 (fun _ => zq_e w 1 1 (fun T => zq_es w zT_Dk (fun _ => zq_es w zT_Ek (fun _ => zq_es w zT_SDk (fun _ => zq_es w zT_SEk (fun _ => zcd (zs_q F (.inl 0)) (zcd (zs_q S (.inl 0)) (zcd (zs_q M (.inl 0)) (zcd (zs_q T (.inl 0)) (zcd (zT_ak w 2) (zT_ak w 124) false) false) false) false) false))))))))))
theorem zT_ch0_ok {dA : Nat → ClassId} {sp : Nat → Nat} {ρ : List Int32} {w : EW} {ws : va_W} (hW : ze_W dA sp ρ w ws) (hk : zT_ch0 w = true) : zQ ws := by
  obtain ⟨F', xF, hk, vF, aF, -⟩ := zq_e_ok hW hk
  obtain ⟨S', xS, hk, vS, aS, -⟩ := zq_e_ok hW hk
  obtain ⟨M', xM, hk, vM, aM, -⟩ := zq_e_ok hW hk
  obtain ⟨L', xL, hk, vL, aL, -⟩ := zq_e_ok hW hk
  obtain ⟨P', xP, hk, vP, aP, -⟩ := zq_e_ok hW hk
  obtain ⟨T', xT, hk, vT, aT, -⟩ := zq_e_ok hW hk
  obtain ⟨D', hk, -, lD⟩ := zq_es_ok hW _ _ hk
  obtain ⟨E', hk, -, lE⟩ := zq_es_ok hW _ _ hk
  obtain ⟨SD', hk, -, lSD⟩ := zq_es_ok hW _ _ hk
  obtain ⟨SE', hk, -, lSE⟩ := zq_es_ok hW _ _ hk
  obtain ⟨d', hD⟩ := zT_vals lD
  obtain ⟨e', hE⟩ := zT_vals lE
  obtain ⟨sd', hSD⟩ := zT_vals lSD
  obtain ⟨se', hSE⟩ := zT_vals lSE
  obtain ⟨k1, hk⟩ := ze_condf hk
  obtain ⟨k2, hk⟩ := ze_condf hk
  obtain ⟨k3, hk⟩ := ze_condf hk
  obtain ⟨k4, hk⟩ := ze_condf hk
  obtain ⟨k5, k6⟩ := ze_condf hk
  have e1 := zs_q_ok k1
  have e2 := zs_q_ok k2
  have e3 := zs_q_ok k3
  have e4 := zs_q_ok k4
  subst e1; subst e2; subst e3; subst e4
  have vF : xF = nI 0 := vF
  have vS : xS = nI 0 := vS
  have vM : xM = nI 0 := vM
  have vT : xT = nI 0 := vT
  subst vF; subst vS; subst vM; subst vT
  obtain ⟨fa, hfa⟩ := zT_ak_ok hW k5
  obtain ⟨fb, hfb⟩ := zT_ak_ok hW k6
  refine ⟨0, 0, 0, xL, xP, nI 0, d', e', sd', se', fa, fb, ⟨aF, aS, aM, aL, aP, aT, fun j hj => ⟨(hD j _ (zT_Dkg j hj).1).1, (hE j _ (zT_Dkg j hj).2.1).1⟩, fun j hj => ⟨(hSD j _ (zT_Skg j hj).1).1, (hSE j _ (zT_Skg j hj).2.1).1⟩, hfa, hfb⟩, by decide, by decide, by decide, ⟨fun j hj => absurd hj (Nat.not_lt_zero j), fun j hj => absurd hj (Nat.not_lt_zero j)⟩, ⟨fun j _ h => ?_, fun j _ h => ?_⟩, fun k _ h => ?_⟩
  · rw [Nat.zero_testBit] at h
    cases h
  · rw [Nat.zero_testBit] at h
    cases h
  · rw [zq_bn (n := 0) (by decide)] at h
    omega
noncomputable def zT_ent : EKn := fun cs ls st w g nc ns => List.rec (motive := fun _ => Bool) false (fun e _ _ => zcd (Nat.beq e.2.1 23) (zcd (Nat.ble nc 1000) (zcd (Nat.ble ns 20000) (zl_0 st (zcd (zT_ch0 w) (zT_any zT_lz zT_gz ls w g) false)) false) false) false) cs
theorem zT_entry : zy_lp (ze_jp zp_L_law_) (zX zS_no 30) 601024 7293034 zx_no [23] zT_ent 100 zp_L_law__0 (ze_il [eX 2] 8) [] (0, []) (List.replicate 10 (0, 4294967295)) 0 0 = true := by decide +kernel
theorem zL_go (hall : ∀ j, j < 64 → zT_ok j zT_w0 ∧ zT_ok j zT_w1) {p : Program} {e : Env} {s : State} {m : MethodId} {below : List Frame} {meth : Method} {c : Code} (l : Launch) (hl : l.stackTraces = false) {b L : Nat} {x0 : Nat → Int32} (hL : L ≤ 2560) (C0 : lw_At p s m meth c b L x0) : W p l e room_1 s m #[Value.ref b] below meth c s.heap [] 0 0 (lw_Z below #[Value.ref b] s) (entryFrame m ([Value.ref b] : List Value).toArray 8) := by
  obtain ⟨dC, dI, dA, hK⟩ := zL_Ks C0.2.2.2.2.2.1
  obtain ⟨sp, h0, h1, hSt⟩ := zL_Sof C0
  have hbl := C0.2.2.2.2.2.2.2.1
  rw [lg_entry_eq]
  have hl8 := lv_entry [Value.ref b] (n := 8) (show 1 ≤ 8 from by decide)
  have hX : ze_X sp (zL_xs x0 (nI 2147483648) (fun _ => 0), []) (zL_A s) s := zL_X h0 h1 C0.2.2.2.2.2.2.1 hbl (Nat.not_le.mpr hbl) (by omega) (Or.inl (by decide +kernel)) hSt
  have hF : ze_Fx p l room_1 s m #[Value.ref b] meth c dC dI dA sp (zL_xs x0 (nI 2147483648) (fun _ => 0), []) (zL_A s) 14 8 33 code ret false zp_L_law_ (zX zS_no 30) 601024 7293034 :=
    ⟨zF, C0.1, C0.2.1, C0.2.2.2.1, C0.2.2.2.2.1, hK, hX, fun q hq => hq, fun w hw => C0.2.2.2.2.2.1 w (zb_good w hw).1, ⟨rfl, rfl⟩, ⟨by decide, by decide, by decide⟩, (fun h => by cases h), zX_okE (Nat.le_refl 3) zS_no_ok 30, zq_L_law_⟩
  have hB : ze_KK p l e room_1 s m #[Value.ref b] below meth c (lw_Z below #[Value.ref b] s) ([], []) dC dI dA sp (zL_xs x0 (nI 2147483648) (fun _ => 0), []) (zL_A s) 8 (fun cs => zk_code 14 code 8 ret false zp_L_law_ cs = true) zT_ent := by
    intro cs ls st w g nc ns h pc hat ρ ws H locs la vs hH
    obtain ⟨hV, e9, r, rfl, hpc⟩ := hat
    obtain ⟨g1, h⟩ := ze_condf (show zcd (Nat.beq e9.2.1 23) (zcd (Nat.ble nc 1000) (zcd (Nat.ble ns 20000) (zl_0 st (zcd (zT_ch0 w) (zT_any zT_lz zT_gz ls w g) false)) false) false) false = true from h)
    obtain ⟨g2, h⟩ := ze_condf h
    obtain ⟨g3, h⟩ := ze_condf h
    have b1 : pc = 23 := hpc.symm.trans (ze_beq g1)
    subst b1
    cases st with
    | cons a t => cases h
    | nil =>
      have b4 : vs = [] := hH.2.2.2.2.2.2.2.nil
      subst b4
      obtain ⟨hG, hY, hW, hP, hD, hS, ⟨lv, hl9, hL9⟩, hV9⟩ := hH
      have hN : 10 ≤ ρ.length := by
        have h9 := (List.getElem?_eq_some_iff.mp (hY.1.1 9 (by omega))).1
        omega
      obtain ⟨gc, h⟩ := ze_condf h
      have hQ := zT_ch0_ok hW gc
      obtain ⟨J, vals, k3⟩ := zT_any_ok (ls' := zT_lz) (g' := zT_gz) h (by unfold zT_gz; rw [ze_s_eq, List.length_set]; exact zT_gl) (fun i => by unfold zT_gz; rw [ze_s_eq, List.getElem?_set_ne (by omega)]) rfl rfl rfl rfl hN hG hW hP hD hQ hL9
      obtain ⟨y4, m4, e4⟩ := k3 4 (eC 0) rfl (by decide)
      have e4 : y4 = .int (nI 0) := e4
      subst e4
      exact zL_main hl hL C0 hK h0 h1 hSt hall (L + 5) 0 (by omega) (by omega) H locs la lv nc ns (by have := ze_ble' g2; omega) (by have := ze_ble' g3; omega) hl9 J m4 hS
  refine zy_lp_ok hF zL_TR hB 100 _ _ _ _ _ _ _ zT_entry 0 ⟨zt_L_law_, _, _, rfl, rfl⟩ ((List.range 10).map (zL_xs x0 (nI 2147483648) (fun _ => 0)) ++ []) [] s.heap [] _ [] ⟨⟨by simp, fun i q x k1 k2 => ?_⟩, ⟨⟨fun i hi => zL_r10 hi, List.nil_prefix⟩, List.nil_prefix, List.nil_prefix⟩, ⟨rfl, fun k c h => ?_⟩, ?_, ⟨(fun i j q r hq => by cases hq), (fun k q hq => by cases hq)⟩, va_S.rf, ⟨_, hl8, ?_⟩, trivial⟩
  · have hq := ze_rep k1
    subst hq
    exact ⟨Nat.zero_le _, ze_b_top _⟩
  · cases h
  · intro k q hq; cases hq
  · intro j v hj hn
    obtain ⟨x, q1, q2⟩ := ze_il_LL (sp := sp) (ρ := (List.range 10).map (zL_xs x0 (nI 2147483648) (fun _ => 0)) ++ []) (ad := []) [eX 2] [Value.ref b] 8 0 ⟨(show Value.ref b = .ref (sp 0) by rw [h0]), trivial⟩ j v hj hn
    rw [Nat.zero_add] at q1
    exact ⟨x, q1, q2⟩
