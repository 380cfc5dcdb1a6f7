/-! the law's turns: what holds at the head of one, and how one goes -/
def zL_A (s : State) : Nat → Prop := fun q => s.heap.size ≤ q
def zL_tm (i : Nat) : Term := ([Term.string "ConfettiMinutes$Script" 29, Term.string "ConfettiMinutes$Script" 51, Term.string "ConfettiMinutes$Script" 53, Term.string "ConfettiMinutes$Script" 55, Term.string "ConfettiMinutes$Script" 57, Term.string "ConfettiMinutes$Rule" 92, Term.string "ConfettiMinutesModel" 245, Term.string "ConfettiMinutesModel" 247, Term.string "ConfettiMinutesModel" 249, Term.string "ConfettiMinutesModel" 373, Term.string "ConfettiMinutesModel" 375] : List Term).getD i (.int 0)
theorem zL_f1 : ∀ i, i < 11 → Cond.exactly (zL_tm i) "java/lang/String" ∈ flatC (Jvm.Cond.and given_1 narrow_1) := by decide +kernel
theorem zL_f2 : ∀ i, i < 11 → Cond.eq (.field (zL_tm i) "java/lang/String" "coder" "B") (.int 0) ∈ flatC (Jvm.Cond.and given_1 narrow_1) := by decide +kernel
theorem zL_f3 : ∀ i, i < 11 → Cond.arrayOf (.field (zL_tm i) "java/lang/String" "value" "[B") .byte ∈ flatC (Jvm.Cond.and given_1 narrow_1) := by decide +kernel
theorem zL_f4 : ∀ i, i < 11 → Cond.eq (.length (.field (zL_tm i) "java/lang/String" "value" "[B")) (.int (Int32.ofNat (zt_l.getD i 0))) ∈ flatC (Jvm.Cond.and given_1 narrow_1) := by decide +kernel
theorem zL_f5 : ∀ i, i < 11 → ∀ j, j < zt_l.getD i 0 → Cond.eq (.elem (.field (zL_tm i) "java/lang/String" "value" "[B") (.int (Int32.ofNat j))) (.int ((zt_b.getD i []).getD j 0)) ∈ flatC (Jvm.Cond.and given_1 narrow_1) := by decide +kernel
theorem zL_f6 : ∀ i, i < 11 → ∀ j, j < 11 → i ≠ j → (Cond.not (Cond.eq (zL_tm i) (zL_tm j)) ∈ flatC (Jvm.Cond.and given_1 narrow_1) ∨ Cond.not (Cond.eq (zL_tm j) (zL_tm i)) ∈ flatC (Jvm.Cond.and given_1 narrow_1)) := by decide +kernel
theorem zL_f7 : Cond.eq (Term.string "ConfettiMinutes$Rule" 92) (Term.string "ConfettiMinutesModel" 236) ∈ flatC (Jvm.Cond.and given_1 narrow_1) := by decide +kernel
/-- where a class's text lies: its number -/
def zL_tr (o n : Nat) : Nat := if zn o = "ConfettiMinutesModel" ∧ n = 236 then 5 else ((List.range 11).find? (fun i => decide (zL_tm i = Term.string (zn o) n))).getD 0
theorem zL_f8 : ∀ o, o < zl_t.length → ∀ q ∈ zl_t.getD o [], q.2 = 12 + 2 * ((q.2 - 12) / 2) ∧ (q.2 - 12) / 2 < 11 ∧ Cond.stringRef (zn o) q.1 (zt_tx q.2) ∈ lw_tbl ∧ (zL_tm ((q.2 - 12) / 2) = Term.string (zn o) q.1 ∨ (zL_tm ((q.2 - 12) / 2) = Term.string "ConfettiMinutes$Rule" 92 ∧ zn o = "ConfettiMinutesModel" ∧ q.1 = 236)) := by decide +kernel
section ZLA
variable {p : Program} {l : Launch} {e : Env} {s : State} {m : MethodId} {below : List Frame} {meth : Method} {c : Code} {b L : Nat} {x0 : Nat → Int32}
theorem zL_eqr {args : Array Value} {s : State} {t1 t2 : Term} {a : Nat} (h : (Cond.eq t1 t2).before args s = true) (h1 : t1.eval args s none [] s = some (.ref a)) : t2.eval args s none [] s = some (.ref a) := by
  cases hv : t2.eval args s none [] s with
  | none => simp [Cond.before, Cond.holds, Cond.value, h1, hv] at h
  | some w =>
    cases w <;> simp [Cond.before, Cond.holds, Cond.value, h1, hv] at h
    rw [h]
theorem zL_Sof (C0 : lw_At p s m meth c b L x0) : ∃ sp : Nat → Nat, sp 0 = b ∧ sp 1 = L ∧ ze_S sp (zL_A s) s := by
  obtain ⟨-, -, -, -, -, hts, -, -, -, hgv⟩ := C0
  have hs := flat_of_before _ hgv
  have hA : ∀ a : Nat, a < s.heap.size → ¬ zL_A s a := fun a h => Nat.not_le.mpr h
  obtain ⟨adK, adV, h1, h2⟩ := vk_Sof (args := #[Value.ref b]) (s := s) (N := 11) (tm := zL_tm) (len := zt_l) (byt := zt_b) (A := zL_A s) (fun i hi => Nat.lt_of_le_of_lt (zt_len i hi) (by decide)) (fun i hi => hs _ (zL_f1 i hi)) (fun i hi => hs _ (zL_f2 i hi)) (fun i hi => hs _ (zL_f3 i hi)) (fun i hi => hs _ (zL_f4 i hi)) (fun i hi j hj => hs _ (zL_f5 i hi j hj))
    (fun i j hi hj h => (zL_f6 i hi j hj h).elim (fun q => Or.inl (hs _ q)) (fun q => Or.inr (hs _ q))) hA
  refine ⟨fun k => if k = 0 then b else if k = 1 then L else if k % 2 = 0 then adK ((k - 10) / 2) else adV ((k - 11) / 2), rfl, rfl, ?_, ?_⟩
  · have e1 : zt_K (fun k => if k = 0 then b else if k = 1 then L else if k % 2 = 0 then adK ((k - 10) / 2) else adV ((k - 11) / 2)) = adK := by
      funext t
      show (if 10 + 2 * t = 0 then b else if 10 + 2 * t = 1 then L else if (10 + 2 * t) % 2 = 0 then adK ((10 + 2 * t - 10) / 2) else adV ((10 + 2 * t - 11) / 2)) = adK t
      rw [if_neg (by omega), if_neg (by omega), if_pos (by omega), show (10 + 2 * t - 10) / 2 = t by omega]
    have e2 : zt_V (fun k => if k = 0 then b else if k = 1 then L else if k % 2 = 0 then adK ((k - 10) / 2) else adV ((k - 11) / 2)) = adV := by
      funext t
      show (if 11 + 2 * t = 0 then b else if 11 + 2 * t = 1 then L else if (11 + 2 * t) % 2 = 0 then adK ((11 + 2 * t - 10) / 2) else adV ((11 + 2 * t - 11) / 2)) = adV t
      rw [if_neg (by omega), if_neg (by omega), if_neg (by omega), show (11 + 2 * t - 11) / 2 = t by omega]
    refine ⟨by rw [e1, e2]; exact h1, va_Zof (hts _ (by decide +kernel)) (hts _ (by decide +kernel)) (va_eqt (hs _ (by decide +kernel))) hA, va_Zqof (hts _ (by decide +kernel)) (hts _ (by decide +kernel)) (hs _ (by decide +kernel)) hA⟩
  · intro o n a hm
    have ho : o < zl_t.length := by
      rcases Nat.lt_or_ge o zl_t.length with q | q
      · exact q
      · rw [List.getD_eq_getElem?_getD, List.getElem?_eq_none q] at hm
        cases hm
    obtain ⟨k1, k2, k3, k4⟩ := zL_f8 o ho _ hm
    have k1 : a = 12 + 2 * ((a - 12) / 2) := k1
    have e1 : (if a - 2 = 0 then b else if a - 2 = 1 then L else if (a - 2) % 2 = 0 then adK ((a - 2 - 10) / 2) else adV ((a - 2 - 11) / 2)) = adK ((a - 12) / 2) := by
      rw [if_neg (by omega), if_neg (by omega), if_pos (by omega), show (a - 2 - 10) / 2 = (a - 12) / 2 by omega]
    show vk_R (zn o) n (zt_tx a) (if a - 2 = 0 then b else if a - 2 = 1 then L else if (a - 2) % 2 = 0 then adK ((a - 2 - 10) / 2) else adV ((a - 2 - 11) / 2)) s
    rw [e1]
    refine vk_R.of (hts _ k3) ?_
    have h3 := h2 _ k2
    rcases k4 with k4 | ⟨k4, k5, k6⟩
    · rw [← show zL_tm ((a - 12) / 2) = Term.string (zn o) n from k4]; exact h3
    · have k4 : zL_tm ((a - 12) / 2) = Term.string "ConfettiMinutes$Rule" 92 := k4
      have k6 : n = 236 := k6
      rw [k5, k6]
      rw [k4] at h3
      exact zL_eqr (hs _ zL_f7) h3
theorem zL_Zof (C0 : lw_At p s m meth c b L x0) : zx_Z (zL_A s) s := by
  obtain ⟨-, -, -, -, -, hts, -, -, -, hgv⟩ := C0
  have hs := flat_of_before _ hgv
  have hA : ∀ a : Nat, a < s.heap.size → ¬ zL_A s a := fun a h => Nat.not_le.mpr h
  refine ⟨vx_Zqof (hts _ (by decide +kernel)) (hts _ (by decide +kernel)) (hs _ (by decide +kernel)) hA, vx_Zqof (hts _ (by decide +kernel)) (hts _ (by decide +kernel)) (hs _ (by decide +kernel)) hA, fun w hw => va_Nw.of (zx_w2 w hw).1 (hts w (zx_w3 w (List.mem_cons_of_mem _ (List.mem_cons_of_mem _ (List.mem_filter.mp hw).1))))⟩
end ZLA
/-- the unknowns at a place -/
def zL_xs (x0 : Nat → Int32) (i : Int32) (f : Nat → Int32) : Nat → Int32 := fun j => if j < 5 then f j else if j < 10 then i + nI (j - 5) else x0 (j - 10)
theorem zL_X {τ : List Int32} {U : State} {sp : Nat → Nat} {A : Nat → Prop} {b L : Nat} {x0 f : Nat → Int32} {i : Int32} (h0 : sp 0 = b) (h1 : sp 1 = L) (hX : va_X b L x0 U U.heap) (hb : b < U.heap.size) (hA : ¬ A b) (hL : L ≤ 1073741824) (hi : ze_b i = 0 ∨ ∃ n, n + 4 < L ∧ i = nI n ∧ ∀ k, k < 5 → f k = x0 (n + k)) (hS : ze_S sp A U) : ze_X sp (zL_xs x0 i f, τ) A U := by
  have e1 : (fun j => zL_xs x0 i f (10 + j)) = x0 := funext fun j => by
    show (if 10 + j < 5 then f (10 + j) else if 10 + j < 10 then i + nI (10 + j - 5) else x0 (10 + j - 10)) = x0 j
    rw [if_neg (by omega), if_neg (by omega), Nat.add_sub_cancel_left]
  have e5 : zL_xs x0 i f 5 = i := by
    show (if 5 < 5 then f 5 else if 5 < 10 then i + nI (5 - 5) else x0 (5 - 10)) = i
    rw [if_neg (by decide), if_pos (by decide)]
    exact Int32.add_zero i
  refine ⟨by rw [h0, h1]; exact (show va_X b L (fun j => zL_xs x0 i f (10 + j)) U U.heap by rw [e1]; exact hX), by rw [h0]; exact hb, by rw [h0]; exact hA, by rw [h1]; exact hL, ⟨fun k hk => ?_, ?_⟩, hS⟩
  · show zL_xs x0 i f (5 + k) = zL_xs x0 i f 5 + nI k
    rw [e5]
    show (if 5 + k < 5 then f (5 + k) else if 5 + k < 10 then i + nI (5 + k - 5) else x0 (5 + k - 10)) = i + nI k
    rw [if_neg (by omega), if_pos (by omega), Nat.add_sub_cancel_left]
  · rcases hi with h | ⟨n, h2, h3, h4⟩
    · exact Or.inl (show ze_b (zL_xs x0 i f 5) = 0 by rw [e5]; exact h)
    · refine Or.inr ⟨n, by rw [h1]; exact h2, show zL_xs x0 i f 5 = nI n by rw [e5]; exact h3, fun k hk => ?_⟩
      have e6 : zL_xs x0 i f k = f k := by
        show (if k < 5 then f k else _) = f k
        rw [if_pos hk]
      have e7 : zL_xs x0 i f (10 + (n + k)) = x0 (n + k) := congrFun e1 (n + k)
      show zL_xs x0 i f k = zL_xs x0 i f (10 + (n + k))
      rw [e6, e7, h4 k hk]
/-- back from a frame seen anew -/
theorem zL_back {p : Program} {l : Launch} {e : Env} {R R' : Room} {s : State} {m : MethodId} {args : Array Value} {below : List Frame} {meth : Method} {c : Code} {T T1 : State} {locs locs1 : List Loc} {cells slots nc ns : Nat} (X : Stand p l e R s m args below meth c T locs cells slots) (Y : Stand p l e R' ((T.setVm s.vm).setFrames (.invoking m args :: below)) m args below meth c T1 locs1 nc ns) : Stand p l e R s m args below meth c T1 (locs ++ locs1) (cells + nc) (slots + ns) := by
  refine ⟨X.admits, X.cas, X.clock, X.frames, X.room, X.hears, X.method, X.code, Y.here, Y.tail, ?_, ?_, ?_, ?_⟩
  · exact State.WarmedH.trans (show s.WarmedH ((T.setVm s.vm).setFrames (.invoking m args :: below)).vm from State.WarmedH.refl s) Y.warmed
  · have h := Y.limits
    rw [State.stackLimits_setFrames] at h
    exact h.trans X.limits
  · have h := Y.bytes
    rw [State.stackBytes_setFrames] at h
    exact h.trans X.bytes
  · obtain ⟨e1, e2⟩ := Y.same
    rw [State.setFrames_setFrames] at e1
    have h2 : (T.setVm s.vm).sameButNew (T1.setVm s.vm) locs1 nc ns := ⟨e1, e2⟩
    exact X.same.trans h2
/-! a world whose unknowns are all from the tenth on: the first ten don't matter -/
def zT_ev (v : EV) : Bool := match v with
  | .inl (.inr i) => Nat.ble 10 i
  | .inr (.inl (.inr (.inr i))) => Nat.ble 10 i
  | _ => true
def zT_wv (w : EW) : Bool := w.2.all (fun ch => ch.all (fun c => c.2.all zT_ev))
section ZTW
variable {dA : Nat → ClassId} {sp : Nat → Nat} {ρ1 ρ2 : List Int32} {ad : List Nat}
theorem zT_V (hρ : ∀ i, 10 ≤ i → ρ2[i]? = ρ1[i]?) {v : EV} {x : Value} (h : zT_ev v = true) (hv : ze_V sp ρ1 ad v x) : ze_V sp ρ2 ad v x := by
  match v, h, hv with
  | .inl (.inl n), _, hv => exact hv
  | .inl (.inr i), h, ⟨z, a, b⟩ => exact ⟨z, by rw [hρ i (ze_ble' h)]; exact a, b⟩
  | .inr (.inl (.inl k)), _, hv => exact hv
  | .inr (.inl (.inr (.inl n))), _, hv => exact hv
  | .inr (.inl (.inr (.inr i))), h, ⟨z, a, b⟩ => exact ⟨z, by rw [hρ i (ze_ble' h)]; exact a, b⟩
  | .inr (.inr 0), _, hv => exact hv
  | .inr (.inr 1), _, hv => exact hv
  | .inr (.inr (k + 2)), _, hv => exact hv
theorem zT_L (hρ : ∀ i, 10 ≤ i → ρ2[i]? = ρ1[i]?) : ∀ {vs : List EV} {xs : List Value}, (∀ v ∈ vs, zT_ev v = true) → ze_L sp ρ1 ad vs xs → ze_L sp ρ2 ad vs xs := by
  intro vs
  induction vs with
  | nil => intro xs _ h; rw [h.nil]; trivial
  | cons v vs ih =>
    intro xs h1 h
    obtain ⟨y, ys, rfl, h2, h3⟩ := h.cons
    exact ⟨zT_V hρ (h1 v List.mem_cons_self) h2, ih (fun u hu => h1 u (List.mem_cons_of_mem _ hu)) h3⟩
theorem zT_C (hρ : ∀ i, 10 ≤ i → ρ2[i]? = ρ1[i]?) {c : EC} {e : va_E} (hv : ∀ v ∈ c.2, zT_ev v = true) (h : ze_C dA sp ρ1 ad c e) : ze_C dA sp ρ2 ad c e := by
  rcases h with ⟨a, fs, b, q⟩ | ⟨a, a2, f, b, q⟩ | ⟨a, a2, f, b, q⟩ | ⟨a, a2, f, b, q⟩ | hs | ⟨a, a2, zs, f, b, q⟩
  · exact Or.inl ⟨a, fs, b, zT_L hρ hv q⟩
  · exact Or.inr (Or.inl ⟨a, a2, f, b, fun j v hj => zT_V hρ (hv v (List.mem_of_getElem? hj)) (q j v hj)⟩)
  · exact Or.inr (Or.inr (Or.inl ⟨a, a2, f, b, fun j v hj => zT_V hρ (hv v (List.mem_of_getElem? hj)) (q j v hj)⟩))
  · exact Or.inr (Or.inr (Or.inr (Or.inl ⟨a, a2, f, b, fun j v hj => zT_V hρ (hv v (List.mem_of_getElem? hj)) (q j v hj)⟩)))
  · exact Or.inr (Or.inr (Or.inr (Or.inr (Or.inl hs))))
  · refine Or.inr (Or.inr (Or.inr (Or.inr (Or.inr ⟨a, a2, zs, f, ⟨b.1, fun t v ht => ?_⟩, q⟩))))
    obtain ⟨x, k1, k2⟩ := b.2 t v ht
    exact ⟨x, k1, zT_V hρ (hv v (List.mem_of_getElem? ht)) k2⟩
theorem zT_W (hρ : ∀ i, 10 ≤ i → ρ2[i]? = ρ1[i]?) {w : EW} {ws : va_W} (h : zT_wv w = true) (hW : ze_W dA sp ρ1 w ws) : ze_W dA sp ρ2 w ws := by
  refine ⟨hW.1, fun k c hc => ?_⟩
  obtain ⟨a, e, q1, q2⟩ := hW.2 k c hc
  refine ⟨a, e, q1, zT_C hρ (fun v hv => ?_) q2⟩
  have hc : (w.2[k / 16]?).bind (fun ch => ch[k % 16]?) = some c := hc
  cases hch : w.2[k / 16]? with
  | none => rw [hch] at hc; cases hc
  | some ch =>
    rw [hch] at hc
    have hc : ch[k % 16]? = some c := hc
    have h1 := List.all_eq_true.mp h ch (List.mem_of_getElem? hch)
    have h2 := List.all_eq_true.mp h1 c (List.mem_of_getElem? hc)
    exact List.all_eq_true.mp h2 v hv
end ZTW
theorem zT_sw {p1 p2 v : List Int32} (h1 : p1.length = 10) (h2 : p2.length = 10) : ∀ i, 10 ≤ i → (p2 ++ v)[i]? = (p1 ++ v)[i]? := by
  intro i hi
  rw [List.getElem?_append_right (by omega), List.getElem?_append_right (by omega), h1, h2]
/-! the head of a turn -/
def zT_ls : List EV := [eX 2, eR 0, eR 119, eR 151, eU 5, eX 1, eX 1, eX 1]
theorem zT_wv0 : zT_wv zT_w0 = true ∧ zT_wv zT_w1 = true := by decide +kernel
theorem zT_gl : zT_g.length = 196 := by decide +kernel
theorem zT_g10 : ∀ i, i < 10 → i ≠ 5 → zT_g[i]? = some (0, 4294967295) := by decide +kernel
theorem zT_g5 : zT_g[5]? = some (2147483648, 3221225472) := by decide +kernel
def zL_P0 : List Int32 := [0, 0, 0, 0, 0, 0, 0, 0, 0, 0]
/-- what holds of the heap and of the locals at the head of a turn -/
def zL_J (dC : Nat → ClassId) (dI : Nat → Nat → Nat) (dA : Nat → ClassId) (sp : Nat → Nat) (A : Nat → Prop) (H : Heap) (lv : List (Nat × Value)) : Prop := ∃ (vals : List Int32) (ws : va_W) (wk : EW), (wk = zT_w0 ∨ wk = zT_w1) ∧ 196 = 10 + vals.length ∧ (∀ (i : Nat) (q : Nat × Nat) (x : Int32), zT_g[10 + i]? = some q → vals[i]? = some x → q.1 ≤ ze_b x ∧ ze_b x ≤ q.2) ∧ ze_W dA sp (zL_P0 ++ vals) wk ws ∧ va_P (dC, dI) vwCl ws H ∧ va_D A ws ∧ zQ ws ∧
  ∃ a1 a2 a3 : Nat, (ws.map (·.1))[0]? = some a1 ∧ (ws.map (·.1))[119]? = some a2 ∧ (ws.map (·.1))[151]? = some a3 ∧ (0, Value.ref (sp 0)) ∈ lv ∧ (1, Value.ref a1) ∈ lv ∧ (2, Value.ref a2) ∈ lv ∧ (3, Value.ref a3) ∈ lv
theorem zL_J.lv {dC : Nat → ClassId} {dI : Nat → Nat → Nat} {dA : Nat → ClassId} {sp : Nat → Nat} {A : Nat → Prop} {H : Heap} {lv lv' : List (Nat × Value)} (h : zL_J dC dI dA sp A H lv) (hl : ∀ i a, i < 4 → (i, Value.ref a) ∈ lv → (i, Value.ref a) ∈ lv') : zL_J dC dI dA sp A H lv' := by
  obtain ⟨vals, ws, wk, k1, k2, k3, k4, k5, k6, kq, a1, a2, a3, k7, k8, k9, k10, k11, k12, k13⟩ := h
  exact ⟨vals, ws, wk, k1, k2, k3, k4, k5, k6, kq, a1, a2, a3, k7, k8, k9, hl _ _ (by decide) k10, hl _ _ (by decide) k11, hl _ _ (by decide) k12, hl _ _ (by decide) k13⟩
/-- a state of the engine, seen as the head of a turn -/
noncomputable def zT_any (ls' : List EV) (g' : EG) (ls : List EV) (w : EW) (g : EG) : Bool := zcd (zh_chk 10 [] zT_pl ls' zT_w0 g' ls w g) true (zh_chk 10 [] zT_pl ls' zT_w1 g' ls w g)
theorem zT_any_ok {dC : Nat → ClassId} {dI : Nat → Nat → Nat} {dA : Nat → ClassId} {sp : Nat → Nat} {A : Nat → Prop} {H : Heap} {lv : List (Nat × Value)} {ls' ls : List EV} {w : EW} {g' g : EG} {ρ : List Int32} {ws : va_W} (h : zT_any ls' g' ls w g = true) (hg1 : g'.length = 196) (hg2 : ∀ i, g'[10 + i]? = zT_g[10 + i]?) (h0 : ls'[0]? = some (eX 2)) (h1 : ls'[1]? = some (eR 0)) (h2 : ls'[2]? = some (eR 119)) (h3 : ls'[3]? = some (eR 151)) (hN : 10 ≤ ρ.length) (hG : ze_G g ρ) (hW : ze_W dA sp ρ w ws) (hP : va_P (dC, dI) vwCl ws H) (hD : va_D A ws) (hQ : zQ ws) (hL : ze_LL sp ρ (ws.map (·.1)) ls lv) :
    zL_J dC dI dA sp A H lv ∧ ∃ vals, ze_LL sp (ρ.take 10 ++ vals) (ws.map (·.1)) ls' lv := by
  have hk : ∃ wk, (wk = zT_w0 ∨ wk = zT_w1) ∧ zh_chk 10 [] zT_pl ls' wk g' ls w g = true := by
    rcases ze_cond h with ⟨q, -⟩ | ⟨-, q⟩
    · exact ⟨_, Or.inl rfl, q⟩
    · exact ⟨_, Or.inr rfl, q⟩
  obtain ⟨wk, hwk, hc⟩ := hk
  obtain ⟨vals, k1, k2, k3⟩ := zh_chk_ok hc hN hG hW hL
  have ht : (ρ.take 10).length = 10 := by rw [List.length_take]; omega
  have hl : 196 = 10 + vals.length := by
    have h9 := k1.1
    rw [hg1, List.length_append, ht] at h9
    exact h9
  have hwv : zT_wv wk = true := by
    rcases hwk with rfl | rfl
    · exact zT_wv0.1
    · exact zT_wv0.2
  obtain ⟨y0, m0, v0⟩ := k3 0 _ h0 (by decide)
  obtain ⟨y1, m1, a1, v1, e1⟩ := k3 1 _ h1 (by decide)
  obtain ⟨y2, m2, a2, v2, e2⟩ := k3 2 _ h2 (by decide)
  obtain ⟨y3, m3, a3, v3, e3⟩ := k3 3 _ h3 (by decide)
  have v0 : y0 = .ref (sp 0) := v0
  subst v0; subst e1; subst e2; subst e3
  refine ⟨⟨vals, ws, wk, hwk, hl, fun i q x hq hx => ?_, zT_W (zT_sw ht rfl) hwv k2, hP, hD, hQ, a1, a2, a3, v1, v2, v3, m0, m1, m2, m3⟩, vals, k3⟩
  refine k1.2 (10 + i) q x (by rw [hg2]; exact hq) ?_
  rw [List.getElem?_append_right (by omega), ht, Nat.add_sub_cancel_left]
  exact hx
def zT_R : Room := { frames := 2048, cells := 10, slots := 100, locals := 84000 }
noncomputable def zT_inc : EKn := fun cs ls st w g nc ns => List.rec (motive := fun _ => Bool) false (fun e _ _ => zcd (Nat.beq e.2.1 1702) (zcd (Nat.ble nc 10) (zcd (Nat.ble ns 100) (zl_0 st (zT_chk w g (fun w2 g2 => zT_any zT_ls zT_g ls w2 g2))) false) false) false) cs
noncomputable def zT_lp (cal : ECal) (ps : List Nat) (base : EKn) : EKn := zy_lp (ze_jp zp_L_law_) cal 10 100 zx_no ps base 300
/-- what holds in the law while a turn runs -/
def zL_T (p : Program) (l : Launch) (s : State) (m : MethodId) (meth : Method) (c : Code) (b : Nat) (dC : Nat → ClassId) (dI : Nat → Nat → Nat) (dA : Nat → ClassId) (sp : Nat → Nat) (xs : ZXs) (A : Nat → Prop) : Prop := l.stackTraces = false ∧ p.tables.exec = Jvm.exec ∧ c.code = code ∧ c.maxLocals = 8 ∧ s.vm.findClass (zn 14) = some m.cls ∧ ze_K dC dI dA s ∧ ze_X sp xs A s ∧ (∀ q, s.heap.size ≤ q → A q) ∧ (∀ w ∈ zb_T, w.before #[Value.ref b] s = true) ∧ zx_Z A s
section ZLT
variable {p : Program} {l : Launch} {e : Env} {s : State} {m : MethodId} {below : List Frame} {meth : Method} {c : Code} {b d : Nat} {Q : State → Prop} {dC : Nat → ClassId} {dI : Nat → Nat → Nat} {dA : Nat → ClassId} {sp : Nat → Nat} {xs : ZXs} {A : Nat → Prop} {cal : ECal}
theorem zL_TF (t : zL_T p l s m meth c b dC dI dA sp xs A) (hd : 3 ≤ d ∧ d ≤ 1000) (hcal : ze_CalA l dC dI dA sp xs A cal d) : ze_Fx p l zT_R s m #[Value.ref b] meth c dC dI dA sp xs A 14 8 d code ret false zp_L_law_ cal 10 100 :=
  ⟨zF, t.2.1, t.2.2.1, t.2.2.2.1, t.2.2.2.2.1, t.2.2.2.2.2.1, t.2.2.2.2.2.2.1, t.2.2.2.2.2.2.2.1, t.2.2.2.2.2.2.2.2.1, ⟨rfl, rfl⟩, ⟨hd.1, (by show d + 1 ≤ 2048; omega), (by show 70 * (d + 1) ≤ 84000; omega)⟩, (fun h => by cases h), hcal, zq_L_law_⟩
theorem zL_TR {R : Room} {mc ms : Nat} : ze_Re p l e R s m #[Value.ref b] below meth c Q ([], []) dC dI dA sp xs A 8 code ret zx_no mc ms := by
  intro pc nc ns ls st w g ρ ws H locs la vs hH k1 k2
  refine ⟨?_, ?_, ?_, ?_⟩
  · intro u x ty q1 q2 q3; cases q3
  · intro u x q1 q2 q3; cases q3
  · intro u x ty q1 q2 q3; cases q3
  · intro q1 q2 q3; cases q3
theorem zL_lp_ok {ps : List Nat} {base : EKn} (t : zL_T p l s m meth c b dC dI dA sp xs A) (hd : 3 ≤ d ∧ d ≤ 1000) (hcal : ze_CalA l dC dI dA sp xs A cal d) (hB : ze_KK p l e zT_R s m #[Value.ref b] below meth c Q ([], []) dC dI dA sp xs A 8 (fun cs => zk_code 14 code 8 ret false zp_L_law_ cs = true) base) : ze_KK p l e zT_R s m #[Value.ref b] below meth c Q ([], []) dC dI dA sp xs A 8 (fun cs => zk_code 14 code 8 ret false zp_L_law_ cs = true) (zT_lp cal ps base) :=
  zy_lp_ok (zL_TF t hd hcal) zL_TR hB 300
theorem zL_inc_ok {F S m9 : Nat} {L P T : Int32} {d9 e9 sd se fa fb : Nat → Int32} (hKt : zT_K xs.2 F S m9 L P T d9 e9 sd se fa fb) (hcont : ∀ (H1 : Heap) (locs1 : List Loc) (la1 : Array Slot) (lv1 : List (Nat × Value)) (nc ns : Nat), nc ≤ 10 → ns ≤ 100 → lv_has la1 8 lv1 → zL_J dC dI dA sp A H1 lv1 → (4, Value.int (xs.1 5)) ∈ lv1 → va_S A s.heap H1 locs1 → W p l e zT_R s m #[Value.ref b] below meth c H1 locs1 nc ns Q (F0 m 1702 la1 [])) : ze_KK p l e zT_R s m #[Value.ref b] below meth c Q ([], []) dC dI dA sp xs A 8 (fun cs => zk_code 14 code 8 ret false zp_L_law_ cs = true) zT_inc := by
  intro cs ls st w g nc ns h pc hat ρ ws H locs la vs hH
  obtain ⟨hV, e9, r, rfl, hpc⟩ := hat
  obtain ⟨h1, h⟩ := ze_condf (show zcd (Nat.beq e9.2.1 1702) (zcd (Nat.ble nc 10) (zcd (Nat.ble ns 100) (zl_0 st (zT_chk w g (fun w2 g2 => zT_any zT_ls zT_g ls w2 g2))) false) false) false = true from h)
  obtain ⟨h2, h⟩ := ze_condf h
  obtain ⟨h3, h⟩ := ze_condf h
  have b1 : pc = 1702 := hpc.symm.trans (ze_beq h1)
  subst b1
  cases st with
  | cons a t => cases h
  | nil =>
    have b4 : vs = [] := hH.2.2.2.2.2.2.2.nil
    subst b4
    obtain ⟨hG, hY, hW, hP, hD, hS, ⟨lv, hl, hL⟩, hV9⟩ := hH
    have hN : 10 ≤ ρ.length := by
      have h9 := (List.getElem?_eq_some_iff.mp (hY.1.1 9 (by omega))).1
      omega
    obtain ⟨w2, g2, h, hG2, hW2, hQ2⟩ := zT_chk_ok hKt hY.1.2 hG hW (show zT_chk w g (fun w2 g2 => zT_any zT_ls zT_g ls w2 g2) = true from h)
    obtain ⟨J, vals, k3⟩ := zT_any_ok (ls' := zT_ls) (g' := zT_g) h zT_gl (fun i => rfl) rfl rfl rfl rfl hN hG2 hW2 hP hD hQ2 hL
    obtain ⟨y4, m4, z, v4, e4⟩ := k3 4 (eU 5) rfl (by decide)
    rw [zh_lo hN (by omega), hY.1.1 5 (by omega)] at v4
    cases v4
    subst e4
    exact hcont H locs la lv nc ns (ze_ble' h2) (ze_ble' h3) hl J m4 hS
/-- the row that works out script[i] & 63, its value known -/
noncomputable def zL_B3 (kk : EKn) (j : Nat) : EKn := fun cs ls st w g nc ns => match cs, st with
  | (.iand, pc, a, b, c, tl) :: r, .inl (.inl k) :: .inl (.inr i) :: rest => zcd (Nat.beq k 63) (zcd (Nat.beq i 0) (kk r ls (eC j :: rest) w g nc ns) false) false
  | _, _ => false
theorem zL_Bok3 {R : Room} {j : Nat} {kk : EKn} (hx : p.tables.exec = Jvm.exec) (hb : c.code = code) (hj : xs.1 0 &&& 63 = nI j) (hkk : ze_KK p l e R s m #[Value.ref b] below meth c Q ([], []) dC dI dA sp xs A 8 (fun cs => zk_code 14 code 8 ret false zp_L_law_ cs = true) kk) : ze_KK p l e R s m #[Value.ref b] below meth c Q ([], []) dC dI dA sp xs A 8 (fun cs => zk_code 14 code 8 ret false zp_L_law_ cs = true) (zL_B3 kk j) := by
  intro cs ls st w g nc ns h pc hat ρ ws H locs la vs hH
  unfold zL_B3 at h
  split at h
  · rename_i pc0 a0 b0 c0 tl0 r k i rest
    obtain ⟨h1, h⟩ := ze_condf h
    obtain ⟨h2, h⟩ := ze_condf h
    have e1 := ze_beq h1
    have e2 := ze_beq h2
    subst e1; subst e2
    obtain ⟨hV, e9, r9, hcs, hpc⟩ := hat
    obtain ⟨rfl, rfl⟩ := List.cons.inj hcs
    obtain ⟨hrow, hVr⟩ := zk_tail hV
    subst hpc
    obtain ⟨h3, h4⟩ := zk_and (show zk_s .iand 14 code 8 ret false zp_L_law_ pc0 a0 b0 c0 tl0 r = true from hrow)
    have hd := zk_dec h3
    have hn := zk_nx hVr h4
    obtain ⟨y1, r1, q1, V1, L1⟩ := hH.2.2.2.2.2.2.2.cons
    obtain ⟨y2, r2, q2, V2, L2⟩ := L1.cons
    subst q1; subst q2
    have V1 : y1 = .int (nI 63) := V1
    obtain ⟨z, hz, V2⟩ := id V2
    subst V1; subst V2
    have ez : z = xs.1 0 := Option.some.inj (hz.symm.trans (hH.2.1.1.1 0 (by omega)))
    subst ez
    refine lv_iand hx hb hd ?_
    rw [show xs.1 0 &&& nI 63 = nI j from hj]
    exact hkk _ _ _ _ _ _ _ h _ hn _ _ _ _ _ _ (hH.stk ⟨rfl, L2⟩)
  · cases h
theorem zL_j (x : Int32) : ∃ j, j < 64 ∧ x &&& 63 = nI j := by
  have h := zi_and (sp := fun _ => 0) (g := []) (ρ := [x]) (ad := []) (eU 0) (eC 63) x 63 ⟨x, rfl, rfl⟩ (congrArg Value.int (by decide +kernel))
  have h : 2147483648 ≤ ze_b (x &&& 63) ∧ ze_b (x &&& 63) ≤ 2147483711 := h
  refine ⟨ze_b (x &&& 63) - 2147483648, by omega, ?_⟩
  rw [ze_b_eq]
  have h2 := ze_b_int (nI (ze_b (x &&& 63) - 2147483648))
  rw [nI_toInt (by omega)] at h2
  omega
end ZLT
