/-- what the tables say of the classes, of the arrays -/
noncomputable def ze_CF : Prop := ∀ (ci : Nat) (C : String) (T : u_T) (N : Nat), vwCl[ci]? = some (C, T, N) → ci < 100 ∧ (∀ w ∈ u_ws C T N, w ∈ zb_T) ∧ (∃ ty0 : Nat → FieldType, ∀ k, k < N → parseFieldDescriptor (T k).2.2.1 = some (ty0 k)) ∧ ∀ a, a < N → ∀ b, b < N → a ≠ b → (T a).2.1 ≠ (T b).2.1
noncomputable def ze_AF : Prop := ∀ ci ∈ ze_rk, ∃ r : vw_C, vwCl[ci]? = some r ∧ (200 + ci, FieldType.object r.1) ∈ ze_arr
noncomputable def ze_FL (own : String) (idx : Nat) (T : u_T) (k : Nat) : Prop := Cond.fieldLink own idx (T k).1 (T k).2.1 (T k).2.2.1 ∈ zb_T ∨ ∃ host, Cond.fieldLinkNest own idx (T k).1 (T k).2.1 (T k).2.2.1 host ∈ ze_nest
noncomputable def ze_ty (t : Nat) (ty : FieldType) : Prop := (t = 0 ∧ ty = .int) ∨ (t = 1 ∧ ty = .boolean) ∨ (t = 2 ∧ ∃ n, ty = .object n) ∨ (t = 2 ∧ ∃ n, ty = .array n) ∨ (t = 3 ∧ ty = .long) ∨ (t = 4 ∧ ty = .char)
theorem ze_char (n : Nat) (h : n ≤ 65535) : narrow .char (.int (nI n)) = .int (nI n) ∧ fits .char (.int (nI n)) = true := pk_charN (by omega)
theorem ze_mem_in : ∀ (l : List Nat) (n : Nat), ze_mem n l = true → n ∈ l := by
  intro l
  induction l with
  | nil => intro n h; cases h
  | cons a t ih =>
    intro n h
    have h : zcd (Nat.beq a n) true (ze_mem n t) = true := h
    rcases ze_cond h with ⟨q, _⟩ | ⟨_, q⟩
    · rw [ze_beq q]; exact List.mem_cons_self
    · exact List.mem_cons_of_mem _ (ih n q)
theorem ze_fit {sp : Nat → Nat} {ρ : List Int32} {ad : List Nat} {t : Nat} {ty : FieldType} {v : EV} {x : Value} (h : ze_ty t ty) (hc : ze_tc t v = true) (hv : ze_V sp ρ ad v x) : narrow ty x = x ∧ fits ty x = true := by
  rcases h with ⟨rfl, rfl⟩ | ⟨rfl, rfl⟩ | ⟨rfl, n, rfl⟩ | ⟨rfl, n, rfl⟩ | ⟨rfl, rfl⟩ | ⟨rfl, rfl⟩
  · match v, hc, hv with
    | .inl u, _, hv =>
      obtain ⟨z, ez⟩ := ze_intV hv
      subst ez
      exact ⟨rfl, rfl⟩
    | .inr u, hc, _ => exact absurd hc (by intro q; cases q)
  · match v, hc, hv with
    | .inl (.inl n), hc, hv =>
      have e : x = .int (nI n) := hv
      subst e
      have hn : n ≤ 1 := ze_ble' hc
      rcases Nat.lt_or_ge n 1 with q | q
      · rw [show n = 0 by omega]; exact ⟨by decide +kernel, by decide +kernel⟩
      · rw [show n = 1 by omega]; exact ⟨by decide +kernel, by decide +kernel⟩
    | .inl (.inr n), hc, _ => exact absurd hc (by intro q; cases q)
    | .inr u, hc, _ => exact absurd hc (by intro q; cases q)
  · match v, hc, hv with
    | .inl u, hc, _ => exact absurd hc (by intro q; cases q)
    | .inr (.inl (.inl k)), _, ⟨a, _, e⟩ => subst e; exact ⟨rfl, rfl⟩
    | .inr (.inl (.inr k)), hc, _ => exact absurd hc (by intro q; cases q)
    | .inr (.inr 0), _, e => rw [show x = .null from e]; exact ⟨rfl, rfl⟩
    | .inr (.inr (k + 1)), hc, _ => exact absurd hc (by intro q; cases q)
  · match v, hc, hv with
    | .inl u, hc, _ => exact absurd hc (by intro q; cases q)
    | .inr (.inl (.inl k)), _, ⟨a, _, e⟩ => subst e; exact ⟨rfl, rfl⟩
    | .inr (.inl (.inr k)), hc, _ => exact absurd hc (by intro q; cases q)
    | .inr (.inr 0), _, e => rw [show x = .null from e]; exact ⟨rfl, rfl⟩
    | .inr (.inr (k + 1)), hc, _ => exact absurd hc (by intro q; cases q)
  · match v, hc, hv with
    | .inl u, hc, _ => exact absurd hc (by intro q; cases q)
    | .inr (.inl (.inl k)), hc, _ => exact absurd hc (by intro q; cases q)
    | .inr (.inl (.inr k)), _, e => obtain ⟨z, ez⟩ := ze_longV e; rw [ez]; exact ⟨rfl, rfl⟩
    | .inr (.inr k), hc, _ => exact absurd hc (by intro q; cases q)
  · match v, hc, hv with
    | .inl (.inl n), hc, hv =>
      have e : x = .int (nI n) := hv
      subst e
      exact ze_char n (ze_ble' hc)
    | .inl (.inr n), hc, _ => exact absurd hc (by intro q; cases q)
    | .inr u, hc, _ => exact absurd hc (by intro q; cases q)
section ZS3
variable {p : Program} {l : Launch} {e : Env} {R : Room} {s : State} {m : MethodId} {args : Array Value} {below : List Frame} {meth : Method} {c : Code} {Q : State → Prop}
variable {z0 : List Int32 × List Nat} {dC : Nat → ClassId} {dI : Nat → Nat → Nat} {dA : Nat → ClassId} {sp : Nat → Nat} {xs : ZXs} {A : Nat → Prop} {nL : Nat} {V : List ECE → Prop}
variable {kk : EKn} {k : ERt} {cal : ECal} {mc ms pc pc2 ca cb cd nc ns : Nat} {nx : List ECE} {jp : EJp} {tl : List Nat} {ls st : List EV} {w : EW} {g : EG} {ρ : List Int32} {ws : va_W} {H : Heap} {locs : List Loc} {la : Array Slot} {vs : List Value}
variable {cc : ByteArray} {own : String} {idx : Nat}
/-- behind a store into a cell -/
theorem ze_H.put {q a : Nat} {e0 e1 : va_E} {c1 : EC} {H1 : Heap} {locs1 : List Loc} {rest : List EV} {vr : List Value} (hH : ze_H z0 dC dI dA sp xs A s nL ls st w g ρ ws H locs la vs) (hq : ws[q]? = some (a, e0)) (hC : ze_C dA sp ρ (ws.map (·.1)) c1 e1) (hP : va_P (dC, dI) vwCl (ws.set q (a, e1)) H1) (hD : va_D A (ws.set q (a, e1))) (hS : va_S A s.heap H1 locs1) (hr : ze_L sp ρ (ws.map (·.1)) rest vr) :
    ze_H z0 dC dI dA sp xs A s nL ls rest (ze_ws w q c1) g ρ (ws.set q (a, e1)) H1 locs1 la vr := by
  obtain ⟨lv, hl, hL⟩ := hH.2.2.2.2.2.2.1
  exact ⟨hH.1, ⟨hH.2.1.1, hH.2.1.2.1, by rw [ze_fst hq]; exact hH.2.1.2.2⟩, hH.2.2.1.set hq hC, hP, hD, hS, ⟨lv, hl, by rw [ze_fst hq]; exact hL⟩, by rw [ze_fst hq]; exact hr⟩
theorem zs_getf {C : String} {T : u_T} {N : Nat} (hx : p.tables.exec = Jvm.exec) (hb : c.code = cc) (hown : s.vm.findClass own = some m.cls) (hKs : ze_K dC dI dA s) (hts : ∀ w ∈ zb_T, w.before args s = true) (hcf : ze_CF) (hK : ze_KK p l e R s m args below meth c Q z0 dC dI dA sp xs A nL V kk)
    (hc : vwCl[ca]? = some (C, T, N)) (hkN : cb < N) (hl : ze_FL own idx T cb) (hdg : decode cc pc = .ok (.getfield idx, 3)) (hn : ze_at V nx (pc + 3)) (h : zo_getf nx ca cb cd tl jp kk k cal mc ms ls st w g nc ns = true) (hH : ze_H z0 dC dI dA sp xs A s nL ls st w g ρ ws H locs la vs) : W p l e R s m args below meth c H locs nc ns Q (F0 m pc la vs) := by
  rw [zo_getf_eq] at h
  unfold zo_getf_m at h
  split at h
  · obtain ⟨y1, r1, e1, V1, L1⟩ := hH.2.2.2.2.2.2.2.cons
    subst e1
    obtain ⟨cl, h1, h2⟩ := ze_g_spec h
    obtain ⟨h3, h4⟩ := ze_condf h2
    obtain ⟨v, h5, h6⟩ := ze_n_spec _ _ _ h4
    have e3 := ze_beq h3
    obtain ⟨a, en, ex, hw, hC⟩ := hH.2.2.1.ref h1 V1
    subst ex
    have hf := hcf ca C T N hc
    obtain ⟨fs, ef, hfs⟩ := hC.obj (by rw [e3]; exact hf.1)
    rw [e3] at ef
    subst ef
    obtain ⟨x, hx1, hx2⟩ := hfs.get h5
    have k9 := hK _ _ _ _ _ _ _ h6 _ hn _ _ _ _ _ _ (hH.stk (vs' := x :: r1) ⟨hx2, L1⟩)
    rcases hl with hl | ⟨host, hl⟩
    · exact va_get (D := (dC, dI)) hx hb hts hf.2.1 hown hKs.k0 hH.2.2.2.1 _ hw hc cb hkN (hts _ hl) (fun _ h9 => h9) hx1 hdg k9
    · exact va_getN (D := (dC, dI)) hx hb hts hf.2.1 hown hKs.k0 hH.2.2.2.1 _ hw hc cb hkN (va_Nw.use rfl (hKs.2.2.1 _ hl)) (fun _ h9 => h9) hx1 hdg k9
  · cases h
theorem zs_putf {C : String} {T : u_T} {N : Nat} {ty : FieldType} (hx : p.tables.exec = Jvm.exec) (hb : c.code = cc) (hown : s.vm.findClass own = some m.cls) (hKs : ze_K dC dI dA s) (hts : ∀ w ∈ zb_T, w.before args s = true) (hcf : ze_CF) (hK : ze_KK p l e R s m args below meth c Q z0 dC dI dA sp xs A nL V kk)
    (hc : vwCl[ca]? = some (C, T, N)) (hkN : cb < N) (hd : parseFieldDescriptor (T cb).2.2.1 = some ty) (hty : ze_ty cd ty) (hl : ((T cb).2.2.2 = false ∧ ze_FL own idx T cb) ∨ ((T cb).2.2.2 = true ∧ meth.name = "<init>" ∧ (T cb).1 = own ∧ Cond.fieldLink own idx (T cb).1 (T cb).2.1 (T cb).2.2.1 ∈ zb_T))
    (hdg : decode cc pc = .ok (.putfield idx, 3)) (hn : ze_at V nx (pc + 3)) (h : zo_putf nx ca cb cd tl jp kk k cal mc ms ls st w g nc ns = true) (hH : ze_H z0 dC dI dA sp xs A s nL ls st w g ρ ws H locs la vs) : W p l e R s m args below meth c H locs nc ns Q (F0 m pc la vs) := by
  rw [zo_putf_eq] at h
  unfold zo_putf_m at h
  split at h
  · obtain ⟨y1, r1, e1, V1, L1⟩ := hH.2.2.2.2.2.2.2.cons
    obtain ⟨y2, r2, e2, V2, L2⟩ := L1.cons
    subst e1; subst e2
    obtain ⟨h0, h⟩ := ze_condf h
    obtain ⟨cl, h1, h2⟩ := ze_g_spec h
    obtain ⟨h3, h4⟩ := ze_condf h2
    obtain ⟨v, h5, h6⟩ := ze_n_spec _ _ _ h4
    have e3 := ze_beq h3
    obtain ⟨a, en, ex, hw, hC⟩ := hH.2.2.1.ref h1 V2
    subst ex
    have hf := hcf ca C T N hc
    obtain ⟨ty0, hty0⟩ := hf.2.2.1
    obtain ⟨fs, ef, hfs⟩ := hC.obj (by rw [e3]; exact hf.1)
    rw [e3] at ef
    subst ef
    obtain ⟨hn1, hn2⟩ := ze_fit hty h0 V1
    have hlen : cb < fs.length := by rw [← hfs.len]; exact (List.getElem?_eq_some_iff.mp h5).1
    have hC2 : ze_C dA sp ρ (ws.map (·.1)) (ca, ze_s _ cl.2 cb) (.inr (ca, fs.set cb y1)) := Or.inl ⟨hf.1, _, rfl, by show ze_L sp ρ _ (ze_s _ cl.2 cb) _; rw [ze_s_eq]; exact hfs.set V1 cb⟩
    have k9 : ∀ (H1 : Heap) (locs1 : List Loc), va_P (dC, dI) vwCl (ws.set _ (a, .inr (ca, fs.set cb y1))) H1 → va_D A (ws.set _ (a, .inr (ca, fs.set cb y1))) → va_S A s.heap H1 locs1 → W p l e R s m args below meth c H1 locs1 nc ns Q (F0 m (pc + 3) la r2) :=
      fun H1 locs1 g1 g2 g3 => hK _ _ _ _ _ _ _ h6 _ hn _ _ _ _ _ _ (hH.put hw hC2 g1 g2 g3 L2)
    rcases hl with ⟨hfin, hl | ⟨host, hl⟩⟩ | ⟨hfin, hin, hdc, hl⟩
    · exact va_put (D := (dC, dI)) hx hb hts hf.2.1 ty0 hty0 hf.2.2.2 hown hKs.k0 hH.2.2.2.1 hH.2.2.2.2.1 hH.2.2.2.2.2.1 _ hw hc cb hkN (hts _ hl) (fun _ h9 => h9) hfin hd hn1 hn2 hlen hdg k9
    · exact va_putN (D := (dC, dI)) hx hb hts hf.2.1 ty0 hty0 hf.2.2.2 hown hKs.k0 hH.2.2.2.1 hH.2.2.2.2.1 hH.2.2.2.2.2.1 _ hw hc cb hkN (va_Nw.use rfl (hKs.2.2.1 _ hl)) (fun _ h9 => h9) hfin hd hn1 hn2 hlen hdg k9
    · exact va_putF (D := (dC, dI)) hx hb hts hf.2.1 ty0 hty0 hf.2.2.2 hown hKs.k0 hH.2.2.2.1 hH.2.2.2.2.1 hH.2.2.2.2.2.1 _ hw hc cb hkN (hts _ hl) (fun _ h9 => h9) hfin hin hdc hd hn1 hn2 hlen hdg k9
  · cases h
theorem ze_vin {n N : Nat} (h : n ≤ 1073741824) (hN : n < N) : vp_in (nI n) N := by
  intro q
  rcases q with q | q
  · exact nI_pos (by omega) q
  · rw [nI_clamp (by omega)] at q
    omega
theorem ze_cln {n : Nat} (h : n ≤ 1073741824) : (nI n).toNatClampNeg = n := nI_clamp (by omega)
/-- an element of an array of ints -/
theorem zs_ald {kd : Nat} (h1k : 100 ≤ kd) (h2k : kd < 150) (hK : ze_KK p l e R s m args below meth c Q z0 dC dI dA sp xs A nL V kk) (hn : ze_at V nx pc2) (h : zo_ald0 kd nx ca cb cd tl jp kk k cal mc ms ls st w g nc ns = true) (hH : ze_H z0 dC dI dA sp xs A s nL ls st w g ρ ws H locs la vs)
    (row : ∀ (q a n : Nat) (f : Nat → Int32) (i : Int32) (rest : List Value), ws[q]? = some (a, .inl (dA kd, n, .inl f)) → vp_in i n → W p l e R s m args below meth c H locs nc ns Q (F0 m pc2 la (.int (f i.toNatClampNeg) :: rest)) → W p l e R s m args below meth c H locs nc ns Q (F0 m pc la (.int i :: .ref a :: rest))) : W p l e R s m args below meth c H locs nc ns Q (F0 m pc la vs) := by
  rw [zo_ald_eq] at h
  unfold zo_ald_m at h
  split at h
  · obtain ⟨y1, r1, e1, V1, L1⟩ := hH.2.2.2.2.2.2.2.cons
    obtain ⟨y2, r2, e2, V2, L2⟩ := L1.cons
    subst e1; subst e2
    obtain ⟨n, g', en, hG', hx⟩ := ze_ix_spec h hH.1 V1
    subst en
    · obtain ⟨h0, hx⟩ := ze_condf hx
      obtain ⟨cl, h1, h2⟩ := ze_g_spec hx
      obtain ⟨h3, h4⟩ := ze_condf h2
      obtain ⟨v, h5, h6⟩ := ze_n_spec _ _ _ h4
      have e3 := ze_beq h3
      have h0 := ze_ble' h0
      obtain ⟨a, eq, ex, hw, hC⟩ := hH.2.2.1.ref h1 V2
      subst ex
      obtain ⟨f, ef, hf⟩ := hC.ints (by omega) (by omega)
      rw [e3] at ef
      subst ef
      refine row _ a _ f _ r2 hw (ze_vin h0 (List.getElem?_eq_some_iff.mp h5).1) ?_
      rw [ze_cln h0]
      exact hK _ _ _ _ _ _ _ h6 _ hn _ _ _ _ _ _ ((hH.gs hG').stk ⟨hf n v h5, L2⟩)
  · cases h
theorem zs_lald0 (hK : ze_KK p l e R s m args below meth c Q z0 dC dI dA sp xs A nL V kk) (hn : ze_at V nx pc2) (h : zo_ald0 150 nx ca cb cd tl jp kk k cal mc ms ls st w g nc ns = true) (hH : ze_H z0 dC dI dA sp xs A s nL ls st w g ρ ws H locs la vs)
    (row : ∀ (q a n : Nat) (f : Nat → Int64) (i : Int32) (rest : List Value), ws[q]? = some (a, .inl (dA 150, n, .inr (.inl f))) → vp_in i n → W p l e R s m args below meth c H locs nc ns Q (F0 m pc2 la (.long (f i.toNatClampNeg) :: rest)) → W p l e R s m args below meth c H locs nc ns Q (F0 m pc la (.int i :: .ref a :: rest))) : W p l e R s m args below meth c H locs nc ns Q (F0 m pc la vs) := by
  rw [zo_ald_eq] at h
  unfold zo_ald_m at h
  split at h
  · obtain ⟨y1, r1, e1, V1, L1⟩ := hH.2.2.2.2.2.2.2.cons
    obtain ⟨y2, r2, e2, V2, L2⟩ := L1.cons
    subst e1; subst e2
    obtain ⟨n, g', en, hG', hx⟩ := ze_ix_spec h hH.1 V1
    subst en
    · obtain ⟨h0, hx⟩ := ze_condf hx
      obtain ⟨cl, h1, h2⟩ := ze_g_spec hx
      obtain ⟨h3, h4⟩ := ze_condf h2
      obtain ⟨v, h5, h6⟩ := ze_n_spec _ _ _ h4
      have e3 := ze_beq h3
      have h0 := ze_ble' h0
      obtain ⟨a, eq, ex, hw, hC⟩ := hH.2.2.1.ref h1 V2
      subst ex
      obtain ⟨f, ef, hf⟩ := hC.longs (by omega) (by omega)
      rw [e3] at ef
      subst ef
      refine row _ a _ f _ r2 hw (ze_vin h0 (List.getElem?_eq_some_iff.mp h5).1) ?_
      rw [ze_cln h0]
      exact hK _ _ _ _ _ _ _ h6 _ hn _ _ _ _ _ _ ((hH.gs hG').stk ⟨hf n v h5, L2⟩)
  · cases h
theorem zs_aald (hx : p.tables.exec = Jvm.exec) (hb : c.code = cc) (hKs : ze_K dC dI dA s) (haf : ze_AF) (hdg : decode cc pc = .ok (.aaload, 1)) (hK : ze_KK p l e R s m args below meth c Q z0 dC dI dA sp xs A nL V kk) (hn : ze_at V nx (pc + 1)) (h : zo_aald nx ca cb cd tl jp kk k cal mc ms ls st w g nc ns = true) (hH : ze_H z0 dC dI dA sp xs A s nL ls st w g ρ ws H locs la vs) : W p l e R s m args below meth c H locs nc ns Q (F0 m pc la vs) := by
  rw [zo_aald_eq] at h
  unfold zo_aald_m at h
  split at h
  · obtain ⟨y1, r1, e1, V1, L1⟩ := hH.2.2.2.2.2.2.2.cons
    obtain ⟨y2, r2, e2, V2, L2⟩ := L1.cons
    subst e1; subst e2
    obtain ⟨n, g', en, hG', hx'⟩ := ze_ix_spec h hH.1 V1
    subst en
    · obtain ⟨h0, hx'⟩ := ze_condf hx'
      obtain ⟨cl, h1, h2⟩ := ze_g_spec hx'
      obtain ⟨h3, h4⟩ := ze_condf h2
      obtain ⟨h3, h3c⟩ := ze_condf h3
      obtain ⟨h3b, h4⟩ := ze_condf h4
      obtain ⟨v, h5, h6⟩ := ze_n_spec _ _ _ h4
      have e3 := ze_ble' h3
      have e3c := ze_ble' h3c
      have h0 := ze_ble' h0
      obtain ⟨a, eq, ex, hw, hC⟩ := hH.2.2.1.ref h1 V2
      subst ex
      obtain ⟨f, ef, hf⟩ := hC.refs e3 (by omega)
      subst ef
      obtain ⟨r, hr1, hr2⟩ := haf _ (ze_mem_in _ _ h3b)
      rw [show 200 + Nat.sub cl.1 200 = cl.1 by show 200 + (cl.1 - 200) = cl.1; omega] at hr2
      refine va_aldq (D := (dC, dI)) hx hb (hKs.k1 hr2) hH.2.2.2.1 _ 0 hw rfl (ze_vin h0 (List.getElem?_eq_some_iff.mp h5).1) hdg ?_
      rw [ze_cln h0]
      exact hK _ _ _ _ _ _ _ h6 _ hn _ _ _ _ _ _ ((hH.gs hG').stk ⟨hf n v h5, L2⟩)
  · cases h
/-- the texts that are constants: t-th: its cell sp (10 + 2 t), its bytes sp (11 + 2 t) -/
noncomputable def zt_l : List Nat := [0, 1, 2, 3, 2, 7, 3, 2, 2, 8, 2]
noncomputable def zt_b : List (List Int32) := [[], [57], [57, 55], [57, 57, 57], [43, 51], [119, 105, 108, 109, 115, 107, 110], [60, 62, 61], [43, 45], [42, 47], [110, 99, 115, 108, 116, 112, 103, 119], [45, 43]]
noncomputable def zt_c (t k : Nat) : Nat := ze_e ((zt_b.getD t []).getD k 0)
noncomputable def zt_K (sp : Nat → Nat) (t : Nat) : Nat := sp (10 + 2 * t)
noncomputable def zt_V (sp : Nat → Nat) (t : Nat) : Nat := sp (11 + 2 * t)
noncomputable def zt_S (sp : Nat → Nat) (A : Nat → Prop) (U : State) : Prop := vk_S 11 zt_l zt_b (zt_K sp) (zt_V sp) A U U.heap ∧ va_Z "java/lang/String" "COMPACT_STRINGS" "Z" (.int 1) A U U.heap ∧ va_Zq "jdk/internal/util/Preconditions" "SIOOBE_FORMATTER" "Ljava/util/function/BiFunction;" A U U.heap
theorem zt_S.calls {sp : Nat → Nat} {A : Nat → Prop} {U : State} {g : JFrame} {mk : MethodId} {a : Array Value} (h : zt_S sp A U) : zt_S sp A (U.calling g mk a) :=
  ⟨vk_S.moved (u := U) (U := U.calling g mk a) (Vm.Alike.refl U.vm) h.1, va_Z.moved (u := U) (U := U.calling g mk a) (Vm.Alike.refl U.vm) h.2.1, va_Zq.moved (u := U) (U := U.calling g mk a) (Vm.Alike.refl U.vm) h.2.2⟩
theorem zt_S.at {sp : Nat → Nat} {A : Nat → Prop} {s U : State} {locs : List Loc} (h : zt_S sp A s) (hS : va_S A s.heap U.heap locs) (hW : s.WarmedH U.vm) : zt_S sp A U :=
  ⟨vk_S.moved hW.alike (h.1.kept hS.2.1), va_Z.moved hW.alike (h.2.1.kept hS.2.1), va_Zq.moved hW.alike (h.2.2.kept hS.2.1)⟩
abbrev zw_no : Nat → Prop := fun _ => False
theorem zt_SA {A : Nat → Prop} {H0 H : Heap} {locs : List Loc} (h : va_S zw_no H0 H locs) : va_S A H0 H locs := ⟨h.1, fun q hq _ => h.2.1 q hq (fun z => z), fun q hq => (h.2.2 q hq).elim⟩
noncomputable def zt_Pc (sp : Nat → Nat) (A : Nat → Prop) : State → Prop := fun U => zt_S sp A U
theorem zt_len : ∀ t, t < 11 → zt_l.getD t 0 ≤ 8 := by decide +kernel
theorem zt_shr : ∀ t, t < 11 → (Int32.ofNat (zt_l.getD t 0)) >>> ((0 : Int32) &&& 31) = nI (zt_l.getD t 0) := by decide +kernel
theorem zt_chr : ∀ t, t < 11 → ∀ k, k < zt_l.getD t 0 → ((((zt_b.getD t []).getD k 0) &&& 255).toUInt32 % 65536).toInt32 = nI (zt_c t k) ∧ zt_c t k ≤ 255 := by decide +kernel
noncomputable def zt_tx (a : Nat) : String := ["", "9", "97", "999", "+3", "wilmskn", "<>=", "+-", "*/", "ncsltpgw", "-+"].getD ((a - 12) / 2) ""
noncomputable def ze_S (sp : Nat → Nat) (A : Nat → Prop) (U : State) : Prop := zt_S sp A U ∧ ∀ o n a, (n, a) ∈ zl_t.getD o [] → vk_R (zn o) n (zt_tx a) (sp (a - 2)) U
theorem ze_S.calls {sp : Nat → Nat} {A : Nat → Prop} {U : State} {g : JFrame} {mk : MethodId} {a : Array Value} (h : ze_S sp A U) : ze_S sp A (U.calling g mk a) :=
  ⟨h.1.calls, fun o n a9 q => vk_R.same (u := U) (U := U.calling g mk a) rfl (h.2 o n a9 q)⟩
theorem ze_S.at {sp : Nat → Nat} {A : Nat → Prop} {s U : State} {locs : List Loc} (h : ze_S sp A s) (hS : va_S A s.heap U.heap locs) (hW : s.WarmedH U.vm) : ze_S sp A U :=
  ⟨h.1.at hS hW, fun o n a9 q => vk_R.warm hW (h.2 o n a9 q)⟩
/-- the script: its ints are xs 10, xs 11 ..; the law's place is xs 5, with xs 6 .. 9 behind it: the ints there are xs 0 .. 4 (or the place is the least int, and nothing is said of them) -/
noncomputable def ze_X (sp : Nat → Nat) (xs : ZXs) (A : Nat → Prop) (s : State) : Prop := va_X (sp 0) (sp 1) (fun j => xs.1 (10 + j)) s s.heap ∧ sp 0 < s.heap.size ∧ ¬ A (sp 0) ∧ sp 1 ≤ 1073741824 ∧ ((∀ k, k < 5 → xs.1 (5 + k) = xs.1 5 + nI k) ∧ (ze_b (xs.1 5) = 0 ∨ ∃ n, n + 4 < sp 1 ∧ xs.1 5 = nI n ∧ ∀ k, k < 5 → xs.1 k = xs.1 (10 + (n + k)))) ∧ ze_S sp A s
theorem zt_lo : ∀ o, o < zl_t.length → ∀ q ∈ zl_t.getD o [], q.2 < 42 := by decide +kernel
theorem zt_S_sp {sp sp' : Nat → Nat} {A : Nat → Prop} {U : State} (h1 : ∀ s, s < 40 → sp' s = sp s) (h : zt_S sp A U) : zt_S sp' A U := by
  have eK : ∀ i, i < 11 → zt_K sp' i = zt_K sp i := fun i hi => h1 (10 + 2 * i) (by omega)
  have eV : ∀ i, i < 11 → zt_V sp' i = zt_V sp i := fun i hi => h1 (11 + 2 * i) (by omega)
  refine ⟨⟨fun i hi => ?_, fun i j hi hj e => ?_⟩, h.2⟩
  · rw [eK i hi, eV i hi]
    exact h.1.1 i hi
  · rw [eK i hi, eK j hj] at e
    exact h.1.2 i j hi hj e
theorem ze_S_sp {sp sp' : Nat → Nat} {A : Nat → Prop} {U : State} (h1 : ∀ s, s < 40 → sp' s = sp s) (h : ze_S sp A U) : ze_S sp' A U := by
  refine ⟨zt_S_sp h1 h.1, fun o n a hm => ?_⟩
  have ho : o < zl_t.length := by
    rcases Nat.lt_or_ge o zl_t.length with q | q
    · exact q
    · rw [List.getD_eq_getElem?_getD, List.getElem?_eq_none q] at hm
      cases hm
  have h9 := zt_lo o ho _ hm
  have h9 : a < 42 := h9
  rw [h1 (a - 2) (by omega)]
  exact h.2 o n a hm
theorem ze_X_sp {sp sp' : Nat → Nat} {xs : ZXs} {A : Nat → Prop} {U : State} (h1 : ∀ s, s < 40 → sp' s = sp s) (h : ze_X sp xs A U) : ze_X sp' xs A U := by
  obtain ⟨q1, q2, q3, q4, q5, q6⟩ := h
  have e0 := h1 0 (by omega)
  have e1 := h1 1 (by omega)
  exact ⟨by rw [e0, e1]; exact q1, by rw [e0]; exact q2, by rw [e0]; exact q3, by rw [e1]; exact q4, by rw [e1]; exact q5, ze_S_sp h1 q6⟩
theorem zs_alen (hx : p.tables.exec = Jvm.exec) (hb : c.code = cc) (hKs : ze_K dC dI dA s) (hsc : ze_X sp xs A s) (hall : ∀ kd ∈ ze_ka, (100 ≤ kd ∧ kd < 1000) ∧ ∃ ty, (kd, ty) ∈ ze_arr) (hdg : decode cc pc = .ok (.arraylength, 1)) (hK : ze_KK p l e R s m args below meth c Q z0 dC dI dA sp xs A nL V kk) (hn : ze_at V nx (pc + 1)) (h : zo_alen nx ca cb cd tl jp kk k cal mc ms ls st w g nc ns = true) (hH : ze_H z0 dC dI dA sp xs A s nL ls st w g ρ ws H locs la vs) : W p l e R s m args below meth c H locs nc ns Q (F0 m pc la vs) := by
  unfold zo_alen at h
  split at h
  · obtain ⟨y1, r1, e1, V1, L1⟩ := hH.2.2.2.2.2.2.2.cons
    subst e1
    obtain ⟨cl, h1, h2⟩ := ze_g_spec h
    obtain ⟨h3, h4⟩ := ze_condf h2
    rw [ze_f_eq] at h4
    obtain ⟨a, eq, ex, hw, hC⟩ := hH.2.2.1.ref h1 V1
    subst ex
    obtain ⟨h3, ty, hty⟩ := hall cl.1 (ze_mem_in _ _ h3)
    have k9 := hK _ _ _ _ _ _ _ h4 _ hn _ _ _ _ _ _ (hH.stk (vs' := .int (nI cl.2.length) :: r1) ⟨rfl, L1⟩)
    rcases hC with ⟨q, _⟩ | ⟨_, _, f, ef, _⟩ | ⟨_, _, f, ef, _⟩ | ⟨_, _, f, ef, _⟩ | (⟨q, _⟩ | ⟨q, _⟩) | ⟨q, _⟩
    · omega
    · subst ef; exact va_alen (D := (dC, dI)) hx hb (hKs.k1 hty) hH.2.2.2.1 _ 0 hw rfl rfl hdg k9
    · subst ef; exact va_alen (D := (dC, dI)) hx hb (hKs.k1 hty) hH.2.2.2.1 _ 0 hw rfl rfl hdg k9
    · subst ef; exact va_alen (D := (dC, dI)) hx hb (hKs.k1 hty) hH.2.2.2.1 _ 0 hw rfl rfl hdg k9
    · omega
    · omega
    · omega
  · cases h
theorem ze_H.keep {q a : Nat} {e0 e1 : va_E} {c1 : EC} {H1 : Heap} {locs1 : List Loc} {rest : List EV} {vr : List Value} (hH : ze_H z0 dC dI dA sp xs A s nL ls st w g ρ ws H locs la vs) (hc : ze_gw w q = some c1) (hq : ws[q]? = some (a, e0)) (hC : ze_C dA sp ρ (ws.map (·.1)) c1 e1) (hP : va_P (dC, dI) vwCl (ws.set q (a, e1)) H1) (hD : va_D A (ws.set q (a, e1))) (hS : va_S A s.heap H1 locs1) (hr : ze_L sp ρ (ws.map (·.1)) rest vr) :
    ze_H z0 dC dI dA sp xs A s nL ls rest w g ρ (ws.set q (a, e1)) H1 locs1 la vr := by
  obtain ⟨lv, hl, hL⟩ := hH.2.2.2.2.2.2.1
  exact ⟨hH.1, ⟨hH.2.1.1, hH.2.1.2.1, by rw [ze_fst hq]; exact hH.2.1.2.2⟩, hH.2.2.1.keep hc hq hC, hP, hD, hS, ⟨lv, hl, by rw [ze_fst hq]; exact hL⟩, by rw [ze_fst hq]; exact hr⟩
end ZS3
