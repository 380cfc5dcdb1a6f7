section ZS4
variable {p : Program} {l : Launch} {e : Env} {R : Room} {s : State} {m : MethodId} {args : Array Value} {below : List Frame} {meth : Method} {c : Code} {Q : State → Prop}
variable {z0 : List Int32 × List Nat} {dC : Nat → ClassId} {dI : Nat → Nat → Nat} {dA : Nat → ClassId} {sp : Nat → Nat} {xs : ZXs} {A : Nat → Prop} {nL : Nat} {V : List ECE → Prop}
variable {kk : EKn} {k : ERt} {cal : ECal} {mc ms pc pc2 ca cb cd nc ns : Nat} {nx : List ECE} {jp : EJp} {tl : List Nat} {ls st : List EV} {w : EW} {g : EG} {ρ : List Int32} {ws : va_W} {H : Heap} {locs : List Loc} {la : Array Slot} {vs : List Value}
variable {cc : ByteArray} {own : String} {idx : Nat}
/-- a store into an array: what the engine's own step says -/
theorem zs_put {kd : Nat} {v i : EV} {q : Nat} {rest : List EV} {vr : List Value} {y1 y2 : Value} (hK : ze_KK p l e R s m args below meth c Q z0 dC dI dA sp xs A nL V kk) (hn : ze_at V nx pc2) (h : zo_put kd v i q nx kk ls rest w g nc ns = true) (hH : ze_H z0 dC dI dA sp xs A s nL ls rest w g ρ ws H locs la vr)
    (V1 : ze_V sp ρ (ws.map (·.1)) i y1) (V2 : ze_V sp ρ (ws.map (·.1)) (eR q) y2) : ∃ (n a : Nat) (cl : EC) (e0 : va_E), y1 = .int (nI n) ∧ y2 = .ref a ∧ n ≤ 1073741824 ∧ n < cl.2.length ∧ cl.1 = kd ∧ ws[q]? = some (a, e0) ∧ ze_C dA sp ρ (ws.map (·.1)) cl e0 ∧
      ∀ (e1 : va_E), ze_C dA sp ρ (ws.map (·.1)) (kd, cl.2.set n v) e1 → ∀ (H1 : Heap) (locs1 : List Loc), va_P (dC, dI) vwCl (ws.set q (a, e1)) H1 → va_D A (ws.set q (a, e1)) → va_S A s.heap H1 locs1 → W p l e R s m args below meth c H1 locs1 nc ns Q (F0 m pc2 la vr) := by
  unfold zo_put at h
  obtain ⟨n, g', en, hG', hx⟩ := ze_ix_spec h hH.1 V1
  obtain ⟨h0, hx⟩ := ze_condf hx
  obtain ⟨cl, h1, h2⟩ := ze_g_spec hx
  obtain ⟨h3, h4⟩ := ze_condf h2
  obtain ⟨u, h5, h6⟩ := ze_n_spec _ _ _ h4
  obtain ⟨a, e0, ex2, hw, hC⟩ := hH.2.2.1.ref h1 V2
  refine ⟨n, a, cl, e0, en, ex2, ze_ble' h0, (List.getElem?_eq_some_iff.mp h5).1, ze_beq h3, hw, hC, fun e1 hC1 H1 locs1 g1 g2 g3 => ?_⟩
  rw [ze_s_eq] at h6
  exact hK _ _ _ _ _ _ _ h6 _ hn _ _ _ _ _ _ ((hH.gs hG').put hw hC1 g1 g2 g3 hH.2.2.2.2.2.2.2)
theorem ze_updI {v : EV} {x : Int32} {l0 : List EV} {f : Nat → Int32} {ad : List Nat} {n : Nat} (hf : ∀ (j : Nat) (u : EV), l0[j]? = some u → ze_V sp ρ ad u (.int (f j))) (hv : ze_V sp ρ ad v (.int x)) : ∀ (j : Nat) (u : EV), (l0.set n v)[j]? = some u → ze_V sp ρ ad u (.int (upd f n x j)) := by
  intro j u hj
  by_cases hjn : n = j
  · subst hjn
    by_cases hl : n < l0.length
    · rw [List.getElem?_set_self hl] at hj
      cases hj
      simpa [upd] using hv
    · rw [List.getElem?_eq_none (by rw [List.length_set]; omega)] at hj
      cases hj
  · rw [List.getElem?_set_ne hjn] at hj
    have := hf j u hj
    simpa [upd, Ne.symm hjn] using this
theorem zs_iast0 (hx : p.tables.exec = Jvm.exec) (hb : c.code = cc) (hKs : ze_K dC dI dA s) (hai : (100, FieldType.int) ∈ ze_arr) (hdg : decode cc pc = .ok (.iastore, 1)) (hK : ze_KK p l e R s m args below meth c Q z0 dC dI dA sp xs A nL V kk) (hn : ze_at V nx (pc + 1)) (h : zo_iast0 nx ca cb cd tl jp kk k cal mc ms ls st w g nc ns = true) (hH : ze_H z0 dC dI dA sp xs A s nL ls st w g ρ ws H locs la vs) : W p l e R s m args below meth c H locs nc ns Q (F0 m pc la vs) := by
  rw [zo_iast_eq] at h
  unfold zo_iast_m at h
  split at h
  · obtain ⟨y1, r1, e1, V1, L1⟩ := hH.2.2.2.2.2.2.2.cons
    obtain ⟨y2, r2, e2, V2, L2⟩ := L1.cons
    obtain ⟨y3, r3, e3, V3, L3⟩ := L2.cons
    subst e1; subst e2; subst e3
    obtain ⟨z, ez⟩ := ze_intV V1
    subst ez
    obtain ⟨n, a, cl, e0, ey1, ey2, hn1, hn2, hk1, hw, hC, k9⟩ := zs_put hK hn h (hH.stk L3) V2 V3
    subst ey1; subst ey2
    obtain ⟨f, ef, hf⟩ := hC.ints (by omega) (by omega)
    rw [hk1] at ef
    subst ef
    refine va_iast (D := (dC, dI)) hx hb (hKs.k1 hai) hH.2.2.2.1 hH.2.2.2.2.1 hH.2.2.2.2.2.1 _ 0 hw rfl (ze_vin hn1 hn2) hdg (fun H1 locs1 g1 g2 g3 => ?_)
    rw [ze_cln hn1] at g1 g2
    refine k9 _ (Or.inr (Or.inl ⟨(by show 100 ≤ 100; decide), (by show 100 < 150; decide), upd f n z, ?_, ze_updI hf V1⟩)) H1 locs1 g1 g2 g3
    show _ = Sum.inl (_, (cl.2.set n _).length, _)
    rw [List.length_set]
  · cases h
theorem ze_narC {n : Nat} (h : n ≤ 65535) : vp_nar .char (nI n) = nI n := by
  unfold vp_nar
  rw [(ze_char _ h).1]
theorem ze_narZ {n : Nat} (h : n ≤ 1) : vp_nar .boolean (nI n) = nI n := by
  rcases Nat.lt_or_ge n 1 with q | q
  · rw [show n = 0 by omega]; decide +kernel
  · rw [show n = 1 by omega]; decide +kernel
theorem zi_nn0 {x : Int32} (h : 2147483648 ≤ ze_b x) : x = nI (ze_b x - 2147483648) := by
  have h2 := ze_b_top x
  have h3 := ze_unb (x := x) (b := ze_b x) rfl
  have h4 : (ze_b x + 2147483648) % 4294967296 = ze_b x - 2147483648 := by omega
  rw [h4] at h3
  exact h3.symm
theorem zs_cast0 (hx : p.tables.exec = Jvm.exec) (hb : c.code = cc) (hKs : ze_K dC dI dA s) (hai : (101, FieldType.char) ∈ ze_arr) (hdg : decode cc pc = .ok (.castore, 1)) (hK : ze_KK p l e R s m args below meth c Q z0 dC dI dA sp xs A nL V kk) (hn : ze_at V nx (pc + 1)) (h : zo_cast0 nx ca cb cd tl jp kk k cal mc ms ls st w g nc ns = true) (hH : ze_H z0 dC dI dA sp xs A s nL ls st w g ρ ws H locs la vs) : W p l e R s m args below meth c H locs nc ns Q (F0 m pc la vs) := by
  unfold zo_cast0 at h
  split at h
  · obtain ⟨y1, r1, e1, V1, L1⟩ := hH.2.2.2.2.2.2.2.cons
    obtain ⟨y2, r2, e2, V2, L2⟩ := L1.cons
    obtain ⟨y3, r3, e3, V3, L3⟩ := L2.cons
    subst e1; subst e2; subst e3
    obtain ⟨hu, h⟩ := ze_condf h
    have ez : y1 = .int (nI _) := V1
    subst ez
    obtain ⟨n, a, cl, e0, ey1, ey2, hn1, hn2, hk1, hw, hC, k9⟩ := zs_put hK hn h (hH.stk L3) V2 V3
    subst ey1; subst ey2
    obtain ⟨f, ef, hf⟩ := hC.ints (by omega) (by omega)
    rw [hk1] at ef
    subst ef
    refine va_cast (D := (dC, dI)) hx hb (hKs.k1 hai) hH.2.2.2.1 hH.2.2.2.2.1 hH.2.2.2.2.2.1 _ 0 hw rfl (ze_vin hn1 hn2) hdg (fun H1 locs1 g1 g2 g3 => ?_)
    rw [ze_cln hn1] at g1 g2
    rw [ze_narC (ze_ble' hu)] at g1 g2
    refine k9 _ (Or.inr (Or.inl ⟨(by show 100 ≤ 101; decide), (by show 101 < 150; decide), upd f n _, ?_, ze_updI hf V1⟩)) H1 locs1 g1 g2 g3
    show _ = Sum.inl (_, (cl.2.set n _).length, _)
    rw [List.length_set]
  · obtain ⟨y1, r1, e1, V1, L1⟩ := hH.2.2.2.2.2.2.2.cons
    obtain ⟨y2, r2, e2, V2, L2⟩ := L1.cons
    obtain ⟨y3, r3, e3, V3, L3⟩ := L2.cons
    subst e1; subst e2; subst e3
    obtain ⟨p9, ep9, h⟩ := ze_n_spec _ _ _ h
    obtain ⟨hp9, h⟩ := ze_condf h
    obtain ⟨hp1, hp2⟩ := ze_condf hp9
    obtain ⟨z, ez0, ez⟩ := id V1
    subst ez
    have hb9 := hH.1.2 _ _ _ ep9 ez0
    have hp1 : 2147483648 ≤ p9.1 := ze_ble' hp1
    have hp2 : p9.2 ≤ 2147549183 := ze_ble' hp2
    have hnar : vp_nar .char z = z := by
      have hz := zi_nn0 (x := z) (by omega)
      rw [hz]
      exact ze_narC (by omega)
    obtain ⟨n, a, cl, e0, ey1, ey2, hn1, hn2, hk1, hw, hC, k9⟩ := zs_put hK hn h (hH.stk L3) V2 V3
    subst ey1; subst ey2
    obtain ⟨f, ef, hf⟩ := hC.ints (by omega) (by omega)
    rw [hk1] at ef
    subst ef
    refine va_cast (D := (dC, dI)) hx hb (hKs.k1 hai) hH.2.2.2.1 hH.2.2.2.2.1 hH.2.2.2.2.2.1 _ 0 hw rfl (ze_vin hn1 hn2) hdg (fun H1 locs1 g1 g2 g3 => ?_)
    rw [ze_cln hn1] at g1 g2
    rw [hnar] at g1 g2
    refine k9 _ (Or.inr (Or.inl ⟨(by show 100 ≤ 101; decide), (by show 101 < 150; decide), upd f n _, ?_, ze_updI hf V1⟩)) H1 locs1 g1 g2 g3
    show _ = Sum.inl (_, (cl.2.set n _).length, _)
    rw [List.length_set]
  · cases h
theorem zs_bast0 (hx : p.tables.exec = Jvm.exec) (hb : c.code = cc) (hKs : ze_K dC dI dA s) (hai : (104, FieldType.boolean) ∈ ze_arr) (hdg : decode cc pc = .ok (.bastore, 1)) (hK : ze_KK p l e R s m args below meth c Q z0 dC dI dA sp xs A nL V kk) (hn : ze_at V nx (pc + 1)) (h : zo_bast0 nx ca cb cd tl jp kk k cal mc ms ls st w g nc ns = true) (hH : ze_H z0 dC dI dA sp xs A s nL ls st w g ρ ws H locs la vs) : W p l e R s m args below meth c H locs nc ns Q (F0 m pc la vs) := by
  unfold zo_bast0 at h
  split at h
  · obtain ⟨y1, r1, e1, V1, L1⟩ := hH.2.2.2.2.2.2.2.cons
    obtain ⟨y2, r2, e2, V2, L2⟩ := L1.cons
    obtain ⟨y3, r3, e3, V3, L3⟩ := L2.cons
    subst e1; subst e2; subst e3
    obtain ⟨hu, h⟩ := ze_condf h
    have ez : y1 = .int (nI _) := V1
    subst ez
    obtain ⟨n, a, cl, e0, ey1, ey2, hn1, hn2, hk1, hw, hC, k9⟩ := zs_put hK hn h (hH.stk L3) V2 V3
    subst ey1; subst ey2
    obtain ⟨f, ef, hf⟩ := hC.ints (by omega) (by omega)
    rw [hk1] at ef
    subst ef
    refine va_zast (D := (dC, dI)) hx hb (hKs.k1 hai) hH.2.2.2.1 hH.2.2.2.2.1 hH.2.2.2.2.2.1 _ 0 hw rfl (ze_vin hn1 hn2) hdg (fun H1 locs1 g1 g2 g3 => ?_)
    rw [ze_cln hn1] at g1 g2
    rw [ze_narZ (ze_ble' hu)] at g1 g2
    refine k9 _ (Or.inr (Or.inl ⟨(by show 100 ≤ 104; decide), (by show 104 < 150; decide), upd f n _, ?_, ze_updI hf V1⟩)) H1 locs1 g1 g2 g3
    show _ = Sum.inl (_, (cl.2.set n _).length, _)
    rw [List.length_set]
  · cases h
theorem ze_updL {v : EV} {x : Int64} {l0 : List EV} {f : Nat → Int64} {ad : List Nat} {n : Nat} (hf : ∀ (j : Nat) (u : EV), l0[j]? = some u → ze_V sp ρ ad u (.long (f j))) (hv : ze_V sp ρ ad v (.long x)) : ∀ (j : Nat) (u : EV), (l0.set n v)[j]? = some u → ze_V sp ρ ad u (.long (vp_updL f n x j)) := by
  intro j u hj
  by_cases hjn : n = j
  · subst hjn
    by_cases hl : n < l0.length
    · rw [List.getElem?_set_self hl] at hj
      cases hj
      simpa [vp_updL] using hv
    · rw [List.getElem?_eq_none (by rw [List.length_set]; omega)] at hj
      cases hj
  · rw [List.getElem?_set_ne hjn] at hj
    have := hf j u hj
    simpa [vp_updL, Ne.symm hjn] using this
theorem zs_last0 (hx : p.tables.exec = Jvm.exec) (hb : c.code = cc) (hKs : ze_K dC dI dA s) (hai : (150, FieldType.long) ∈ ze_arr) (hdg : decode cc pc = .ok (.lastore, 1)) (hK : ze_KK p l e R s m args below meth c Q z0 dC dI dA sp xs A nL V kk) (hn : ze_at V nx (pc + 1)) (h : zo_last0 nx ca cb cd tl jp kk k cal mc ms ls st w g nc ns = true) (hH : ze_H z0 dC dI dA sp xs A s nL ls st w g ρ ws H locs la vs) : W p l e R s m args below meth c H locs nc ns Q (F0 m pc la vs) := by
  unfold zo_last0 at h
  split at h
  · obtain ⟨y1, r1, e1, V1, L1⟩ := hH.2.2.2.2.2.2.2.cons
    obtain ⟨y2, r2, e2, V2, L2⟩ := L1.cons
    obtain ⟨y3, r3, e3, V3, L3⟩ := L2.cons
    subst e1; subst e2; subst e3
    obtain ⟨z, ez⟩ := ze_longV V1
    subst ez
    obtain ⟨n, a, cl, e0, ey1, ey2, hn1, hn2, hk1, hw, hC, k9⟩ := zs_put hK hn h (hH.stk L3) V2 V3
    subst ey1; subst ey2
    obtain ⟨f, ef, hf⟩ := hC.longs (by omega) (by omega)
    rw [hk1] at ef
    subst ef
    refine va_last (D := (dC, dI)) hx hb (hKs.k1 hai) hH.2.2.2.1 hH.2.2.2.2.1 hH.2.2.2.2.2.1 _ 0 hw rfl (ze_vin hn1 hn2) hdg (fun H1 locs1 g1 g2 g3 => ?_)
    rw [ze_cln hn1] at g1 g2
    refine k9 _ (Or.inr (Or.inr (Or.inl ⟨(by show 150 ≤ 150; decide), (by show 150 < 200; decide), vp_updL f n _, ?_, ze_updL hf V1⟩))) H1 locs1 g1 g2 g3
    show _ = Sum.inl (_, (cl.2.set n _).length, _)
    rw [List.length_set]
  · cases h
theorem zs_aast (hx : p.tables.exec = Jvm.exec) (hb : c.code = cc) (hKs : ze_K dC dI dA s) (haf : ze_AF) (hcf : ze_CF) (hdg : decode cc pc = .ok (.aastore, 1)) (hK : ze_KK p l e R s m args below meth c Q z0 dC dI dA sp xs A nL V kk) (hn : ze_at V nx (pc + 1)) (h : zo_aast nx ca cb cd tl jp kk k cal mc ms ls st w g nc ns = true) (hH : ze_H z0 dC dI dA sp xs A s nL ls st w g ρ ws H locs la vs) : W p l e R s m args below meth c H locs nc ns Q (F0 m pc la vs) := by
  unfold zo_aast at h
  split at h
  · obtain ⟨y1, r1, e1, V1, L1⟩ := hH.2.2.2.2.2.2.2.cons
    obtain ⟨y2, r2, e2, V2, L2⟩ := L1.cons
    obtain ⟨y3, r3, e3, V3, L3⟩ := L2.cons
    subst e1; subst e2; subst e3
    obtain ⟨o, h1, h2⟩ := ze_g_spec h
    obtain ⟨h3, h4⟩ := ze_condf h2
    obtain ⟨r, hr1, hr2⟩ := haf _ (ze_mem_in _ _ h3)
    have hr3 := (hcf o.1 r.1 r.2.1 r.2.2 hr1).1
    obtain ⟨ao, eo, ey0, hwo, hCo⟩ := hH.2.2.1.ref h1 V1
    subst ey0
    obtain ⟨fs, efs, -⟩ := hCo.obj hr3
    subst efs
    obtain ⟨n, a, cl, e0, ey1, ey2, hn1, hn2, hk1, hw, hC, k9⟩ := zs_put hK hn h4 (hH.stk L3) V2 V3
    subst ey1; subst ey2
    have hk1 : cl.1 = 200 + o.1 := hk1
    obtain ⟨f, ef, hf⟩ := hC.refs (by omega) (by omega)
    rw [hk1] at ef
    subst ef
    refine va_astq (D := (dC, dI)) hx hb (hKs.k1 hr2) hH.2.2.2.1 hH.2.2.2.2.1 hH.2.2.2.2.2.1 _ 0 _ o.1 hw rfl hwo hr1 (ze_vin hn1 hn2) hdg (fun H1 locs1 g1 g2 g3 => ?_)
    rw [ze_cln hn1] at g1 g2
    refine k9 _ (Or.inr (Or.inr (Or.inr (Or.inl ⟨by show 200 ≤ Nat.add 200 o.1; exact Nat.le_add_right _ _, by show 200 + o.1 < 1000; omega, va_up f n (some ao), ?_, ?_⟩)))) H1 locs1 g1 g2 g3
    · show _ = Sum.inl (_, (cl.2.set n _).length, _)
      rw [List.length_set]
      rfl
    · intro j u hj
      have hj : (cl.2.set n _)[j]? = some u := hj
      by_cases hjn : n = j
      · subst hjn
        rw [List.getElem?_set_self hn2] at hj
        cases hj
        simpa [va_up, va_rf] using V1
      · rw [List.getElem?_set_ne hjn] at hj
        simpa [va_up, Ne.symm hjn] using hf j u hj
  · cases h
/-- a new cell -/
theorem zs_mk {c1 : EC} {n : Nat} (hK : ze_KK p l e R s m args below meth c Q z0 dC dI dA sp xs A nL V kk) (hn : ze_at V nx pc2) (h : zo_mk w c1 n nx mc ms kk ls st g nc ns = true) (hH : ze_H z0 dC dI dA sp xs A s nL ls st w g ρ ws H locs la vs) : nc + 1 ≤ mc ∧ ns + n ≤ ms ∧
    ∀ (q : Nat) (e1 : va_E), ze_C dA sp ρ (ws.map (·.1) ++ [q]) c1 e1 → ∀ (H1 : Heap), va_P (dC, dI) vwCl (ws ++ [(q, e1)]) H1 → va_D A (ws ++ [(q, e1)]) → va_S A s.heap H1 locs → W p l e R s m args below meth c H1 locs (nc + 1) (ns + n) Q (F0 m pc2 la (.ref q :: vs)) := by
  unfold zo_mk at h
  obtain ⟨h1, h⟩ := ze_condf h
  obtain ⟨h2, h⟩ := ze_condf h
  refine ⟨ze_ble' h1, ze_ble' h2, fun q e1 hC H1 g1 g2 g3 => ?_⟩
  obtain ⟨w', h3, h4, h5⟩ := ze_wp_spec h
  have em : (ws ++ [(q, e1)]).map (·.1) = ws.map (·.1) ++ [q] := by simp
  have hp : ws.map (·.1) <+: (ws ++ [(q, e1)]).map (·.1) := by rw [em]; exact List.prefix_append _ _
  obtain ⟨lv, hl, hL⟩ := hH.2.2.2.2.2.2.1
  refine hK _ _ _ _ _ _ _ h3 _ hn _ _ _ _ _ _ ⟨hH.1, ⟨hH.2.1.1, hH.2.1.2.1, hH.2.1.2.2.trans hp⟩, hH.2.2.1.push h4 h5 hC, g1, g2, g3, ⟨lv, hl, hL.mono (List.prefix_refl _) hp⟩, ⟨q, ?_, rfl⟩, hH.2.2.2.2.2.2.2.mono (List.prefix_refl _) hp⟩
  rw [em, hH.2.2.1.1]
  simp
theorem ze_rep {α : Type} {n j : Nat} {a b : α} (h : (List.replicate n a)[j]? = some b) : b = a := by
  rw [List.getElem?_replicate] at h
  split at h
  · exact (Option.some.inj h).symm
  · cases h
theorem zs_newi {atype : ArrayType} (hx : p.tables.exec = Jvm.exec) (hb : c.code = cc) (hR : R.cells = mc ∧ R.slots = ms) (hKs : ze_K dC dI dA s) (hA : ∀ q, s.heap.size ≤ q → A q) (hts : ∀ w ∈ zb_T, w.before args s = true) (har : (ca, newarray.typeOf atype) ∈ ze_arr) (hwd : Cond.arrayClass (newarray.typeOf atype) ∈ zb_T) (h1k : 100 ≤ ca) (h2k : ca < 150) (hdf : ze_df cb = eC 0) (hdv : defaultValue (newarray.typeOf atype) = .int 0) (hby : componentBytes (newarray.typeOf atype) ≤ 8) (hra : ∀ cA : ClassId, va_RA s cA (newarray.typeOf atype) → cA = dA ca)
    (hdg : decode cc pc = .ok (.newarray atype, 2)) (hK : ze_KK p l e R s m args below meth c Q z0 dC dI dA sp xs A nL V kk) (hn : ze_at V nx (pc + 2)) (h : zo_newa nx ca cb cd tl jp kk k cal mc ms ls st w g nc ns = true) (hH : ze_H z0 dC dI dA sp xs A s nL ls st w g ρ ws H locs la vs) : W p l e R s m args below meth c H locs nc ns Q (F0 m pc la vs) := by
  unfold zo_newa at h
  split at h
  · obtain ⟨y1, r1, e1, V1, L1⟩ := hH.2.2.2.2.2.2.2.cons
    subst e1
    obtain ⟨h0, h⟩ := ze_condf h
    have h0 := ze_ble' h0
    have ez : y1 = .int (nI _) := V1
    subst ez
    obtain ⟨q1, q2, k9⟩ := zs_mk hK hn h (hH.stk L1)
    refine va_newa (D := (dC, dI)) (tys := []) hx hb (hts _ hwd) rfl hKs.k0 hH.2.2.2.1 hH.2.2.2.2.1 hH.2.2.2.2.2.1 hA (a0 := (_, .inl (fun _ => 0))) (fun cA => by rw [vp_cell_i, hdv]) (nI_pos (by omega)) (ze_cln (by omega)) ?_ (by rw [hR.1]; exact q1) (by rw [hR.2]; exact q2) hdg (fun q cA H1 hK1 g1 g2 g3 => ?_)
    · refine Nat.le_trans (Nat.mul_le_mul h0 hby) (by decide)
    · have hcA : cA = dA ca := hra cA (hK1.2 0 _ rfl).2
      subst hcA
      refine k9 q _ (Or.inr (Or.inl ⟨h1k, h2k, fun _ => 0, ?_, fun j v hv => ?_⟩)) H1 g1 g2 g3
      · show _ = Sum.inl (_, (List.replicate _ _).length, _)
        rw [List.length_replicate]
      · rw [ze_rep hv, hdf]
        rfl
  · cases h
theorem zs_newl (hx : p.tables.exec = Jvm.exec) (hb : c.code = cc) (hR : R.cells = mc ∧ R.slots = ms) (hKs : ze_K dC dI dA s) (hA : ∀ q, s.heap.size ≤ q → A q) (hts : ∀ w ∈ zb_T, w.before args s = true) (hca : ca = 150) (hcb : cb = 3) (har : (150, FieldType.long) ∈ ze_arr) (hwd : Cond.arrayClass .long ∈ zb_T)
    (hdg : decode cc pc = .ok (.newarray .long, 2)) (hK : ze_KK p l e R s m args below meth c Q z0 dC dI dA sp xs A nL V kk) (hn : ze_at V nx (pc + 2)) (h : zo_newa nx ca cb cd tl jp kk k cal mc ms ls st w g nc ns = true) (hH : ze_H z0 dC dI dA sp xs A s nL ls st w g ρ ws H locs la vs) : W p l e R s m args below meth c H locs nc ns Q (F0 m pc la vs) := by
  subst hca; subst hcb
  unfold zo_newa at h
  split at h
  · obtain ⟨y1, r1, e1, V1, L1⟩ := hH.2.2.2.2.2.2.2.cons
    subst e1
    obtain ⟨h0, h⟩ := ze_condf h
    have h0 := ze_ble' h0
    have ez : y1 = .int (nI _) := V1
    subst ez
    obtain ⟨q1, q2, k9⟩ := zs_mk hK hn h (hH.stk L1)
    refine va_newa (D := (dC, dI)) (tys := []) (atype := .long) (ty := .long) hx hb (hts _ hwd) rfl hKs.k0 hH.2.2.2.1 hH.2.2.2.2.1 hH.2.2.2.2.2.1 hA (a0 := (_, .inr (.inl (fun _ => 0)))) (fun cA => by rw [vp_cell_l]; rfl) (nI_pos (by omega)) (ze_cln (by omega)) ?_ (by rw [hR.1]; exact q1) (by rw [hR.2]; exact q2) hdg (fun q cA H1 hK1 g1 g2 g3 => ?_)
    · show _ * 8 ≤ _
      omega
    · have hcA : cA = dA 150 := Option.some.inj ((show s.vm.findClass _ = some cA from (hK1.2 0 _ rfl).2).symm.trans (hKs.2.1 150 .long har).2)
      subst hcA
      refine k9 q _ (Or.inr (Or.inr (Or.inl ⟨(by show 150 ≤ 150; decide), (by show 150 < 200; decide), fun _ => 0, ?_, fun j v hv => ?_⟩))) H1 g1 g2 g3
      · show _ = Sum.inl (_, (List.replicate _ _).length, _)
        rw [List.length_replicate]
      · rw [ze_rep hv]
        rfl
  · cases h
theorem zs_newq {C : String} (hx : p.tables.exec = Jvm.exec) (hb : c.code = cc) (hown : s.vm.findClass own = some m.cls) (hR : R.cells = mc ∧ R.slots = ms) (hKs : ze_K dC dI dA s) (hA : ∀ q, s.heap.size ≤ q → A q) (hts : ∀ w ∈ zb_T, w.before args s = true) (hca : 200 ≤ ca ∧ ca < 1000) (hcb : cb = 2) (har : (ca, FieldType.object C) ∈ ze_arr) (hwd : Cond.classLink own idx C ∈ zb_T) (hao : C ∈ ze_ao)
    (hdg : decode cc pc = .ok (.anewarray idx, 3)) (hK : ze_KK p l e R s m args below meth c Q z0 dC dI dA sp xs A nL V kk) (hn : ze_at V nx (pc + 3)) (h : zo_newa nx ca cb cd tl jp kk k cal mc ms ls st w g nc ns = true) (hH : ze_H z0 dC dI dA sp xs A s nL ls st w g ρ ws H locs la vs) : W p l e R s m args below meth c H locs nc ns Q (F0 m pc la vs) := by
  subst hcb
  unfold zo_newa at h
  split at h
  · obtain ⟨y1, r1, e1, V1, L1⟩ := hH.2.2.2.2.2.2.2.cons
    subst e1
    obtain ⟨h0, h⟩ := ze_condf h
    have h0 := ze_ble' h0
    have ez : y1 = .int (nI _) := V1
    subst ez
    obtain ⟨q1, q2, k9⟩ := zs_mk hK hn h (hH.stk L1)
    refine va_newq (D := (dC, dI)) (tys := []) hx hb hown (hts _ hwd) (hKs.2.2.2 _ hao) hKs.k0 hH.2.2.2.1 hH.2.2.2.2.1 hH.2.2.2.2.2.1 hA (nI_pos (by omega)) (ze_cln (by omega)) (by omega) (by rw [hR.1]; exact q1) (by rw [hR.2]; exact q2) hdg (fun q cA H1 hK1 g1 g2 g3 => ?_)
    have hcA : cA = dA ca := by
      obtain ⟨kA, comp, -, -, -, f1⟩ := (hK1.2 0 _ rfl).2
      obtain ⟨kB, comp2, -, -, -, f2⟩ := (hKs.2.1 ca _ har).2
      exact Option.some.inj (f1.symm.trans f2)
    subst hcA
    refine k9 q _ (Or.inr (Or.inr (Or.inr (Or.inl ⟨hca.1, hca.2, fun _ => none, ?_, fun j v hv => ?_⟩)))) H1 g1 g2 g3
    · show _ = Sum.inl (_, (List.replicate _ _).length, _)
      rw [List.length_replicate]
    · rw [ze_rep hv]
      rfl
  · cases h
theorem zs_new {C : String} {T : u_T} {N : Nat} (hx : p.tables.exec = Jvm.exec) (hb : c.code = cc) (hown : s.vm.findClass own = some m.cls) (hR : R.cells = mc ∧ R.slots = ms) (hKs : ze_K dC dI dA s) (hA : ∀ q, s.heap.size ≤ q → A q) (hts : ∀ w ∈ zb_T, w.before args s = true) (hcf : ze_CF) (hc : vwCl[ca]? = some (C, T, N)) (hN : tl.length = N) (hdf : ∀ j, j < N → ∃ t ty, tl[j]? = some t ∧ parseFieldDescriptor (T j).2.2.1 = some ty ∧ ze_ty t ty) (hw1 : Cond.classLink own idx C ∈ zb_T) (hw2 : Cond.instantiable C N ∈ zb_T) (hw3 : Cond.initialized C ∈ zb_T)
    (hdg : decode cc pc = .ok (.new idx, 3)) (hK : ze_KK p l e R s m args below meth c Q z0 dC dI dA sp xs A nL V kk) (hn : ze_at V nx (pc + 3)) (h : zo_new nx ca cb cd tl jp kk k cal mc ms ls st w g nc ns = true) (hH : ze_H z0 dC dI dA sp xs A s nL ls st w g ρ ws H locs la vs) : W p l e R s m args below meth c H locs nc ns Q (F0 m pc la vs) := by
  unfold zo_new at h
  rw [ze_f_eq, hN] at h
  have hf := hcf ca C T N hc
  obtain ⟨ty0, hty0⟩ := hf.2.2.1
  obtain ⟨q1, q2, k9⟩ := zs_mk hK hn h hH
  have key : ∀ t ty, ze_ty t ty → ∀ (ad : List Nat), ze_V sp ρ ad (ze_df t) (defaultValue ty) := by
    intro t ty ht ad
    rcases ht with ⟨rfl, rfl⟩ | ⟨rfl, rfl⟩ | ⟨rfl, n, rfl⟩ | ⟨rfl, n, rfl⟩ | ⟨rfl, rfl⟩ | ⟨rfl, rfl⟩ <;> rfl
  have hfs : ∀ ad : List Nat, ze_L sp ρ ad (tl.map ze_df) ((List.range N).map (fun j => defaultValue (ty0 j))) := by
    intro ad
    have gen : ∀ (l1 : List EV) (l2 : List Value), l1.length = l2.length → (∀ (j : Nat) (a : EV) (b : Value), l1[j]? = some a → l2[j]? = some b → ze_V sp ρ ad a b) → ze_L sp ρ ad l1 l2 := by
      intro l1
      induction l1 with
      | nil => intro l2 h1 _; cases l2 with
        | nil => trivial
        | cons b l2 => simp at h1
      | cons a l1 ih => intro l2 h1 h2; cases l2 with
        | nil => simp at h1
        | cons b l2 => exact ⟨h2 0 a b rfl rfl, ih l2 (by simpa using h1) (fun j a b ha hb => h2 (j + 1) a b (by simpa using ha) (by simpa using hb))⟩
    refine gen _ _ (by simp [hN]) (fun j a b ha hb => ?_)
    rw [List.getElem?_map] at ha hb
    cases hj : tl[j]? with
    | none => rw [hj] at ha; cases ha
    | some t =>
      rw [hj] at ha
      cases ha
      have hjN : j < N := by rw [← hN]; exact (List.getElem?_eq_some_iff.mp hj).1
      rw [List.getElem?_range hjN] at hb
      cases hb
      obtain ⟨t', ty, ht1, ht2, ht3⟩ := hdf j hjN
      rw [hj] at ht1
      cases ht1
      rw [hty0 j hjN] at ht2
      cases ht2
      exact key _ _ ht3 ad
  refine va_new (D := (dC, dI)) (fs := (List.range N).map (fun j => defaultValue (ty0 j))) hx hb hts hf.2.1 ty0 hty0 hown (hts _ hw1) (hts _ hw2) (hts _ hw3) hKs.k0 hH.2.2.2.1 hH.2.2.2.2.1 hH.2.2.2.2.2.1 hA hc (fun j hj => ?_) (by rw [hR.1]; exact q1) (by rw [hR.2]; exact q2) hdg (fun q H1 g1 g2 g3 => ?_)
  · unfold vp_V
    rw [List.getD_eq_getElem?_getD, List.getElem?_map, List.getElem?_range hj]
    rfl
  · exact k9 q _ (Or.inl ⟨hf.1, _, rfl, hfs _⟩) H1 g1 g2 g3
end ZS4
