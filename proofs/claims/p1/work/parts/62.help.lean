/-! the law's helpers that catch what the class throws: their contracts, and the rows of the law that call them -/
section ZHP
variable {l : Launch} {dC : Nat → ClassId} {dI : Nat → Nat → Nat} {dA : Nat → ClassId} {sp : Nat → Nat} {xs : Nat → Int32} {A : Nat → Prop}
def zx_px2 (dA : Nat → ClassId) (sp : Nat → Nat) (A : Nat → Prop) (kh : ERt) (ρ : List Int32) (ad : List Nat) : ZXS → Prop := zx_px dA sp A (fun w g => kh (some (eC 1)) w g) ρ ad
/-- behind the catch: astore, 1, ireturn -/
theorem zx_tail {p : Program} {e : Env} {R : Room} {s : State} {m : MethodId} {args : Array Value} {below : List Frame} {meth : Method} {c : Code} {bh : ByteArray} {nL pc n1 : Nat} {la : Array Slot} {lv : List (Nat × Value)} {q9 : Addr} {H1 : Heap} {locs1 : List Loc} {u : ZXS} {kh : ERt} {ρ : List Int32} {ad : List Nat}
    (hx : p.tables.exec = Jvm.exec) (hb : c.code = bh) (hr : meth.sig.returnType = some .int) (hlocks : meth.locks = false) (hl : lv_has la nL lv)
    (hast : ∀ Q : State → Prop, (∀ la' : Array Slot, W p l e R s m args below meth c H1 locs1 1 6 Q (F0 m n1 la' [])) → W p l e R s m args below meth c H1 locs1 1 6 Q (F0 m pc la [.ref q9]))
    (b15 : decode bh n1 = .ok (.iconst 1, 1)) (b16 : decode bh (n1 + 1) = .ok (.ireturn, 1))
    (hpx : zx_px2 dA sp A kh ρ ad u) (hP : va_P (dC, dI) vwCl u.2.2.2 H1) (hS1 : va_S A s.heap H1 locs1) : W p l e R s m args below meth c H1 locs1 1 6 (MQ below (ze_Qc dC dI dA sp A kh ρ ad) args s 1 6 A) (F0 m pc la [.ref q9]) := by
  refine hast _ (fun la' => ?_)
  refine lv_iconst hx hb b15 (v := 1) rfl ?_
  refine W.zret hx hb hr rfl (fun t ht hw => ?_) hS1.2.2 b16 hlocks
  exact ⟨⟨some (eC 1), u.1, u.2.1, u.2.2.1, u.2.2.2, some (.int 1), hpx.1, hpx.2.1, hpx.2.2.1, hpx.2.2.2.1, hpx.2.2.2.2.1, by rw [ht]; exact hP, hpx.2.2.2.2.2, (show Value.int 1 = .int (nI 1) from congrArg Value.int (by decide +kernel)), rfl⟩, hS1.F ht⟩

theorem zx_law (hl : l.stackTraces = false) {n d : Nat} {w : EW} {g : EG} {kh : ERt} {kx ko : Nat} {u1 u2 : Nat ⊕ Nat} (hd : 5 ≤ d) (hrc : ze_rc w 12 [eR kx, .inl u1, .inl u2] = true) (h : zx_run (zp_X11_law, 3, 0, 0) 20 n d [eR kx, .inl u1, .inl u2] w g (fun w g => kh (some (eC 1)) w g) = true)
    {ρ : List Int32} {ws : va_W} {avs : List Value} (hG : ze_G g ρ) (hX : ∀ j, j < 6 → ρ[j]? = some (xs j)) (hW : ze_W dA sp ρ w ws) (hL : ze_L sp ρ (ws.map (·.1)) [eR kx, .inl u1, .inl u2, eR ko] avs) :
    Met l yL_law (.codeWith yL_law cL_law 5 (some .int) [(0, 10, 13, 13)] :: zb_T) (ze_rm (d + 2) 1 6) (va_Pc avs (zx_Pc dC dI dA sp xs A ws)) (ze_Qc dC dI dA sp A kh ρ (ws.map (·.1))) 1 6 A := by
  obtain ⟨y1, r1, q1, V1, L1⟩ := hL.cons
  obtain ⟨y2, r2, q2, V2, L2⟩ := L1.cons
  obtain ⟨y3, r3, q3, V3, L3⟩ := L2.cons
  obtain ⟨y9, r9, q9, V9, L9⟩ := L3.cons
  have q10 := L9.nil
  subst q10; subst q9; subst q3; subst q2; subst q1
  obtain ⟨a, ha, rfl⟩ := id V1
  obtain ⟨o9, -, rfl⟩ := id V9
  have hi2 : ∃ x : Int32, y2 = .int x := by
    rcases u1 with z | z
    · exact ⟨_, V2⟩
    · obtain ⟨x, -, hx⟩ := id V2
      exact ⟨x, hx⟩
  obtain ⟨x2, rfl⟩ := hi2
  have hi3 : ∃ x : Int32, y3 = .int x := by
    rcases u2 with z | z
    · exact ⟨_, V3⟩
    · obtain ⟨x, -, hx⟩ := id V3
      exact ⟨x, hx⟩
  obtain ⟨x3, rfl⟩ := hi3
  rw [ze_rc_eq] at hrc
  have hrc : ze_g w kx (fun e => Nat.beq e.1 11) = true := hrc
  obtain ⟨cl, g1, g2⟩ := ze_g_spec hrc
  obtain ⟨a2, en, ex, hw, hC⟩ := hW.ref g1 V1
  cases ex
  have e11 := ze_beq g2
  obtain ⟨fs, ef, -⟩ := hC.obj (by rw [e11]; decide)
  rw [e11] at ef
  subst ef
  have hM := fun (Qc : Array Value → State → Outcome → State → Prop) => zx_met (l := l) (dC := dC) (dI := dI) (dA := dA) (sp := sp) (xs := xs) (A := A) hl (y := 131) (q := (yX11_law, cX11_law, 3, some .int, 11, 0, 0)) rfl (m9 := (zp_X11_law, 3, 0, 0)) rfl rfl rfl (pn := 20) (by decide +kernel) (by decide +kernel) (by decide +kernel) (by decide +kernel) hd h hG hX hW (avs := [.ref a, .int x2, .int x3]) ⟨V1, V2, V3, trivial⟩ (Qc := Qc)
  refine va_MetW (cc := cL_law) (maxL := 5) (ret := some .int) (hh := [(0, 10, 13, 13)]) (by decide) rfl ?_
  intro p e s m args below meth c s₁ B hml hP
  obtain ⟨rfl, ⟨hP1, hP2, hP3, hP4, hP5⟩, hZ⟩ := hP
  have hts0 := atoms_spec (ws := Cond.codeWith yL_law cL_law 5 (some .int) [(0, 10, 13, 13)] :: zb_T) B.pre
  have hts : ∀ w ∈ zb_T, w.before ([Value.ref a, .int x2, .int x3, .ref o9] : List Value).toArray s = true := fun w hw => hts0 w (List.mem_cons_of_mem _ hw)
  have hown : s.vm.findClass RL = some m.cls := findClass_of_methodNamed B.named
  have htab := vx_table (x := yL_law) B (hts0 _ List.mem_cons_self)
  rw [lg_entry_eq]
  have hl2 := lv_entry ([Value.ref a, .int x2, .int x3, .ref o9] : List Value) (n := 5) (by show 4 ≤ 5; decide)
  generalize ((lg_sl ([Value.ref a, .int x2, .int x3, .ref o9] : List Value) ++ List.replicate (5 - (lg_sl ([Value.ref a, .int x2, .int x3, .ref o9] : List Value)).length) Slot.unset).toArray) = la at hl2
  have hl3 : lv_has la 5 [(0, .ref a), (1, .int x2), (2, .int x3), (3, .ref o9)] := hl2
  refine lv_aload_n B.exec B.bytes (k := 3) (i := 3) (x := o9) (by decide +kernel) rfl (lv_at hl3 3 rfl) ?_
  refine lv_iconst B.exec B.bytes (n := 0) (v := 0) (by decide +kernel) rfl ?_
  refine lv_aload_n B.exec B.bytes (k := 0) (i := 0) (x := a) (by decide +kernel) rfl (lv_at hl3 0 rfl) ?_
  refine lv_iload_n B.exec B.bytes (k := 1) (i := 1) (x := x2) (by decide +kernel) rfl (lv_at hl3 1 rfl) ?_
  refine lv_iload_n B.exec B.bytes (k := 2) (i := 2) (x := x3) (by decide +kernel) rfl (lv_at hl3 2 rfl) ?_
  have hrm := ze_room (R := (headSpec (Cond.codeWith yL_law cL_law 5 (some .int) [(0, 10, 13, 13)] :: zb_T) (ze_rm (d + 2) 1 6)).room) (cy := 1) (sy := 6) (yL := 3) (d := d + 1) ⟨Nat.le_refl _, Nat.le_refl _⟩ (by decide)
  have hPv : PreV s s.heap RX11 a (va_Pc [.ref a, .int x2, .int x3] (zx_Pc dC dI dA sp xs A ws)) [.int x2, .int x3] := ⟨zx_blind, va_recv hP2.k0 hP1 (ci := 11) rfl hw, fun U hU hWm => ⟨rfl, ⟨by rw [hU]; exact hP1, hP2.warm hWm, hP3, fun q hq => hP4 q (by rw [← hU]; exact hq), by rw [hU]; exact hP5.1.moved hWm.alike, by rw [hU]; exact hP5.2.1, hP5.2.2.1, hP5.2.2.2.1, hP5.2.2.2.2.1, hP5.2.2.2.2.2.at (locs := []) (by rw [hU]; exact va_S.rf) hWm⟩, hZ.at (locs := []) (by rw [hU]; exact va_S.rf) hWm⟩⟩
  have hrun := vx_runV (e := e) (below := below) (H := s.heap) (locs := []) (cells := 0) (slots := 0) (meth := meth) (As := [.int x2, .int x3]) (rest := [.int 0, .ref o9]) (C := RX11) (g := F0 m 5 la ([.int x3, .int x2] ++ [.ref a, .int 0, .ref o9])) ⟨B.exec, B.bytes, hml, hown, hts⟩ (hM (va_Qi (fun (_ : Int32) (_ : Unit) => False) (fun _ _ => True) A)) (cwV 2 hts (zg_in ?_) rfl rfl rfl ⟨rfl, by decide, by decide, by decide +kernel⟩ hrm) hPv rfl rfl hl3.1 rfl (by show 2 * 0 + (1 + (1 + 0)) ≤ 8; decide) (show decode cL_law 5 = .ok (.invokevirtual 7, 3) by decide +kernel) ⟨Nat.le_refl _, Nat.le_refl _⟩
  · refine vx_calli hrun va_S.rf (fun q _ hq => hq) (fun q hq => hq) (fun q _ hq => hq) ?_ ?_
    · intro E ce q9 u t H1 locs1 ht hal hpx hbx hsz hkeep hS1 hce hcv hcl
      obtain ⟨rfl, hP9⟩ := hbx
      refine zx_catch (own := RL) (name := zx_E) hown ⟨0, 10, 13, 13⟩ [] htab (by decide) (by decide) (hts _ (zb_in (zc_5 (List.mem_of_getElem? (i := 223) rfl)) rfl)) (va_Nw.use rfl (hZ.2.2 _ zx_w5)) hce hcv hcl ?_
      exact zx_tail (kh := kh) B.exec B.bytes B.returns B.notSynchronized hl3 (fun Q k9 => lv_astore B.exec B.bytes (i := 4) (by decide +kernel) hl3 (by decide) rfl (fun la' _ => k9 la')) (by decide +kernel) (by decide +kernel) hpx (by rw [← ht]; exact hP9) hS1
    · intro r u t H1 locs1 ht hal hF
      exact hF.elim
  · intro w' hw'
    rcases List.mem_append.mp hw' with h9 | h9
    · simp only [List.mem_cons, List.not_mem_nil, or_false] at h9
      rcases h9 with rfl | rfl | rfl | rfl
      · exact zb_in (zc_5 (List.mem_of_getElem? (i := 224) rfl)) rfl
      · exact zb_in (zc_5 (List.mem_of_getElem? (i := 225) rfl)) rfl
      · exact zb_in (zc_5 (List.mem_of_getElem? (i := 226) rfl)) rfl
      · exact zb_in (zc_1 (List.mem_of_getElem? (i := 1) rfl)) rfl
    · exact zg_code (zb_in (zc_5 (List.mem_of_getElem? (i := 227) rfl)) rfl) w' h9

theorem zx_bit (hl : l.stackTraces = false) {n d : Nat} {w : EW} {g : EG} {kh : ERt} {kx ko : Nat} {u1 u2 : Nat ⊕ Nat} (hd : 5 ≤ d) (hrc : ze_rc w 12 [eR kx, .inl u1, .inl u2] = true) (h : zx_run (zp_X11_bit, 3, 0, 0) 12 n d [eR kx, .inl u1, .inl u2] w g (fun w g => kh (some (eC 1)) w g) = true)
    {ρ : List Int32} {ws : va_W} {avs : List Value} (hG : ze_G g ρ) (hX : ∀ j, j < 6 → ρ[j]? = some (xs j)) (hW : ze_W dA sp ρ w ws) (hL : ze_L sp ρ (ws.map (·.1)) [eR kx, .inl u1, .inl u2, eR ko] avs) :
    Met l yL_bit (.codeWith yL_bit cL_bit 5 (some .int) [(0, 10, 13, 13)] :: zb_T) (ze_rm (d + 2) 1 6) (va_Pc avs (zx_Pc dC dI dA sp xs A ws)) (ze_Qc dC dI dA sp A kh ρ (ws.map (·.1))) 1 6 A := by
  obtain ⟨y1, r1, q1, V1, L1⟩ := hL.cons
  obtain ⟨y2, r2, q2, V2, L2⟩ := L1.cons
  obtain ⟨y3, r3, q3, V3, L3⟩ := L2.cons
  obtain ⟨y9, r9, q9, V9, L9⟩ := L3.cons
  have q10 := L9.nil
  subst q10; subst q9; subst q3; subst q2; subst q1
  obtain ⟨a, ha, rfl⟩ := id V1
  obtain ⟨o9, -, rfl⟩ := id V9
  have hi2 : ∃ x : Int32, y2 = .int x := by
    rcases u1 with z | z
    · exact ⟨_, V2⟩
    · obtain ⟨x, -, hx⟩ := id V2
      exact ⟨x, hx⟩
  obtain ⟨x2, rfl⟩ := hi2
  have hi3 : ∃ x : Int32, y3 = .int x := by
    rcases u2 with z | z
    · exact ⟨_, V3⟩
    · obtain ⟨x, -, hx⟩ := id V3
      exact ⟨x, hx⟩
  obtain ⟨x3, rfl⟩ := hi3
  rw [ze_rc_eq] at hrc
  have hrc : ze_g w kx (fun e => Nat.beq e.1 11) = true := hrc
  obtain ⟨cl, g1, g2⟩ := ze_g_spec hrc
  obtain ⟨a2, en, ex, hw, hC⟩ := hW.ref g1 V1
  cases ex
  have e11 := ze_beq g2
  obtain ⟨fs, ef, -⟩ := hC.obj (by rw [e11]; decide)
  rw [e11] at ef
  subst ef
  have hM := fun (Qc : Array Value → State → Outcome → State → Prop) => zx_met (l := l) (dC := dC) (dI := dI) (dA := dA) (sp := sp) (xs := xs) (A := A) hl (y := 132) (q := (yX11_bit, cX11_bit, 3, some .int, 11, 0, 0)) rfl (m9 := (zp_X11_bit, 3, 0, 0)) rfl rfl rfl (pn := 12) (by decide +kernel) (by decide +kernel) (by decide +kernel) (by decide +kernel) hd h hG hX hW (avs := [.ref a, .int x2, .int x3]) ⟨V1, V2, V3, trivial⟩ (Qc := Qc)
  refine va_MetW (cc := cL_bit) (maxL := 5) (ret := some .int) (hh := [(0, 10, 13, 13)]) (by decide) rfl ?_
  intro p e s m args below meth c s₁ B hml hP
  obtain ⟨rfl, ⟨hP1, hP2, hP3, hP4, hP5⟩, hZ⟩ := hP
  have hts0 := atoms_spec (ws := Cond.codeWith yL_bit cL_bit 5 (some .int) [(0, 10, 13, 13)] :: zb_T) B.pre
  have hts : ∀ w ∈ zb_T, w.before ([Value.ref a, .int x2, .int x3, .ref o9] : List Value).toArray s = true := fun w hw => hts0 w (List.mem_cons_of_mem _ hw)
  have hown : s.vm.findClass RL = some m.cls := findClass_of_methodNamed B.named
  have htab := vx_table (x := yL_bit) B (hts0 _ List.mem_cons_self)
  rw [lg_entry_eq]
  have hl2 := lv_entry ([Value.ref a, .int x2, .int x3, .ref o9] : List Value) (n := 5) (by show 4 ≤ 5; decide)
  generalize ((lg_sl ([Value.ref a, .int x2, .int x3, .ref o9] : List Value) ++ List.replicate (5 - (lg_sl ([Value.ref a, .int x2, .int x3, .ref o9] : List Value)).length) Slot.unset).toArray) = la at hl2
  have hl3 : lv_has la 5 [(0, .ref a), (1, .int x2), (2, .int x3), (3, .ref o9)] := hl2
  refine lv_aload_n B.exec B.bytes (k := 3) (i := 3) (x := o9) (by decide +kernel) rfl (lv_at hl3 3 rfl) ?_
  refine lv_iconst B.exec B.bytes (n := 0) (v := 0) (by decide +kernel) rfl ?_
  refine lv_aload_n B.exec B.bytes (k := 0) (i := 0) (x := a) (by decide +kernel) rfl (lv_at hl3 0 rfl) ?_
  refine lv_iload_n B.exec B.bytes (k := 1) (i := 1) (x := x2) (by decide +kernel) rfl (lv_at hl3 1 rfl) ?_
  refine lv_iload_n B.exec B.bytes (k := 2) (i := 2) (x := x3) (by decide +kernel) rfl (lv_at hl3 2 rfl) ?_
  have hrm := ze_room (R := (headSpec (Cond.codeWith yL_bit cL_bit 5 (some .int) [(0, 10, 13, 13)] :: zb_T) (ze_rm (d + 2) 1 6)).room) (cy := 1) (sy := 6) (yL := 3) (d := d + 1) ⟨Nat.le_refl _, Nat.le_refl _⟩ (by decide)
  have hPv : PreV s s.heap RX11 a (va_Pc [.ref a, .int x2, .int x3] (zx_Pc dC dI dA sp xs A ws)) [.int x2, .int x3] := ⟨zx_blind, va_recv hP2.k0 hP1 (ci := 11) rfl hw, fun U hU hWm => ⟨rfl, ⟨by rw [hU]; exact hP1, hP2.warm hWm, hP3, fun q hq => hP4 q (by rw [← hU]; exact hq), by rw [hU]; exact hP5.1.moved hWm.alike, by rw [hU]; exact hP5.2.1, hP5.2.2.1, hP5.2.2.2.1, hP5.2.2.2.2.1, hP5.2.2.2.2.2.at (locs := []) (by rw [hU]; exact va_S.rf) hWm⟩, hZ.at (locs := []) (by rw [hU]; exact va_S.rf) hWm⟩⟩
  have hrun := vx_runV (e := e) (below := below) (H := s.heap) (locs := []) (cells := 0) (slots := 0) (meth := meth) (As := [.int x2, .int x3]) (rest := [.int 0, .ref o9]) (C := RX11) (g := F0 m 5 la ([.int x3, .int x2] ++ [.ref a, .int 0, .ref o9])) ⟨B.exec, B.bytes, hml, hown, hts⟩ (hM (va_Qi (fun (_ : Int32) (_ : Unit) => False) (fun _ _ => True) A)) (cwV 2 hts (zg_in ?_) rfl rfl rfl ⟨rfl, by decide, by decide, by decide +kernel⟩ hrm) hPv rfl rfl hl3.1 rfl (by show 2 * 0 + (1 + (1 + 0)) ≤ 8; decide) (show decode cL_bit 5 = .ok (.invokevirtual 15, 3) by decide +kernel) ⟨Nat.le_refl _, Nat.le_refl _⟩
  · refine vx_calli hrun va_S.rf (fun q _ hq => hq) (fun q hq => hq) (fun q _ hq => hq) ?_ ?_
    · intro E ce q9 u t H1 locs1 ht hal hpx hbx hsz hkeep hS1 hce hcv hcl
      obtain ⟨rfl, hP9⟩ := hbx
      refine zx_catch (own := RL) (name := zx_E) hown ⟨0, 10, 13, 13⟩ [] htab (by decide) (by decide) (hts _ (zb_in (zc_5 (List.mem_of_getElem? (i := 223) rfl)) rfl)) (va_Nw.use rfl (hZ.2.2 _ zx_w5)) hce hcv hcl ?_
      exact zx_tail (kh := kh) B.exec B.bytes B.returns B.notSynchronized hl3 (fun Q k9 => lv_astore B.exec B.bytes (i := 4) (by decide +kernel) hl3 (by decide) rfl (fun la' _ => k9 la')) (by decide +kernel) (by decide +kernel) hpx (by rw [← ht]; exact hP9) hS1
    · intro r u t H1 locs1 ht hal hF
      exact hF.elim
  · intro w' hw'
    rcases List.mem_append.mp hw' with h9 | h9
    · simp only [List.mem_cons, List.not_mem_nil, or_false] at h9
      rcases h9 with rfl | rfl | rfl | rfl
      · exact zb_in (zc_6 (List.mem_of_getElem? (i := 57) rfl)) rfl
      · exact zb_in (zc_6 (List.mem_of_getElem? (i := 58) rfl)) rfl
      · exact zb_in (zc_6 (List.mem_of_getElem? (i := 59) rfl)) rfl
      · exact zb_in (zc_1 (List.mem_of_getElem? (i := 1) rfl)) rfl
    · exact zg_code (zb_in (zc_6 (List.mem_of_getElem? (i := 60) rfl)) rfl) w' h9

theorem zx_one (hl : l.stackTraces = false) {n d : Nat} {w : EW} {g : EG} {kh : ERt} {kx ko : Nat} {u1 u2 : Nat ⊕ Nat} (hd : 5 ≤ d) (hrc : ze_rc w 12 [eR kx, .inl u1, .inl u2] = true) (h : zx_run (zp_X11_one, 3, 0, 0) 20 n d [eR kx, .inl u1, .inl u2] w g (fun w g => kh (some (eC 1)) w g) = true)
    {ρ : List Int32} {ws : va_W} {avs : List Value} (hG : ze_G g ρ) (hX : ∀ j, j < 6 → ρ[j]? = some (xs j)) (hW : ze_W dA sp ρ w ws) (hL : ze_L sp ρ (ws.map (·.1)) [eR kx, .inl u1, .inl u2, eR ko] avs) :
    Met l yL_one (.codeWith yL_one cL_one 5 (some .int) [(0, 10, 13, 13)] :: zb_T) (ze_rm (d + 2) 1 6) (va_Pc avs (zx_Pc dC dI dA sp xs A ws)) (ze_Qc dC dI dA sp A kh ρ (ws.map (·.1))) 1 6 A := by
  obtain ⟨y1, r1, q1, V1, L1⟩ := hL.cons
  obtain ⟨y2, r2, q2, V2, L2⟩ := L1.cons
  obtain ⟨y3, r3, q3, V3, L3⟩ := L2.cons
  obtain ⟨y9, r9, q9, V9, L9⟩ := L3.cons
  have q10 := L9.nil
  subst q10; subst q9; subst q3; subst q2; subst q1
  obtain ⟨a, ha, rfl⟩ := id V1
  obtain ⟨o9, -, rfl⟩ := id V9
  have hi2 : ∃ x : Int32, y2 = .int x := by
    rcases u1 with z | z
    · exact ⟨_, V2⟩
    · obtain ⟨x, -, hx⟩ := id V2
      exact ⟨x, hx⟩
  obtain ⟨x2, rfl⟩ := hi2
  have hi3 : ∃ x : Int32, y3 = .int x := by
    rcases u2 with z | z
    · exact ⟨_, V3⟩
    · obtain ⟨x, -, hx⟩ := id V3
      exact ⟨x, hx⟩
  obtain ⟨x3, rfl⟩ := hi3
  rw [ze_rc_eq] at hrc
  have hrc : ze_g w kx (fun e => Nat.beq e.1 11) = true := hrc
  obtain ⟨cl, g1, g2⟩ := ze_g_spec hrc
  obtain ⟨a2, en, ex, hw, hC⟩ := hW.ref g1 V1
  cases ex
  have e11 := ze_beq g2
  obtain ⟨fs, ef, -⟩ := hC.obj (by rw [e11]; decide)
  rw [e11] at ef
  subst ef
  have hM := fun (Qc : Array Value → State → Outcome → State → Prop) => zx_met (l := l) (dC := dC) (dI := dI) (dA := dA) (sp := sp) (xs := xs) (A := A) hl (y := 133) (q := (yX11_one, cX11_one, 3, some .int, 11, 0, 0)) rfl (m9 := (zp_X11_one, 3, 0, 0)) rfl rfl rfl (pn := 20) (by decide +kernel) (by decide +kernel) (by decide +kernel) (by decide +kernel) hd h hG hX hW (avs := [.ref a, .int x2, .int x3]) ⟨V1, V2, V3, trivial⟩ (Qc := Qc)
  refine va_MetW (cc := cL_one) (maxL := 5) (ret := some .int) (hh := [(0, 10, 13, 13)]) (by decide) rfl ?_
  intro p e s m args below meth c s₁ B hml hP
  obtain ⟨rfl, ⟨hP1, hP2, hP3, hP4, hP5⟩, hZ⟩ := hP
  have hts0 := atoms_spec (ws := Cond.codeWith yL_one cL_one 5 (some .int) [(0, 10, 13, 13)] :: zb_T) B.pre
  have hts : ∀ w ∈ zb_T, w.before ([Value.ref a, .int x2, .int x3, .ref o9] : List Value).toArray s = true := fun w hw => hts0 w (List.mem_cons_of_mem _ hw)
  have hown : s.vm.findClass RL = some m.cls := findClass_of_methodNamed B.named
  have htab := vx_table (x := yL_one) B (hts0 _ List.mem_cons_self)
  rw [lg_entry_eq]
  have hl2 := lv_entry ([Value.ref a, .int x2, .int x3, .ref o9] : List Value) (n := 5) (by show 4 ≤ 5; decide)
  generalize ((lg_sl ([Value.ref a, .int x2, .int x3, .ref o9] : List Value) ++ List.replicate (5 - (lg_sl ([Value.ref a, .int x2, .int x3, .ref o9] : List Value)).length) Slot.unset).toArray) = la at hl2
  have hl3 : lv_has la 5 [(0, .ref a), (1, .int x2), (2, .int x3), (3, .ref o9)] := hl2
  refine lv_aload_n B.exec B.bytes (k := 3) (i := 3) (x := o9) (by decide +kernel) rfl (lv_at hl3 3 rfl) ?_
  refine lv_iconst B.exec B.bytes (n := 0) (v := 0) (by decide +kernel) rfl ?_
  refine lv_aload_n B.exec B.bytes (k := 0) (i := 0) (x := a) (by decide +kernel) rfl (lv_at hl3 0 rfl) ?_
  refine lv_iload_n B.exec B.bytes (k := 1) (i := 1) (x := x2) (by decide +kernel) rfl (lv_at hl3 1 rfl) ?_
  refine lv_iload_n B.exec B.bytes (k := 2) (i := 2) (x := x3) (by decide +kernel) rfl (lv_at hl3 2 rfl) ?_
  have hrm := ze_room (R := (headSpec (Cond.codeWith yL_one cL_one 5 (some .int) [(0, 10, 13, 13)] :: zb_T) (ze_rm (d + 2) 1 6)).room) (cy := 1) (sy := 6) (yL := 3) (d := d + 1) ⟨Nat.le_refl _, Nat.le_refl _⟩ (by decide)
  have hPv : PreV s s.heap RX11 a (va_Pc [.ref a, .int x2, .int x3] (zx_Pc dC dI dA sp xs A ws)) [.int x2, .int x3] := ⟨zx_blind, va_recv hP2.k0 hP1 (ci := 11) rfl hw, fun U hU hWm => ⟨rfl, ⟨by rw [hU]; exact hP1, hP2.warm hWm, hP3, fun q hq => hP4 q (by rw [← hU]; exact hq), by rw [hU]; exact hP5.1.moved hWm.alike, by rw [hU]; exact hP5.2.1, hP5.2.2.1, hP5.2.2.2.1, hP5.2.2.2.2.1, hP5.2.2.2.2.2.at (locs := []) (by rw [hU]; exact va_S.rf) hWm⟩, hZ.at (locs := []) (by rw [hU]; exact va_S.rf) hWm⟩⟩
  have hrun := vx_runV (e := e) (below := below) (H := s.heap) (locs := []) (cells := 0) (slots := 0) (meth := meth) (As := [.int x2, .int x3]) (rest := [.int 0, .ref o9]) (C := RX11) (g := F0 m 5 la ([.int x3, .int x2] ++ [.ref a, .int 0, .ref o9])) ⟨B.exec, B.bytes, hml, hown, hts⟩ (hM (va_Qi (fun (_ : Int32) (_ : Unit) => False) (fun _ _ => True) A)) (cwV 2 hts (zg_in ?_) rfl rfl rfl ⟨rfl, by decide, by decide, by decide +kernel⟩ hrm) hPv rfl rfl hl3.1 rfl (by show 2 * 0 + (1 + (1 + 0)) ≤ 8; decide) (show decode cL_one 5 = .ok (.invokevirtual 18, 3) by decide +kernel) ⟨Nat.le_refl _, Nat.le_refl _⟩
  · refine vx_calli hrun va_S.rf (fun q _ hq => hq) (fun q hq => hq) (fun q _ hq => hq) ?_ ?_
    · intro E ce q9 u t H1 locs1 ht hal hpx hbx hsz hkeep hS1 hce hcv hcl
      obtain ⟨rfl, hP9⟩ := hbx
      refine zx_catch (own := RL) (name := zx_E) hown ⟨0, 10, 13, 13⟩ [] htab (by decide) (by decide) (hts _ (zb_in (zc_5 (List.mem_of_getElem? (i := 223) rfl)) rfl)) (va_Nw.use rfl (hZ.2.2 _ zx_w5)) hce hcv hcl ?_
      exact zx_tail (kh := kh) B.exec B.bytes B.returns B.notSynchronized hl3 (fun Q k9 => lv_astore B.exec B.bytes (i := 4) (by decide +kernel) hl3 (by decide) rfl (fun la' _ => k9 la')) (by decide +kernel) (by decide +kernel) hpx (by rw [← ht]; exact hP9) hS1
    · intro r u t H1 locs1 ht hal hF
      exact hF.elim
  · intro w' hw'
    rcases List.mem_append.mp hw' with h9 | h9
    · simp only [List.mem_cons, List.not_mem_nil, or_false] at h9
      rcases h9 with rfl | rfl | rfl | rfl
      · exact zb_in (zc_6 (List.mem_of_getElem? (i := 64) rfl)) rfl
      · exact zb_in (zc_6 (List.mem_of_getElem? (i := 65) rfl)) rfl
      · exact zb_in (zc_6 (List.mem_of_getElem? (i := 66) rfl)) rfl
      · exact zb_in (zc_1 (List.mem_of_getElem? (i := 1) rfl)) rfl
    · exact zg_code (zb_in (zc_6 (List.mem_of_getElem? (i := 67) rfl)) rfl) w' h9

theorem zx_row (hl : l.stackTraces = false) {n d : Nat} {w : EW} {g : EG} {kh : ERt} {kx ko : Nat} {u1 : Nat ⊕ Nat} (hd : 5 ≤ d) (hrc : ze_rc w 12 [eR kx, .inl u1] = true) (h : zx_run (zp_X11_row, 2, 0, 0) 17 n d [eR kx, .inl u1] w g (fun w g => kh (some (eC 1)) w g) = true)
    {ρ : List Int32} {ws : va_W} {avs : List Value} (hG : ze_G g ρ) (hX : ∀ j, j < 6 → ρ[j]? = some (xs j)) (hW : ze_W dA sp ρ w ws) (hL : ze_L sp ρ (ws.map (·.1)) [eR kx, .inl u1, eR ko] avs) :
    Met l yL_row (.codeWith yL_row cL_row 4 (some .int) [(0, 8, 11, 13)] :: zb_T) (ze_rm (d + 2) 1 6) (va_Pc avs (zx_Pc dC dI dA sp xs A ws)) (ze_Qc dC dI dA sp A kh ρ (ws.map (·.1))) 1 6 A := by
  obtain ⟨y1, r1, q1, V1, L1⟩ := hL.cons
  obtain ⟨y2, r2, q2, V2, L2⟩ := L1.cons
  obtain ⟨y9, r9, q9, V9, L9⟩ := L2.cons
  have q10 := L9.nil
  subst q10; subst q9; subst q2; subst q1
  obtain ⟨a, ha, rfl⟩ := id V1
  obtain ⟨o9, -, rfl⟩ := id V9
  have hi2 : ∃ x : Int32, y2 = .int x := by
    rcases u1 with z | z
    · exact ⟨_, V2⟩
    · obtain ⟨x, -, hx⟩ := id V2
      exact ⟨x, hx⟩
  obtain ⟨x2, rfl⟩ := hi2
  rw [ze_rc_eq] at hrc
  have hrc : ze_g w kx (fun e => Nat.beq e.1 11) = true := hrc
  obtain ⟨cl, g1, g2⟩ := ze_g_spec hrc
  obtain ⟨a2, en, ex, hw, hC⟩ := hW.ref g1 V1
  cases ex
  have e11 := ze_beq g2
  obtain ⟨fs, ef, -⟩ := hC.obj (by rw [e11]; decide)
  rw [e11] at ef
  subst ef
  have hM := fun (Qc : Array Value → State → Outcome → State → Prop) => zx_met (l := l) (dC := dC) (dI := dI) (dA := dA) (sp := sp) (xs := xs) (A := A) hl (y := 179) (q := (yX11_row, cX11_row, 2, some .long, 11, 0, 0)) rfl (m9 := (zp_X11_row, 2, 0, 0)) rfl rfl rfl (pn := 17) (by decide +kernel) (by decide +kernel) (by decide +kernel) (by decide +kernel) hd h hG hX hW (avs := [.ref a, .int x2]) ⟨V1, V2, trivial⟩ (Qc := Qc)
  refine va_MetW (cc := cL_row) (maxL := 4) (ret := some .int) (hh := [(0, 8, 11, 13)]) (by decide) rfl ?_
  intro p e s m args below meth c s₁ B hml hP
  obtain ⟨rfl, ⟨hP1, hP2, hP3, hP4, hP5⟩, hZ⟩ := hP
  have hts0 := atoms_spec (ws := Cond.codeWith yL_row cL_row 4 (some .int) [(0, 8, 11, 13)] :: zb_T) B.pre
  have hts : ∀ w ∈ zb_T, w.before ([Value.ref a, .int x2, .ref o9] : List Value).toArray s = true := fun w hw => hts0 w (List.mem_cons_of_mem _ hw)
  have hown : s.vm.findClass RL = some m.cls := findClass_of_methodNamed B.named
  have htab := vx_table (x := yL_row) B (hts0 _ List.mem_cons_self)
  rw [lg_entry_eq]
  have hl2 := lv_entry ([Value.ref a, .int x2, .ref o9] : List Value) (n := 4) (by show 3 ≤ 4; decide)
  generalize ((lg_sl ([Value.ref a, .int x2, .ref o9] : List Value) ++ List.replicate (4 - (lg_sl ([Value.ref a, .int x2, .ref o9] : List Value)).length) Slot.unset).toArray) = la at hl2
  have hl3 : lv_has la 4 [(0, .ref a), (1, .int x2), (2, .ref o9)] := hl2
  refine lv_aload_n B.exec B.bytes (k := 2) (i := 2) (x := o9) (by decide +kernel) rfl (lv_at hl3 2 rfl) ?_
  refine lv_iconst B.exec B.bytes (n := 0) (v := 0) (by decide +kernel) rfl ?_
  refine lv_aload_n B.exec B.bytes (k := 0) (i := 0) (x := a) (by decide +kernel) rfl (lv_at hl3 0 rfl) ?_
  refine lv_iload_n B.exec B.bytes (k := 1) (i := 1) (x := x2) (by decide +kernel) rfl (lv_at hl3 1 rfl) ?_
  have hrm := ze_room (R := (headSpec (Cond.codeWith yL_row cL_row 4 (some .int) [(0, 8, 11, 13)] :: zb_T) (ze_rm (d + 2) 1 6)).room) (cy := 1) (sy := 6) (yL := 2) (d := d + 1) ⟨Nat.le_refl _, Nat.le_refl _⟩ (by decide)
  have hPv : PreV s s.heap RX11 a (va_Pc [.ref a, .int x2] (zx_Pc dC dI dA sp xs A ws)) [.int x2] := ⟨zx_blind, va_recv hP2.k0 hP1 (ci := 11) rfl hw, fun U hU hWm => ⟨rfl, ⟨by rw [hU]; exact hP1, hP2.warm hWm, hP3, fun q hq => hP4 q (by rw [← hU]; exact hq), by rw [hU]; exact hP5.1.moved hWm.alike, by rw [hU]; exact hP5.2.1, hP5.2.2.1, hP5.2.2.2.1, hP5.2.2.2.2.1, hP5.2.2.2.2.2.at (locs := []) (by rw [hU]; exact va_S.rf) hWm⟩, hZ.at (locs := []) (by rw [hU]; exact va_S.rf) hWm⟩⟩
  have hrun := vx_runV (e := e) (below := below) (H := s.heap) (locs := []) (cells := 0) (slots := 0) (meth := meth) (As := [.int x2]) (rest := [.int 0, .ref o9]) (C := RX11) (g := F0 m 4 la ([.int x2] ++ [.ref a, .int 0, .ref o9])) ⟨B.exec, B.bytes, hml, hown, hts⟩ (hM (va_Ql (fun (_ : Int64) (_ : Unit) => False) (fun _ _ => True) A)) (cwV 1 hts (zg_in ?_) rfl rfl rfl ⟨rfl, by decide, by decide, by decide +kernel⟩ hrm) hPv rfl rfl hl3.1 rfl (by show 2 * 0 + (1 + (1 + 0)) ≤ 8; decide) (show decode cL_row 4 = .ok (.invokevirtual 21, 3) by decide +kernel) ⟨Nat.le_refl _, Nat.le_refl _⟩
  · refine vx_calll hrun va_S.rf (fun q _ hq => hq) (fun q hq => hq) (fun q _ hq => hq) ?_ ?_
    · intro E ce q9 u t H1 locs1 ht hal hpx hbx hsz hkeep hS1 hce hcv hcl
      obtain ⟨rfl, hP9⟩ := hbx
      refine zx_catch (own := RL) (name := zx_E) hown ⟨0, 8, 11, 13⟩ [] htab (by decide) (by decide) (hts _ (zb_in (zc_5 (List.mem_of_getElem? (i := 223) rfl)) rfl)) (va_Nw.use rfl (hZ.2.2 _ zx_w5)) hce hcv hcl ?_
      exact zx_tail (kh := kh) B.exec B.bytes B.returns B.notSynchronized hl3 (fun Q k9 => lv_astore_n B.exec B.bytes (k := 3) (i := 3) (by decide +kernel) rfl hl3 (by decide) rfl (fun la' _ => k9 la')) (by decide +kernel) (by decide +kernel) hpx (by rw [← ht]; exact hP9) hS1
    · intro r u t H1 locs1 ht hal hF
      exact hF.elim
  · intro w' hw'
    rcases List.mem_append.mp hw' with h9 | h9
    · simp only [List.mem_cons, List.not_mem_nil, or_false] at h9
      rcases h9 with rfl | rfl | rfl | rfl
      · exact zb_in (zc_6 (List.mem_of_getElem? (i := 75) rfl)) rfl
      · exact zb_in (zc_6 (List.mem_of_getElem? (i := 76) rfl)) rfl
      · exact zb_in (zc_6 (List.mem_of_getElem? (i := 77) rfl)) rfl
      · exact zb_in (zc_1 (List.mem_of_getElem? (i := 1) rfl)) rfl
    · exact zg_code (zb_in (zc_6 (List.mem_of_getElem? (i := 78) rfl)) rfl) w' h9

end ZHP
