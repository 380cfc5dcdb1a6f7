/-! THE ENGINE, part 8: the kinds of calls -/
theorem zg_in {ws : List Cond} (h : ∀ w ∈ ws, w ∈ zb_T) : GoodIn zb_T ws := fun w hw => ⟨h w hw, good_of_word (zb_good w (h w hw)).2⟩
theorem zg_code {w0 : Cond} (h : w0 ∈ zb_T) : ∀ w ∈ w0 :: zb_T, w ∈ zb_T := fun w hw => (List.mem_cons.mp hw).elim (fun e => e ▸ h) (fun q => q)
/-- what the engine's rows say of a callee -/
noncomputable def ze_rm (d cy sy : Nat) : Room := { frames := d, cells := cy, slots := sy, locals := 70 * d }
section ZI
variable {p : Program} {l : Launch} {e : Env} {R : Room} {s : State} {m : MethodId} {args : Array Value} {below : List Frame} {meth : Method} {c : Code} {Q : State → Prop}
variable {z0 : List Int32 × List Nat} {dC : Nat → ClassId} {dI : Nat → Nat → Nat} {dA : Nat → ClassId} {sp : Nat → Nat} {xs : ZXs} {A : Nat → Prop} {nL : Nat} {V : List ECE → Prop}
variable {kk : EKn} {k : ERt} {cal : ECal} {mc ms pc pc2 ca cb cd nc ns : Nat} {nx : List ECE} {jp : EJp} {tl : List Nat} {ls st : List EV} {w : EW} {g : EG} {ρ : List Int32} {ws : va_W} {H : Heap} {locs : List Loc} {la : Array Slot} {vs : List Value}
variable {cc : ByteArray} {own : String} {idx : Nat}
variable {yn : MethodName} {yb : ByteArray} {yL cy sy d nb : Nat} {yr : Option FieldType}
/-- the callee's contract, as the engine gives it -/
noncomputable def ze_Cal (l : Launch) (dC : Nat → ClassId) (dI : Nat → Nat → Nat) (dA : Nat → ClassId) (sp : Nat → Nat) (xs : ZXs) (A : Nat → Prop) (cal : ECal) (y d : Nat) (yn : MethodName) (yb : ByteArray) (yL : Nat) (yr : Option FieldType) (cy sy : Nat) : Prop :=
  ∀ (av : List EV) (w : EW) (g : EG) (k' : ERt), cal y av w g k' = true → ∀ (ρ : List Int32) (ws : va_W) (avs : List Value), ze_G g ρ → ze_Z xs ρ → ze_W dA sp ρ w ws → ze_L sp ρ (ws.map (·.1)) av avs → Met l yn (.code yn yb yL yr :: zb_T) (ze_rm d cy sy) (va_Pc avs (ze_Pc dC dI dA sp xs A ws)) (ze_Qc dC dI dA sp A k' ρ (ws.map (·.1))) cy sy A
theorem ze_room {yL d : Nat} (hd : d + 1 ≤ R.frames ∧ 70 * (d + 1) ≤ R.locals) (hL : yL ≤ 51) : (ze_rm d cy sy).frames + 1 ≤ R.frames ∧ 8 + (yL + 11) + (ze_rm d cy sy).locals ≤ R.locals := by
  show d + 1 ≤ R.frames ∧ 8 + (yL + 11) + 70 * d ≤ R.locals
  omega
theorem zs_invV {y ci : Nat} {T : u_T} {N : Nat} (hx : p.tables.exec = Jvm.exec) (hb : c.code = cc) (hml : c.maxLocals = nL) (hown : s.vm.findClass own = some m.cls) (hKs : ze_K dC dI dA s) (hsc : ze_X sp xs A s) (hA : ∀ q, s.heap.size ≤ q → A q) (hts : ∀ w ∈ zb_T, w.before args s = true) (hcf : ze_CF) (hR : R.cells = mc ∧ R.slots = ms) (hRd : d + 1 ≤ R.frames ∧ 70 * (d + 1) ≤ R.locals) (hcal : ze_Cal l dC dI dA sp xs A cal y d yn yb yL yr cy sy)
    (hci : vwCl[ci]? = some (yn.cls, T, N)) (hyL : yL ≤ 51) (hcode : Cond.code yn yb yL yr ∈ zb_T) (hins : Cond.instanceMethod yn ∈ zb_T) (hsel : Cond.selects yn.cls yn yn ∈ zb_T) (hini : Cond.initialized yn.cls ∈ zb_T) (hpar : yn.cls ≠ "java/lang/invoke/MethodHandle" ∧ yn.cls ≠ "java/lang/invoke/VarHandle" ∧ (parseMethodDescriptor yn.desc).map (fun d => d.parameters.length) = some nb)
    (hlk : Cond.methodLink own idx yn ∈ zb_T ∨ ∃ host, Cond.methodLinkNest own idx yn host ∈ ze_nest)
    (hdg : decode cc pc = .ok (.invokevirtual idx, 3)) (hK : ze_KK p l e R s m args below meth c Q z0 dC dI dA sp xs A nL V kk) (hn : ze_at V nx (pc + 3)) (h : zo_call y (nb + 1) (ci + 1) cy sy nx ca cb cd tl jp kk k cal mc ms ls st w g nc ns = true) (hH : ze_H z0 dC dI dA sp xs A s nL ls st w g ρ ws H locs la vs) : W p l e R s m args below meth c H locs nc ns Q (F0 m pc la vs) := by
  refine zs_call hKs hsc hA hcal hK hn h hH (fun avs vr k' e1 e2 e3 e4 e5 hrc hM hpre => ?_) (fun ci' hc => by cases hc; exact (hcf ci _ _ _ hci).1)
  obtain ⟨b, As, q, fs, e6, hq⟩ := hrc ci rfl
  subst e6
  have hlen : As.length = nb := by simpa using e2
  obtain ⟨lv, hl, -⟩ := hH.2.2.2.2.2.2.1
  have hst : vs = As.reverse ++ .ref b :: vr := by rw [e1]; simp
  have hrm := ze_room (cy := cy) (sy := sy) hRd hyL
  have hPv : PreV s H yn.cls b (va_Pc (.ref b :: As) (ze_Pc dC dI dA sp xs A ws)) As := ⟨ze_blind, va_recv hKs.k0 hH.2.2.2.1 hci hq, hpre⟩
  rcases hlk with hlk | ⟨host, hlk⟩
  · refine va_runV (As := As) (rest := vr) (C := yn.cls) ⟨hx, hb, hml, hown, hts⟩ hM (cwV nb hts (zg_in ?_) rfl rfl rfl ⟨rfl, hpar⟩ hrm) hPv rfl hlen hl.1 hst (lv_room e3) hdg ⟨by rw [hR.1]; exact e4, by rw [hR.2]; exact e5⟩
    intro w' hw'
    rcases List.mem_append.mp hw' with h9 | h9
    · simp only [List.mem_cons, List.not_mem_nil, or_false] at h9
      rcases h9 with rfl | rfl | rfl | rfl
      · exact hlk
      · exact hins
      · exact hsel
      · exact hini
    · exact zg_code hcode w' h9
  · exact va_runVN (As := As) (rest := vr) (C := yn.cls) ⟨hx, hb, hml, hown, hts⟩ hM ⟨va_cnB nb hts (zg_in (zg_code hcode)) rfl rfl rfl (hKs.2.2.1 _ hlk) (hts _ hini) hpar hrm, hts _ hins, hts _ hsel⟩ hPv rfl hlen hl.1 hst (lv_room e3) hdg ⟨by rw [hR.1]; exact e4, by rw [hR.2]; exact e5⟩
theorem zs_invS {y : Nat} (hx : p.tables.exec = Jvm.exec) (hb : c.code = cc) (hml : c.maxLocals = nL) (hown : s.vm.findClass own = some m.cls) (hKs : ze_K dC dI dA s) (hsc : ze_X sp xs A s) (hA : ∀ q, s.heap.size ≤ q → A q) (hts : ∀ w ∈ zb_T, w.before args s = true) (hR : R.cells = mc ∧ R.slots = ms) (hRd : d + 1 ≤ R.frames ∧ 70 * (d + 1) ≤ R.locals) (hcal : ze_Cal l dC dI dA sp xs A cal y d yn yb yL yr cy sy)
    (hyL : yL ≤ 51) (hcode : Cond.code yn yb yL yr ∈ zb_T) (hsta : Cond.static yn ∈ zb_T) (hini : Cond.initialized yn.cls ∈ zb_T) (hpar : yn.cls ≠ "java/lang/invoke/MethodHandle" ∧ yn.cls ≠ "java/lang/invoke/VarHandle" ∧ (parseMethodDescriptor yn.desc).map (fun d => d.parameters.length) = some nb)
    (hlk : Cond.methodLink own idx yn ∈ zb_T ∨ ∃ host, Cond.methodLinkNest own idx yn host ∈ ze_nest)
    (hdg : decode cc pc = .ok (.invokestatic idx, 3)) (hK : ze_KK p l e R s m args below meth c Q z0 dC dI dA sp xs A nL V kk) (hn : ze_at V nx (pc + 3)) (h : zo_call y nb 0 cy sy nx ca cb cd tl jp kk k cal mc ms ls st w g nc ns = true) (hH : ze_H z0 dC dI dA sp xs A s nL ls st w g ρ ws H locs la vs) : W p l e R s m args below meth c H locs nc ns Q (F0 m pc la vs) := by
  refine zs_call hKs hsc hA hcal hK hn h hH (fun avs vr k' e1 e2 e3 e4 e5 hrc hM hpre => ?_) (fun ci' hc => by cases hc)
  obtain ⟨lv, hl, -⟩ := hH.2.2.2.2.2.2.1
  have hrm := ze_room (cy := cy) (sy := sy) hRd hyL
  have hPs : PreS s H (va_Pc avs (ze_Pc dC dI dA sp xs A ws)) avs := ⟨ze_blind, hpre⟩
  rcases hlk with hlk | ⟨host, hlk⟩
  · exact va_runS (As := avs) (rest := vr) ⟨hx, hb, hml, hown, hts⟩ hM ⟨callB_of nb hts (zg_in (zg_code hcode)) rfl rfl rfl (hts _ hini) (hts _ hlk) hpar hrm, hts _ hsta⟩ hPs rfl e2 hl.1 e1 (lv_room e3) hdg ⟨by rw [hR.1]; exact e4, by rw [hR.2]; exact e5⟩
  · exact va_runSN (As := avs) (rest := vr) ⟨hx, hb, hml, hown, hts⟩ hM ⟨va_cnB nb hts (zg_in (zg_code hcode)) rfl rfl rfl (hKs.2.2.1 _ hlk) (hts _ hini) hpar hrm, hts _ hsta, trivial⟩ hPs rfl e2 hl.1 e1 (lv_room e3) hdg ⟨by rw [hR.1]; exact e4, by rw [hR.2]; exact e5⟩
theorem zs_invI {y : Nat} (hx : p.tables.exec = Jvm.exec) (hb : c.code = cc) (hml : c.maxLocals = nL) (hown : s.vm.findClass own = some m.cls) (hKs : ze_K dC dI dA s) (hsc : ze_X sp xs A s) (hA : ∀ q, s.heap.size ≤ q → A q) (hts : ∀ w ∈ zb_T, w.before args s = true) (hR : R.cells = mc ∧ R.slots = ms) (hRd : d + 1 ≤ R.frames ∧ 70 * (d + 1) ≤ R.locals) (hcal : ze_Cal l dC dI dA sp xs A cal y d yn yb yL none cy sy)
    (hyL : yL ≤ 51) (hcode : Cond.code yn yb yL none ∈ zb_T) (hins : Cond.instanceMethod yn ∈ zb_T) (hini : Cond.initialized yn.cls ∈ zb_T) (hnm : yn.name = "<init>") (hpar : yn.cls ≠ "java/lang/invoke/MethodHandle" ∧ yn.cls ≠ "java/lang/invoke/VarHandle" ∧ (parseMethodDescriptor yn.desc).map (fun d => d.parameters.length) = some nb)
    (hlk : Cond.methodLink own idx yn ∈ zb_T ∨ ∃ host, Cond.methodLinkNest own idx yn host ∈ ze_nest)
    (hdg : decode cc pc = .ok (.invokespecial idx, 3)) (hK : ze_KK p l e R s m args below meth c Q z0 dC dI dA sp xs A nL V kk) (hn : ze_at V nx (pc + 3)) (h : zo_call y (nb + 1) 0 cy sy nx ca cb cd tl jp kk k cal mc ms ls st w g nc ns = true) (hq0 : ∀ (pop rest : List EV), st = pop ++ rest → pop.length = nb + 1 → ∃ q, pop.reverse.head? = some (eR q)) (hH : ze_H z0 dC dI dA sp xs A s nL ls st w g ρ ws H locs la vs) : W p l e R s m args below meth c H locs nc ns Q (F0 m pc la vs) := by
  refine zs_call hKs hsc hA hcal hK hn h hH (fun avs vr k' e1 e2 e3 e4 e5 hrc hM hpre => ?_) (fun ci' hc => by cases hc)
  obtain ⟨lv, hl, -⟩ := hH.2.2.2.2.2.2.1
  have hrm := ze_room (cy := cy) (sy := sy) hRd hyL
  have hav : ∃ b As, avs = Value.ref b :: As := by
    have hV := hH.2.2.2.2.2.2.2
    obtain ⟨pop, rest, e7, e8⟩ : ∃ pop rest, st = pop ++ rest ∧ pop.length = nb + 1 := by
      refine ⟨st.take (nb + 1), st.drop (nb + 1), (List.take_append_drop _ _).symm, ?_⟩
      rw [List.length_take, hV.len, e1]
      simp
      omega
    obtain ⟨q, hq⟩ := hq0 pop rest e7 e8
    rw [e7] at hV
    obtain ⟨v1, v2, e9, M1, M2⟩ := hV.split
    have e10 : avs.reverse = v1 ∧ vr = v2 := by
      rw [e1] at e9
      exact List.append_inj e9 (by rw [List.length_reverse, ← M1.len, e2, e8])
    have M3 := M1.rev
    rw [← e10.1, List.reverse_reverse] at M3
    cases hp : pop.reverse with
    | nil => rw [hp] at hq; cases hq
    | cons a t =>
      rw [hp] at hq M3
      cases hq
      obtain ⟨y9, ys, e11, ⟨z, -, hz⟩, -⟩ := M3.cons
      exact ⟨z, ys, by rw [e11, hz]⟩
  obtain ⟨b, As, e6⟩ := hav
  subst e6
  have hlen : As.length = nb := by simpa using e2
  have hst : vs = As.reverse ++ .ref b :: vr := by rw [e1]; simp
  have hPs : PreS s H (va_Pc (.ref b :: As) (ze_Pc dC dI dA sp xs A ws)) (.ref b :: As) := ⟨ze_blind, hpre⟩
  rcases hlk with hlk | ⟨host, hlk⟩
  · exact va_runI (As := As) (rest := vr) ⟨hx, hb, hml, hown, hts⟩ hM ⟨callB_of nb hts (zg_in (zg_code hcode)) rfl rfl rfl (hts _ hini) (hts _ hlk) hpar hrm, hnm, hts _ hins⟩ hPs rfl hlen hl.1 hst (lv_room e3) hdg ⟨by rw [hR.1]; exact e4, by rw [hR.2]; exact e5⟩
  · exact va_runIN (As := As) (rest := vr) ⟨hx, hb, hml, hown, hts⟩ hM ⟨va_cnB nb hts (zg_in (zg_code hcode)) rfl rfl rfl (hKs.2.2.1 _ hlk) (hts _ hini) hpar hrm, hnm, hts _ hins⟩ hPs rfl hlen hl.1 hst (lv_room e3) hdg ⟨by rw [hR.1]; exact e4, by rw [hR.2]; exact e5⟩
theorem zs_objInit (hx : p.tables.exec = Jvm.exec) (hb : c.code = cc) (hml : c.maxLocals = nL) (hown : s.vm.findClass own = some m.cls) (hts : ∀ w ∈ zb_T, w.before args s = true) (hR : 1 ≤ R.frames ∧ 40 ≤ R.locals) (hw1 : Cond.methodLink own idx Lib.objectInit ∈ zb_T) (hw2 : Cond.instanceMethod Lib.objectInit ∈ zb_T) (hw3 : Cond.code Lib.objectInit ⟨#[0xb1]⟩ 1 none ∈ zb_T)
    (hdg : decode cc pc = .ok (.invokespecial idx, 3)) (hK : ze_KK p l e R s m args below meth c Q z0 dC dI dA sp xs A nL V kk) (hn : ze_at V nx (pc + 3)) (h : zl_ st (fun v rest => zv_r v (fun _ => zcd (Nat.ble (ze_cs rest) 8) (kk nx ls rest w g nc ns) false)) = true) (hH : ze_H z0 dC dI dA sp xs A s nL ls st w g ρ ws H locs la vs) : W p l e R s m args below meth c H locs nc ns Q (F0 m pc la vs) := by
  rcases st with _ | ⟨v, rest⟩
  · cases h
  · rcases v with (n | i) | ((q | (n | u)) | x)
    · cases h
    · cases h
    · obtain ⟨h1, h2⟩ := ze_condf (show zcd (Nat.ble (ze_cs rest) 8) (kk nx ls rest w g nc ns) false = true from h)
      obtain ⟨y1, r1, e1, ⟨a, ha, e2⟩, L1⟩ := hH.2.2.2.2.2.2.2.cons
      subst e1; subst e2
      obtain ⟨lv, hl, -⟩ := hH.2.2.2.2.2.2.1
      refine W.objInit hx hb hown (hts _ hw1) (hts _ hw2) (hts _ hw3) rfl (by rw [hml]; exact hl.1) rfl hdg hR.1 ?_ (W.eq (g2 := F0 m (pc + 3) la r1) rfl (hK _ _ _ _ _ _ _ h2 _ hn _ _ _ _ _ _ (hH.stk L1)))
      have := lv_room (m := m) (pc := pc) (ls := la) (rest := .ref a :: r1) (st := r1) (by rw [ze_cs_sum L1]; exact ze_ble' h1)
      omega
    · cases h
    · cases h
    · cases h
end ZI
/-! the texts that are constants: their methods -/
noncomputable def zt_y (m : Nat) : MethodName := match m with
  | 0 => yJ0_length_8abf5
  | 1 => yJ0_isEmpty_aae02
  | 2 => yJ0_charAt_5068e
  | _ => yJ0_indexOf_0f7a4
noncomputable def zt_cd (m : Nat) : ByteArray := match m with
  | 0 => cJ0_length_8abf5
  | 1 => cJ0_isEmpty_aae02
  | 2 => cJ0_charAt_5068e
  | _ => cJ0_indexOf_0f7a4
noncomputable def zt_ml (m : Nat) : Nat := match m with
  | 0 => 1
  | 1 => 1
  | _ => 2
noncomputable def zt_rt (m : Nat) : Option FieldType := match m with
  | 0 => some .int
  | 1 => some .boolean
  | 2 => some .char
  | _ => some .int
noncomputable def zt_P (t : Nat) (r : Int32) : Prop := r = -1 ∨ ∃ j, j < zt_l.getD t 0 ∧ r = nI j
noncomputable def zt_M : Prop := ∀ (l : Launch) (sp : Nat → Nat) (A : Nat → Prop) (d t : Nat), t < 11 →
  Met l yJ0_length_8abf5 (.code yJ0_length_8abf5 cJ0_length_8abf5 1 (some .int) :: zb_T) (ze_rm (d + 1) 0 0) (va_Pc [.ref (zt_K sp t)] (zt_Pc sp A)) (va_Qi (fun r (_ : Unit) => r = nI (zt_l.getD t 0)) (fun _ _ => True) zw_no) 0 0 zw_no ∧
  Met l yJ0_isEmpty_aae02 (.code yJ0_isEmpty_aae02 cJ0_isEmpty_aae02 1 (some .boolean) :: zb_T) (ze_rm d 0 0) (va_Pc [.ref (zt_K sp t)] (zt_Pc sp A)) (va_Qi (fun r (_ : Unit) => r = nI (zcd (Nat.beq (zt_l.getD t 0) 0) 1 0)) (fun _ _ => True) zw_no) 0 0 zw_no ∧
  (∀ k, k < zt_l.getD t 0 → Met l yJ0_charAt_5068e (.code yJ0_charAt_5068e cJ0_charAt_5068e 2 (some .char) :: zb_T) (ze_rm (d + 3) 0 0) (va_Pc [.ref (zt_K sp t), .int (nI k)] (zt_Pc sp A)) (va_Qi (fun r (_ : Unit) => r = nI (zt_c t k)) (fun _ _ => True) zw_no) 0 0 zw_no) ∧
  (∀ i : Int32, Met l yJ0_indexOf_0f7a4 (.code yJ0_indexOf_0f7a4 cJ0_indexOf_0f7a4 2 (some .int) :: zb_T) (ze_rm (d + 3) 0 0) (va_Pc [.ref (zt_K sp t), .int i] (zt_Pc sp A)) (va_Qi (fun r (_ : Unit) => zt_P t r) (fun _ _ => True) zw_no) 0 0 zw_no)
theorem zt_nn : zt_n.length = 11 ∧ ∀ t, t < 11 → zt_l.getD t 0 = (zt_n.getD t []).length ∧ ∀ k, k < (zt_n.getD t []).length → zt_c t k = (zt_n.getD t []).getD k 0 := by decide +kernel
theorem zo_sx_spec {v : EV} {f : Nat → List Nat → Bool} (h : zo_sx v f = true) : ∃ t cs, t < 11 ∧ v = eX (12 + 2 * t) ∧ zt_n[t]? = some cs ∧ zt_l.getD t 0 = cs.length ∧ (∀ k ch, cs[k]? = some ch → zt_c t k = ch) ∧ f t cs = true := by
  rcases v with a | ((a | a) | s)
  · cases h
  · cases h
  · cases h
  · obtain ⟨h1, h⟩ := ze_condf (show zcd (Nat.ble 12 s) (zcd (Nat.beq (Nat.mod s 2) 0) (ze_n zt_n (Nat.div (Nat.sub s 12) 2) (fun cs => f (Nat.div (Nat.sub s 12) 2) cs)) false) false = true from h)
    obtain ⟨h2, h⟩ := ze_condf h
    have h1 := ze_ble' h1
    have h2 : s % 2 = 0 := ze_beq h2
    obtain ⟨cs, h3, h4⟩ := ze_n_spec _ _ _ h
    have h3 : zt_n[(s - 12) / 2]? = some cs := h3
    have ht : (s - 12) / 2 < 11 := by
      have h9 := (List.getElem?_eq_some_iff.mp h3).1
      rw [zt_nn.1] at h9
      exact h9
    have e9 : zt_n.getD ((s - 12) / 2) [] = cs := by rw [List.getD_eq_getElem?_getD, h3]; rfl
    obtain ⟨k1, k2⟩ := zt_nn.2 _ ht
    rw [e9] at k1 k2
    refine ⟨(s - 12) / 2, cs, ht, ?_, h3, k1, fun k ch hk => ?_, h4⟩
    · congr 1
      congr 1
      omega
    · rw [k2 k (List.getElem?_eq_some_iff.mp hk).1, List.getD_eq_getElem?_getD, hk]
      rfl
theorem zt_ref {sp : Nat → Nat} {ρ : List Int32} {ad : List Nat} {t : Nat} {x : Value} (h : ze_V sp ρ ad (eX (12 + 2 * t)) x) : x = .ref (zt_K sp t) := by
  rw [show 12 + 2 * t = (10 + 2 * t) + 2 by omega] at h
  exact h
theorem zo_rm_ok {rest : List EV} {nc mc ns ms : Nat} {x : Bool} (h : zo_rm rest nc mc ns ms x = true) : ze_cs rest ≤ 8 ∧ nc ≤ mc ∧ ns ≤ ms ∧ x = true := by
  obtain ⟨h1, h⟩ := ze_condf h
  obtain ⟨h2, h⟩ := ze_condf h
  obtain ⟨h3, h⟩ := ze_condf h
  exact ⟨ze_ble' h1, ze_ble' h2, ze_ble' h3, h⟩
section ZSC
variable {p : Program} {l : Launch} {e : Env} {R : Room} {s : State} {m : MethodId} {args : Array Value} {below : List Frame} {meth : Method} {c : Code} {Q : State → Prop}
variable {z0 : List Int32 × List Nat} {dC : Nat → ClassId} {dI : Nat → Nat → Nat} {dA : Nat → ClassId} {sp : Nat → Nat} {xs : ZXs} {A : Nat → Prop} {nL : Nat} {V : List ECE → Prop}
variable {kk : EKn} {k : ERt} {cal : ECal} {mc ms pc pc2 ca cb cd nc ns : Nat} {nx : List ECE} {jp : EJp} {tl : List Nat} {ls st : List EV} {w : EW} {g : EG} {ρ : List Int32} {ws : va_W} {H : Heap} {locs : List Loc} {la : Array Slot} {vs : List Value}
variable {cc : ByteArray} {own : String} {idx : Nat}
theorem zt_blind0 {avs : List Value} : FrameBlind (va_Pc avs (zt_Pc sp A)) := fun a U g mk q => ⟨q.1, q.2.calls⟩
theorem zs_scall {yn : MethodName} {yb : ByteArray} {yL nb d t : Nat} {yr : Option FieldType} (ht : t < 11) {As vr : List Value} {post : Int32 → Prop} (hM : Met l yn (.code yn yb yL yr :: zb_T) (ze_rm d 0 0) (va_Pc (.ref (zt_K sp t) :: As) (zt_Pc sp A)) (va_Qi (fun r (_ : Unit) => post r) (fun _ _ => True) zw_no) 0 0 zw_no) (hyL : yL ≤ 51) (hcls : yn.cls = "java/lang/String")
    (hlk : Cond.methodLink own idx yn ∈ zb_T) (hins : Cond.instanceMethod yn ∈ zb_T) (hsel : Cond.selects "java/lang/String" yn yn ∈ zb_T) (hini : Cond.initialized "java/lang/String" ∈ zb_T) (hcode : Cond.code yn yb yL yr ∈ zb_T) (hpar : yn.cls ≠ "java/lang/invoke/MethodHandle" ∧ yn.cls ≠ "java/lang/invoke/VarHandle" ∧ (parseMethodDescriptor yn.desc).map (fun d => d.parameters.length) = some nb) (hAs : As.length = nb)
    (hx : p.tables.exec = Jvm.exec) (hb : c.code = cc) (hml : c.maxLocals = nL) (hown : s.vm.findClass own = some m.cls) (hsc : ze_X sp xs A s) (hts : ∀ w ∈ zb_T, w.before args s = true) (hRR : R.cells = mc ∧ R.slots = ms) (hRd : d + 1 ≤ R.frames ∧ 70 * (d + 1) ≤ R.locals) (hsum : (vr.map fun v => v.category).sum ≤ 8) (hc1 : nc ≤ mc) (hc2 : ns ≤ ms) (hvs : vs = As.reverse ++ .ref (zt_K sp t) :: vr)
    (hdg : decode cc pc = .ok (.invokevirtual idx, 3)) (hH : ze_H z0 dC dI dA sp xs A s nL ls st w g ρ ws H locs la vs)
    (k9 : ∀ (r : Int32) (H1 : Heap) (locs1 : List Loc), post r → va_P (dC, dI) vwCl ws H1 → va_S A s.heap H1 locs1 → W p l e R s m args below meth c H1 locs1 nc ns Q (F0 m (pc + 3) la (.int r :: vr))) : W p l e R s m args below meth c H locs nc ns Q (F0 m pc la vs) := by
  have hS := hsc.2.2.2.2.2
  have hSS := hH.2.2.2.2.2.1
  obtain ⟨lv, hl, -⟩ := hH.2.2.2.2.2.2.1
  have hrm := ze_room (cy := 0) (sy := 0) hRd hyL
  have hPv : PreV s H "java/lang/String" (zt_K sp t) (va_Pc (.ref (zt_K sp t) :: As) (zt_Pc sp A)) As := ⟨zt_blind0, vk_recv (i := t) hS.1.1 ht hSS, fun U hU hWm => ⟨rfl, hS.1.at (locs := locs) (by rw [hU]; exact hSS) hWm⟩⟩
  have hrun := va_runV (e := e) (below := below) (H := H) (locs := locs) (cells := nc) (slots := ns) (meth := meth) (As := As) (rest := vr) (C := "java/lang/String") (g := F0 m pc la vs) ⟨hx, hb, hml, hown, hts⟩ hM (cwV nb hts (zg_in ?_) rfl rfl rfl ⟨hcls, hpar⟩ hrm) hPv rfl hAs hl.1 hvs (lv_room hsum) hdg ⟨by rw [hRR.1]; exact hc1, by rw [hRR.2]; exact hc2⟩
  · refine va_calli hrun hSS (fun q _ hq => hq.elim) (fun q hq => hq.elim) ?_
    intro r u t9 H1 locs1 ht9 hal hr _ hsz hkeep hS1
    exact k9 r H1 locs1 hr (hH.2.2.2.1.kept (fun k q9 hk => hkeep _ (hH.2.2.2.1 _ _ hk).lt (fun z => z))) hS1
  · intro w' hw'
    rcases List.mem_append.mp hw' with h9 | h9
    · simp only [List.mem_cons, List.not_mem_nil, or_false] at h9
      rcases h9 with rfl | rfl | rfl | rfl
      · exact hlk
      · exact hins
      · exact hsel
      · exact hini
    · exact zg_code hcode w' h9
theorem zs_str {d n9 : Nat} (hlk : ca < 4 ∧ Cond.methodLink own idx (zt_y ca) ∈ zb_T) (hw : ∀ m, m < 4 → Cond.instanceMethod (zt_y m) ∈ zb_T ∧ Cond.selects "java/lang/String" (zt_y m) (zt_y m) ∈ zb_T ∧ Cond.code (zt_y m) (zt_cd m) (zt_ml m) (zt_rt m) ∈ zb_T) (hini : Cond.initialized "java/lang/String" ∈ zb_T) (hM : zt_M)
    (hx : p.tables.exec = Jvm.exec) (hb : c.code = cc) (hml : c.maxLocals = nL) (hown : s.vm.findClass own = some m.cls) (hsc : ze_X sp xs A s) (hts : ∀ w ∈ zb_T, w.before args s = true) (hRR : R.cells = mc ∧ R.slots = ms) (hRd : 3 ≤ d ∧ d + 1 ≤ R.frames ∧ 70 * (d + 1) ≤ R.locals)
    (hdg : decode cc pc = .ok (.invokevirtual idx, 3)) (hK : ze_KK p l e R s m args below meth c Q z0 dC dI dA sp xs A nL V kk) (hn : ze_at V nx (pc + 3)) (h : zo_str ca nx ca cb cd tl jp kk k cal mc ms ls st w g nc ns = true) (hH : ze_H z0 dC dI dA sp xs A s nL ls st w g ρ ws H locs la vs) : W p l e R s m args below meth c H locs nc ns Q (F0 m pc la vs) := by
  obtain ⟨d0, rfl⟩ : ∃ d0, d = d0 + 3 := ⟨d - 3, by omega⟩
  obtain ⟨hlt, hlk⟩ := hlk
  have hww := hw ca hlt
  match ca, hlt, hlk, hww, h with
  | 0, _, hlk, hww, h =>
    rcases st with _ | ⟨v, rest⟩
    · cases h
    obtain ⟨r1, r2, r3, h⟩ := zo_rm_ok (show zo_rm rest nc mc ns ms (zo_sx v (fun _ cs => kk nx ls (eC cs.length :: rest) w g nc ns)) = true from h)
    obtain ⟨t, cs, ht, ev, -, hlen, -, h9⟩ := zo_sx_spec h
    subst ev
    obtain ⟨y1, vr, e1, V1, L1⟩ := hH.2.2.2.2.2.2.2.cons
    have e2 := zt_ref V1
    subst e2
    refine zs_scall (nb := 0) (As := []) (vr := vr) ht (hM l sp A (d0 + 2) t ht).1 (by decide) rfl hlk hww.1 hww.2.1 hini hww.2.2 ⟨by decide, by decide, by decide +kernel⟩ rfl hx hb hml hown hsc hts hRR hRd.2 (by rw [ze_cs_sum L1]; exact r1) r2 r3 e1 hdg hH (fun r H1 locs1 hr hP1 hS1 => ?_)
    subst hr
    rw [hlen]
    exact hK _ _ _ _ _ _ _ h9 _ hn _ _ _ _ _ _ ⟨hH.1, hH.2.1, hH.2.2.1, hP1, hH.2.2.2.2.1, hS1, hH.2.2.2.2.2.2.1, ⟨rfl, L1⟩⟩
  | 1, _, hlk, hww, h =>
    rcases st with _ | ⟨v, rest⟩
    · cases h
    obtain ⟨r1, r2, r3, h⟩ := zo_rm_ok (show zo_rm rest nc mc ns ms (zo_sx v (fun _ cs => kk nx ls (eC (zcd (Nat.beq cs.length 0) 1 0) :: rest) w g nc ns)) = true from h)
    obtain ⟨t, cs, ht, ev, -, hlen, -, h9⟩ := zo_sx_spec h
    subst ev
    obtain ⟨y1, vr, e1, V1, L1⟩ := hH.2.2.2.2.2.2.2.cons
    have e2 := zt_ref V1
    subst e2
    refine zs_scall (nb := 0) (As := []) (vr := vr) ht (hM l sp A (d0 + 3) t ht).2.1 (by decide) rfl hlk hww.1 hww.2.1 hini hww.2.2 ⟨by decide, by decide, by decide +kernel⟩ rfl hx hb hml hown hsc hts hRR hRd.2 (by rw [ze_cs_sum L1]; exact r1) r2 r3 e1 hdg hH (fun r H1 locs1 hr hP1 hS1 => ?_)
    subst hr
    rw [hlen]
    exact hK _ _ _ _ _ _ _ h9 _ hn _ _ _ _ _ _ ⟨hH.1, hH.2.1, hH.2.2.1, hP1, hH.2.2.2.2.1, hS1, hH.2.2.2.2.2.2.1, ⟨rfl, L1⟩⟩
  | 2, _, hlk, hww, h =>
    rcases st with _ | ⟨i, _ | ⟨v, rest⟩⟩
    · cases h
    · cases h
    obtain ⟨r1, r2, r3, h⟩ := zo_rm_ok (show zo_rm rest nc mc ns ms (ze_ix g i (fun n g => zo_sx v (fun _ cs => ze_n cs n (fun ch => kk nx ls (eC ch :: rest) w g nc ns)))) = true from h)
    obtain ⟨y1, q1, e1, V1, L1⟩ := hH.2.2.2.2.2.2.2.cons
    obtain ⟨y2, vr, e2, V2, L2⟩ := L1.cons
    obtain ⟨n, g', en, hG', h⟩ := ze_ix_spec h hH.1 V1
    obtain ⟨t, cs, ht, ev, -, hlen, hch, h8⟩ := zo_sx_spec h
    obtain ⟨ch, hc, h9⟩ := ze_n_spec _ _ _ h8
    subst ev
    have e3 := zt_ref V2
    subst e3; subst en
    have hlt9 : n < zt_l.getD t 0 := by rw [hlen]; exact (List.getElem?_eq_some_iff.mp hc).1
    refine zs_scall (nb := 1) (As := [.int (nI n)]) (vr := vr) ht ((hM l sp A d0 t ht).2.2.1 n hlt9) (by decide) rfl hlk hww.1 hww.2.1 hini hww.2.2 ⟨by decide, by decide, by decide +kernel⟩ rfl hx hb hml hown hsc hts hRR hRd.2 (by rw [ze_cs_sum L2]; exact r1) r2 r3 (by rw [e1, e2]; rfl) hdg hH (fun r H1 locs1 hr hP1 hS1 => ?_)
    subst hr
    rw [hch n ch hc]
    exact hK _ _ _ _ _ _ _ h9 _ hn _ _ _ _ _ _ ⟨hG', hH.2.1, hH.2.2.1, hP1, hH.2.2.2.2.1, hS1, hH.2.2.2.2.2.2.1, ⟨rfl, L2⟩⟩
  | 3, _, hlk, hww, h =>
    rcases st with _ | ⟨i, _ | ⟨v, rest⟩⟩
    · cases h
    · cases h
    obtain ⟨r1, r2, r3, h⟩ := zo_rm_ok (show zo_rm rest nc mc ns ms (zv_i i (fun _ => zo_sx v (fun _ cs => zo_fr 2147483647 (Nat.add 2147483647 cs.length) nx kk ls rest w g nc ns))) = true from h)
    obtain ⟨y1, q1, e1, V1, L1⟩ := hH.2.2.2.2.2.2.2.cons
    obtain ⟨y2, vr, e2, V2, L2⟩ := L1.cons
    rcases i with u | ((u | u) | u)
    · obtain ⟨x, ex⟩ := ze_intV V1
      subst ex
      obtain ⟨t, cs, ht, ev, -, hlen, hch, h9⟩ := zo_sx_spec (show zo_sx v (fun _ cs => zo_fr 2147483647 (Nat.add 2147483647 cs.length) nx kk ls rest w g nc ns) = true from h)
      subst ev
      have e3 := zt_ref V2
      subst e3
      refine zs_scall (nb := 1) (As := [.int x]) (vr := vr) ht ((hM l sp A d0 t ht).2.2.2 x) (by decide) rfl hlk hww.1 hww.2.1 hini hww.2.2 ⟨by decide, by decide, by decide +kernel⟩ rfl hx hb hml hown hsc hts hRR hRd.2 (by rw [ze_cs_sum L2]; exact r1) r2 r3 (by rw [e1, e2]; rfl) hdg hH (fun r H1 locs1 hr hP1 hS1 => ?_)
      have hb9 : 2147483647 ≤ ze_b r ∧ ze_b r ≤ 2147483647 + cs.length := by
        rcases hr with rfl | ⟨j, hj, rfl⟩
        · have h0 : ze_b (-1) = 2147483647 := by decide +kernel
          rw [h0]
          exact ⟨Nat.le_refl _, Nat.le_add_right _ _⟩
        · have hz := zt_len t ht
          rw [ze_b_nI]
          omega
      exact zs_fr hK h9 ⟨hH.1, hH.2.1, hH.2.2.1, hP1, hH.2.2.2.2.1, hS1, hH.2.2.2.2.2.2.1, L2⟩ hb9.1 hb9.2 hn
    · cases h
    · cases h
    · cases h
end ZSC
