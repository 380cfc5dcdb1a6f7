/-! THE ENGINE, part 8: the kinds of calls -/
theorem zg_in {ws : List Cond} (h : ∀ w ∈ ws, w ∈ zb_T) : GoodIn zb_T ws := fun w hw => ⟨h w hw, good_of_word (zb_good w (h w hw)).2⟩
theorem zg_code {w0 : Cond} (h : w0 ∈ zb_T) : ∀ w ∈ w0 :: zb_T, w ∈ zb_T := fun w hw => (List.mem_cons.mp hw).elim (fun e => e ▸ h) (fun q => q)
/-- what the engine's rows say of a callee -/
def ze_rm (d cy sy : Nat) : Room := { frames := d, cells := cy, slots := sy, locals := 70 * d }
section ZI
variable {p : Program} {l : Launch} {e : Env} {R : Room} {s : State} {m : MethodId} {args : Array Value} {below : List Frame} {meth : Method} {c : Code} {Q : State → Prop}
variable {z0 : List Int32 × List Nat} {dC : Nat → ClassId} {dI : Nat → Nat → Nat} {dA : Nat → ClassId} {sp : Nat → Nat} {xs : Nat → Int32} {A : Nat → Prop} {nL : Nat} {V : List ECE → Prop}
variable {kk : EKn} {k : ERt} {cal : ECal} {mc ms pc pc2 ca cb cd nc ns : Nat} {nx : List ECE} {jp : EJp} {tl : List Nat} {ls st : List EV} {w : EW} {g : EG} {ρ : List Int32} {ws : va_W} {H : Heap} {locs : List Loc} {la : Array Slot} {vs : List Value}
variable {cc : ByteArray} {own : String} {idx : Nat}
variable {yn : MethodName} {yb : ByteArray} {yL cy sy d nb : Nat} {yr : Option FieldType}
/-- the callee's contract, as the engine gives it -/
def ze_Cal (l : Launch) (dC : Nat → ClassId) (dI : Nat → Nat → Nat) (dA : Nat → ClassId) (sp : Nat → Nat) (xs : Nat → Int32) (A : Nat → Prop) (cal : ECal) (y d : Nat) (yn : MethodName) (yb : ByteArray) (yL : Nat) (yr : Option FieldType) (cy sy : Nat) : Prop :=
  ∀ (av : List EV) (w : EW) (g : EG) (k' : ERt), cal y av w g k' = true → ∀ (ρ : List Int32) (ws : va_W) (avs : List Value), ze_G g ρ → (∀ j, j < 10 → ρ[j]? = some (xs j)) → ze_W dA sp ρ w ws → ze_L sp ρ (ws.map (·.1)) av avs → Met l yn (.code yn yb yL yr :: zb_T) (ze_rm d cy sy) (va_Pc avs (ze_Pc dC dI dA sp xs A ws)) (ze_Qc dC dI dA sp A k' ρ (ws.map (·.1))) cy sy A
theorem ze_room {yL d : Nat} (hd : d + 1 ≤ R.frames ∧ 70 * (d + 1) ≤ R.locals) (hL : yL ≤ 51) : (ze_rm d cy sy).frames + 1 ≤ R.frames ∧ 8 + (yL + 11) + (ze_rm d cy sy).locals ≤ R.locals := by
  show d + 1 ≤ R.frames ∧ 8 + (yL + 11) + 70 * d ≤ R.locals
  omega
theorem zs_invV {y ci : Nat} {T : u_T} {N : Nat} (hx : p.tables.exec = Jvm.exec) (hb : c.code = cc) (hml : c.maxLocals = nL) (hown : s.vm.findClass own = some m.cls) (hKs : ze_K dC dI dA s) (hsc : ze_X sp xs A s) (hA : ∀ q, s.heap.size ≤ q → A q) (hts : ∀ w ∈ zb_T, w.before args s = true) (hcf : ze_CF) (hR : R.cells = mc ∧ R.slots = ms) (hRd : d + 1 ≤ R.frames ∧ 70 * (d + 1) ≤ R.locals) (hcal : ze_Cal l dC dI dA sp xs A cal y d yn yb yL yr cy sy)
    (hci : vwCl[ci]? = some (yn.cls, T, N)) (hyL : yL ≤ 51) (hcode : Cond.code yn yb yL yr ∈ zb_T) (hins : Cond.instanceMethod yn ∈ zb_T) (hsel : Cond.selects yn.cls yn yn ∈ zb_T) (hini : Cond.initialized yn.cls ∈ zb_T) (hpar : yn.cls ≠ "java/lang/invoke/MethodHandle" ∧ yn.cls ≠ "java/lang/invoke/VarHandle" ∧ (parseMethodDescriptor yn.desc).map (fun d => d.parameters.length) = some nb)
    (hlk : Cond.methodLink own idx yn ∈ zb_T ∨ ∃ host, Cond.methodLinkNest own idx yn host ∈ ze_nest)
    (hdg : decode cc pc = .ok (.invokevirtual idx, 3)) (hK : ze_KK p l e R s m args below meth c Q z0 dC dI dA sp xs A nL V kk) (hn : ze_at V nx (pc + 3)) (h : zo_call y (nb + 1) (ci + 1) cy sy nx ca cb cd tl jp kk k cal mc ms ls st w g nc ns = true) (hH : ze_H z0 dC dI dA sp xs A s nL ls st w g ρ ws H locs la vs) : W p l e R s m args below meth c H locs nc ns Q (F0 m pc la vs) := by
  refine zs_call hKs hsc hA hcal hK hn h hH (fun avs vr k' e1 e2 e3 e4 e5 hrc hM hpre => ?_) (fun ci' hc => by cases hc; exact (hcf ci _ _ _ hci).1)
  obtain ⟨b, As, q, fs, e6, hq⟩ := hrc ci rfl
  subst e6
  have hlen : As.length = nb := by simpa using e2
  obtain ⟨lv, hl, -⟩ := hH.2.2.2.2.2.2.1
  have hst : vs = As.reverse ++ .ref b :: vr := by rw [e1]; simp
  have hrm := ze_room (cy := cy) (sy := sy) hRd hyL
  have hPv : PreV s H yn.cls b (va_Pc (.ref b :: As) (ze_Pc dC dI dA sp xs A ws)) As := ⟨ze_blind, va_recv hKs.k0 hH.2.2.2.1 hci hq, hpre⟩
  rcases hlk with hlk | ⟨host, hlk⟩
  · refine va_runV (As := As) (rest := vr) (C := yn.cls) ⟨hx, hb, hml, hown, hts⟩ hM (cwV nb hts (zg_in ?_) rfl rfl rfl ⟨rfl, hpar⟩ hrm) hPv rfl hlen hl.1 hst (lv_room e3) hdg ⟨by rw [hR.1]; exact e4, by rw [hR.2]; exact e5⟩
    intro w' hw'
    rcases List.mem_append.mp hw' with h9 | h9
    · simp only [List.mem_cons, List.not_mem_nil, or_false] at h9
      rcases h9 with rfl | rfl | rfl | rfl
      · exact hlk
      · exact hins
      · exact hsel
      · exact hini
    · exact zg_code hcode w' h9
  · exact va_runVN (As := As) (rest := vr) (C := yn.cls) ⟨hx, hb, hml, hown, hts⟩ hM ⟨va_cnB nb hts (zg_in (zg_code hcode)) rfl rfl rfl (hKs.2.2.1 _ hlk) (hts _ hini) hpar hrm, hts _ hins, hts _ hsel⟩ hPv rfl hlen hl.1 hst (lv_room e3) hdg ⟨by rw [hR.1]; exact e4, by rw [hR.2]; exact e5⟩
theorem zs_invS {y : Nat} (hx : p.tables.exec = Jvm.exec) (hb : c.code = cc) (hml : c.maxLocals = nL) (hown : s.vm.findClass own = some m.cls) (hKs : ze_K dC dI dA s) (hsc : ze_X sp xs A s) (hA : ∀ q, s.heap.size ≤ q → A q) (hts : ∀ w ∈ zb_T, w.before args s = true) (hR : R.cells = mc ∧ R.slots = ms) (hRd : d + 1 ≤ R.frames ∧ 70 * (d + 1) ≤ R.locals) (hcal : ze_Cal l dC dI dA sp xs A cal y d yn yb yL yr cy sy)
    (hyL : yL ≤ 51) (hcode : Cond.code yn yb yL yr ∈ zb_T) (hsta : Cond.static yn ∈ zb_T) (hini : Cond.initialized yn.cls ∈ zb_T) (hpar : yn.cls ≠ "java/lang/invoke/MethodHandle" ∧ yn.cls ≠ "java/lang/invoke/VarHandle" ∧ (parseMethodDescriptor yn.desc).map (fun d => d.parameters.length) = some nb)
    (hlk : Cond.methodLink own idx yn ∈ zb_T ∨ ∃ host, Cond.methodLinkNest own idx yn host ∈ ze_nest)
    (hdg : decode cc pc = .ok (.invokestatic idx, 3)) (hK : ze_KK p l e R s m args below meth c Q z0 dC dI dA sp xs A nL V kk) (hn : ze_at V nx (pc + 3)) (h : zo_call y nb 0 cy sy nx ca cb cd tl jp kk k cal mc ms ls st w g nc ns = true) (hH : ze_H z0 dC dI dA sp xs A s nL ls st w g ρ ws H locs la vs) : W p l e R s m args below meth c H locs nc ns Q (F0 m pc la vs) := by
  refine zs_call hKs hsc hA hcal hK hn h hH (fun avs vr k' e1 e2 e3 e4 e5 hrc hM hpre => ?_) (fun ci' hc => by cases hc)
  obtain ⟨lv, hl, -⟩ := hH.2.2.2.2.2.2.1
  have hrm := ze_room (cy := cy) (sy := sy) hRd hyL
  have hPs : PreS s H (va_Pc avs (ze_Pc dC dI dA sp xs A ws)) avs := ⟨ze_blind, hpre⟩
  rcases hlk with hlk | ⟨host, hlk⟩
  · exact va_runS (As := avs) (rest := vr) ⟨hx, hb, hml, hown, hts⟩ hM ⟨callB_of nb hts (zg_in (zg_code hcode)) rfl rfl rfl (hts _ hini) (hts _ hlk) hpar hrm, hts _ hsta⟩ hPs rfl e2 hl.1 e1 (lv_room e3) hdg ⟨by rw [hR.1]; exact e4, by rw [hR.2]; exact e5⟩
  · exact va_runSN (As := avs) (rest := vr) ⟨hx, hb, hml, hown, hts⟩ hM ⟨va_cnB nb hts (zg_in (zg_code hcode)) rfl rfl rfl (hKs.2.2.1 _ hlk) (hts _ hini) hpar hrm, hts _ hsta, trivial⟩ hPs rfl e2 hl.1 e1 (lv_room e3) hdg ⟨by rw [hR.1]; exact e4, by rw [hR.2]; exact e5⟩
theorem zs_invI {y : Nat} (hx : p.tables.exec = Jvm.exec) (hb : c.code = cc) (hml : c.maxLocals = nL) (hown : s.vm.findClass own = some m.cls) (hKs : ze_K dC dI dA s) (hsc : ze_X sp xs A s) (hA : ∀ q, s.heap.size ≤ q → A q) (hts : ∀ w ∈ zb_T, w.before args s = true) (hR : R.cells = mc ∧ R.slots = ms) (hRd : d + 1 ≤ R.frames ∧ 70 * (d + 1) ≤ R.locals) (hcal : ze_Cal l dC dI dA sp xs A cal y d yn yb yL none cy sy)
    (hyL : yL ≤ 51) (hcode : Cond.code yn yb yL none ∈ zb_T) (hins : Cond.instanceMethod yn ∈ zb_T) (hini : Cond.initialized yn.cls ∈ zb_T) (hnm : yn.name = "<init>") (hpar : yn.cls ≠ "java/lang/invoke/MethodHandle" ∧ yn.cls ≠ "java/lang/invoke/VarHandle" ∧ (parseMethodDescriptor yn.desc).map (fun d => d.parameters.length) = some nb)
    (hlk : Cond.methodLink own idx yn ∈ zb_T ∨ ∃ host, Cond.methodLinkNest own idx yn host ∈ ze_nest)
    (hdg : decode cc pc = .ok (.invokespecial idx, 3)) (hK : ze_KK p l e R s m args below meth c Q z0 dC dI dA sp xs A nL V kk) (hn : ze_at V nx (pc + 3)) (h : zo_call y (nb + 1) 0 cy sy nx ca cb cd tl jp kk k cal mc ms ls st w g nc ns = true) (hq0 : ∀ (pop rest : List EV), st = pop ++ rest → pop.length = nb + 1 → ∃ q, pop.reverse.head? = some (eR q)) (hH : ze_H z0 dC dI dA sp xs A s nL ls st w g ρ ws H locs la vs) : W p l e R s m args below meth c H locs nc ns Q (F0 m pc la vs) := by
  refine zs_call hKs hsc hA hcal hK hn h hH (fun avs vr k' e1 e2 e3 e4 e5 hrc hM hpre => ?_) (fun ci' hc => by cases hc)
  obtain ⟨lv, hl, -⟩ := hH.2.2.2.2.2.2.1
  have hrm := ze_room (cy := cy) (sy := sy) hRd hyL
  have hav : ∃ b As, avs = Value.ref b :: As := by
    have hV := hH.2.2.2.2.2.2.2
    obtain ⟨pop, rest, e7, e8⟩ : ∃ pop rest, st = pop ++ rest ∧ pop.length = nb + 1 := by
      refine ⟨st.take (nb + 1), st.drop (nb + 1), (List.take_append_drop _ _).symm, ?_⟩
      rw [List.length_take, hV.len, e1]
      simp
      omega
    obtain ⟨q, hq⟩ := hq0 pop rest e7 e8
    rw [e7] at hV
    obtain ⟨v1, v2, e9, M1, M2⟩ := hV.split
    have e10 : avs.reverse = v1 ∧ vr = v2 := by
      rw [e1] at e9
      exact List.append_inj e9 (by rw [List.length_reverse, ← M1.len, e2, e8])
    have M3 := M1.rev
    rw [← e10.1, List.reverse_reverse] at M3
    cases hp : pop.reverse with
    | nil => rw [hp] at hq; cases hq
    | cons a t =>
      rw [hp] at hq M3
      cases hq
      obtain ⟨y9, ys, e11, ⟨z, -, hz⟩, -⟩ := M3.cons
      exact ⟨z, ys, by rw [e11, hz]⟩
  obtain ⟨b, As, e6⟩ := hav
  subst e6
  have hlen : As.length = nb := by simpa using e2
  have hst : vs = As.reverse ++ .ref b :: vr := by rw [e1]; simp
  have hPs : PreS s H (va_Pc (.ref b :: As) (ze_Pc dC dI dA sp xs A ws)) (.ref b :: As) := ⟨ze_blind, hpre⟩
  rcases hlk with hlk | ⟨host, hlk⟩
  · exact va_runI (As := As) (rest := vr) ⟨hx, hb, hml, hown, hts⟩ hM ⟨callB_of nb hts (zg_in (zg_code hcode)) rfl rfl rfl (hts _ hini) (hts _ hlk) hpar hrm, hnm, hts _ hins⟩ hPs rfl hlen hl.1 hst (lv_room e3) hdg ⟨by rw [hR.1]; exact e4, by rw [hR.2]; exact e5⟩
  · exact va_runIN (As := As) (rest := vr) ⟨hx, hb, hml, hown, hts⟩ hM ⟨va_cnB nb hts (zg_in (zg_code hcode)) rfl rfl rfl (hKs.2.2.1 _ hlk) (hts _ hini) hpar hrm, hnm, hts _ hins⟩ hPs rfl hlen hl.1 hst (lv_room e3) hdg ⟨by rw [hR.1]; exact e4, by rw [hR.2]; exact e5⟩
theorem zs_objInit (hx : p.tables.exec = Jvm.exec) (hb : c.code = cc) (hml : c.maxLocals = nL) (hown : s.vm.findClass own = some m.cls) (hts : ∀ w ∈ zb_T, w.before args s = true) (hR : 1 ≤ R.frames ∧ 40 ≤ R.locals) (hw1 : Cond.methodLink own idx Lib.objectInit ∈ zb_T) (hw2 : Cond.instanceMethod Lib.objectInit ∈ zb_T) (hw3 : Cond.code Lib.objectInit ⟨#[0xb1]⟩ 1 none ∈ zb_T)
    (hdg : decode cc pc = .ok (.invokespecial idx, 3)) (hK : ze_KK p l e R s m args below meth c Q z0 dC dI dA sp xs A nL V kk) (hn : ze_at V nx (pc + 3)) (h : zl_ st (fun v rest => zv_r v (fun _ => cond (Nat.ble (ze_cs rest) 8) (kk nx ls rest w g nc ns) false)) = true) (hH : ze_H z0 dC dI dA sp xs A s nL ls st w g ρ ws H locs la vs) : W p l e R s m args below meth c H locs nc ns Q (F0 m pc la vs) := by
  rcases st with _ | ⟨v, rest⟩
  · cases h
  · rcases v with (n | i) | ((q | (n | u)) | x)
    · cases h
    · cases h
    · obtain ⟨h1, h2⟩ := ze_condf (show cond (Nat.ble (ze_cs rest) 8) (kk nx ls rest w g nc ns) false = true from h)
      obtain ⟨y1, r1, e1, ⟨a, ha, e2⟩, L1⟩ := hH.2.2.2.2.2.2.2.cons
      subst e1; subst e2
      obtain ⟨lv, hl, -⟩ := hH.2.2.2.2.2.2.1
      refine W.objInit hx hb hown (hts _ hw1) (hts _ hw2) (hts _ hw3) rfl (by rw [hml]; exact hl.1) rfl hdg hR.1 ?_ (W.eq (g2 := F0 m (pc + 3) la r1) rfl (hK _ _ _ _ _ _ _ h2 _ hn _ _ _ _ _ _ (hH.stk L1)))
      have := lv_room (m := m) (pc := pc) (ls := la) (rest := .ref a :: r1) (st := r1) (by rw [ze_cs_sum L1]; exact ze_ble' h1)
      omega
    · cases h
    · cases h
    · cases h
end ZI
