/-! THE ENGINE, part 10: what the links say; a run of rows -/
def ZF_f : Prop := ∀ (o n a b : Nat), (n, a, b) ∈ zl_f.getD o [] → ∃ (C : String) (T : u_T) (N : Nat), vwCl[a]? = some (C, T, N) ∧ b < N ∧ ze_FL (zn o) n T b
def ZF_p : Prop := ∀ (o n a b c f : Nat), (n, a, b, c, f) ∈ zl_p.getD o [] → ∃ (C : String) (T : u_T) (N : Nat) (ty : FieldType), vwCl[a]? = some (C, T, N) ∧ b < N ∧ parseFieldDescriptor (T b).2.2.1 = some ty ∧ ze_ty c ty ∧ ((f = 0 ∧ (T b).2.2.2 = false ∧ ze_FL (zn o) n T b) ∨ (f = 1 ∧ (T b).2.2.2 = true ∧ (T b).1 = zn o ∧ Cond.fieldLink (zn o) n (T b).1 (T b).2.1 (T b).2.2.1 ∈ zb_T))
def ZF_n : Prop := ∀ (o n a : Nat) (tl : List Nat), (n, a, tl) ∈ zl_n.getD o [] → ∃ (C : String) (T : u_T) (N : Nat), vwCl[a]? = some (C, T, N) ∧ tl.length = N ∧ (∀ j, j < N → ∃ t ty, tl[j]? = some t ∧ parseFieldDescriptor (T j).2.2.1 = some ty ∧ ze_ty t ty) ∧ Cond.classLink (zn o) n C ∈ zb_T ∧ Cond.instantiable C N ∈ zb_T ∧ Cond.initialized C ∈ zb_T
def ZF_a : Prop := ∀ (o n a : Nat), (n, a) ∈ zl_a.getD o [] → a = 209 ∧ Cond.classLink (zn o) n "ConfettiMinutes$Town" ∈ zb_T
def ZF_k : Prop := ∀ (o n a : Nat), (n, a) ∈ zl_k.getD o [] → Jvm.Cond.constant (zn o) n (nI a) ∈ zb_T
def ZF_kl : Prop := ∀ (o n a : Nat), (n, a) ∈ zl_kl.getD o [] → Jvm.Cond.constantLong (zn o) n (lN a) ∈ zb_T
/-- a method that may be called -/
def ZF_q (q : ZMt) (nb : Nat) : Prop := q.2.2.1 ≤ 51 ∧ Cond.code q.1 q.2.1 q.2.2.1 q.2.2.2.1 ∈ zb_T ∧ Cond.initialized q.1.cls ∈ zb_T ∧ q.1.cls ≠ "java/lang/invoke/MethodHandle" ∧ q.1.cls ≠ "java/lang/invoke/VarHandle" ∧ (parseMethodDescriptor q.1.desc).map (fun d => d.parameters.length) = some nb
def ZF_l (o n : Nat) (yn : MethodName) : Prop := Cond.methodLink (zn o) n yn ∈ zb_T ∨ ∃ host, Cond.methodLinkNest (zn o) n yn host ∈ ze_nest
def ZF_v : Prop := ∀ (o n a b c : Nat) (tl : List Nat), (n, a, b, c, tl) ∈ zl_v.getD o [] → ∃ (q : ZMt) (ci : Nat) (T : u_T) (N nb : Nat), zm a = some q ∧ tl = [q.2.2.2.2.2.1, q.2.2.2.2.2.2] ∧ b = nb + 1 ∧ c = ci + 1 ∧ vwCl[ci]? = some (q.1.cls, T, N) ∧ ZF_q q nb ∧ Cond.instanceMethod q.1 ∈ zb_T ∧ Cond.selects q.1.cls q.1 q.1 ∈ zb_T ∧ ZF_l o n q.1
def ZF_s : Prop := ∀ (o n a b c : Nat) (tl : List Nat), (n, a, b, c, tl) ∈ zl_s.getD o [] → ∃ (q : ZMt), zm a = some q ∧ tl = [q.2.2.2.2.2.1, q.2.2.2.2.2.2] ∧ c = 0 ∧ ZF_q q b ∧ Cond.static q.1 ∈ zb_T ∧ ZF_l o n q.1
def ZF_i : Prop := ∀ (o n a b c : Nat) (tl : List Nat), (n, a, b, c, tl) ∈ zl_i.getD o [] → ∃ (q : ZMt) (nb : Nat), zm a = some q ∧ tl = [q.2.2.2.2.2.1, q.2.2.2.2.2.2] ∧ b = nb + 1 ∧ c = 0 ∧ ZF_q q nb ∧ q.2.2.2.1 = none ∧ q.1.name = "<init>" ∧ Cond.instanceMethod q.1 ∈ zb_T ∧ ZF_l o n q.1
def ZF_o : Prop := (∀ (o n : Nat), n ∈ zl_o.getD o [] → Cond.methodLink (zn o) n Lib.objectInit ∈ zb_T) ∧ Cond.instanceMethod Lib.objectInit ∈ zb_T ∧ Cond.code Lib.objectInit ⟨#[0xb1]⟩ 1 none ∈ zb_T
def ZF_y : Prop := (∀ (o n : Nat), n ∈ zl_y.getD o [] → Cond.methodLink (zn o) n arraycopyName ∈ zb_T) ∧ Cond.native arraycopyName ∈ zb_T ∧ Cond.static arraycopyName ∈ zb_T ∧ Cond.initialized "java/lang/System" ∈ zb_T
def ZF_r : Prop := Cond.arrayClass .int ∈ zb_T ∧ Cond.arrayClass .char ∈ zb_T ∧ Cond.arrayClass .boolean ∈ zb_T ∧ Cond.arrayClass .long ∈ zb_T
def ZF_m : Prop := (∀ (o n a : Nat), (n, a) ∈ zl_m.getD o [] → (a = 0 ∧ Cond.methodLink (zn o) n Lib.Math.max.name ∈ zb_T) ∨ (a = 1 ∧ Cond.methodLink (zn o) n Lib.Math.min.name ∈ zb_T) ∨ (a = 2 ∧ Cond.methodLink (zn o) n Lib.Math.abs.name ∈ zb_T)) ∧ Cond.static Lib.Math.max.name ∈ zb_T ∧ Cond.static Lib.Math.min.name ∈ zb_T ∧ Cond.initialized "java/lang/Math" ∈ zb_T ∧ Cond.code Lib.Math.max.name Lib.Math.max.code 2 (some .int) ∈ zb_T ∧ Cond.code Lib.Math.min.name Lib.Math.min.code 2 (some .int) ∈ zb_T ∧ Cond.static Lib.Math.abs.name ∈ zb_T ∧ Cond.code Lib.Math.abs.name Lib.Math.abs.code 1 (some .int) ∈ zb_T
def ZF_u : Prop := (∀ (o n m : Nat), (n, m) ∈ zl_q.getD o [] → m < 4 ∧ Cond.methodLink (zn o) n (zt_y m) ∈ zb_T) ∧ (∀ m, m < 4 → Cond.instanceMethod (zt_y m) ∈ zb_T ∧ Cond.selects "java/lang/String" (zt_y m) (zt_y m) ∈ zb_T ∧ Cond.code (zt_y m) (zt_cd m) (zt_ml m) (zt_rt m) ∈ zb_T) ∧ Cond.initialized "java/lang/String" ∈ zb_T ∧ zt_M
def ZF : Prop := ze_CF ∧ ze_AF ∧ ZF_f ∧ ZF_p ∧ ZF_n ∧ ZF_a ∧ ZF_k ∧ ZF_kl ∧ ZF_v ∧ ZF_s ∧ ZF_i ∧ ZF_o ∧ ZF_y ∧ ZF_r ∧ ZF_m ∧ ZF_u
theorem ze_a0 : (100, FieldType.int) ∈ ze_arr := by decide +kernel
theorem ze_a1 : (101, FieldType.char) ∈ ze_arr := by decide +kernel
theorem ze_a4 : (104, FieldType.boolean) ∈ ze_arr := by decide +kernel
theorem ze_a5 : (150, FieldType.long) ∈ ze_arr := by decide +kernel
theorem ze_a9 : (209, FieldType.object "ConfettiMinutes$Town") ∈ ze_arr := by decide +kernel
theorem ze_aa : ∀ kd ∈ ze_ka, (100 ≤ kd ∧ kd < 1000) ∧ ∃ ty, (kd, ty) ∈ ze_arr := by
  intro kd h
  have h : kd ∈ [100, 101, 104, 150, 209] := h
  simp only [List.mem_cons, List.not_mem_nil, or_false] at h
  rcases h with rfl | rfl | rfl | rfl | rfl
  · exact ⟨by decide, _, ze_a0⟩
  · exact ⟨by decide, _, ze_a1⟩
  · exact ⟨by decide, _, ze_a4⟩
  · exact ⟨by decide, _, ze_a5⟩
  · exact ⟨by decide, _, ze_a9⟩
theorem zk_and {a b : Bool} (h : (a && b) = true) : a = true ∧ b = true := by
  cases a <;> cases b <;> first | exact ⟨rfl, rfl⟩ | cases h
theorem zk_or {a b : Bool} (h : (a || b) = true) : a = true ∨ b = true := by
  cases a <;> cases b <;> first | exact Or.inl rfl | exact Or.inr rfl | cases h
theorem ze_dr_spec {f : List ECE → Bool} : ∀ (n : Nat) (cs : List ECE), ze_dr f n cs = true → ∃ r, ze_drop n cs = some r ∧ f r = true := by
  intro n
  induction n with
  | zero => intro cs h; exact ⟨cs, rfl, h⟩
  | succ n ih =>
    intro cs h
    cases cs with
    | nil => cases h
    | cons e r => exact ih r h
theorem ze_jp_spec {jt : List (List ECE)} {a : Nat} {f : List ECE → Bool} (h : ze_jp jt a f = true) : ∃ cs, ze_tgt jt a = some cs ∧ f cs = true := by
  obtain ⟨c0, h1, h2⟩ := ze_n_spec _ _ _ h
  obtain ⟨r, h3, h4⟩ := ze_dr_spec _ _ h2
  have h1 : jt[a / 16]? = some c0 := h1
  refine ⟨r, ?_, h4⟩
  unfold ze_tgt
  rw [h1]
  exact h3
section ZV
variable {o nL : Nat} {cc : ByteArray} {rt : Option FieldType} {ini : Bool} {jt : List (List ECE)}
theorem zk_tail {e9 : ECE} {r : List ECE} (h : zk_code o cc nL rt ini jt (e9 :: r) = true) : zk_do e9.1 o cc nL rt ini jt e9.2.1 e9.2.2.1 e9.2.2.2.1 e9.2.2.2.2.1 e9.2.2.2.2.2 r = true ∧ zk_code o cc nL rt ini jt r = true := ze_condf h
theorem zk_drop : ∀ (n : Nat) (cs r : List ECE), zk_code o cc nL rt ini jt cs = true → ze_drop n cs = some r → zk_code o cc nL rt ini jt r = true := by
  intro n
  induction n with
  | zero => intro cs r h e9; cases e9; exact h
  | succ n ih =>
    intro cs r h e9
    cases cs with
    | nil => cases e9
    | cons e8 t => exact ih t r (zk_tail h).2 e9
theorem zk_nx {r : List ECE} {pc : Nat} (hV : zk_code o cc nL rt ini jt r = true) (h : zk_n r pc = true) : ze_at (fun cs => zk_code o cc nL rt ini jt cs = true) r pc := by
  cases r with
  | nil => cases h
  | cons e9 t => exact ⟨hV, e9, t, rfl, ze_beq h⟩
theorem zk_to (hjt : ∀ cs ∈ jt, zk_code o cc nL rt ini jt cs = true) {a pc : Nat} {off : Int} (h : zk_jm jt pc off a = true) : ∃ tgt : Nat, (pc : Int) + off = (tgt : Int) ∧ ∀ f : List ECE → Bool, ze_jp jt a f = true → ∃ cs, f cs = true ∧ ze_at (fun cs => zk_code o cc nL rt ini jt cs = true) cs tgt := by
  unfold zk_jm at h
  split at h
  · rename_i e9 t9 ht
    refine ⟨e9.2.1, of_decide_eq_true h, fun f hf => ?_⟩
    obtain ⟨cs, h1, h2⟩ := ze_jp_spec hf
    have hcs : cs = e9 :: t9 := by rw [ht] at h1; exact (Option.some.inj h1).symm
    subst hcs
    refine ⟨_, h2, ?_, e9, t9, rfl, rfl⟩
    unfold ze_tgt at ht
    cases hj : jt[a / 16]? with
    | none => rw [hj] at ht; cases ht
    | some c0 =>
      rw [hj] at ht
      exact zk_drop _ c0 _ (hjt c0 (List.mem_of_getElem? hj)) ht
  · cases h
end ZV
theorem zk_dec {cc : ByteArray} {pc len : Nat} {i : Jvm.ClassFile.Instr} (h : zk_d cc pc i len = true) : decode cc pc = .ok (i, len) := of_decide_eq_true h
theorem zk_dex {cc : ByteArray} {pc : Nat} {i : Jvm.ClassFile.Instr} (h : zk_de cc pc i = true) : ∃ len, decode cc pc = .ok (i, len) := by
  unfold zk_de at h
  split at h
  · rename_i q hq
    have := of_decide_eq_true h
    subst this
    exact ⟨q.2, hq⟩
  · cases h
theorem zi_div0 {y0 : Nat} (h : Nat.beq (Nat.mod y0 4294967296) 0 = false) : ¬ nI y0 = 0 := by
  intro q
  have h2 := ze_nbeq h
  have h3 := ze_tn y0
  rw [q] at h3
  exact h2 (show y0 % 4294967296 = 0 by rw [← h3]; rfl)
theorem zi_ldiv0 {y0 : Nat} (h : Nat.beq (Nat.mod y0 18446744073709551616) 0 = false) : ¬ lN y0 = 0 := by
  intro q
  have h2 := ze_nbeq h
  have h3 : (lN y0).toBitVec.toNat = y0 % 18446744073709551616 := by
    show (BitVec.ofNat 64 y0).toNat = _
    rw [BitVec.toNat_ofNat]
  rw [q] at h3
  exact h2 (show y0 % 18446744073709551616 = 0 by rw [← h3]; rfl)
/-- a switch's target -/
theorem zk_ttok {o nL : Nat} {cc : ByteArray} {rt : Option FieldType} {ini : Bool} {jt : List (List ECE)} (hjt : ∀ cs ∈ jt, zk_code o cc nL rt ini jt cs = true) {pc a : Nat} {z : Nat} : ∀ (offs : List Int) (lo : Int) (tl : List Nat), zk_tt jt pc lo offs tl = true →
    ((z : Int) - 2147483648 < lo ∨ lo + offs.length ≤ (z : Int) - 2147483648 → ze_tg z a tl false 0 = a) ∧ (lo ≤ (z : Int) - 2147483648 → (z : Int) - 2147483648 < lo + offs.length → ∃ off, offs[((z : Int) - 2147483648 - lo).toNat]? = some off ∧ zk_jm jt pc off (ze_tg z a tl false 0) = true) := by
  intro offs
  induction offs with
  | nil =>
    intro lo tl h
    cases tl with
    | nil => exact ⟨fun _ => rfl, fun h1 h2 => by simp at h2; omega⟩
    | cons x t => cases h
  | cons f os ih =>
    intro lo tl h
    match tl, h with
    | [], h => cases h
    | [x], h => cases h
    | x :: t :: ts, h =>
      obtain ⟨h1, h3⟩ := zk_and (show (decide ((x : Int) = lo + 2147483648) && zk_jm jt pc f t && zk_tt jt pc (lo + 1) os ts) = true from h)
      obtain ⟨h1, h2⟩ := zk_and h1
      have h1 := of_decide_eq_true h1
      obtain ⟨i1, i2⟩ := ih (lo + 1) ts h3
      have et : ze_tg z a (x :: t :: ts) false 0 = zcd (Nat.beq x z) t (ze_tg z a ts false 0) := rfl
      rw [et]
      cases hb : Nat.beq x z with
      | true =>
        have hb := ze_beq hb
        refine ⟨fun h9 => ?_, fun h8 h9 => ?_⟩
        · simp at h9; omega
        · refine ⟨f, ?_, h2⟩
          rw [show ((z : Int) - 2147483648 - lo).toNat = 0 by omega]
          rfl
      | false =>
        have hb := ze_nbeq hb
        refine ⟨fun h9 => i1 ?_, fun h8 h9 => ?_⟩
        · simp at h9; omega
        · obtain ⟨off, j1, j2⟩ := i2 (by omega) (by simp at h9; omega)
          refine ⟨off, ?_, j2⟩
          rw [show ((z : Int) - 2147483648 - lo).toNat = ((z : Int) - 2147483648 - (lo + 1)).toNat + 1 by omega]
          exact j1
theorem zk_ltok {jt : List (List ECE)} {pc a : Nat} {x : Int32} {d : Int} (hd : zk_jm jt pc d a = true) : ∀ (ps : List (Int × Int)) (tl : List Nat), zk_lt jt pc ps tl = true → zk_jm jt pc (Op.lookupswitch.offset ps d x.toInt) (ze_tg (ze_b x) a tl false 0) = true := by
  intro ps
  induction ps with
  | nil =>
    intro tl h
    cases tl with
    | nil => exact hd
    | cons y t => cases h
  | cons q ps ih =>
    intro tl h
    match tl, h with
    | [], h => cases h
    | [y], h => cases h
    | y :: t :: ts, h =>
      obtain ⟨h1, h3⟩ := zk_and (show (decide ((y : Int) = q.1 + 2147483648) && zk_jm jt pc q.2 t && zk_lt jt pc ps ts) = true from h)
      obtain ⟨h1, h2⟩ := zk_and h1
      have h1 := of_decide_eq_true h1
      have hb9 := ze_b_int x
      have et : ze_tg (ze_b x) a (y :: t :: ts) false 0 = zcd (Nat.beq y (ze_b x)) t (ze_tg (ze_b x) a ts false 0) := rfl
      obtain ⟨qa, qo⟩ := q
      rw [et, Op.lookupswitch.offset_cons]
      cases hb : Nat.beq y (ze_b x) with
      | true =>
        have hb := ze_beq hb
        rw [if_pos (by show qa = x.toInt; have h1 : (y : Int) = qa + 2147483648 := h1; omega)]
        exact h2
      | false =>
        have hb := ze_nbeq hb
        rw [if_neg (by show ¬ qa = x.toInt; have h1 : (y : Int) = qa + 2147483648 := h1; omega)]
        exact ih ts h3
