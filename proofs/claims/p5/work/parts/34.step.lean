theorem ze_rr_spec : ∀ (n : Nat) (st pop rest : List EV), ze_rr n st = true → st = pop ++ rest → pop.length = n + 1 → ∃ q, pop.reverse.head? = some (eR q) := by
  intro n
  induction n with
  | zero =>
    intro st pop rest h e1 e2
    subst e1
    rcases pop with _ | ⟨v, t⟩
    · simp at e2
    rcases t with _ | ⟨v2, t⟩
    · rcases v with u | ((q | u) | x)
      · cases h
      · exact ⟨q, rfl⟩
      · cases h
      · cases h
    · simp at e2
  | succ n ih =>
    intro st pop rest h e1 e2
    subst e1
    rcases pop with _ | ⟨v, t⟩
    · simp at e2
    obtain ⟨q, hq⟩ := ih (t ++ rest) t rest h rfl (by simpa using e2)
    refine ⟨q, ?_⟩
    rw [List.reverse_cons]
    cases ht : t.reverse with
    | nil => rw [ht] at hq; cases hq
    | cons a b => rw [ht] at hq; exact hq
section ZZ
variable {p : Program} {l : Launch} {e : Env} {R : Room} {s : State} {m : MethodId} {args : Array Value} {below : List Frame} {meth : Method} {c : Code} {Q : State → Prop}
variable {z0 : List Int32 × List Nat} {dC : Nat → ClassId} {dI : Nat → Nat → Nat} {dA : Nat → ClassId} {sp : Nat → Nat} {xs : ZXs} {A : Nat → Prop} {o nL d : Nat} {cc : ByteArray} {rt : Option FieldType} {ini : Bool} {jt : List (List ECE)}
variable {kk : EKn} {k : ERt} {cal : ECal} {mc ms pc ca cb cd nc ns : Nat} {r : List ECE} {tl : List Nat} {ls st : List EV} {w : EW} {g : EG} {ρ : List Int32} {ws : va_W} {H : Heap} {locs : List Loc} {la : Array Slot} {vs : List Value}
/-- facts: what an op on unknowns answers -/
def zv_at (ρ : List Int32) (a : Nat ⊕ Nat) (x : Int32) : Prop := match a with
  | .inl n => x = nI n
  | .inr i => ρ[i]? = some x
theorem zv_atV {sp : Nat → Nat} {ρ : List Int32} {ad : List Nat} {a : Nat ⊕ Nat} {x : Int32} (h : ze_V sp ρ ad (.inl a) (.int x)) : zv_at ρ a x := by
  match a, h with
  | .inl n, h => exact Value.int.inj h
  | .inr i, ⟨z, h1, h2⟩ => cases h2; exact h1
theorem zv_Vat {sp : Nat → Nat} {ρ : List Int32} {ad : List Nat} {a : Nat ⊕ Nat} {x : Int32} (h : zv_at ρ a x) : ze_V sp ρ ad (.inl a) (.int x) := by
  match a, h with
  | .inl n, h => exact congrArg Value.int h
  | .inr i, h => exact ⟨x, h, rfl⟩
def zo_F (op : Nat) (x y : Int32) : Int32 := match op with
  | 0 => x + y
  | 1 => x - y
  | 2 => x * y
  | 3 => x &&& y
  | 4 => x >>> (y &&& 31)
  | 5 => (x.toUInt32 >>> (y.toUInt32 &&& Int32.toUInt32 31)).toInt32
  | 6 => x - x / y * y
  | 7 => x.toInt8.toInt32
  | 8 => x.toInt16.toInt32
  | _ => x
def ze_Op (xs : ZXs) (cal : ECal) : Prop := ∀ (op : Nat) (a b : Nat ⊕ Nat) (w : EW) (g : EG) (k' : ERt), cal (Nat.add 400 op) [.inl a, .inl b] w g k' = true → ∀ (ρ : List Int32) (x y : Int32), ze_G g ρ → ze_Z xs ρ → zv_at ρ a x → zv_at ρ b y → ∃ r : Nat ⊕ Nat, k' (some (.inl r)) w g = true ∧ zv_at ρ r (zo_F op x y)
def ze_CalA (l : Launch) (dC : Nat → ClassId) (dI : Nat → Nat → Nat) (dA : Nat → ClassId) (sp : Nat → Nat) (xs : ZXs) (A : Nat → Prop) (cal : ECal) (d : Nat) : Prop := (∀ y q, zm y = some q → ze_Cal l dC dI dA sp xs A cal y d q.1 q.2.1 q.2.2.1 q.2.2.2.1 q.2.2.2.2.2.1 q.2.2.2.2.2.2) ∧ ze_Op xs cal
/-- what holds in a method while its rows run -/
noncomputable def ze_Fx (p : Program) (l : Launch) (R : Room) (s : State) (m : MethodId) (args : Array Value) (meth : Method) (c : Code) (dC : Nat → ClassId) (dI : Nat → Nat → Nat) (dA : Nat → ClassId) (sp : Nat → Nat) (xs : ZXs) (A : Nat → Prop) (o nL d : Nat) (cc : ByteArray) (rt : Option FieldType) (ini : Bool) (jt : List (List ECE)) (cal : ECal) (mc ms : Nat) : Prop :=
  ZF ∧ p.tables.exec = Jvm.exec ∧ c.code = cc ∧ c.maxLocals = nL ∧ s.vm.findClass (zn o) = some m.cls ∧ ze_K dC dI dA s ∧ ze_X sp xs A s ∧ (∀ q, s.heap.size ≤ q → A q) ∧ (∀ w ∈ zb_T, w.before args s = true) ∧ (R.cells = mc ∧ R.slots = ms) ∧ (3 ≤ d ∧ d + 1 ≤ R.frames ∧ 70 * (d + 1) ≤ R.locals) ∧ (ini = true → meth.name = "<init>") ∧
  (ze_CalA l dC dI dA sp xs A cal d) ∧ ∀ cs ∈ jt, zk_code o cc nL rt ini jt cs = true
/-- what holds at its ends -/
noncomputable def ze_Re (p : Program) (l : Launch) (e : Env) (R : Room) (s : State) (m : MethodId) (args : Array Value) (below : List Frame) (meth : Method) (c : Code) (Q : State → Prop) (z0 : List Int32 × List Nat) (dC : Nat → ClassId) (dI : Nat → Nat → Nat) (dA : Nat → ClassId) (sp : Nat → Nat) (xs : ZXs) (A : Nat → Prop) (nL : Nat) (cc : ByteArray) (rt : Option FieldType) (k : ERt) (mc ms : Nat) : Prop :=
  ∀ (pc nc ns : Nat) (ls st : List EV) (w : EW) (g : EG) (ρ : List Int32) (ws : va_W) (H : Heap) (locs : List Loc) (la : Array Slot) (vs : List Value), ze_H z0 dC dI dA sp xs A s nL ls st w g ρ ws H locs la vs → nc ≤ mc → ns ≤ ms →
    (∀ (u : Nat ⊕ Nat) (x : Int32) (ty : FieldType), st = [.inl u] → vs = [.int x] → k (some (.inl u)) w g = true → decode cc pc = .ok (.ireturn, 1) → rt = some ty → narrow ty (.int x) = .int x → W p l e R s m args below meth c H locs nc ns Q (F0 m pc la vs)) ∧
    (∀ (u : Nat ⊕ Nat) (x : Int64), st = [.inr (.inl (.inr u))] → vs = [.long x] → k (some (.inr (.inl (.inr u)))) w g = true → decode cc pc = .ok (.lreturn, 1) → rt = some .long → W p l e R s m args below meth c H locs nc ns Q (F0 m pc la vs)) ∧
    (∀ (u : EV) (a : Nat) (ty : FieldType), st = [u] → vs = [.ref a] → k (some u) w g = true → decode cc pc = .ok (.areturn, 1) → rt = some ty → ((∃ n, ty = .object n) ∨ ∃ t, ty = .array t) → W p l e R s m args below meth c H locs nc ns Q (F0 m pc la vs)) ∧
    (st = [] → vs = [] → k none w g = true → decode cc pc = .ok (.return_, 1) → rt = none → W p l e R s m args below meth c H locs nc ns Q (F0 m pc la vs))

theorem zo_kr_spec {nx : List ECE} {ls rest : List EV} {u : Nat ⊕ Nat} (h : zo_kr nx kk ls rest nc ns (some (.inl u)) w g = true) : kk nx ls (.inl u :: rest) w g nc ns = true := h
theorem zs_ho {op : Nat} {a b : Nat ⊕ Nat} {x y : Int32} {V : List ECE → Prop} {nx : List ECE} {pc2 : Nat} {rest : List EV} {vr : List Value} (hop : ze_Op xs cal) (hK : ze_KK p l e R s m args below meth c Q z0 dC dI dA sp xs A nL V kk) (hn : ze_at V nx pc2) (h : cal (Nat.add 400 op) [.inl a, .inl b] w g (zo_kr nx kk ls rest nc ns) = true) (hH : ze_H z0 dC dI dA sp xs A s nL ls rest w g ρ ws H locs la vr) (ha : ze_V sp ρ (ws.map (·.1)) (.inl a) (.int x)) (hb : ze_V sp ρ (ws.map (·.1)) (.inl b) (.int y)) : W p l e R s m args below meth c H locs nc ns Q (F0 m pc2 la (.int (zo_F op x y) :: vr)) := by
  obtain ⟨r, h1, h2⟩ := hop op a b w g _ h ρ x y hH.1 hH.2.1.1 (zv_atV ha) (zv_atV hb)
  exact hK _ _ _ _ _ _ _ (zo_kr_spec h1) _ hn _ _ _ _ _ _ (hH.stk ⟨zv_Vat h2, hH.2.2.2.2.2.2.2⟩)
theorem zo_u2_ok {x y : Nat ⊕ Nat} {f : Bool} (h : zo_u2 x y f = true) : f = true := by
  rcases x with n | i
  · rcases y with n2 | i2
    · cases h
    · exact h
  · exact h
theorem zs_hk {op : Nat} {old : EOp} {V : List ECE → Prop} {nx : List ECE} {pc2 : Nat} {jp : EJp} (hop : ze_Op xs cal) (hK : ze_KK p l e R s m args below meth c Q z0 dC dI dA sp xs A nL V kk) (hn : ze_at V nx pc2) (h : zo_hk op old nx ca cb cd tl jp kk k cal mc ms ls st w g nc ns = true) (hH : ze_H z0 dC dI dA sp xs A s nL ls st w g ρ ws H locs la vs)
    (row : ∀ (x y : Int32) (rest : List Value), W p l e R s m args below meth c H locs nc ns Q (F0 m pc2 la (.int (zo_F op x y) :: rest)) → W p l e R s m args below meth c H locs nc ns Q (F0 m pc la (.int y :: .int x :: rest)))
    (hold : old nx ca cb cd tl jp kk k cal mc ms ls st w g nc ns = true → W p l e R s m args below meth c H locs nc ns Q (F0 m pc la vs)) : W p l e R s m args below meth c H locs nc ns Q (F0 m pc la vs) := by
  rcases ze_cond h with ⟨h, -⟩ | ⟨-, h⟩
  · obtain ⟨v2, t, e8, h8⟩ := zl_spec h
    obtain ⟨v1, rest, e9, h9⟩ := zl_spec h8
    subst e9
    subst e8
    have h := h9
    rcases v1 with x | x
    · rcases v2 with y | y
      · have h := zo_u2_ok (show zo_u2 x y _ = true from h)
        obtain ⟨y2, r1, e1, V2, L1⟩ := hH.2.2.2.2.2.2.2.cons
        obtain ⟨y1, r2, e2, V1, L2⟩ := L1.cons
        subst e1; subst e2
        obtain ⟨z1, ez1⟩ := ze_intV V1
        obtain ⟨z2, ez2⟩ := ze_intV V2
        subst ez1; subst ez2
        exact row z1 z2 r2 (zs_ho hop hK hn h (hH.stk L2) V1 V2)
      · cases h
    · cases h
  · exact hold h
theorem zs_h1 {op : Nat} {old : EOp} {V : List ECE → Prop} {nx : List ECE} {pc2 : Nat} {jp : EJp} (hop : ze_Op xs cal) (hK : ze_KK p l e R s m args below meth c Q z0 dC dI dA sp xs A nL V kk) (hn : ze_at V nx pc2) (h : zo_h1 op old nx ca cb cd tl jp kk k cal mc ms ls st w g nc ns = true) (hH : ze_H z0 dC dI dA sp xs A s nL ls st w g ρ ws H locs la vs)
    (row : ∀ (x : Int32) (rest : List Value), W p l e R s m args below meth c H locs nc ns Q (F0 m pc2 la (.int (zo_F op x (nI 0)) :: rest)) → W p l e R s m args below meth c H locs nc ns Q (F0 m pc la (.int x :: rest)))
    (hold : old nx ca cb cd tl jp kk k cal mc ms ls st w g nc ns = true → W p l e R s m args below meth c H locs nc ns Q (F0 m pc la vs)) : W p l e R s m args below meth c H locs nc ns Q (F0 m pc la vs) := by
  rcases ze_cond h with ⟨h, -⟩ | ⟨-, h⟩
  · obtain ⟨v1, rest, e8, h8⟩ := zl_spec h
    subst e8
    have h := h8
    rcases v1 with (x | x) | x
    · cases h
    · obtain ⟨y1, r1, e1, V1, L1⟩ := hH.2.2.2.2.2.2.2.cons
      subst e1
      obtain ⟨z1, ez1⟩ := ze_intV V1
      subst ez1
      exact row z1 r1 (zs_ho hop hK hn (show cal (Nat.add 400 op) [.inl (.inr x), .inl (.inl 0)] w g _ = true from h) (hH.stk L1) V1 rfl)
    · cases h
  · exact hold h
theorem zs_hd {op : Nat} {old : EOp} {V : List ECE → Prop} {nx : List ECE} {pc2 : Nat} {jp : EJp} (hop : ze_Op xs cal) (hK : ze_KK p l e R s m args below meth c Q z0 dC dI dA sp xs A nL V kk) (hn : ze_at V nx pc2) (h : zo_hd op old nx ca cb cd tl jp kk k cal mc ms ls st w g nc ns = true) (hH : ze_H z0 dC dI dA sp xs A s nL ls st w g ρ ws H locs la vs)
    (row : ∀ (x : Int32) (n : Nat) (rest : List Value), Nat.beq (Nat.mod n 4294967296) 0 = false → W p l e R s m args below meth c H locs nc ns Q (F0 m pc2 la (.int (zo_F op x (nI n)) :: rest)) → W p l e R s m args below meth c H locs nc ns Q (F0 m pc la (.int (nI n) :: .int x :: rest)))
    (hold : old nx ca cb cd tl jp kk k cal mc ms ls st w g nc ns = true → W p l e R s m args below meth c H locs nc ns Q (F0 m pc la vs)) : W p l e R s m args below meth c H locs nc ns Q (F0 m pc la vs) := by
  rcases ze_cond h with ⟨h, -⟩ | ⟨-, h⟩
  · obtain ⟨v2, t, e8, h8⟩ := zl_spec h
    obtain ⟨v1, rest, e9, h9⟩ := zl_spec h8
    subst e9
    subst e8
    have h := h9
    rcases v1 with (x | x) | x
    · cases h
    · rcases v2 with (n | n) | n
      · rcases ze_cond (show zcd (Nat.beq (Nat.mod n 4294967296) 0) false (cal (Nat.add 400 op) [.inl (.inr x), .inl (.inl n)] w g _) = true from h) with ⟨-, h⟩ | ⟨hz, h⟩
        · cases h
        · obtain ⟨y2, r1, e1, V2, L1⟩ := hH.2.2.2.2.2.2.2.cons
          obtain ⟨y1, r2, e2, V1, L2⟩ := L1.cons
          subst e1; subst e2
          obtain ⟨z1, ez1⟩ := ze_intV V1
          subst ez1
          have V2 : y2 = .int (nI n) := V2
          subst V2
          exact row z1 n r2 hz (zs_ho hop hK hn h (hH.stk L2) V1 rfl)
      · cases h
      · cases h
    · cases h
  · exact hold h

theorem zz_iadd0  (hF : ze_Fx p l R s m args meth c dC dI dA sp xs A o nL d cc rt ini jt cal mc ms) (hK : ze_KK p l e R s m args below meth c Q z0 dC dI dA sp xs A nL (fun cs => zk_code o cc nL rt ini jt cs = true) kk) (hV : zk_code o cc nL rt ini jt r = true) (hH : ze_H z0 dC dI dA sp xs A s nL ls st w g ρ ws H locs la vs) (hr : zk_s .iadd o cc nL rt ini jt pc ca cb cd tl r = true) (h : zo_iadd0 r ca cb cd tl (ze_jp jt) kk k cal mc ms ls st w g nc ns = true) : W p l e R s m args below meth c H locs nc ns Q (F0 m pc la vs) := by
  obtain ⟨hZ, hx, hb, hml, hown, hKs, hsc, hA, hts, hR, hRd, hin, hcal, hjt⟩ := hF
  obtain ⟨h1, h2⟩ := zk_and hr
  have hd := zk_dec h1
  have hn := zk_nx hV h2
  exact zs_iadd hsc hK hn h hH (fun x y rest k9 => lv_iadd hx hb hd k9)
theorem zz_iadd  (hF : ze_Fx p l R s m args meth c dC dI dA sp xs A o nL d cc rt ini jt cal mc ms) (hK : ze_KK p l e R s m args below meth c Q z0 dC dI dA sp xs A nL (fun cs => zk_code o cc nL rt ini jt cs = true) kk) (hV : zk_code o cc nL rt ini jt r = true) (hH : ze_H z0 dC dI dA sp xs A s nL ls st w g ρ ws H locs la vs) (hr : zk_s .iadd o cc nL rt ini jt pc ca cb cd tl r = true) (h : zo_iadd r ca cb cd tl (ze_jp jt) kk k cal mc ms ls st w g nc ns = true) : W p l e R s m args below meth c H locs nc ns Q (F0 m pc la vs) := by
  have hF0 := hF
  obtain ⟨hZ, hx, hb, hml, hown, hKs, hsc, hA, hts, hR, hRd, hin, hcal, hjt⟩ := hF
  obtain ⟨h1, h2⟩ := zk_and hr
  have hd := zk_dec h1
  have hn := zk_nx hV h2
  exact zs_hk (op := 0) hcal.2 hK hn (old := zo_iadd0) h hH (fun x y rest k9 => lv_iadd hx hb hd k9) (fun h => zz_iadd0 hF0 hK hV hH hr h)

theorem zz_isub0  (hF : ze_Fx p l R s m args meth c dC dI dA sp xs A o nL d cc rt ini jt cal mc ms) (hK : ze_KK p l e R s m args below meth c Q z0 dC dI dA sp xs A nL (fun cs => zk_code o cc nL rt ini jt cs = true) kk) (hV : zk_code o cc nL rt ini jt r = true) (hH : ze_H z0 dC dI dA sp xs A s nL ls st w g ρ ws H locs la vs) (hr : zk_s .isub o cc nL rt ini jt pc ca cb cd tl r = true) (h : zo_isub0 r ca cb cd tl (ze_jp jt) kk k cal mc ms ls st w g nc ns = true) : W p l e R s m args below meth c H locs nc ns Q (F0 m pc la vs) := by
  obtain ⟨hZ, hx, hb, hml, hown, hKs, hsc, hA, hts, hR, hRd, hin, hcal, hjt⟩ := hF
  obtain ⟨h1, h2⟩ := zk_and hr
  have hd := zk_dec h1
  have hn := zk_nx hV h2
  exact zs_bin (fun x y => x - y) hK (fun a b => ze_sub a b) (fun v1 v2 x y a b => zi_sb hH.1 v1 v2 x y a b) hn h hH (fun x y rest _ k9 => lv_isub hx hb hd k9)
theorem zz_isub  (hF : ze_Fx p l R s m args meth c dC dI dA sp xs A o nL d cc rt ini jt cal mc ms) (hK : ze_KK p l e R s m args below meth c Q z0 dC dI dA sp xs A nL (fun cs => zk_code o cc nL rt ini jt cs = true) kk) (hV : zk_code o cc nL rt ini jt r = true) (hH : ze_H z0 dC dI dA sp xs A s nL ls st w g ρ ws H locs la vs) (hr : zk_s .isub o cc nL rt ini jt pc ca cb cd tl r = true) (h : zo_isub r ca cb cd tl (ze_jp jt) kk k cal mc ms ls st w g nc ns = true) : W p l e R s m args below meth c H locs nc ns Q (F0 m pc la vs) := by
  have hF0 := hF
  obtain ⟨hZ, hx, hb, hml, hown, hKs, hsc, hA, hts, hR, hRd, hin, hcal, hjt⟩ := hF
  obtain ⟨h1, h2⟩ := zk_and hr
  have hd := zk_dec h1
  have hn := zk_nx hV h2
  exact zs_hk (op := 1) hcal.2 hK hn (old := zo_isub0) h hH (fun x y rest k9 => lv_isub hx hb hd k9) (fun h => zz_isub0 hF0 hK hV hH hr h)

theorem zz_imul0  (hF : ze_Fx p l R s m args meth c dC dI dA sp xs A o nL d cc rt ini jt cal mc ms) (hK : ze_KK p l e R s m args below meth c Q z0 dC dI dA sp xs A nL (fun cs => zk_code o cc nL rt ini jt cs = true) kk) (hV : zk_code o cc nL rt ini jt r = true) (hH : ze_H z0 dC dI dA sp xs A s nL ls st w g ρ ws H locs la vs) (hr : zk_s .imul o cc nL rt ini jt pc ca cb cd tl r = true) (h : zo_imul0 r ca cb cd tl (ze_jp jt) kk k cal mc ms ls st w g nc ns = true) : W p l e R s m args below meth c H locs nc ns Q (F0 m pc la vs) := by
  obtain ⟨hZ, hx, hb, hml, hown, hKs, hsc, hA, hts, hR, hRd, hin, hcal, hjt⟩ := hF
  obtain ⟨h1, h2⟩ := zk_and hr
  have hd := zk_dec h1
  have hn := zk_nx hV h2
  exact zs_bin (fun x y => x * y) hK (fun a b => ze_mul a b) (fun v1 v2 x y a b => zi_ml hH.1 v1 v2 x y a b) hn h hH (fun x y rest _ k9 => lv_imul hx hb hd k9)
theorem zz_imul  (hF : ze_Fx p l R s m args meth c dC dI dA sp xs A o nL d cc rt ini jt cal mc ms) (hK : ze_KK p l e R s m args below meth c Q z0 dC dI dA sp xs A nL (fun cs => zk_code o cc nL rt ini jt cs = true) kk) (hV : zk_code o cc nL rt ini jt r = true) (hH : ze_H z0 dC dI dA sp xs A s nL ls st w g ρ ws H locs la vs) (hr : zk_s .imul o cc nL rt ini jt pc ca cb cd tl r = true) (h : zo_imul r ca cb cd tl (ze_jp jt) kk k cal mc ms ls st w g nc ns = true) : W p l e R s m args below meth c H locs nc ns Q (F0 m pc la vs) := by
  have hF0 := hF
  obtain ⟨hZ, hx, hb, hml, hown, hKs, hsc, hA, hts, hR, hRd, hin, hcal, hjt⟩ := hF
  obtain ⟨h1, h2⟩ := zk_and hr
  have hd := zk_dec h1
  have hn := zk_nx hV h2
  exact zs_hk (op := 2) hcal.2 hK hn (old := zo_imul0) h hH (fun x y rest k9 => lv_imul hx hb hd k9) (fun h => zz_imul0 hF0 hK hV hH hr h)

theorem zz_iand0  (hF : ze_Fx p l R s m args meth c dC dI dA sp xs A o nL d cc rt ini jt cal mc ms) (hK : ze_KK p l e R s m args below meth c Q z0 dC dI dA sp xs A nL (fun cs => zk_code o cc nL rt ini jt cs = true) kk) (hV : zk_code o cc nL rt ini jt r = true) (hH : ze_H z0 dC dI dA sp xs A s nL ls st w g ρ ws H locs la vs) (hr : zk_s .iand o cc nL rt ini jt pc ca cb cd tl r = true) (h : zo_iand0 r ca cb cd tl (ze_jp jt) kk k cal mc ms ls st w g nc ns = true) : W p l e R s m args below meth c H locs nc ns Q (F0 m pc la vs) := by
  obtain ⟨hZ, hx, hb, hml, hown, hKs, hsc, hA, hts, hR, hRd, hin, hcal, hjt⟩ := hF
  obtain ⟨h1, h2⟩ := zk_and hr
  have hd := zk_dec h1
  have hn := zk_nx hV h2
  exact zs_bin (fun x y => x &&& y) hK (fun a b => zs_c2 (fun x y => x &&& y) a b) (fun v1 v2 x y a b => zi_and v1 v2 x y a b) hn h hH (fun x y rest _ k9 => lv_iand hx hb hd k9)
theorem zz_iand  (hF : ze_Fx p l R s m args meth c dC dI dA sp xs A o nL d cc rt ini jt cal mc ms) (hK : ze_KK p l e R s m args below meth c Q z0 dC dI dA sp xs A nL (fun cs => zk_code o cc nL rt ini jt cs = true) kk) (hV : zk_code o cc nL rt ini jt r = true) (hH : ze_H z0 dC dI dA sp xs A s nL ls st w g ρ ws H locs la vs) (hr : zk_s .iand o cc nL rt ini jt pc ca cb cd tl r = true) (h : zo_iand r ca cb cd tl (ze_jp jt) kk k cal mc ms ls st w g nc ns = true) : W p l e R s m args below meth c H locs nc ns Q (F0 m pc la vs) := by
  have hF0 := hF
  obtain ⟨hZ, hx, hb, hml, hown, hKs, hsc, hA, hts, hR, hRd, hin, hcal, hjt⟩ := hF
  obtain ⟨h1, h2⟩ := zk_and hr
  have hd := zk_dec h1
  have hn := zk_nx hV h2
  exact zs_hk (op := 3) hcal.2 hK hn (old := zo_iand0) h hH (fun x y rest k9 => lv_iand hx hb hd k9) (fun h => zz_iand0 hF0 hK hV hH hr h)

theorem zz_ior  (hF : ze_Fx p l R s m args meth c dC dI dA sp xs A o nL d cc rt ini jt cal mc ms) (hK : ze_KK p l e R s m args below meth c Q z0 dC dI dA sp xs A nL (fun cs => zk_code o cc nL rt ini jt cs = true) kk) (hV : zk_code o cc nL rt ini jt r = true) (hH : ze_H z0 dC dI dA sp xs A s nL ls st w g ρ ws H locs la vs) (hr : zk_s .ior o cc nL rt ini jt pc ca cb cd tl r = true) (h : zo_ior r ca cb cd tl (ze_jp jt) kk k cal mc ms ls st w g nc ns = true) : W p l e R s m args below meth c H locs nc ns Q (F0 m pc la vs) := by
  obtain ⟨hZ, hx, hb, hml, hown, hKs, hsc, hA, hts, hR, hRd, hin, hcal, hjt⟩ := hF
  obtain ⟨h1, h2⟩ := zk_and hr
  have hd := zk_dec h1
  have hn := zk_nx hV h2
  exact zs_bin (fun x y => x ||| y) hK (fun a b => zs_c2 (fun x y => x ||| y) a b) (fun v1 v2 x y _ _ => zs_top v1 v2 _) hn h hH (fun x y rest _ k9 => lv_ior hx hb hd k9)

theorem zz_ixor  (hF : ze_Fx p l R s m args meth c dC dI dA sp xs A o nL d cc rt ini jt cal mc ms) (hK : ze_KK p l e R s m args below meth c Q z0 dC dI dA sp xs A nL (fun cs => zk_code o cc nL rt ini jt cs = true) kk) (hV : zk_code o cc nL rt ini jt r = true) (hH : ze_H z0 dC dI dA sp xs A s nL ls st w g ρ ws H locs la vs) (hr : zk_s .ixor o cc nL rt ini jt pc ca cb cd tl r = true) (h : zo_ixor r ca cb cd tl (ze_jp jt) kk k cal mc ms ls st w g nc ns = true) : W p l e R s m args below meth c H locs nc ns Q (F0 m pc la vs) := by
  obtain ⟨hZ, hx, hb, hml, hown, hKs, hsc, hA, hts, hR, hRd, hin, hcal, hjt⟩ := hF
  obtain ⟨h1, h2⟩ := zk_and hr
  have hd := zk_dec h1
  have hn := zk_nx hV h2
  exact zs_bin (fun x y => x ^^^ y) hK (fun a b => zs_c2 (fun x y => x ^^^ y) a b) (fun v1 v2 x y _ _ => zs_top v1 v2 _) hn h hH (fun x y rest _ k9 => lv_ixor hx hb hd k9)

theorem zz_ishl  (hF : ze_Fx p l R s m args meth c dC dI dA sp xs A o nL d cc rt ini jt cal mc ms) (hK : ze_KK p l e R s m args below meth c Q z0 dC dI dA sp xs A nL (fun cs => zk_code o cc nL rt ini jt cs = true) kk) (hV : zk_code o cc nL rt ini jt r = true) (hH : ze_H z0 dC dI dA sp xs A s nL ls st w g ρ ws H locs la vs) (hr : zk_s .ishl o cc nL rt ini jt pc ca cb cd tl r = true) (h : zo_ishl r ca cb cd tl (ze_jp jt) kk k cal mc ms ls st w g nc ns = true) : W p l e R s m args below meth c H locs nc ns Q (F0 m pc la vs) := by
  obtain ⟨hZ, hx, hb, hml, hown, hKs, hsc, hA, hts, hR, hRd, hin, hcal, hjt⟩ := hF
  obtain ⟨h1, h2⟩ := zk_and hr
  have hd := zk_dec h1
  have hn := zk_nx hV h2
  exact zs_bin (fun x y => x <<< (y &&& 31)) hK (fun a b => zs_c2 (fun x y => x <<< (y &&& 31)) a b) (fun v1 v2 x y a b => zi_shl hH.1 v1 v2 x y a b) hn h hH (fun x y rest _ k9 => lv_ishl hx hb hd k9)

theorem zz_ishr0  (hF : ze_Fx p l R s m args meth c dC dI dA sp xs A o nL d cc rt ini jt cal mc ms) (hK : ze_KK p l e R s m args below meth c Q z0 dC dI dA sp xs A nL (fun cs => zk_code o cc nL rt ini jt cs = true) kk) (hV : zk_code o cc nL rt ini jt r = true) (hH : ze_H z0 dC dI dA sp xs A s nL ls st w g ρ ws H locs la vs) (hr : zk_s .ishr o cc nL rt ini jt pc ca cb cd tl r = true) (h : zo_ishr0 r ca cb cd tl (ze_jp jt) kk k cal mc ms ls st w g nc ns = true) : W p l e R s m args below meth c H locs nc ns Q (F0 m pc la vs) := by
  obtain ⟨hZ, hx, hb, hml, hown, hKs, hsc, hA, hts, hR, hRd, hin, hcal, hjt⟩ := hF
  obtain ⟨h1, h2⟩ := zk_and hr
  have hd := zk_dec h1
  have hn := zk_nx hV h2
  exact zs_bin (fun x y => x >>> (y &&& 31)) hK (fun a b => zs_c2 (fun x y => x >>> (y &&& 31)) a b) (fun v1 v2 x y a b => zi_shr v1 v2 x y a b) hn h hH (fun x y rest _ k9 => lv_ishr hx hb hd k9)
theorem zz_ishr  (hF : ze_Fx p l R s m args meth c dC dI dA sp xs A o nL d cc rt ini jt cal mc ms) (hK : ze_KK p l e R s m args below meth c Q z0 dC dI dA sp xs A nL (fun cs => zk_code o cc nL rt ini jt cs = true) kk) (hV : zk_code o cc nL rt ini jt r = true) (hH : ze_H z0 dC dI dA sp xs A s nL ls st w g ρ ws H locs la vs) (hr : zk_s .ishr o cc nL rt ini jt pc ca cb cd tl r = true) (h : zo_ishr r ca cb cd tl (ze_jp jt) kk k cal mc ms ls st w g nc ns = true) : W p l e R s m args below meth c H locs nc ns Q (F0 m pc la vs) := by
  have hF0 := hF
  obtain ⟨hZ, hx, hb, hml, hown, hKs, hsc, hA, hts, hR, hRd, hin, hcal, hjt⟩ := hF
  obtain ⟨h1, h2⟩ := zk_and hr
  have hd := zk_dec h1
  have hn := zk_nx hV h2
  exact zs_hk (op := 4) hcal.2 hK hn (old := zo_ishr0) h hH (fun x y rest k9 => lv_ishr hx hb hd k9) (fun h => zz_ishr0 hF0 hK hV hH hr h)

theorem zz_iushr0  (hF : ze_Fx p l R s m args meth c dC dI dA sp xs A o nL d cc rt ini jt cal mc ms) (hK : ze_KK p l e R s m args below meth c Q z0 dC dI dA sp xs A nL (fun cs => zk_code o cc nL rt ini jt cs = true) kk) (hV : zk_code o cc nL rt ini jt r = true) (hH : ze_H z0 dC dI dA sp xs A s nL ls st w g ρ ws H locs la vs) (hr : zk_s .iushr o cc nL rt ini jt pc ca cb cd tl r = true) (h : zo_iushr0 r ca cb cd tl (ze_jp jt) kk k cal mc ms ls st w g nc ns = true) : W p l e R s m args below meth c H locs nc ns Q (F0 m pc la vs) := by
  obtain ⟨hZ, hx, hb, hml, hown, hKs, hsc, hA, hts, hR, hRd, hin, hcal, hjt⟩ := hF
  obtain ⟨h1, h2⟩ := zk_and hr
  have hd := zk_dec h1
  have hn := zk_nx hV h2
  exact zs_bin (fun x y => (x.toUInt32 >>> (y.toUInt32 &&& Int32.toUInt32 31)).toInt32) hK (fun a b => zs_c2 (fun x y => (x.toUInt32 >>> (y.toUInt32 &&& Int32.toUInt32 31)).toInt32) a b) (fun v1 v2 x y a b => zi_ush v1 v2 x y a b) hn h hH (fun x y rest _ k9 => lv_iushr hx hb hd rfl k9)
theorem zz_iushr  (hF : ze_Fx p l R s m args meth c dC dI dA sp xs A o nL d cc rt ini jt cal mc ms) (hK : ze_KK p l e R s m args below meth c Q z0 dC dI dA sp xs A nL (fun cs => zk_code o cc nL rt ini jt cs = true) kk) (hV : zk_code o cc nL rt ini jt r = true) (hH : ze_H z0 dC dI dA sp xs A s nL ls st w g ρ ws H locs la vs) (hr : zk_s .iushr o cc nL rt ini jt pc ca cb cd tl r = true) (h : zo_iushr r ca cb cd tl (ze_jp jt) kk k cal mc ms ls st w g nc ns = true) : W p l e R s m args below meth c H locs nc ns Q (F0 m pc la vs) := by
  have hF0 := hF
  obtain ⟨hZ, hx, hb, hml, hown, hKs, hsc, hA, hts, hR, hRd, hin, hcal, hjt⟩ := hF
  obtain ⟨h1, h2⟩ := zk_and hr
  have hd := zk_dec h1
  have hn := zk_nx hV h2
  exact zs_hk (op := 5) hcal.2 hK hn (old := zo_iushr0) h hH (fun x y rest k9 => lv_iushr hx hb hd rfl k9) (fun h => zz_iushr0 hF0 hK hV hH hr h)

theorem zz_idiv  (hF : ze_Fx p l R s m args meth c dC dI dA sp xs A o nL d cc rt ini jt cal mc ms) (hK : ze_KK p l e R s m args below meth c Q z0 dC dI dA sp xs A nL (fun cs => zk_code o cc nL rt ini jt cs = true) kk) (hV : zk_code o cc nL rt ini jt r = true) (hH : ze_H z0 dC dI dA sp xs A s nL ls st w g ρ ws H locs la vs) (hr : zk_s .idiv o cc nL rt ini jt pc ca cb cd tl r = true) (h : zo_idiv r ca cb cd tl (ze_jp jt) kk k cal mc ms ls st w g nc ns = true) : W p l e R s m args below meth c H locs nc ns Q (F0 m pc la vs) := by
  obtain ⟨hZ, hx, hb, hml, hown, hKs, hsc, hA, hts, hR, hRd, hin, hcal, hjt⟩ := hF
  obtain ⟨h1, h2⟩ := zk_and hr
  have hd := zk_dec h1
  have hn := zk_nx hV h2
  rcases st with _ | ⟨v2, rest⟩
  · cases h
  · obtain ⟨y1, r1, e1, V1, -⟩ := hH.2.2.2.2.2.2.2.cons
    obtain ⟨x1, ex, hy⟩ := ze_rs_spec (show ze_rs g v2 _ _ = true from h) hH.1 V1
    rcases hy with ⟨y0, ey, hy⟩ | ⟨i9, _, hi9, hy⟩
    · rcases ze_cond hy with ⟨_, q⟩ | ⟨q1, q2⟩
      · cases q
      · refine zs_bin (fun x y => x / y) hK (fun a b => zs_c2 (fun x y => x / y) a b) (fun v1 v2 x y a b => zi_div hH.1 v1 v2 x y a b) hn q2 hH (fun x y rest e9 k9 => lv_idiv hx hb hd ?_ k9)
        have e8 : y = x1 := by
          rw [e1] at e9
          have := (List.cons.inj e9).1
          rw [ex] at this
          exact (Value.int.inj this).symm
        rw [e8, ey]
        exact zi_div0 q1
    · obtain ⟨p9, hp9, hy⟩ := ze_n_spec _ _ _ hy
      obtain ⟨q1, q2⟩ := ze_condf hy
      refine zs_bin (fun x y => x / y) hK (fun a b => zs_c2 (fun x y => x / y) a b) (fun v1 v2 x y a b => zi_div hH.1 v1 v2 x y a b) hn q2 hH (fun x y rest e9 k9 => lv_idiv hx hb hd ?_ k9)
      have e8 : y = x1 := by
        rw [e1] at e9
        have := (List.cons.inj e9).1
        rw [ex] at this
        exact (Value.int.inj this).symm
      rw [e8]
      exact zi_nz (hH.1.2 i9 p9 x1 hp9 hi9) q1

theorem zz_irem0  (hF : ze_Fx p l R s m args meth c dC dI dA sp xs A o nL d cc rt ini jt cal mc ms) (hK : ze_KK p l e R s m args below meth c Q z0 dC dI dA sp xs A nL (fun cs => zk_code o cc nL rt ini jt cs = true) kk) (hV : zk_code o cc nL rt ini jt r = true) (hH : ze_H z0 dC dI dA sp xs A s nL ls st w g ρ ws H locs la vs) (hr : zk_s .irem o cc nL rt ini jt pc ca cb cd tl r = true) (h : zo_irem0 r ca cb cd tl (ze_jp jt) kk k cal mc ms ls st w g nc ns = true) : W p l e R s m args below meth c H locs nc ns Q (F0 m pc la vs) := by
  obtain ⟨hZ, hx, hb, hml, hown, hKs, hsc, hA, hts, hR, hRd, hin, hcal, hjt⟩ := hF
  obtain ⟨h1, h2⟩ := zk_and hr
  have hd := zk_dec h1
  have hn := zk_nx hV h2
  rcases st with _ | ⟨v2, rest⟩
  · cases h
  · obtain ⟨y1, r1, e1, V1, -⟩ := hH.2.2.2.2.2.2.2.cons
    obtain ⟨x1, ex, hy⟩ := ze_rs_spec (show ze_rs g v2 _ _ = true from h) hH.1 V1
    rcases hy with ⟨y0, ey, hy⟩ | ⟨i9, _, hi9, hy⟩
    · rcases ze_cond hy with ⟨_, q⟩ | ⟨q1, q2⟩
      · cases q
      · refine zs_bin (fun x y => x - x / y * y) hK (fun a b => zs_c2 (fun x y => x - x / y * y) a b) (fun v1 v2 x y a b => zi_rem hH.1 v1 v2 x y a b) hn q2 hH (fun x y rest e9 k9 => lv_irem hx hb hd ?_ k9)
        have e8 : y = x1 := by
          rw [e1] at e9
          have := (List.cons.inj e9).1
          rw [ex] at this
          exact (Value.int.inj this).symm
        rw [e8, ey]
        exact zi_div0 q1
    · obtain ⟨p9, hp9, hy⟩ := ze_n_spec _ _ _ hy
      obtain ⟨q1, q2⟩ := ze_condf hy
      refine zs_bin (fun x y => x - x / y * y) hK (fun a b => zs_c2 (fun x y => x - x / y * y) a b) (fun v1 v2 x y a b => zi_rem hH.1 v1 v2 x y a b) hn q2 hH (fun x y rest e9 k9 => lv_irem hx hb hd ?_ k9)
      have e8 : y = x1 := by
        rw [e1] at e9
        have := (List.cons.inj e9).1
        rw [ex] at this
        exact (Value.int.inj this).symm
      rw [e8]
      exact zi_nz (hH.1.2 i9 p9 x1 hp9 hi9) q1
theorem zz_irem  (hF : ze_Fx p l R s m args meth c dC dI dA sp xs A o nL d cc rt ini jt cal mc ms) (hK : ze_KK p l e R s m args below meth c Q z0 dC dI dA sp xs A nL (fun cs => zk_code o cc nL rt ini jt cs = true) kk) (hV : zk_code o cc nL rt ini jt r = true) (hH : ze_H z0 dC dI dA sp xs A s nL ls st w g ρ ws H locs la vs) (hr : zk_s .irem o cc nL rt ini jt pc ca cb cd tl r = true) (h : zo_irem r ca cb cd tl (ze_jp jt) kk k cal mc ms ls st w g nc ns = true) : W p l e R s m args below meth c H locs nc ns Q (F0 m pc la vs) := by
  have hF0 := hF
  obtain ⟨hZ, hx, hb, hml, hown, hKs, hsc, hA, hts, hR, hRd, hin, hcal, hjt⟩ := hF
  obtain ⟨h1, h2⟩ := zk_and hr
  have hd := zk_dec h1
  have hn := zk_nx hV h2
  exact zs_hd (op := 6) hcal.2 hK hn (old := zo_irem0) h hH (fun x n rest hz k9 => lv_irem hx hb hd (zi_div0 hz) k9) (fun h => zz_irem0 hF0 hK hV hH hr h)

theorem zz_ineg  (hF : ze_Fx p l R s m args meth c dC dI dA sp xs A o nL d cc rt ini jt cal mc ms) (hK : ze_KK p l e R s m args below meth c Q z0 dC dI dA sp xs A nL (fun cs => zk_code o cc nL rt ini jt cs = true) kk) (hV : zk_code o cc nL rt ini jt r = true) (hH : ze_H z0 dC dI dA sp xs A s nL ls st w g ρ ws H locs la vs) (hr : zk_s .ineg o cc nL rt ini jt pc ca cb cd tl r = true) (h : zo_ineg r ca cb cd tl (ze_jp jt) kk k cal mc ms ls st w g nc ns = true) : W p l e R s m args below meth c H locs nc ns Q (F0 m pc la vs) := by
  obtain ⟨hZ, hx, hb, hml, hown, hKs, hsc, hA, hts, hR, hRd, hin, hcal, hjt⟩ := hF
  obtain ⟨h1, h2⟩ := zk_and hr
  have hd := zk_dec h1
  have hn := zk_nx hV h2
  exact zs_neg hK hn h hH (fun x rest k9 => lv_ineg hx hb hd k9)

theorem zz_i2b0  (hF : ze_Fx p l R s m args meth c dC dI dA sp xs A o nL d cc rt ini jt cal mc ms) (hK : ze_KK p l e R s m args below meth c Q z0 dC dI dA sp xs A nL (fun cs => zk_code o cc nL rt ini jt cs = true) kk) (hV : zk_code o cc nL rt ini jt r = true) (hH : ze_H z0 dC dI dA sp xs A s nL ls st w g ρ ws H locs la vs) (hr : zk_s .i2b o cc nL rt ini jt pc ca cb cd tl r = true) (h : zo_i2b0 r ca cb cd tl (ze_jp jt) kk k cal mc ms ls st w g nc ns = true) : W p l e R s m args below meth c H locs nc ns Q (F0 m pc la vs) := by
  obtain ⟨hZ, hx, hb, hml, hown, hKs, hsc, hA, hts, hR, hRd, hin, hcal, hjt⟩ := hF
  obtain ⟨h1, h2⟩ := zk_and hr
  have hd := zk_dec h1
  have hn := zk_nx hV h2
  exact zs_un (fun x => x.toInt8.toInt32) hK (fun a => (ze_e_eq _).symm) (fun x => ⟨Nat.zero_le _, ze_b_top _⟩) hn h hH (fun x rest k9 => lv_i2b hx hb hd rfl k9)
theorem zz_i2b  (hF : ze_Fx p l R s m args meth c dC dI dA sp xs A o nL d cc rt ini jt cal mc ms) (hK : ze_KK p l e R s m args below meth c Q z0 dC dI dA sp xs A nL (fun cs => zk_code o cc nL rt ini jt cs = true) kk) (hV : zk_code o cc nL rt ini jt r = true) (hH : ze_H z0 dC dI dA sp xs A s nL ls st w g ρ ws H locs la vs) (hr : zk_s .i2b o cc nL rt ini jt pc ca cb cd tl r = true) (h : zo_i2b r ca cb cd tl (ze_jp jt) kk k cal mc ms ls st w g nc ns = true) : W p l e R s m args below meth c H locs nc ns Q (F0 m pc la vs) := by
  have hF0 := hF
  obtain ⟨hZ, hx, hb, hml, hown, hKs, hsc, hA, hts, hR, hRd, hin, hcal, hjt⟩ := hF
  obtain ⟨h1, h2⟩ := zk_and hr
  have hd := zk_dec h1
  have hn := zk_nx hV h2
  exact zs_h1 (op := 7) hcal.2 hK hn (old := zo_i2b0) h hH (fun x rest k9 => lv_i2b hx hb hd rfl k9) (fun h => zz_i2b0 hF0 hK hV hH hr h)

theorem zz_i2s0  (hF : ze_Fx p l R s m args meth c dC dI dA sp xs A o nL d cc rt ini jt cal mc ms) (hK : ze_KK p l e R s m args below meth c Q z0 dC dI dA sp xs A nL (fun cs => zk_code o cc nL rt ini jt cs = true) kk) (hV : zk_code o cc nL rt ini jt r = true) (hH : ze_H z0 dC dI dA sp xs A s nL ls st w g ρ ws H locs la vs) (hr : zk_s .i2s o cc nL rt ini jt pc ca cb cd tl r = true) (h : zo_i2s0 r ca cb cd tl (ze_jp jt) kk k cal mc ms ls st w g nc ns = true) : W p l e R s m args below meth c H locs nc ns Q (F0 m pc la vs) := by
  obtain ⟨hZ, hx, hb, hml, hown, hKs, hsc, hA, hts, hR, hRd, hin, hcal, hjt⟩ := hF
  obtain ⟨h1, h2⟩ := zk_and hr
  have hd := zk_dec h1
  have hn := zk_nx hV h2
  exact zs_un (fun x => x.toInt16.toInt32) hK (fun a => (ze_e_eq _).symm) (fun x => ⟨Nat.zero_le _, ze_b_top _⟩) hn h hH (fun x rest k9 => lv_i2s hx hb hd rfl k9)
theorem zz_i2s  (hF : ze_Fx p l R s m args meth c dC dI dA sp xs A o nL d cc rt ini jt cal mc ms) (hK : ze_KK p l e R s m args below meth c Q z0 dC dI dA sp xs A nL (fun cs => zk_code o cc nL rt ini jt cs = true) kk) (hV : zk_code o cc nL rt ini jt r = true) (hH : ze_H z0 dC dI dA sp xs A s nL ls st w g ρ ws H locs la vs) (hr : zk_s .i2s o cc nL rt ini jt pc ca cb cd tl r = true) (h : zo_i2s r ca cb cd tl (ze_jp jt) kk k cal mc ms ls st w g nc ns = true) : W p l e R s m args below meth c H locs nc ns Q (F0 m pc la vs) := by
  have hF0 := hF
  obtain ⟨hZ, hx, hb, hml, hown, hKs, hsc, hA, hts, hR, hRd, hin, hcal, hjt⟩ := hF
  obtain ⟨h1, h2⟩ := zk_and hr
  have hd := zk_dec h1
  have hn := zk_nx hV h2
  exact zs_h1 (op := 8) hcal.2 hK hn (old := zo_i2s0) h hH (fun x rest k9 => lv_i2s hx hb hd rfl k9) (fun h => zz_i2s0 hF0 hK hV hH hr h)

theorem zz_i2c  (hF : ze_Fx p l R s m args meth c dC dI dA sp xs A o nL d cc rt ini jt cal mc ms) (hK : ze_KK p l e R s m args below meth c Q z0 dC dI dA sp xs A nL (fun cs => zk_code o cc nL rt ini jt cs = true) kk) (hV : zk_code o cc nL rt ini jt r = true) (hH : ze_H z0 dC dI dA sp xs A s nL ls st w g ρ ws H locs la vs) (hr : zk_s .i2c o cc nL rt ini jt pc ca cb cd tl r = true) (h : zo_i2c r ca cb cd tl (ze_jp jt) kk k cal mc ms ls st w g nc ns = true) : W p l e R s m args below meth c H locs nc ns Q (F0 m pc la vs) := by
  obtain ⟨hZ, hx, hb, hml, hown, hKs, hsc, hA, hts, hR, hRd, hin, hcal, hjt⟩ := hF
  obtain ⟨h1, h2⟩ := zk_and hr
  have hd := zk_dec h1
  have hn := zk_nx hV h2
  exact zs_i2c hK hn h hH (fun x rest k9 => lv_i2c hx hb hd rfl k9)

theorem zz_i2l  (hF : ze_Fx p l R s m args meth c dC dI dA sp xs A o nL d cc rt ini jt cal mc ms) (hK : ze_KK p l e R s m args below meth c Q z0 dC dI dA sp xs A nL (fun cs => zk_code o cc nL rt ini jt cs = true) kk) (hV : zk_code o cc nL rt ini jt r = true) (hH : ze_H z0 dC dI dA sp xs A s nL ls st w g ρ ws H locs la vs) (hr : zk_s .i2l o cc nL rt ini jt pc ca cb cd tl r = true) (h : zo_i2l r ca cb cd tl (ze_jp jt) kk k cal mc ms ls st w g nc ns = true) : W p l e R s m args below meth c H locs nc ns Q (F0 m pc la vs) := by
  obtain ⟨hZ, hx, hb, hml, hown, hKs, hsc, hA, hts, hR, hRd, hin, hcal, hjt⟩ := hF
  obtain ⟨h1, h2⟩ := zk_and hr
  have hd := zk_dec h1
  have hn := zk_nx hV h2
  exact zs_i2l hK hn h hH (fun x rest k9 => lv_i2l hx hb hd rfl k9)

theorem zz_l2i  (hF : ze_Fx p l R s m args meth c dC dI dA sp xs A o nL d cc rt ini jt cal mc ms) (hK : ze_KK p l e R s m args below meth c Q z0 dC dI dA sp xs A nL (fun cs => zk_code o cc nL rt ini jt cs = true) kk) (hV : zk_code o cc nL rt ini jt r = true) (hH : ze_H z0 dC dI dA sp xs A s nL ls st w g ρ ws H locs la vs) (hr : zk_s .l2i o cc nL rt ini jt pc ca cb cd tl r = true) (h : zo_l2i r ca cb cd tl (ze_jp jt) kk k cal mc ms ls st w g nc ns = true) : W p l e R s m args below meth c H locs nc ns Q (F0 m pc la vs) := by
  obtain ⟨hZ, hx, hb, hml, hown, hKs, hsc, hA, hts, hR, hRd, hin, hcal, hjt⟩ := hF
  obtain ⟨h1, h2⟩ := zk_and hr
  have hd := zk_dec h1
  have hn := zk_nx hV h2
  exact zs_l2i hK hn h hH (fun x rest k9 => lv_l2i hx hb hd rfl k9)

theorem zz_ladd  (hF : ze_Fx p l R s m args meth c dC dI dA sp xs A o nL d cc rt ini jt cal mc ms) (hK : ze_KK p l e R s m args below meth c Q z0 dC dI dA sp xs A nL (fun cs => zk_code o cc nL rt ini jt cs = true) kk) (hV : zk_code o cc nL rt ini jt r = true) (hH : ze_H z0 dC dI dA sp xs A s nL ls st w g ρ ws H locs la vs) (hr : zk_s .ladd o cc nL rt ini jt pc ca cb cd tl r = true) (h : zo_ladd r ca cb cd tl (ze_jp jt) kk k cal mc ms ls st w g nc ns = true) : W p l e R s m args below meth c H locs nc ns Q (F0 m pc la vs) := by
  obtain ⟨hZ, hx, hb, hml, hown, hKs, hsc, hA, hts, hR, hRd, hin, hcal, hjt⟩ := hF
  obtain ⟨h1, h2⟩ := zk_and hr
  have hd := zk_dec h1
  have hn := zk_nx hV h2
  exact zs_lb (fun x y => x + y) (fun v1 v2 x y c a b => zi_cka hH.1 c a b) hK hn h hH (fun x y rest _ k9 => lv_ladd hx hb hd k9)

theorem zz_lsub  (hF : ze_Fx p l R s m args meth c dC dI dA sp xs A o nL d cc rt ini jt cal mc ms) (hK : ze_KK p l e R s m args below meth c Q z0 dC dI dA sp xs A nL (fun cs => zk_code o cc nL rt ini jt cs = true) kk) (hV : zk_code o cc nL rt ini jt r = true) (hH : ze_H z0 dC dI dA sp xs A s nL ls st w g ρ ws H locs la vs) (hr : zk_s .lsub o cc nL rt ini jt pc ca cb cd tl r = true) (h : zo_lsub r ca cb cd tl (ze_jp jt) kk k cal mc ms ls st w g nc ns = true) : W p l e R s m args below meth c H locs nc ns Q (F0 m pc la vs) := by
  obtain ⟨hZ, hx, hb, hml, hown, hKs, hsc, hA, hts, hR, hRd, hin, hcal, hjt⟩ := hF
  obtain ⟨h1, h2⟩ := zk_and hr
  have hd := zk_dec h1
  have hn := zk_nx hV h2
  exact zs_lb (fun x y => x - y) (fun v1 v2 x y c a b => zi_ckn hH.1 c a b) hK hn h hH (fun x y rest _ k9 => lv_lsub hx hb hd k9)

theorem zz_lmul  (hF : ze_Fx p l R s m args meth c dC dI dA sp xs A o nL d cc rt ini jt cal mc ms) (hK : ze_KK p l e R s m args below meth c Q z0 dC dI dA sp xs A nL (fun cs => zk_code o cc nL rt ini jt cs = true) kk) (hV : zk_code o cc nL rt ini jt r = true) (hH : ze_H z0 dC dI dA sp xs A s nL ls st w g ρ ws H locs la vs) (hr : zk_s .lmul o cc nL rt ini jt pc ca cb cd tl r = true) (h : zo_lmul r ca cb cd tl (ze_jp jt) kk k cal mc ms ls st w g nc ns = true) : W p l e R s m args below meth c H locs nc ns Q (F0 m pc la vs) := by
  obtain ⟨hZ, hx, hb, hml, hown, hKs, hsc, hA, hts, hR, hRd, hin, hcal, hjt⟩ := hF
  obtain ⟨h1, h2⟩ := zk_and hr
  have hd := zk_dec h1
  have hn := zk_nx hV h2
  exact zs_lb (fun x y => x * y) (fun v1 v2 x y c a b => zi_ckm hH.1 c a b) hK hn h hH (fun x y rest _ k9 => lv_lmul hx hb hd k9)

theorem zz_land  (hF : ze_Fx p l R s m args meth c dC dI dA sp xs A o nL d cc rt ini jt cal mc ms) (hK : ze_KK p l e R s m args below meth c Q z0 dC dI dA sp xs A nL (fun cs => zk_code o cc nL rt ini jt cs = true) kk) (hV : zk_code o cc nL rt ini jt r = true) (hH : ze_H z0 dC dI dA sp xs A s nL ls st w g ρ ws H locs la vs) (hr : zk_s .land o cc nL rt ini jt pc ca cb cd tl r = true) (h : zo_land r ca cb cd tl (ze_jp jt) kk k cal mc ms ls st w g nc ns = true) : W p l e R s m args below meth c H locs nc ns Q (F0 m pc la vs) := by
  obtain ⟨hZ, hx, hb, hml, hown, hKs, hsc, hA, hts, hR, hRd, hin, hcal, hjt⟩ := hF
  obtain ⟨h1, h2⟩ := zk_and hr
  have hd := zk_dec h1
  have hn := zk_nx hV h2
  exact zs_lb (fun x y => x &&& y) (fun v1 v2 x y c a b => zi_ckn hH.1 c a b) hK hn h hH (fun x y rest _ k9 => lv_land hx hb hd k9)

theorem zz_lor  (hF : ze_Fx p l R s m args meth c dC dI dA sp xs A o nL d cc rt ini jt cal mc ms) (hK : ze_KK p l e R s m args below meth c Q z0 dC dI dA sp xs A nL (fun cs => zk_code o cc nL rt ini jt cs = true) kk) (hV : zk_code o cc nL rt ini jt r = true) (hH : ze_H z0 dC dI dA sp xs A s nL ls st w g ρ ws H locs la vs) (hr : zk_s .lor o cc nL rt ini jt pc ca cb cd tl r = true) (h : zo_lor r ca cb cd tl (ze_jp jt) kk k cal mc ms ls st w g nc ns = true) : W p l e R s m args below meth c H locs nc ns Q (F0 m pc la vs) := by
  obtain ⟨hZ, hx, hb, hml, hown, hKs, hsc, hA, hts, hR, hRd, hin, hcal, hjt⟩ := hF
  obtain ⟨h1, h2⟩ := zk_and hr
  have hd := zk_dec h1
  have hn := zk_nx hV h2
  exact zs_lb (fun x y => x ||| y) (fun v1 v2 x y c a b => zi_ckn hH.1 c a b) hK hn h hH (fun x y rest _ k9 => lv_lor hx hb hd k9)

theorem zz_ldiv  (hF : ze_Fx p l R s m args meth c dC dI dA sp xs A o nL d cc rt ini jt cal mc ms) (hK : ze_KK p l e R s m args below meth c Q z0 dC dI dA sp xs A nL (fun cs => zk_code o cc nL rt ini jt cs = true) kk) (hV : zk_code o cc nL rt ini jt r = true) (hH : ze_H z0 dC dI dA sp xs A s nL ls st w g ρ ws H locs la vs) (hr : zk_s .ldiv o cc nL rt ini jt pc ca cb cd tl r = true) (h : zo_ldiv r ca cb cd tl (ze_jp jt) kk k cal mc ms ls st w g nc ns = true) : W p l e R s m args below meth c H locs nc ns Q (F0 m pc la vs) := by
  obtain ⟨hZ, hx, hb, hml, hown, hKs, hsc, hA, hts, hR, hRd, hin, hcal, hjt⟩ := hF
  obtain ⟨h1, h2⟩ := zk_and hr
  have hd := zk_dec h1
  have hn := zk_nx hV h2
  exact zs_ldv (fun x y => x / y) (fun v1 v2 x y c a b => zi_ckd hH.1 c a b) hK hn h hH (fun x y rest k8 k9 => lv_ldiv hx hb hd k8 k9)

theorem zz_lrem  (hF : ze_Fx p l R s m args meth c dC dI dA sp xs A o nL d cc rt ini jt cal mc ms) (hK : ze_KK p l e R s m args below meth c Q z0 dC dI dA sp xs A nL (fun cs => zk_code o cc nL rt ini jt cs = true) kk) (hV : zk_code o cc nL rt ini jt r = true) (hH : ze_H z0 dC dI dA sp xs A s nL ls st w g ρ ws H locs la vs) (hr : zk_s .lrem o cc nL rt ini jt pc ca cb cd tl r = true) (h : zo_lrem r ca cb cd tl (ze_jp jt) kk k cal mc ms ls st w g nc ns = true) : W p l e R s m args below meth c H locs nc ns Q (F0 m pc la vs) := by
  obtain ⟨hZ, hx, hb, hml, hown, hKs, hsc, hA, hts, hR, hRd, hin, hcal, hjt⟩ := hF
  obtain ⟨h1, h2⟩ := zk_and hr
  have hd := zk_dec h1
  have hn := zk_nx hV h2
  exact zs_ldv (fun x y => x - x / y * y) (fun v1 v2 x y c a b => zi_ckr hH.1 c a b) hK hn h hH (fun x y rest k8 k9 => lv_lrem hx hb hd k8 k9)

theorem zz_lshl  (hF : ze_Fx p l R s m args meth c dC dI dA sp xs A o nL d cc rt ini jt cal mc ms) (hK : ze_KK p l e R s m args below meth c Q z0 dC dI dA sp xs A nL (fun cs => zk_code o cc nL rt ini jt cs = true) kk) (hV : zk_code o cc nL rt ini jt r = true) (hH : ze_H z0 dC dI dA sp xs A s nL ls st w g ρ ws H locs la vs) (hr : zk_s .lshl o cc nL rt ini jt pc ca cb cd tl r = true) (h : zo_lshl r ca cb cd tl (ze_jp jt) kk k cal mc ms ls st w g nc ns = true) : W p l e R s m args below meth c H locs nc ns Q (F0 m pc la vs) := by
  obtain ⟨hZ, hx, hb, hml, hown, hKs, hsc, hA, hts, hR, hRd, hin, hcal, hjt⟩ := hF
  obtain ⟨h1, h2⟩ := zk_and hr
  have hd := zk_dec h1
  have hn := zk_nx hV h2
  exact zs_lsf (fun x y => x <<< (y.toInt64 &&& 63)) hK hn h hH (fun x y rest k9 => lv_lshl hx hb hd rfl k9)

theorem zz_lshr  (hF : ze_Fx p l R s m args meth c dC dI dA sp xs A o nL d cc rt ini jt cal mc ms) (hK : ze_KK p l e R s m args below meth c Q z0 dC dI dA sp xs A nL (fun cs => zk_code o cc nL rt ini jt cs = true) kk) (hV : zk_code o cc nL rt ini jt r = true) (hH : ze_H z0 dC dI dA sp xs A s nL ls st w g ρ ws H locs la vs) (hr : zk_s .lshr o cc nL rt ini jt pc ca cb cd tl r = true) (h : zo_lshr r ca cb cd tl (ze_jp jt) kk k cal mc ms ls st w g nc ns = true) : W p l e R s m args below meth c H locs nc ns Q (F0 m pc la vs) := by
  obtain ⟨hZ, hx, hb, hml, hown, hKs, hsc, hA, hts, hR, hRd, hin, hcal, hjt⟩ := hF
  obtain ⟨h1, h2⟩ := zk_and hr
  have hd := zk_dec h1
  have hn := zk_nx hV h2
  exact zs_lsf (fun x y => x >>> (y.toInt64 &&& 63)) hK hn h hH (fun x y rest k9 => lv_lshr hx hb hd rfl k9)

theorem zz_lcmp  (hF : ze_Fx p l R s m args meth c dC dI dA sp xs A o nL d cc rt ini jt cal mc ms) (hK : ze_KK p l e R s m args below meth c Q z0 dC dI dA sp xs A nL (fun cs => zk_code o cc nL rt ini jt cs = true) kk) (hV : zk_code o cc nL rt ini jt r = true) (hH : ze_H z0 dC dI dA sp xs A s nL ls st w g ρ ws H locs la vs) (hr : zk_s .lcmp o cc nL rt ini jt pc ca cb cd tl r = true) (h : zo_lcmp r ca cb cd tl (ze_jp jt) kk k cal mc ms ls st w g nc ns = true) : W p l e R s m args below meth c H locs nc ns Q (F0 m pc la vs) := by
  obtain ⟨hZ, hx, hb, hml, hown, hKs, hsc, hA, hts, hR, hRd, hin, hcal, hjt⟩ := hF
  obtain ⟨h1, h2⟩ := zk_and hr
  have hd := zk_dec h1
  have hn := zk_nx hV h2
  exact zs_lcmp hx hb hd hK hn h hH

theorem zz_dup  (hF : ze_Fx p l R s m args meth c dC dI dA sp xs A o nL d cc rt ini jt cal mc ms) (hK : ze_KK p l e R s m args below meth c Q z0 dC dI dA sp xs A nL (fun cs => zk_code o cc nL rt ini jt cs = true) kk) (hV : zk_code o cc nL rt ini jt r = true) (hH : ze_H z0 dC dI dA sp xs A s nL ls st w g ρ ws H locs la vs) (hr : zk_s .dup o cc nL rt ini jt pc ca cb cd tl r = true) (h : zo_dup r ca cb cd tl (ze_jp jt) kk k cal mc ms ls st w g nc ns = true) : W p l e R s m args below meth c H locs nc ns Q (F0 m pc la vs) := by
  obtain ⟨hZ, hx, hb, hml, hown, hKs, hsc, hA, hts, hR, hRd, hin, hcal, hjt⟩ := hF
  obtain ⟨h1, h2⟩ := zk_and hr
  have hd := zk_dec h1
  have hn := zk_nx hV h2
  exact zs_dup hK hn h hH (fun va rest q k9 => lv_dup hx hb hd q k9)

theorem zz_pop  (hF : ze_Fx p l R s m args meth c dC dI dA sp xs A o nL d cc rt ini jt cal mc ms) (hK : ze_KK p l e R s m args below meth c Q z0 dC dI dA sp xs A nL (fun cs => zk_code o cc nL rt ini jt cs = true) kk) (hV : zk_code o cc nL rt ini jt r = true) (hH : ze_H z0 dC dI dA sp xs A s nL ls st w g ρ ws H locs la vs) (hr : zk_s .pop o cc nL rt ini jt pc ca cb cd tl r = true) (h : zo_pop r ca cb cd tl (ze_jp jt) kk k cal mc ms ls st w g nc ns = true) : W p l e R s m args below meth c H locs nc ns Q (F0 m pc la vs) := by
  obtain ⟨hZ, hx, hb, hml, hown, hKs, hsc, hA, hts, hR, hRd, hin, hcal, hjt⟩ := hF
  obtain ⟨h1, h2⟩ := zk_and hr
  have hd := zk_dec h1
  have hn := zk_nx hV h2
  exact zs_pop hK hn h hH (fun va rest q k9 => lv_pop hx hb hd q k9)

theorem zz_dup_x1  (hF : ze_Fx p l R s m args meth c dC dI dA sp xs A o nL d cc rt ini jt cal mc ms) (hK : ze_KK p l e R s m args below meth c Q z0 dC dI dA sp xs A nL (fun cs => zk_code o cc nL rt ini jt cs = true) kk) (hV : zk_code o cc nL rt ini jt r = true) (hH : ze_H z0 dC dI dA sp xs A s nL ls st w g ρ ws H locs la vs) (hr : zk_s .dup_x1 o cc nL rt ini jt pc ca cb cd tl r = true) (h : zo_dup_x1 r ca cb cd tl (ze_jp jt) kk k cal mc ms ls st w g nc ns = true) : W p l e R s m args below meth c H locs nc ns Q (F0 m pc la vs) := by
  obtain ⟨hZ, hx, hb, hml, hown, hKs, hsc, hA, hts, hR, hRd, hin, hcal, hjt⟩ := hF
  obtain ⟨h1, h2⟩ := zk_and hr
  have hd := zk_dec h1
  have hn := zk_nx hV h2
  exact zs_dup_x1 hK hn h hH (fun va vb rest q1 q2 k9 => lv_dup_x1 hx hb hd q1 q2 k9)

theorem zz_dup_x2  (hF : ze_Fx p l R s m args meth c dC dI dA sp xs A o nL d cc rt ini jt cal mc ms) (hK : ze_KK p l e R s m args below meth c Q z0 dC dI dA sp xs A nL (fun cs => zk_code o cc nL rt ini jt cs = true) kk) (hV : zk_code o cc nL rt ini jt r = true) (hH : ze_H z0 dC dI dA sp xs A s nL ls st w g ρ ws H locs la vs) (hr : zk_s .dup_x2 o cc nL rt ini jt pc ca cb cd tl r = true) (h : zo_dup_x2 r ca cb cd tl (ze_jp jt) kk k cal mc ms ls st w g nc ns = true) : W p l e R s m args below meth c H locs nc ns Q (F0 m pc la vs) := by
  obtain ⟨hZ, hx, hb, hml, hown, hKs, hsc, hA, hts, hR, hRd, hin, hcal, hjt⟩ := hF
  obtain ⟨h1, h2⟩ := zk_and hr
  have hd := zk_dec h1
  have hn := zk_nx hV h2
  exact zs_dup_x2 hK hn h hH (fun va vb vd rest q1 q2 q3 k9 => lv_dup_x2 hx hb hd q1 q2 q3 k9)

theorem zz_dup2  (hF : ze_Fx p l R s m args meth c dC dI dA sp xs A o nL d cc rt ini jt cal mc ms) (hK : ze_KK p l e R s m args below meth c Q z0 dC dI dA sp xs A nL (fun cs => zk_code o cc nL rt ini jt cs = true) kk) (hV : zk_code o cc nL rt ini jt r = true) (hH : ze_H z0 dC dI dA sp xs A s nL ls st w g ρ ws H locs la vs) (hr : zk_s .dup2 o cc nL rt ini jt pc ca cb cd tl r = true) (h : zo_dup2 r ca cb cd tl (ze_jp jt) kk k cal mc ms ls st w g nc ns = true) : W p l e R s m args below meth c H locs nc ns Q (F0 m pc la vs) := by
  obtain ⟨hZ, hx, hb, hml, hown, hKs, hsc, hA, hts, hR, hRd, hin, hcal, hjt⟩ := hF
  obtain ⟨h1, h2⟩ := zk_and hr
  have hd := zk_dec h1
  have hn := zk_nx hV h2
  exact zs_dup2 hK hn h hH (fun va vb rest q1 q2 k9 => lv_dup2_11 hx hb hd q1 q2 k9)

theorem zz_aconst_null  (hF : ze_Fx p l R s m args meth c dC dI dA sp xs A o nL d cc rt ini jt cal mc ms) (hK : ze_KK p l e R s m args below meth c Q z0 dC dI dA sp xs A nL (fun cs => zk_code o cc nL rt ini jt cs = true) kk) (hV : zk_code o cc nL rt ini jt r = true) (hH : ze_H z0 dC dI dA sp xs A s nL ls st w g ρ ws H locs la vs) (hr : zk_s .aconst_null o cc nL rt ini jt pc ca cb cd tl r = true) (h : zo_null r ca cb cd tl (ze_jp jt) kk k cal mc ms ls st w g nc ns = true) : W p l e R s m args below meth c H locs nc ns Q (F0 m pc la vs) := by
  obtain ⟨hZ, hx, hb, hml, hown, hKs, hsc, hA, hts, hR, hRd, hin, hcal, hjt⟩ := hF
  obtain ⟨h1, h2⟩ := zk_and hr
  have hd := zk_dec h1
  have hn := zk_nx hV h2
  exact zs_null hK hn h hH (fun k9 => lv_null hx hb hd k9)

theorem zz_iaload  (hF : ze_Fx p l R s m args meth c dC dI dA sp xs A o nL d cc rt ini jt cal mc ms) (hK : ze_KK p l e R s m args below meth c Q z0 dC dI dA sp xs A nL (fun cs => zk_code o cc nL rt ini jt cs = true) kk) (hV : zk_code o cc nL rt ini jt r = true) (hH : ze_H z0 dC dI dA sp xs A s nL ls st w g ρ ws H locs la vs) (hr : zk_s .iaload o cc nL rt ini jt pc ca cb cd tl r = true) (h : zo_iald r ca cb cd tl (ze_jp jt) kk k cal mc ms ls st w g nc ns = true) : W p l e R s m args below meth c H locs nc ns Q (F0 m pc la vs) := by
  obtain ⟨hZ, hx, hb, hml, hown, hKs, hsc, hA, hts, hR, hRd, hin, hcal, hjt⟩ := hF
  obtain ⟨h1, h2⟩ := zk_and hr
  have hd := zk_dec h1
  have hn := zk_nx hV h2
  exact zs_iald hx hb hKs hsc ze_a0 hd hK hn h hH

theorem zz_caload  (hF : ze_Fx p l R s m args meth c dC dI dA sp xs A o nL d cc rt ini jt cal mc ms) (hK : ze_KK p l e R s m args below meth c Q z0 dC dI dA sp xs A nL (fun cs => zk_code o cc nL rt ini jt cs = true) kk) (hV : zk_code o cc nL rt ini jt r = true) (hH : ze_H z0 dC dI dA sp xs A s nL ls st w g ρ ws H locs la vs) (hr : zk_s .caload o cc nL rt ini jt pc ca cb cd tl r = true) (h : zo_ald 101 r ca cb cd tl (ze_jp jt) kk k cal mc ms ls st w g nc ns = true) : W p l e R s m args below meth c H locs nc ns Q (F0 m pc la vs) := by
  obtain ⟨hZ, hx, hb, hml, hown, hKs, hsc, hA, hts, hR, hRd, hin, hcal, hjt⟩ := hF
  obtain ⟨h1, h2⟩ := zk_and hr
  have hd := zk_dec h1
  have hn := zk_nx hV h2
  exact zs_aldS (by decide) (by decide) hK hn h hH (fun q a n f i rest hw hin k9 => va_cald (D := (dC, dI)) hx hb (hKs.k1 ze_a1) hH.2.2.2.1 q 0 hw rfl hin hd k9)

theorem zz_baload  (hF : ze_Fx p l R s m args meth c dC dI dA sp xs A o nL d cc rt ini jt cal mc ms) (hK : ze_KK p l e R s m args below meth c Q z0 dC dI dA sp xs A nL (fun cs => zk_code o cc nL rt ini jt cs = true) kk) (hV : zk_code o cc nL rt ini jt r = true) (hH : ze_H z0 dC dI dA sp xs A s nL ls st w g ρ ws H locs la vs) (hr : zk_s .baload o cc nL rt ini jt pc ca cb cd tl r = true) (h : zo_ald 104 r ca cb cd tl (ze_jp jt) kk k cal mc ms ls st w g nc ns = true) : W p l e R s m args below meth c H locs nc ns Q (F0 m pc la vs) := by
  obtain ⟨hZ, hx, hb, hml, hown, hKs, hsc, hA, hts, hR, hRd, hin, hcal, hjt⟩ := hF
  obtain ⟨h1, h2⟩ := zk_and hr
  have hd := zk_dec h1
  have hn := zk_nx hV h2
  exact zs_aldS (by decide) (by decide) hK hn h hH (fun q a n f i rest hw hin k9 => va_zald (D := (dC, dI)) hx hb (hKs.k1 ze_a4) hH.2.2.2.1 q 0 hw rfl hin hd k9)

theorem zz_laload  (hF : ze_Fx p l R s m args meth c dC dI dA sp xs A o nL d cc rt ini jt cal mc ms) (hK : ze_KK p l e R s m args below meth c Q z0 dC dI dA sp xs A nL (fun cs => zk_code o cc nL rt ini jt cs = true) kk) (hV : zk_code o cc nL rt ini jt r = true) (hH : ze_H z0 dC dI dA sp xs A s nL ls st w g ρ ws H locs la vs) (hr : zk_s .laload o cc nL rt ini jt pc ca cb cd tl r = true) (h : zo_lald r ca cb cd tl (ze_jp jt) kk k cal mc ms ls st w g nc ns = true) : W p l e R s m args below meth c H locs nc ns Q (F0 m pc la vs) := by
  obtain ⟨hZ, hx, hb, hml, hown, hKs, hsc, hA, hts, hR, hRd, hin, hcal, hjt⟩ := hF
  obtain ⟨h1, h2⟩ := zk_and hr
  have hd := zk_dec h1
  have hn := zk_nx hV h2
  exact zs_lald hK hn h hH (fun q a n f i rest hw hin k9 => va_lald (D := (dC, dI)) hx hb (hKs.k1 ze_a5) hH.2.2.2.1 q 0 hw rfl hin hd k9)

theorem zz_aaload  (hF : ze_Fx p l R s m args meth c dC dI dA sp xs A o nL d cc rt ini jt cal mc ms) (hK : ze_KK p l e R s m args below meth c Q z0 dC dI dA sp xs A nL (fun cs => zk_code o cc nL rt ini jt cs = true) kk) (hV : zk_code o cc nL rt ini jt r = true) (hH : ze_H z0 dC dI dA sp xs A s nL ls st w g ρ ws H locs la vs) (hr : zk_s .aaload o cc nL rt ini jt pc ca cb cd tl r = true) (h : zo_aald r ca cb cd tl (ze_jp jt) kk k cal mc ms ls st w g nc ns = true) : W p l e R s m args below meth c H locs nc ns Q (F0 m pc la vs) := by
  obtain ⟨hZ, hx, hb, hml, hown, hKs, hsc, hA, hts, hR, hRd, hin, hcal, hjt⟩ := hF
  obtain ⟨h1, h2⟩ := zk_and hr
  have hd := zk_dec h1
  have hn := zk_nx hV h2
  exact zs_aald hx hb hKs hZ.2.1 hd hK hn h hH

theorem zz_iastore  (hF : ze_Fx p l R s m args meth c dC dI dA sp xs A o nL d cc rt ini jt cal mc ms) (hK : ze_KK p l e R s m args below meth c Q z0 dC dI dA sp xs A nL (fun cs => zk_code o cc nL rt ini jt cs = true) kk) (hV : zk_code o cc nL rt ini jt r = true) (hH : ze_H z0 dC dI dA sp xs A s nL ls st w g ρ ws H locs la vs) (hr : zk_s .iastore o cc nL rt ini jt pc ca cb cd tl r = true) (h : zo_iast r ca cb cd tl (ze_jp jt) kk k cal mc ms ls st w g nc ns = true) : W p l e R s m args below meth c H locs nc ns Q (F0 m pc la vs) := by
  obtain ⟨hZ, hx, hb, hml, hown, hKs, hsc, hA, hts, hR, hRd, hin, hcal, hjt⟩ := hF
  obtain ⟨h1, h2⟩ := zk_and hr
  have hd := zk_dec h1
  have hn := zk_nx hV h2
  exact zs_iast hx hb hKs ze_a0 hd hK hn h hH

theorem zz_castore  (hF : ze_Fx p l R s m args meth c dC dI dA sp xs A o nL d cc rt ini jt cal mc ms) (hK : ze_KK p l e R s m args below meth c Q z0 dC dI dA sp xs A nL (fun cs => zk_code o cc nL rt ini jt cs = true) kk) (hV : zk_code o cc nL rt ini jt r = true) (hH : ze_H z0 dC dI dA sp xs A s nL ls st w g ρ ws H locs la vs) (hr : zk_s .castore o cc nL rt ini jt pc ca cb cd tl r = true) (h : zo_cast r ca cb cd tl (ze_jp jt) kk k cal mc ms ls st w g nc ns = true) : W p l e R s m args below meth c H locs nc ns Q (F0 m pc la vs) := by
  obtain ⟨hZ, hx, hb, hml, hown, hKs, hsc, hA, hts, hR, hRd, hin, hcal, hjt⟩ := hF
  obtain ⟨h1, h2⟩ := zk_and hr
  have hd := zk_dec h1
  have hn := zk_nx hV h2
  exact zs_cast hx hb hKs ze_a1 hd hK hn h hH

theorem zz_bastore  (hF : ze_Fx p l R s m args meth c dC dI dA sp xs A o nL d cc rt ini jt cal mc ms) (hK : ze_KK p l e R s m args below meth c Q z0 dC dI dA sp xs A nL (fun cs => zk_code o cc nL rt ini jt cs = true) kk) (hV : zk_code o cc nL rt ini jt r = true) (hH : ze_H z0 dC dI dA sp xs A s nL ls st w g ρ ws H locs la vs) (hr : zk_s .bastore o cc nL rt ini jt pc ca cb cd tl r = true) (h : zo_bast r ca cb cd tl (ze_jp jt) kk k cal mc ms ls st w g nc ns = true) : W p l e R s m args below meth c H locs nc ns Q (F0 m pc la vs) := by
  obtain ⟨hZ, hx, hb, hml, hown, hKs, hsc, hA, hts, hR, hRd, hin, hcal, hjt⟩ := hF
  obtain ⟨h1, h2⟩ := zk_and hr
  have hd := zk_dec h1
  have hn := zk_nx hV h2
  exact zs_bast hx hb hKs ze_a4 hd hK hn h hH

theorem zz_lastore  (hF : ze_Fx p l R s m args meth c dC dI dA sp xs A o nL d cc rt ini jt cal mc ms) (hK : ze_KK p l e R s m args below meth c Q z0 dC dI dA sp xs A nL (fun cs => zk_code o cc nL rt ini jt cs = true) kk) (hV : zk_code o cc nL rt ini jt r = true) (hH : ze_H z0 dC dI dA sp xs A s nL ls st w g ρ ws H locs la vs) (hr : zk_s .lastore o cc nL rt ini jt pc ca cb cd tl r = true) (h : zo_last r ca cb cd tl (ze_jp jt) kk k cal mc ms ls st w g nc ns = true) : W p l e R s m args below meth c H locs nc ns Q (F0 m pc la vs) := by
  obtain ⟨hZ, hx, hb, hml, hown, hKs, hsc, hA, hts, hR, hRd, hin, hcal, hjt⟩ := hF
  obtain ⟨h1, h2⟩ := zk_and hr
  have hd := zk_dec h1
  have hn := zk_nx hV h2
  exact zs_last hx hb hKs ze_a5 hd hK hn h hH

theorem zz_aastore  (hF : ze_Fx p l R s m args meth c dC dI dA sp xs A o nL d cc rt ini jt cal mc ms) (hK : ze_KK p l e R s m args below meth c Q z0 dC dI dA sp xs A nL (fun cs => zk_code o cc nL rt ini jt cs = true) kk) (hV : zk_code o cc nL rt ini jt r = true) (hH : ze_H z0 dC dI dA sp xs A s nL ls st w g ρ ws H locs la vs) (hr : zk_s .aastore o cc nL rt ini jt pc ca cb cd tl r = true) (h : zo_aast r ca cb cd tl (ze_jp jt) kk k cal mc ms ls st w g nc ns = true) : W p l e R s m args below meth c H locs nc ns Q (F0 m pc la vs) := by
  obtain ⟨hZ, hx, hb, hml, hown, hKs, hsc, hA, hts, hR, hRd, hin, hcal, hjt⟩ := hF
  obtain ⟨h1, h2⟩ := zk_and hr
  have hd := zk_dec h1
  have hn := zk_nx hV h2
  exact zs_aast hx hb hKs hZ.2.1 hZ.1 hd hK hn h hH

theorem zz_arraylength  (hF : ze_Fx p l R s m args meth c dC dI dA sp xs A o nL d cc rt ini jt cal mc ms) (hK : ze_KK p l e R s m args below meth c Q z0 dC dI dA sp xs A nL (fun cs => zk_code o cc nL rt ini jt cs = true) kk) (hV : zk_code o cc nL rt ini jt r = true) (hH : ze_H z0 dC dI dA sp xs A s nL ls st w g ρ ws H locs la vs) (hr : zk_s .arraylength o cc nL rt ini jt pc ca cb cd tl r = true) (h : zo_alen r ca cb cd tl (ze_jp jt) kk k cal mc ms ls st w g nc ns = true) : W p l e R s m args below meth c H locs nc ns Q (F0 m pc la vs) := by
  obtain ⟨hZ, hx, hb, hml, hown, hKs, hsc, hA, hts, hR, hRd, hin, hcal, hjt⟩ := hF
  obtain ⟨h1, h2⟩ := zk_and hr
  have hd := zk_dec h1
  have hn := zk_nx hV h2
  exact zs_alen hx hb hKs hsc ze_aa hd hK hn h hH

theorem zz_iconst {n9 : Int} (hF : ze_Fx p l R s m args meth c dC dI dA sp xs A o nL d cc rt ini jt cal mc ms) (hK : ze_KK p l e R s m args below meth c Q z0 dC dI dA sp xs A nL (fun cs => zk_code o cc nL rt ini jt cs = true) kk) (hV : zk_code o cc nL rt ini jt r = true) (hH : ze_H z0 dC dI dA sp xs A s nL ls st w g ρ ws H locs la vs) (hr : zk_ic n9 o cc nL rt ini jt pc ca cb cd tl r = true) (h : zo_cst r ca cb cd tl (ze_jp jt) kk k cal mc ms ls st w g nc ns = true) : W p l e R s m args below meth c H locs nc ns Q (F0 m pc la vs) := by
  obtain ⟨hZ, hx, hb, hml, hown, hKs, hsc, hA, hts, hR, hRd, hin, hcal, hjt⟩ := hF
  obtain ⟨h1, h3⟩ := zk_and hr
  obtain ⟨h1, h2⟩ := zk_and h1
  have hd := zk_dec h1
  have hn := zk_nx hV h2
  have h3 := of_decide_eq_true h3
  exact zs_cst hK hn h hH (fun k9 => lv_iconst hx hb hd h3 k9)

theorem zz_bipush {n9 : Int} (hF : ze_Fx p l R s m args meth c dC dI dA sp xs A o nL d cc rt ini jt cal mc ms) (hK : ze_KK p l e R s m args below meth c Q z0 dC dI dA sp xs A nL (fun cs => zk_code o cc nL rt ini jt cs = true) kk) (hV : zk_code o cc nL rt ini jt r = true) (hH : ze_H z0 dC dI dA sp xs A s nL ls st w g ρ ws H locs la vs) (hr : zk_bi n9 o cc nL rt ini jt pc ca cb cd tl r = true) (h : zo_cst r ca cb cd tl (ze_jp jt) kk k cal mc ms ls st w g nc ns = true) : W p l e R s m args below meth c H locs nc ns Q (F0 m pc la vs) := by
  obtain ⟨hZ, hx, hb, hml, hown, hKs, hsc, hA, hts, hR, hRd, hin, hcal, hjt⟩ := hF
  obtain ⟨h1, h3⟩ := zk_and hr
  obtain ⟨h1, h2⟩ := zk_and h1
  have hd := zk_dec h1
  have hn := zk_nx hV h2
  have h3 := of_decide_eq_true h3
  exact zs_cst hK hn h hH (fun k9 => lv_bipush hx hb hd h3 k9)

theorem zz_sipush {n9 : Int} (hF : ze_Fx p l R s m args meth c dC dI dA sp xs A o nL d cc rt ini jt cal mc ms) (hK : ze_KK p l e R s m args below meth c Q z0 dC dI dA sp xs A nL (fun cs => zk_code o cc nL rt ini jt cs = true) kk) (hV : zk_code o cc nL rt ini jt r = true) (hH : ze_H z0 dC dI dA sp xs A s nL ls st w g ρ ws H locs la vs) (hr : zk_si n9 o cc nL rt ini jt pc ca cb cd tl r = true) (h : zo_cst r ca cb cd tl (ze_jp jt) kk k cal mc ms ls st w g nc ns = true) : W p l e R s m args below meth c H locs nc ns Q (F0 m pc la vs) := by
  obtain ⟨hZ, hx, hb, hml, hown, hKs, hsc, hA, hts, hR, hRd, hin, hcal, hjt⟩ := hF
  obtain ⟨h1, h3⟩ := zk_and hr
  obtain ⟨h1, h2⟩ := zk_and h1
  have hd := zk_dec h1
  have hn := zk_nx hV h2
  have h3 := of_decide_eq_true h3
  exact zs_cst hK hn h hH (fun k9 => lv_sipush hx hb hd h3 k9)

theorem zz_lconst {n9 : Fin 2} (hF : ze_Fx p l R s m args meth c dC dI dA sp xs A o nL d cc rt ini jt cal mc ms) (hK : ze_KK p l e R s m args below meth c Q z0 dC dI dA sp xs A nL (fun cs => zk_code o cc nL rt ini jt cs = true) kk) (hV : zk_code o cc nL rt ini jt r = true) (hH : ze_H z0 dC dI dA sp xs A s nL ls st w g ρ ws H locs la vs) (hr : zk_lc n9 o cc nL rt ini jt pc ca cb cd tl r = true) (h : zo_lcst r ca cb cd tl (ze_jp jt) kk k cal mc ms ls st w g nc ns = true) : W p l e R s m args below meth c H locs nc ns Q (F0 m pc la vs) := by
  obtain ⟨hZ, hx, hb, hml, hown, hKs, hsc, hA, hts, hR, hRd, hin, hcal, hjt⟩ := hF
  obtain ⟨h1, h3⟩ := zk_and hr
  obtain ⟨h1, h2⟩ := zk_and h1
  have hd := zk_dec h1
  have hn := zk_nx hV h2
  have h3 := of_decide_eq_true h3
  exact zs_lcst hK hn h hH (fun k9 => lv_lconst hx hb hd h3 k9)

theorem za_ldcwS (hexec : p.tables.exec = Jvm.exec) (hb : c.code = cc) {own tx : String} {index q : Nat} {rest : List Value} (hown : s.vm.findClass own = some m.cls) (hZ : vk_R own index tx q s) (hdg : decode cc pc = .ok (.ldc_w index, 3))
    (k : W p l e R s m args below meth c H locs nc ns Q (F0 m (pc + 3) la (.ref q :: rest))) : W p l e R s m args below meth c H locs nc ns Q (F0 m pc la rest) := by
  intro T hT X
  obtain ⟨t, a1, b1⟩ := k T hT X
  refine ⟨t, ?_, b1⟩
  obtain ⟨k0, cf, i, a', hk, hcf, hcp, -, hr, hev'⟩ := Cond.stringRef_spec hown hZ.1
  cases hZ.2.symm.trans hev'
  obtain ⟨k', hk', he⟩ := X.warmed.alike.2.2 _ _ hk
  have hr' : k'.resolved[index]? = some (some (.string q)) := by
    rcases X.warmed.entry hk hk' index with h | ⟨h, -⟩
    · rw [h]; exact hr
    · rw [hr] at h; cases h
  have hdg2 : decode c.code (F0 m pc la rest).pc = .ok (.ldc_w index, 3) := by rw [hb]; exact hdg
  jvm_step X.here [hexec, hdg2, ldc_w.wp_string (e := e) (s := T) (f := F0 m pc la rest) X.here.top hk' (by rw [he]; exact hcf) hcp hr']
  exact a1
theorem zz_ldc {n9 : Nat} (hF : ze_Fx p l R s m args meth c dC dI dA sp xs A o nL d cc rt ini jt cal mc ms) (hK : ze_KK p l e R s m args below meth c Q z0 dC dI dA sp xs A nL (fun cs => zk_code o cc nL rt ini jt cs = true) kk) (hV : zk_code o cc nL rt ini jt r = true) (hH : ze_H z0 dC dI dA sp xs A s nL ls st w g ρ ws H locs la vs) (hr : zk_ld n9 o cc nL rt ini jt pc ca cb cd tl r = true) (h : zo_ldcs r ca cb cd tl (ze_jp jt) kk k cal mc ms ls st w g nc ns = true) : W p l e R s m args below meth c H locs nc ns Q (F0 m pc la vs) := by
  obtain ⟨hZ, hx, hb, hml, hown, hKs, hsc, hA, hts, hR, hRd, hin, hcal, hjt⟩ := hF
  obtain ⟨h1, h3⟩ := zk_and hr
  obtain ⟨h1, h2⟩ := zk_and h1
  have hd := zk_dec h1
  have hn := zk_nx hV h2
  rcases zk_or h3 with h3 | h3
  · obtain ⟨h4, h5⟩ := zk_and h3
    have h4 := of_decide_eq_true h4
    have h5 := of_decide_eq_true h5
    subst h4
    exact zs_cst (cb := 0) (cd := cd) (tl := tl) (jp := ze_jp jt) (k := k) (cal := cal) (mc := mc) (ms := ms) hK hn (show zo_cst r ca 0 cd tl (ze_jp jt) kk k cal mc ms ls st w g nc ns = true from h) hH (fun k9 => lv_ldc hx hb hown (hts _ (hZ.2.2.2.2.2.2.1 o n9 ca h5)) hd k9)
  · obtain ⟨h4, h5⟩ := zk_and h3
    have h4 := of_decide_eq_true h4
    have h5 := of_decide_eq_true h5
    subst h4
    obtain ⟨h6, h⟩ := ze_condf (show zcd (Nat.ble 12 ca) (kk r ls (eX ca :: st) w g nc ns) false = true from h)
    have h6 := ze_ble' h6
    refine va_ldcS hx hb hown (hsc.2.2.2.2.2.2 o n9 ca h5) hd ?_
    refine hK _ _ _ _ _ _ _ h _ hn _ _ _ _ _ _ (hH.stk ⟨?_, hH.2.2.2.2.2.2.2⟩)
    obtain ⟨q, rfl⟩ : ∃ q, ca = q + 2 := ⟨ca - 2, by omega⟩
    show Value.ref (sp (q + 2 - 2)) = .ref (sp q)
    rw [Nat.add_sub_cancel]

theorem zz_ldc_w {n9 : Nat} (hF : ze_Fx p l R s m args meth c dC dI dA sp xs A o nL d cc rt ini jt cal mc ms) (hK : ze_KK p l e R s m args below meth c Q z0 dC dI dA sp xs A nL (fun cs => zk_code o cc nL rt ini jt cs = true) kk) (hV : zk_code o cc nL rt ini jt r = true) (hH : ze_H z0 dC dI dA sp xs A s nL ls st w g ρ ws H locs la vs) (hr : zk_ldw n9 o cc nL rt ini jt pc ca cb cd tl r = true) (h : zo_ldcs r ca cb cd tl (ze_jp jt) kk k cal mc ms ls st w g nc ns = true) : W p l e R s m args below meth c H locs nc ns Q (F0 m pc la vs) := by
  obtain ⟨hZ, hx, hb, hml, hown, hKs, hsc, hA, hts, hR, hRd, hin, hcal, hjt⟩ := hF
  obtain ⟨h1, h3⟩ := zk_and hr
  obtain ⟨h1, h2⟩ := zk_and h1
  have hd := zk_dec h1
  have hn := zk_nx hV h2
  rcases zk_or h3 with h3 | h3
  · obtain ⟨h4, h5⟩ := zk_and h3
    have h4 := of_decide_eq_true h4
    have h5 := of_decide_eq_true h5
    subst h4
    exact zs_cst (cb := 0) (cd := cd) (tl := tl) (jp := ze_jp jt) (k := k) (cal := cal) (mc := mc) (ms := ms) hK hn (show zo_cst r ca 0 cd tl (ze_jp jt) kk k cal mc ms ls st w g nc ns = true from h) hH (fun k9 => lv_ldcw hx hb hown (hts _ (hZ.2.2.2.2.2.2.1 o n9 ca h5)) hd k9)
  · obtain ⟨h4, h5⟩ := zk_and h3
    have h4 := of_decide_eq_true h4
    have h5 := of_decide_eq_true h5
    subst h4
    obtain ⟨h6, h⟩ := ze_condf (show zcd (Nat.ble 12 ca) (kk r ls (eX ca :: st) w g nc ns) false = true from h)
    have h6 := ze_ble' h6
    refine za_ldcwS hx hb hown (hsc.2.2.2.2.2.2 o n9 ca h5) hd ?_
    refine hK _ _ _ _ _ _ _ h _ hn _ _ _ _ _ _ (hH.stk ⟨?_, hH.2.2.2.2.2.2.2⟩)
    obtain ⟨q, rfl⟩ : ∃ q, ca = q + 2 := ⟨ca - 2, by omega⟩
    show Value.ref (sp (q + 2 - 2)) = .ref (sp q)
    rw [Nat.add_sub_cancel]

theorem zz_ldc2_w {n9 : Nat} (hF : ze_Fx p l R s m args meth c dC dI dA sp xs A o nL d cc rt ini jt cal mc ms) (hK : ze_KK p l e R s m args below meth c Q z0 dC dI dA sp xs A nL (fun cs => zk_code o cc nL rt ini jt cs = true) kk) (hV : zk_code o cc nL rt ini jt r = true) (hH : ze_H z0 dC dI dA sp xs A s nL ls st w g ρ ws H locs la vs) (hr : zk_ld2 n9 o cc nL rt ini jt pc ca cb cd tl r = true) (h : zo_lcst r ca cb cd tl (ze_jp jt) kk k cal mc ms ls st w g nc ns = true) : W p l e R s m args below meth c H locs nc ns Q (F0 m pc la vs) := by
  obtain ⟨hZ, hx, hb, hml, hown, hKs, hsc, hA, hts, hR, hRd, hin, hcal, hjt⟩ := hF
  obtain ⟨h1, h3⟩ := zk_and hr
  obtain ⟨h1, h2⟩ := zk_and h1
  have hd := zk_dec h1
  have hn := zk_nx hV h2
  have h3 := of_decide_eq_true h3
  exact zs_lcst hK hn h hH (fun k9 => lv_ldc2 hx hb hown (hts _ (hZ.2.2.2.2.2.2.2.1 o n9 ca h3)) hd k9)

theorem zz_iload_n {n9 : Fin 4} (hF : ze_Fx p l R s m args meth c dC dI dA sp xs A o nL d cc rt ini jt cal mc ms) (hK : ze_KK p l e R s m args below meth c Q z0 dC dI dA sp xs A nL (fun cs => zk_code o cc nL rt ini jt cs = true) kk) (hV : zk_code o cc nL rt ini jt r = true) (hH : ze_H z0 dC dI dA sp xs A s nL ls st w g ρ ws H locs la vs) (hr : zk_x (.iload_n n9) 1 n9.val o cc nL rt ini jt pc ca cb cd tl r = true) (h : zo_iload r ca cb cd tl (ze_jp jt) kk k cal mc ms ls st w g nc ns = true) : W p l e R s m args below meth c H locs nc ns Q (F0 m pc la vs) := by
  obtain ⟨hZ, hx, hb, hml, hown, hKs, hsc, hA, hts, hR, hRd, hin, hcal, hjt⟩ := hF
  obtain ⟨h1, h3⟩ := zk_and hr
  obtain ⟨h1, h2⟩ := zk_and h1
  have hd := zk_dec h1
  have hn := zk_nx hV h2
  have h3 := of_decide_eq_true h3
  exact zs_iload hK hn h hH (fun x q k9 => lv_iload_n hx hb hd h3 q k9)

theorem zz_lload_n {n9 : Fin 4} (hF : ze_Fx p l R s m args meth c dC dI dA sp xs A o nL d cc rt ini jt cal mc ms) (hK : ze_KK p l e R s m args below meth c Q z0 dC dI dA sp xs A nL (fun cs => zk_code o cc nL rt ini jt cs = true) kk) (hV : zk_code o cc nL rt ini jt r = true) (hH : ze_H z0 dC dI dA sp xs A s nL ls st w g ρ ws H locs la vs) (hr : zk_x (.lload_n n9) 1 n9.val o cc nL rt ini jt pc ca cb cd tl r = true) (h : zo_lload r ca cb cd tl (ze_jp jt) kk k cal mc ms ls st w g nc ns = true) : W p l e R s m args below meth c H locs nc ns Q (F0 m pc la vs) := by
  obtain ⟨hZ, hx, hb, hml, hown, hKs, hsc, hA, hts, hR, hRd, hin, hcal, hjt⟩ := hF
  obtain ⟨h1, h3⟩ := zk_and hr
  obtain ⟨h1, h2⟩ := zk_and h1
  have hd := zk_dec h1
  have hn := zk_nx hV h2
  have h3 := of_decide_eq_true h3
  exact zs_lload hK hn h hH (fun x q k9 => lv_lload_n hx hb hd h3 q k9)

theorem zz_aload_n {n9 : Fin 4} (hF : ze_Fx p l R s m args meth c dC dI dA sp xs A o nL d cc rt ini jt cal mc ms) (hK : ze_KK p l e R s m args below meth c Q z0 dC dI dA sp xs A nL (fun cs => zk_code o cc nL rt ini jt cs = true) kk) (hV : zk_code o cc nL rt ini jt r = true) (hH : ze_H z0 dC dI dA sp xs A s nL ls st w g ρ ws H locs la vs) (hr : zk_x (.aload_n n9) 1 n9.val o cc nL rt ini jt pc ca cb cd tl r = true) (h : zo_aload r ca cb cd tl (ze_jp jt) kk k cal mc ms ls st w g nc ns = true) : W p l e R s m args below meth c H locs nc ns Q (F0 m pc la vs) := by
  obtain ⟨hZ, hx, hb, hml, hown, hKs, hsc, hA, hts, hR, hRd, hin, hcal, hjt⟩ := hF
  obtain ⟨h1, h3⟩ := zk_and hr
  obtain ⟨h1, h2⟩ := zk_and h1
  have hd := zk_dec h1
  have hn := zk_nx hV h2
  have h3 := of_decide_eq_true h3
  exact zs_aload hK hn h hH (fun x q k9 => lv_aload_n hx hb hd h3 q k9) (fun q k9 => lv_aload_nN hx hb hd h3 q k9)

theorem zz_iload {n9 : Nat} (hF : ze_Fx p l R s m args meth c dC dI dA sp xs A o nL d cc rt ini jt cal mc ms) (hK : ze_KK p l e R s m args below meth c Q z0 dC dI dA sp xs A nL (fun cs => zk_code o cc nL rt ini jt cs = true) kk) (hV : zk_code o cc nL rt ini jt r = true) (hH : ze_H z0 dC dI dA sp xs A s nL ls st w g ρ ws H locs la vs) (hr : zk_x (.iload n9) 2 n9 o cc nL rt ini jt pc ca cb cd tl r = true) (h : zo_iload r ca cb cd tl (ze_jp jt) kk k cal mc ms ls st w g nc ns = true) : W p l e R s m args below meth c H locs nc ns Q (F0 m pc la vs) := by
  obtain ⟨hZ, hx, hb, hml, hown, hKs, hsc, hA, hts, hR, hRd, hin, hcal, hjt⟩ := hF
  obtain ⟨h1, h3⟩ := zk_and hr
  obtain ⟨h1, h2⟩ := zk_and h1
  have hd := zk_dec h1
  have hn := zk_nx hV h2
  have h3 := of_decide_eq_true h3
  subst h3
  exact zs_iload hK hn h hH (fun x q k9 => lv_iload hx hb hd q k9)

theorem zz_lload {n9 : Nat} (hF : ze_Fx p l R s m args meth c dC dI dA sp xs A o nL d cc rt ini jt cal mc ms) (hK : ze_KK p l e R s m args below meth c Q z0 dC dI dA sp xs A nL (fun cs => zk_code o cc nL rt ini jt cs = true) kk) (hV : zk_code o cc nL rt ini jt r = true) (hH : ze_H z0 dC dI dA sp xs A s nL ls st w g ρ ws H locs la vs) (hr : zk_x (.lload n9) 2 n9 o cc nL rt ini jt pc ca cb cd tl r = true) (h : zo_lload r ca cb cd tl (ze_jp jt) kk k cal mc ms ls st w g nc ns = true) : W p l e R s m args below meth c H locs nc ns Q (F0 m pc la vs) := by
  obtain ⟨hZ, hx, hb, hml, hown, hKs, hsc, hA, hts, hR, hRd, hin, hcal, hjt⟩ := hF
  obtain ⟨h1, h3⟩ := zk_and hr
  obtain ⟨h1, h2⟩ := zk_and h1
  have hd := zk_dec h1
  have hn := zk_nx hV h2
  have h3 := of_decide_eq_true h3
  subst h3
  exact zs_lload hK hn h hH (fun x q k9 => lv_lload hx hb hd q k9)

theorem zz_aload {n9 : Nat} (hF : ze_Fx p l R s m args meth c dC dI dA sp xs A o nL d cc rt ini jt cal mc ms) (hK : ze_KK p l e R s m args below meth c Q z0 dC dI dA sp xs A nL (fun cs => zk_code o cc nL rt ini jt cs = true) kk) (hV : zk_code o cc nL rt ini jt r = true) (hH : ze_H z0 dC dI dA sp xs A s nL ls st w g ρ ws H locs la vs) (hr : zk_x (.aload n9) 2 n9 o cc nL rt ini jt pc ca cb cd tl r = true) (h : zo_aload r ca cb cd tl (ze_jp jt) kk k cal mc ms ls st w g nc ns = true) : W p l e R s m args below meth c H locs nc ns Q (F0 m pc la vs) := by
  obtain ⟨hZ, hx, hb, hml, hown, hKs, hsc, hA, hts, hR, hRd, hin, hcal, hjt⟩ := hF
  obtain ⟨h1, h3⟩ := zk_and hr
  obtain ⟨h1, h2⟩ := zk_and h1
  have hd := zk_dec h1
  have hn := zk_nx hV h2
  have h3 := of_decide_eq_true h3
  subst h3
  exact zs_aload hK hn h hH (fun x q k9 => lv_aload hx hb hd q k9) (fun q k9 => lv_aloadN hx hb hd q k9)

theorem zz_istore_n {n9 : Fin 4} (hF : ze_Fx p l R s m args meth c dC dI dA sp xs A o nL d cc rt ini jt cal mc ms) (hK : ze_KK p l e R s m args below meth c Q z0 dC dI dA sp xs A nL (fun cs => zk_code o cc nL rt ini jt cs = true) kk) (hV : zk_code o cc nL rt ini jt r = true) (hH : ze_H z0 dC dI dA sp xs A s nL ls st w g ρ ws H locs la vs) (hr : zk_y (.istore_n n9) 1 n9.val 1 o cc nL rt ini jt pc ca cb cd tl r = true) (h : zo_istore r ca cb cd tl (ze_jp jt) kk k cal mc ms ls st w g nc ns = true) : W p l e R s m args below meth c H locs nc ns Q (F0 m pc la vs) := by
  obtain ⟨hZ, hx, hb, hml, hown, hKs, hsc, hA, hts, hR, hRd, hin, hcal, hjt⟩ := hF
  obtain ⟨h1, h4⟩ := zk_and hr
  obtain ⟨h1, h3⟩ := zk_and h1
  obtain ⟨h1, h2⟩ := zk_and h1
  have hd := zk_dec h1
  have hn := zk_nx hV h2
  have h3 := of_decide_eq_true h3
  have h4 := of_decide_eq_true h4
  exact zs_istore hK hn h hH (fun x rest lv q k9 => lv_istore_n hx hb hd h3 q (by omega) rfl k9)

theorem zz_istore {n9 : Nat} (hF : ze_Fx p l R s m args meth c dC dI dA sp xs A o nL d cc rt ini jt cal mc ms) (hK : ze_KK p l e R s m args below meth c Q z0 dC dI dA sp xs A nL (fun cs => zk_code o cc nL rt ini jt cs = true) kk) (hV : zk_code o cc nL rt ini jt r = true) (hH : ze_H z0 dC dI dA sp xs A s nL ls st w g ρ ws H locs la vs) (hr : zk_y (.istore n9) 2 n9 1 o cc nL rt ini jt pc ca cb cd tl r = true) (h : zo_istore r ca cb cd tl (ze_jp jt) kk k cal mc ms ls st w g nc ns = true) : W p l e R s m args below meth c H locs nc ns Q (F0 m pc la vs) := by
  obtain ⟨hZ, hx, hb, hml, hown, hKs, hsc, hA, hts, hR, hRd, hin, hcal, hjt⟩ := hF
  obtain ⟨h1, h4⟩ := zk_and hr
  obtain ⟨h1, h3⟩ := zk_and h1
  obtain ⟨h1, h2⟩ := zk_and h1
  have hd := zk_dec h1
  have hn := zk_nx hV h2
  have h3 := of_decide_eq_true h3
  have h4 := of_decide_eq_true h4
  subst h3
  exact zs_istore hK hn h hH (fun x rest lv q k9 => lv_istore hx hb hd q (by omega) rfl k9)

theorem zz_astore_n {n9 : Fin 4} (hF : ze_Fx p l R s m args meth c dC dI dA sp xs A o nL d cc rt ini jt cal mc ms) (hK : ze_KK p l e R s m args below meth c Q z0 dC dI dA sp xs A nL (fun cs => zk_code o cc nL rt ini jt cs = true) kk) (hV : zk_code o cc nL rt ini jt r = true) (hH : ze_H z0 dC dI dA sp xs A s nL ls st w g ρ ws H locs la vs) (hr : zk_y (.astore_n n9) 1 n9.val 1 o cc nL rt ini jt pc ca cb cd tl r = true) (h : zo_astore r ca cb cd tl (ze_jp jt) kk k cal mc ms ls st w g nc ns = true) : W p l e R s m args below meth c H locs nc ns Q (F0 m pc la vs) := by
  obtain ⟨hZ, hx, hb, hml, hown, hKs, hsc, hA, hts, hR, hRd, hin, hcal, hjt⟩ := hF
  obtain ⟨h1, h4⟩ := zk_and hr
  obtain ⟨h1, h3⟩ := zk_and h1
  obtain ⟨h1, h2⟩ := zk_and h1
  have hd := zk_dec h1
  have hn := zk_nx hV h2
  have h3 := of_decide_eq_true h3
  have h4 := of_decide_eq_true h4
  exact zs_astore hK hn h hH (fun x rest lv q k9 => lv_astore_n hx hb hd h3 q (by omega) rfl k9) (fun rest lv q k9 => lv_astore_nN hx hb hd h3 q (by omega) rfl k9)

theorem zz_astore {n9 : Nat} (hF : ze_Fx p l R s m args meth c dC dI dA sp xs A o nL d cc rt ini jt cal mc ms) (hK : ze_KK p l e R s m args below meth c Q z0 dC dI dA sp xs A nL (fun cs => zk_code o cc nL rt ini jt cs = true) kk) (hV : zk_code o cc nL rt ini jt r = true) (hH : ze_H z0 dC dI dA sp xs A s nL ls st w g ρ ws H locs la vs) (hr : zk_y (.astore n9) 2 n9 1 o cc nL rt ini jt pc ca cb cd tl r = true) (h : zo_astore r ca cb cd tl (ze_jp jt) kk k cal mc ms ls st w g nc ns = true) : W p l e R s m args below meth c H locs nc ns Q (F0 m pc la vs) := by
  obtain ⟨hZ, hx, hb, hml, hown, hKs, hsc, hA, hts, hR, hRd, hin, hcal, hjt⟩ := hF
  obtain ⟨h1, h4⟩ := zk_and hr
  obtain ⟨h1, h3⟩ := zk_and h1
  obtain ⟨h1, h2⟩ := zk_and h1
  have hd := zk_dec h1
  have hn := zk_nx hV h2
  have h3 := of_decide_eq_true h3
  have h4 := of_decide_eq_true h4
  subst h3
  exact zs_astore hK hn h hH (fun x rest lv q k9 => lv_astore hx hb hd q (by omega) rfl k9) (fun rest lv q k9 => lv_astoreN hx hb hd q (by omega) rfl k9)

theorem zz_lstore_n {n9 : Fin 4} (hF : ze_Fx p l R s m args meth c dC dI dA sp xs A o nL d cc rt ini jt cal mc ms) (hK : ze_KK p l e R s m args below meth c Q z0 dC dI dA sp xs A nL (fun cs => zk_code o cc nL rt ini jt cs = true) kk) (hV : zk_code o cc nL rt ini jt r = true) (hH : ze_H z0 dC dI dA sp xs A s nL ls st w g ρ ws H locs la vs) (hr : zk_y (.lstore_n n9) 1 n9.val 2 o cc nL rt ini jt pc ca cb cd tl r = true) (h : zo_lstore r ca cb cd tl (ze_jp jt) kk k cal mc ms ls st w g nc ns = true) : W p l e R s m args below meth c H locs nc ns Q (F0 m pc la vs) := by
  obtain ⟨hZ, hx, hb, hml, hown, hKs, hsc, hA, hts, hR, hRd, hin, hcal, hjt⟩ := hF
  obtain ⟨h1, h4⟩ := zk_and hr
  obtain ⟨h1, h3⟩ := zk_and h1
  obtain ⟨h1, h2⟩ := zk_and h1
  have hd := zk_dec h1
  have hn := zk_nx hV h2
  have h3 := of_decide_eq_true h3
  have h4 := of_decide_eq_true h4
  exact zs_lstore hK hn h hH (fun x rest lv q k9 => lv_lstore_n hx hb hd h3 q (by omega) rfl k9)

theorem zz_lstore {n9 : Nat} (hF : ze_Fx p l R s m args meth c dC dI dA sp xs A o nL d cc rt ini jt cal mc ms) (hK : ze_KK p l e R s m args below meth c Q z0 dC dI dA sp xs A nL (fun cs => zk_code o cc nL rt ini jt cs = true) kk) (hV : zk_code o cc nL rt ini jt r = true) (hH : ze_H z0 dC dI dA sp xs A s nL ls st w g ρ ws H locs la vs) (hr : zk_y (.lstore n9) 2 n9 2 o cc nL rt ini jt pc ca cb cd tl r = true) (h : zo_lstore r ca cb cd tl (ze_jp jt) kk k cal mc ms ls st w g nc ns = true) : W p l e R s m args below meth c H locs nc ns Q (F0 m pc la vs) := by
  obtain ⟨hZ, hx, hb, hml, hown, hKs, hsc, hA, hts, hR, hRd, hin, hcal, hjt⟩ := hF
  obtain ⟨h1, h4⟩ := zk_and hr
  obtain ⟨h1, h3⟩ := zk_and h1
  obtain ⟨h1, h2⟩ := zk_and h1
  have hd := zk_dec h1
  have hn := zk_nx hV h2
  have h3 := of_decide_eq_true h3
  have h4 := of_decide_eq_true h4
  subst h3
  exact zs_lstore hK hn h hH (fun x rest lv q k9 => lv_lstore hx hb hd q (by omega) rfl k9)

theorem zz_iinc {i9 : Nat} {n9 : Int} (hF : ze_Fx p l R s m args meth c dC dI dA sp xs A o nL d cc rt ini jt cal mc ms) (hK : ze_KK p l e R s m args below meth c Q z0 dC dI dA sp xs A nL (fun cs => zk_code o cc nL rt ini jt cs = true) kk) (hV : zk_code o cc nL rt ini jt r = true) (hH : ze_H z0 dC dI dA sp xs A s nL ls st w g ρ ws H locs la vs) (hr : zk_ii i9 n9 o cc nL rt ini jt pc ca cb cd tl r = true) (h : zo_iinc r ca cb cd tl (ze_jp jt) kk k cal mc ms ls st w g nc ns = true) : W p l e R s m args below meth c H locs nc ns Q (F0 m pc la vs) := by
  obtain ⟨hZ, hx, hb, hml, hown, hKs, hsc, hA, hts, hR, hRd, hin, hcal, hjt⟩ := hF
  obtain ⟨h1, h5⟩ := zk_and hr
  obtain ⟨h1, h4⟩ := zk_and h1
  obtain ⟨h1, h3⟩ := zk_and h1
  obtain ⟨h1, h2⟩ := zk_and h1
  have hd := zk_dec h1
  have hn := zk_nx hV h2
  have h3 := of_decide_eq_true h3
  have h4 := of_decide_eq_true h4
  have h5 := of_decide_eq_true h5
  subst h3
  exact zs_iinc hK hn h hH (fun x lv j q1 q2 k9 => lv_iinc hx hb hd q1 q2 (by rw [h5]) (by omega) rfl k9)

theorem zz_goto {f9 : Int} (hF : ze_Fx p l R s m args meth c dC dI dA sp xs A o nL d cc rt ini jt cal mc ms) (hK : ze_KK p l e R s m args below meth c Q z0 dC dI dA sp xs A nL (fun cs => zk_code o cc nL rt ini jt cs = true) kk) (hV : zk_code o cc nL rt ini jt r = true) (hH : ze_H z0 dC dI dA sp xs A s nL ls st w g ρ ws H locs la vs) (hr : zk_go f9 o cc nL rt ini jt pc ca cb cd tl r = true) (h : zo_goto r ca cb cd tl (ze_jp jt) kk k cal mc ms ls st w g nc ns = true) : W p l e R s m args below meth c H locs nc ns Q (F0 m pc la vs) := by
  obtain ⟨hZ, hx, hb, hml, hown, hKs, hsc, hA, hts, hR, hRd, hin, hcal, hjt⟩ := hF
  obtain ⟨h1, h2⟩ := zk_and hr
  have hd := zk_dec h1
  obtain ⟨tgt, ht1, ht2⟩ := zk_to hjt h2
  obtain ⟨cs9, q9, h9⟩ := ht2 _ h
  exact lv_goto hx hb hd ht1 (hK _ _ _ _ _ _ _ q9 _ h9 _ _ _ _ _ _ hH)

theorem zz_if_eq {f9 : Int} (hF : ze_Fx p l R s m args meth c dC dI dA sp xs A o nL d cc rt ini jt cal mc ms) (hK : ze_KK p l e R s m args below meth c Q z0 dC dI dA sp xs A nL (fun cs => zk_code o cc nL rt ini jt cs = true) kk) (hV : zk_code o cc nL rt ini jt r = true) (hH : ze_H z0 dC dI dA sp xs A s nL ls st w g ρ ws H locs la vs) (hr : zk_j (.ifCond .eq f9) f9 o cc nL rt ini jt pc ca cb cd tl r = true) (h : zo_b1 zc_eq r ca cb cd tl (ze_jp jt) kk k cal mc ms ls st w g nc ns = true) : W p l e R s m args below meth c H locs nc ns Q (F0 m pc la vs) := by
  obtain ⟨hZ, hx, hb, hml, hown, hKs, hsc, hA, hts, hR, hRd, hin, hcal, hjt⟩ := hF
  obtain ⟨h1, h3⟩ := zk_and hr
  obtain ⟨h1, h2⟩ := zk_and h1
  have hd := zk_dec h1
  have hn := zk_nx hV h2
  obtain ⟨tgt, ht1, ht2⟩ := zk_to hjt h3
  exact zs_b1 zc_eq_ok hK hn ht2 h hH (fun x rest kt kf => lv_if_eq hx hb hd ht1 kt kf)

theorem zz_icmp_eq {f9 : Int} (hF : ze_Fx p l R s m args meth c dC dI dA sp xs A o nL d cc rt ini jt cal mc ms) (hK : ze_KK p l e R s m args below meth c Q z0 dC dI dA sp xs A nL (fun cs => zk_code o cc nL rt ini jt cs = true) kk) (hV : zk_code o cc nL rt ini jt r = true) (hH : ze_H z0 dC dI dA sp xs A s nL ls st w g ρ ws H locs la vs) (hr : zk_j (.if_icmp .eq f9) f9 o cc nL rt ini jt pc ca cb cd tl r = true) (h : zo_b2 zc_eq r ca cb cd tl (ze_jp jt) kk k cal mc ms ls st w g nc ns = true) : W p l e R s m args below meth c H locs nc ns Q (F0 m pc la vs) := by
  obtain ⟨hZ, hx, hb, hml, hown, hKs, hsc, hA, hts, hR, hRd, hin, hcal, hjt⟩ := hF
  obtain ⟨h1, h3⟩ := zk_and hr
  obtain ⟨h1, h2⟩ := zk_and h1
  have hd := zk_dec h1
  have hn := zk_nx hV h2
  obtain ⟨tgt, ht1, ht2⟩ := zk_to hjt h3
  exact zs_b2 zc_eq_ok hK hn ht2 h hH (fun x y rest kt kf => lv_icmp_eq hx hb hd ht1 kt kf)

theorem zz_if_ne {f9 : Int} (hF : ze_Fx p l R s m args meth c dC dI dA sp xs A o nL d cc rt ini jt cal mc ms) (hK : ze_KK p l e R s m args below meth c Q z0 dC dI dA sp xs A nL (fun cs => zk_code o cc nL rt ini jt cs = true) kk) (hV : zk_code o cc nL rt ini jt r = true) (hH : ze_H z0 dC dI dA sp xs A s nL ls st w g ρ ws H locs la vs) (hr : zk_j (.ifCond .ne f9) f9 o cc nL rt ini jt pc ca cb cd tl r = true) (h : zo_b1 zc_ne r ca cb cd tl (ze_jp jt) kk k cal mc ms ls st w g nc ns = true) : W p l e R s m args below meth c H locs nc ns Q (F0 m pc la vs) := by
  obtain ⟨hZ, hx, hb, hml, hown, hKs, hsc, hA, hts, hR, hRd, hin, hcal, hjt⟩ := hF
  obtain ⟨h1, h3⟩ := zk_and hr
  obtain ⟨h1, h2⟩ := zk_and h1
  have hd := zk_dec h1
  have hn := zk_nx hV h2
  obtain ⟨tgt, ht1, ht2⟩ := zk_to hjt h3
  exact zs_b1 zc_ne_ok hK hn ht2 h hH (fun x rest kt kf => lv_if_ne hx hb hd ht1 kt kf)

theorem zz_icmp_ne {f9 : Int} (hF : ze_Fx p l R s m args meth c dC dI dA sp xs A o nL d cc rt ini jt cal mc ms) (hK : ze_KK p l e R s m args below meth c Q z0 dC dI dA sp xs A nL (fun cs => zk_code o cc nL rt ini jt cs = true) kk) (hV : zk_code o cc nL rt ini jt r = true) (hH : ze_H z0 dC dI dA sp xs A s nL ls st w g ρ ws H locs la vs) (hr : zk_j (.if_icmp .ne f9) f9 o cc nL rt ini jt pc ca cb cd tl r = true) (h : zo_b2 zc_ne r ca cb cd tl (ze_jp jt) kk k cal mc ms ls st w g nc ns = true) : W p l e R s m args below meth c H locs nc ns Q (F0 m pc la vs) := by
  obtain ⟨hZ, hx, hb, hml, hown, hKs, hsc, hA, hts, hR, hRd, hin, hcal, hjt⟩ := hF
  obtain ⟨h1, h3⟩ := zk_and hr
  obtain ⟨h1, h2⟩ := zk_and h1
  have hd := zk_dec h1
  have hn := zk_nx hV h2
  obtain ⟨tgt, ht1, ht2⟩ := zk_to hjt h3
  exact zs_b2 zc_ne_ok hK hn ht2 h hH (fun x y rest kt kf => lv_icmp_ne hx hb hd ht1 kt kf)

theorem zz_if_lt {f9 : Int} (hF : ze_Fx p l R s m args meth c dC dI dA sp xs A o nL d cc rt ini jt cal mc ms) (hK : ze_KK p l e R s m args below meth c Q z0 dC dI dA sp xs A nL (fun cs => zk_code o cc nL rt ini jt cs = true) kk) (hV : zk_code o cc nL rt ini jt r = true) (hH : ze_H z0 dC dI dA sp xs A s nL ls st w g ρ ws H locs la vs) (hr : zk_j (.ifCond .lt f9) f9 o cc nL rt ini jt pc ca cb cd tl r = true) (h : zo_b1 zc_lt r ca cb cd tl (ze_jp jt) kk k cal mc ms ls st w g nc ns = true) : W p l e R s m args below meth c H locs nc ns Q (F0 m pc la vs) := by
  obtain ⟨hZ, hx, hb, hml, hown, hKs, hsc, hA, hts, hR, hRd, hin, hcal, hjt⟩ := hF
  obtain ⟨h1, h3⟩ := zk_and hr
  obtain ⟨h1, h2⟩ := zk_and h1
  have hd := zk_dec h1
  have hn := zk_nx hV h2
  obtain ⟨tgt, ht1, ht2⟩ := zk_to hjt h3
  exact zs_b1 zc_lt_ok hK hn ht2 h hH (fun x rest kt kf => lv_if_lt hx hb hd ht1 kt kf)

theorem zz_icmp_lt {f9 : Int} (hF : ze_Fx p l R s m args meth c dC dI dA sp xs A o nL d cc rt ini jt cal mc ms) (hK : ze_KK p l e R s m args below meth c Q z0 dC dI dA sp xs A nL (fun cs => zk_code o cc nL rt ini jt cs = true) kk) (hV : zk_code o cc nL rt ini jt r = true) (hH : ze_H z0 dC dI dA sp xs A s nL ls st w g ρ ws H locs la vs) (hr : zk_j (.if_icmp .lt f9) f9 o cc nL rt ini jt pc ca cb cd tl r = true) (h : zo_b2 zc_lt r ca cb cd tl (ze_jp jt) kk k cal mc ms ls st w g nc ns = true) : W p l e R s m args below meth c H locs nc ns Q (F0 m pc la vs) := by
  obtain ⟨hZ, hx, hb, hml, hown, hKs, hsc, hA, hts, hR, hRd, hin, hcal, hjt⟩ := hF
  obtain ⟨h1, h3⟩ := zk_and hr
  obtain ⟨h1, h2⟩ := zk_and h1
  have hd := zk_dec h1
  have hn := zk_nx hV h2
  obtain ⟨tgt, ht1, ht2⟩ := zk_to hjt h3
  exact zs_b2 zc_lt_ok hK hn ht2 h hH (fun x y rest kt kf => lv_icmp_lt hx hb hd ht1 kt kf)

theorem zz_if_ge {f9 : Int} (hF : ze_Fx p l R s m args meth c dC dI dA sp xs A o nL d cc rt ini jt cal mc ms) (hK : ze_KK p l e R s m args below meth c Q z0 dC dI dA sp xs A nL (fun cs => zk_code o cc nL rt ini jt cs = true) kk) (hV : zk_code o cc nL rt ini jt r = true) (hH : ze_H z0 dC dI dA sp xs A s nL ls st w g ρ ws H locs la vs) (hr : zk_j (.ifCond .ge f9) f9 o cc nL rt ini jt pc ca cb cd tl r = true) (h : zo_b1 zc_ge r ca cb cd tl (ze_jp jt) kk k cal mc ms ls st w g nc ns = true) : W p l e R s m args below meth c H locs nc ns Q (F0 m pc la vs) := by
  obtain ⟨hZ, hx, hb, hml, hown, hKs, hsc, hA, hts, hR, hRd, hin, hcal, hjt⟩ := hF
  obtain ⟨h1, h3⟩ := zk_and hr
  obtain ⟨h1, h2⟩ := zk_and h1
  have hd := zk_dec h1
  have hn := zk_nx hV h2
  obtain ⟨tgt, ht1, ht2⟩ := zk_to hjt h3
  exact zs_b1 zc_ge_ok hK hn ht2 h hH (fun x rest kt kf => lv_if_ge hx hb hd ht1 kt kf)

theorem zz_icmp_ge {f9 : Int} (hF : ze_Fx p l R s m args meth c dC dI dA sp xs A o nL d cc rt ini jt cal mc ms) (hK : ze_KK p l e R s m args below meth c Q z0 dC dI dA sp xs A nL (fun cs => zk_code o cc nL rt ini jt cs = true) kk) (hV : zk_code o cc nL rt ini jt r = true) (hH : ze_H z0 dC dI dA sp xs A s nL ls st w g ρ ws H locs la vs) (hr : zk_j (.if_icmp .ge f9) f9 o cc nL rt ini jt pc ca cb cd tl r = true) (h : zo_b2 zc_ge r ca cb cd tl (ze_jp jt) kk k cal mc ms ls st w g nc ns = true) : W p l e R s m args below meth c H locs nc ns Q (F0 m pc la vs) := by
  obtain ⟨hZ, hx, hb, hml, hown, hKs, hsc, hA, hts, hR, hRd, hin, hcal, hjt⟩ := hF
  obtain ⟨h1, h3⟩ := zk_and hr
  obtain ⟨h1, h2⟩ := zk_and h1
  have hd := zk_dec h1
  have hn := zk_nx hV h2
  obtain ⟨tgt, ht1, ht2⟩ := zk_to hjt h3
  exact zs_b2 zc_ge_ok hK hn ht2 h hH (fun x y rest kt kf => lv_icmp_ge hx hb hd ht1 kt kf)

theorem zz_if_gt {f9 : Int} (hF : ze_Fx p l R s m args meth c dC dI dA sp xs A o nL d cc rt ini jt cal mc ms) (hK : ze_KK p l e R s m args below meth c Q z0 dC dI dA sp xs A nL (fun cs => zk_code o cc nL rt ini jt cs = true) kk) (hV : zk_code o cc nL rt ini jt r = true) (hH : ze_H z0 dC dI dA sp xs A s nL ls st w g ρ ws H locs la vs) (hr : zk_j (.ifCond .gt f9) f9 o cc nL rt ini jt pc ca cb cd tl r = true) (h : zo_b1 zc_gt r ca cb cd tl (ze_jp jt) kk k cal mc ms ls st w g nc ns = true) : W p l e R s m args below meth c H locs nc ns Q (F0 m pc la vs) := by
  obtain ⟨hZ, hx, hb, hml, hown, hKs, hsc, hA, hts, hR, hRd, hin, hcal, hjt⟩ := hF
  obtain ⟨h1, h3⟩ := zk_and hr
  obtain ⟨h1, h2⟩ := zk_and h1
  have hd := zk_dec h1
  have hn := zk_nx hV h2
  obtain ⟨tgt, ht1, ht2⟩ := zk_to hjt h3
  exact zs_b1 zc_gt_ok hK hn ht2 h hH (fun x rest kt kf => lv_if_gt hx hb hd ht1 kt kf)

theorem zz_icmp_gt {f9 : Int} (hF : ze_Fx p l R s m args meth c dC dI dA sp xs A o nL d cc rt ini jt cal mc ms) (hK : ze_KK p l e R s m args below meth c Q z0 dC dI dA sp xs A nL (fun cs => zk_code o cc nL rt ini jt cs = true) kk) (hV : zk_code o cc nL rt ini jt r = true) (hH : ze_H z0 dC dI dA sp xs A s nL ls st w g ρ ws H locs la vs) (hr : zk_j (.if_icmp .gt f9) f9 o cc nL rt ini jt pc ca cb cd tl r = true) (h : zo_b2 zc_gt r ca cb cd tl (ze_jp jt) kk k cal mc ms ls st w g nc ns = true) : W p l e R s m args below meth c H locs nc ns Q (F0 m pc la vs) := by
  obtain ⟨hZ, hx, hb, hml, hown, hKs, hsc, hA, hts, hR, hRd, hin, hcal, hjt⟩ := hF
  obtain ⟨h1, h3⟩ := zk_and hr
  obtain ⟨h1, h2⟩ := zk_and h1
  have hd := zk_dec h1
  have hn := zk_nx hV h2
  obtain ⟨tgt, ht1, ht2⟩ := zk_to hjt h3
  exact zs_b2 zc_gt_ok hK hn ht2 h hH (fun x y rest kt kf => lv_icmp_gt hx hb hd ht1 kt kf)

theorem zz_if_le {f9 : Int} (hF : ze_Fx p l R s m args meth c dC dI dA sp xs A o nL d cc rt ini jt cal mc ms) (hK : ze_KK p l e R s m args below meth c Q z0 dC dI dA sp xs A nL (fun cs => zk_code o cc nL rt ini jt cs = true) kk) (hV : zk_code o cc nL rt ini jt r = true) (hH : ze_H z0 dC dI dA sp xs A s nL ls st w g ρ ws H locs la vs) (hr : zk_j (.ifCond .le f9) f9 o cc nL rt ini jt pc ca cb cd tl r = true) (h : zo_b1 zc_le r ca cb cd tl (ze_jp jt) kk k cal mc ms ls st w g nc ns = true) : W p l e R s m args below meth c H locs nc ns Q (F0 m pc la vs) := by
  obtain ⟨hZ, hx, hb, hml, hown, hKs, hsc, hA, hts, hR, hRd, hin, hcal, hjt⟩ := hF
  obtain ⟨h1, h3⟩ := zk_and hr
  obtain ⟨h1, h2⟩ := zk_and h1
  have hd := zk_dec h1
  have hn := zk_nx hV h2
  obtain ⟨tgt, ht1, ht2⟩ := zk_to hjt h3
  exact zs_b1 zc_le_ok hK hn ht2 h hH (fun x rest kt kf => lv_if_le hx hb hd ht1 kt kf)

theorem zz_icmp_le {f9 : Int} (hF : ze_Fx p l R s m args meth c dC dI dA sp xs A o nL d cc rt ini jt cal mc ms) (hK : ze_KK p l e R s m args below meth c Q z0 dC dI dA sp xs A nL (fun cs => zk_code o cc nL rt ini jt cs = true) kk) (hV : zk_code o cc nL rt ini jt r = true) (hH : ze_H z0 dC dI dA sp xs A s nL ls st w g ρ ws H locs la vs) (hr : zk_j (.if_icmp .le f9) f9 o cc nL rt ini jt pc ca cb cd tl r = true) (h : zo_b2 zc_le r ca cb cd tl (ze_jp jt) kk k cal mc ms ls st w g nc ns = true) : W p l e R s m args below meth c H locs nc ns Q (F0 m pc la vs) := by
  obtain ⟨hZ, hx, hb, hml, hown, hKs, hsc, hA, hts, hR, hRd, hin, hcal, hjt⟩ := hF
  obtain ⟨h1, h3⟩ := zk_and hr
  obtain ⟨h1, h2⟩ := zk_and h1
  have hd := zk_dec h1
  have hn := zk_nx hV h2
  obtain ⟨tgt, ht1, ht2⟩ := zk_to hjt h3
  exact zs_b2 zc_le_ok hK hn ht2 h hH (fun x y rest kt kf => lv_icmp_le hx hb hd ht1 kt kf)

theorem zz_ifnull {f9 : Int} (hF : ze_Fx p l R s m args meth c dC dI dA sp xs A o nL d cc rt ini jt cal mc ms) (hK : ze_KK p l e R s m args below meth c Q z0 dC dI dA sp xs A nL (fun cs => zk_code o cc nL rt ini jt cs = true) kk) (hV : zk_code o cc nL rt ini jt r = true) (hH : ze_H z0 dC dI dA sp xs A s nL ls st w g ρ ws H locs la vs) (hr : zk_j (.ifnull f9) f9 o cc nL rt ini jt pc ca cb cd tl r = true) (h : zo_ifnull r ca cb cd tl (ze_jp jt) kk k cal mc ms ls st w g nc ns = true) : W p l e R s m args below meth c H locs nc ns Q (F0 m pc la vs) := by
  obtain ⟨hZ, hx, hb, hml, hown, hKs, hsc, hA, hts, hR, hRd, hin, hcal, hjt⟩ := hF
  obtain ⟨h1, h3⟩ := zk_and hr
  obtain ⟨h1, h2⟩ := zk_and h1
  have hd := zk_dec h1
  have hn := zk_nx hV h2
  obtain ⟨tgt, ht1, ht2⟩ := zk_to hjt h3
  exact zs_ifnull hK hn ht2 h hH (fun x rest k9 => lv_ifnull hx hb hd k9) (fun rest k9 => lv_ifnullN hx hb hd ht1 k9)

theorem zz_ifnonnull {f9 : Int} (hF : ze_Fx p l R s m args meth c dC dI dA sp xs A o nL d cc rt ini jt cal mc ms) (hK : ze_KK p l e R s m args below meth c Q z0 dC dI dA sp xs A nL (fun cs => zk_code o cc nL rt ini jt cs = true) kk) (hV : zk_code o cc nL rt ini jt r = true) (hH : ze_H z0 dC dI dA sp xs A s nL ls st w g ρ ws H locs la vs) (hr : zk_j (.ifnonnull f9) f9 o cc nL rt ini jt pc ca cb cd tl r = true) (h : zo_ifnonnull r ca cb cd tl (ze_jp jt) kk k cal mc ms ls st w g nc ns = true) : W p l e R s m args below meth c H locs nc ns Q (F0 m pc la vs) := by
  obtain ⟨hZ, hx, hb, hml, hown, hKs, hsc, hA, hts, hR, hRd, hin, hcal, hjt⟩ := hF
  obtain ⟨h1, h3⟩ := zk_and hr
  obtain ⟨h1, h2⟩ := zk_and h1
  have hd := zk_dec h1
  have hn := zk_nx hV h2
  obtain ⟨tgt, ht1, ht2⟩ := zk_to hjt h3
  exact zs_ifnonnull hK hn ht2 h hH (fun x rest k9 => lv_ifnonnull hx hb hd ht1 k9) (fun rest k9 => lv_ifnonnullN hx hb hd k9)

theorem zz_tableswitch {d9 lo hi : Int} {offs : Array Int} (hF : ze_Fx p l R s m args meth c dC dI dA sp xs A o nL d cc rt ini jt cal mc ms) (hK : ze_KK p l e R s m args below meth c Q z0 dC dI dA sp xs A nL (fun cs => zk_code o cc nL rt ini jt cs = true) kk) (hV : zk_code o cc nL rt ini jt r = true) (hH : ze_H z0 dC dI dA sp xs A s nL ls st w g ρ ws H locs la vs) (hr : zk_ts d9 lo hi offs o cc nL rt ini jt pc ca cb cd tl r = true) (h : zo_sw r ca cb cd tl (ze_jp jt) kk k cal mc ms ls st w g nc ns = true) : W p l e R s m args below meth c H locs nc ns Q (F0 m pc la vs) := by
  obtain ⟨hZ, hx, hb, hml, hown, hKs, hsc, hA, hts, hR, hRd, hin, hcal, hjt⟩ := hF
  obtain ⟨h1, h4⟩ := zk_and hr
  obtain ⟨h1, h3⟩ := zk_and h1
  obtain ⟨h1, h2⟩ := zk_and h1
  obtain ⟨len, hd⟩ := zk_dex h1
  have h3 := of_decide_eq_true h3
  refine zs_sw hK h hH (fun x rest => ?_)
  have e7 : (ze_b x : Int) - 2147483648 = x.toInt := by
    have := ze_b_int x
    omega
  obtain ⟨k1, k2⟩ := zk_ttok (a := ca) (z := ze_b x) hjt offs.toList lo tl h4
  rw [e7] at k1 k2
  by_cases hi9 : x.toInt < lo ∨ hi < x.toInt
  · obtain ⟨tgt, ht1, ht2⟩ := zk_to hjt h2
    refine ⟨tgt, ?_, fun k9 => lv_tableOut hx hb hd hi9 ht1 k9⟩
    rw [k1 (by omega)]
    exact ht2
  · obtain ⟨off, j1, j2⟩ := k2 (by omega) (by omega)
    obtain ⟨tgt, ht1, ht2⟩ := zk_to hjt j2
    refine ⟨tgt, ht2, fun k9 => lv_tableIn hx hb hd (by omega) (by omega) (off := off) ?_ ht1 k9⟩
    rw [← Array.getElem?_toList]
    exact j1

theorem zz_lookupswitch {d9 : Int} {ps : Array (Int × Int)} (hF : ze_Fx p l R s m args meth c dC dI dA sp xs A o nL d cc rt ini jt cal mc ms) (hK : ze_KK p l e R s m args below meth c Q z0 dC dI dA sp xs A nL (fun cs => zk_code o cc nL rt ini jt cs = true) kk) (hV : zk_code o cc nL rt ini jt r = true) (hH : ze_H z0 dC dI dA sp xs A s nL ls st w g ρ ws H locs la vs) (hr : zk_ls d9 ps o cc nL rt ini jt pc ca cb cd tl r = true) (h : zo_sw r ca cb cd tl (ze_jp jt) kk k cal mc ms ls st w g nc ns = true) : W p l e R s m args below meth c H locs nc ns Q (F0 m pc la vs) := by
  obtain ⟨hZ, hx, hb, hml, hown, hKs, hsc, hA, hts, hR, hRd, hin, hcal, hjt⟩ := hF
  obtain ⟨h1, h4⟩ := zk_and hr
  obtain ⟨h1, h3⟩ := zk_and h1
  obtain ⟨h1, h2⟩ := zk_and h1
  obtain ⟨len, hd⟩ := zk_dex h1
  refine zs_sw hK h hH (fun x rest => ?_)
  obtain ⟨tgt, ht1, ht2⟩ := zk_to hjt (zk_ltok (x := x) h2 ps.toList tl h4)
  exact ⟨tgt, ht2, fun k9 => lv_lookup hx hb hd h3 rfl ht1 k9⟩

theorem zz_getfield {n9 : Nat} (hF : ze_Fx p l R s m args meth c dC dI dA sp xs A o nL d cc rt ini jt cal mc ms) (hK : ze_KK p l e R s m args below meth c Q z0 dC dI dA sp xs A nL (fun cs => zk_code o cc nL rt ini jt cs = true) kk) (hV : zk_code o cc nL rt ini jt r = true) (hH : ze_H z0 dC dI dA sp xs A s nL ls st w g ρ ws H locs la vs) (hr : zk_gf n9 o cc nL rt ini jt pc ca cb cd tl r = true) (h : zo_getf r ca cb cd tl (ze_jp jt) kk k cal mc ms ls st w g nc ns = true) : W p l e R s m args below meth c H locs nc ns Q (F0 m pc la vs) := by
  obtain ⟨hZ, hx, hb, hml, hown, hKs, hsc, hA, hts, hR, hRd, hin, hcal, hjt⟩ := hF
  obtain ⟨h1, h3⟩ := zk_and hr
  obtain ⟨h1, h2⟩ := zk_and h1
  have hd := zk_dec h1
  have hn := zk_nx hV h2
  have h3 := of_decide_eq_true h3
  obtain ⟨C, T, N, q1, q2, q3⟩ := hZ.2.2.1 o n9 ca cb h3
  exact zs_getf hx hb hown hKs hts hZ.1 hK q1 q2 q3 hd hn h hH

theorem zz_putfield {n9 : Nat} (hF : ze_Fx p l R s m args meth c dC dI dA sp xs A o nL d cc rt ini jt cal mc ms) (hK : ze_KK p l e R s m args below meth c Q z0 dC dI dA sp xs A nL (fun cs => zk_code o cc nL rt ini jt cs = true) kk) (hV : zk_code o cc nL rt ini jt r = true) (hH : ze_H z0 dC dI dA sp xs A s nL ls st w g ρ ws H locs la vs) (hr : zk_pf n9 o cc nL rt ini jt pc ca cb cd tl r = true) (h : zo_putf r ca cb cd tl (ze_jp jt) kk k cal mc ms ls st w g nc ns = true) : W p l e R s m args below meth c H locs nc ns Q (F0 m pc la vs) := by
  obtain ⟨hZ, hx, hb, hml, hown, hKs, hsc, hA, hts, hR, hRd, hin, hcal, hjt⟩ := hF
  obtain ⟨h1, h3⟩ := zk_and hr
  obtain ⟨h1, h2⟩ := zk_and h1
  have hd := zk_dec h1
  have hn := zk_nx hV h2
  rcases zk_or h3 with h3 | h3
  · have h3 := of_decide_eq_true h3
    obtain ⟨C, T, N, ty, q1, q2, q3, q4, q5⟩ := hZ.2.2.2.1 o n9 ca cb cd 0 h3
    rcases q5 with ⟨-, q5, q6⟩ | ⟨q5, -⟩
    · exact zs_putf hx hb hown hKs hts hZ.1 hK q1 q2 q3 q4 (Or.inl ⟨q5, q6⟩) hd hn h hH
    · cases q5
  · obtain ⟨h5, h3⟩ := zk_and h3
    have h3 := of_decide_eq_true h3
    obtain ⟨C, T, N, ty, q1, q2, q3, q4, q5⟩ := hZ.2.2.2.1 o n9 ca cb cd 1 h3
    rcases q5 with ⟨q5, -⟩ | ⟨-, q5, q6, q7⟩
    · cases q5
    · exact zs_putf hx hb hown hKs hts hZ.1 hK q1 q2 q3 q4 (Or.inr ⟨q5, hin h5, q6, q7⟩) hd hn h hH

theorem zz_new {n9 : Nat} (hF : ze_Fx p l R s m args meth c dC dI dA sp xs A o nL d cc rt ini jt cal mc ms) (hK : ze_KK p l e R s m args below meth c Q z0 dC dI dA sp xs A nL (fun cs => zk_code o cc nL rt ini jt cs = true) kk) (hV : zk_code o cc nL rt ini jt r = true) (hH : ze_H z0 dC dI dA sp xs A s nL ls st w g ρ ws H locs la vs) (hr : zk_nw n9 o cc nL rt ini jt pc ca cb cd tl r = true) (h : zo_new r ca cb cd tl (ze_jp jt) kk k cal mc ms ls st w g nc ns = true) : W p l e R s m args below meth c H locs nc ns Q (F0 m pc la vs) := by
  obtain ⟨hZ, hx, hb, hml, hown, hKs, hsc, hA, hts, hR, hRd, hin, hcal, hjt⟩ := hF
  obtain ⟨h1, h3⟩ := zk_and hr
  obtain ⟨h1, h2⟩ := zk_and h1
  have hd := zk_dec h1
  have hn := zk_nx hV h2
  have h3 := of_decide_eq_true h3
  obtain ⟨C, T, N, q1, q2, q3, q4, q5, q6⟩ := hZ.2.2.2.2.1 o n9 ca tl h3
  exact zs_new hx hb hown hR hKs hA hts hZ.1 q1 q2 q3 q4 q5 q6 hd hK hn h hH

theorem zz_newarray {t9 : ArrayType} (hF : ze_Fx p l R s m args meth c dC dI dA sp xs A o nL d cc rt ini jt cal mc ms) (hK : ze_KK p l e R s m args below meth c Q z0 dC dI dA sp xs A nL (fun cs => zk_code o cc nL rt ini jt cs = true) kk) (hV : zk_code o cc nL rt ini jt r = true) (hH : ze_H z0 dC dI dA sp xs A s nL ls st w g ρ ws H locs la vs) (hr : zk_na t9 o cc nL rt ini jt pc ca cb cd tl r = true) (h : zo_newa r ca cb cd tl (ze_jp jt) kk k cal mc ms ls st w g nc ns = true) : W p l e R s m args below meth c H locs nc ns Q (F0 m pc la vs) := by
  obtain ⟨hZ, hx, hb, hml, hown, hKs, hsc, hA, hts, hR, hRd, hin, hcal, hjt⟩ := hF
  obtain ⟨h1, h3⟩ := zk_and hr
  obtain ⟨h1, h2⟩ := zk_and h1
  have hd := zk_dec h1
  have hn := zk_nx hV h2
  obtain ⟨w1, w2, w3, w4⟩ := hZ.2.2.2.2.2.2.2.2.2.2.2.2.2.1
  cases t9 with
  | int =>
    obtain ⟨h4, h5⟩ := zk_and h3
    have h4 := of_decide_eq_true h4
    have h5 := of_decide_eq_true h5
    subst h4; subst h5
    exact zs_newi (atype := .int) hx hb hR hKs hA hts ze_a0 w1 (by decide) (by decide) rfl rfl (by decide) (fun cA q => Option.some.inj ((show s.vm.findClass _ = some cA from q).symm.trans (hKs.2.1 100 .int ze_a0).2)) hd hK hn h hH
  | char =>
    obtain ⟨h4, h5⟩ := zk_and h3
    have h4 := of_decide_eq_true h4
    have h5 := of_decide_eq_true h5
    subst h4; subst h5
    exact zs_newi (atype := .char) hx hb hR hKs hA hts ze_a1 w2 (by decide) (by decide) rfl rfl (by decide) (fun cA q => Option.some.inj ((show s.vm.findClass _ = some cA from q).symm.trans (hKs.2.1 101 .char ze_a1).2)) hd hK hn h hH
  | boolean =>
    obtain ⟨h4, h5⟩ := zk_and h3
    have h4 := of_decide_eq_true h4
    have h5 := of_decide_eq_true h5
    subst h4; subst h5
    exact zs_newi (atype := .boolean) hx hb hR hKs hA hts ze_a4 w3 (by decide) (by decide) rfl rfl (by decide) (fun cA q => Option.some.inj ((show s.vm.findClass _ = some cA from q).symm.trans (hKs.2.1 104 .boolean ze_a4).2)) hd hK hn h hH
  | long =>
    obtain ⟨h4, h5⟩ := zk_and h3
    exact zs_newl hx hb hR hKs hA hts (of_decide_eq_true h4) (of_decide_eq_true h5) ze_a5 w4 hd hK hn h hH
  | float => cases h3
  | double => cases h3
  | byte => cases h3
  | short => cases h3

theorem zz_anewarray {n9 : Nat} (hF : ze_Fx p l R s m args meth c dC dI dA sp xs A o nL d cc rt ini jt cal mc ms) (hK : ze_KK p l e R s m args below meth c Q z0 dC dI dA sp xs A nL (fun cs => zk_code o cc nL rt ini jt cs = true) kk) (hV : zk_code o cc nL rt ini jt r = true) (hH : ze_H z0 dC dI dA sp xs A s nL ls st w g ρ ws H locs la vs) (hr : zk_aa n9 o cc nL rt ini jt pc ca cb cd tl r = true) (h : zo_newa r ca cb cd tl (ze_jp jt) kk k cal mc ms ls st w g nc ns = true) : W p l e R s m args below meth c H locs nc ns Q (F0 m pc la vs) := by
  obtain ⟨hZ, hx, hb, hml, hown, hKs, hsc, hA, hts, hR, hRd, hin, hcal, hjt⟩ := hF
  obtain ⟨h1, h4⟩ := zk_and hr
  obtain ⟨h1, h3⟩ := zk_and h1
  obtain ⟨h1, h2⟩ := zk_and h1
  have hd := zk_dec h1
  have hn := zk_nx hV h2
  have h3 := of_decide_eq_true h3
  have h4 := of_decide_eq_true h4
  obtain ⟨q1, q2⟩ := hZ.2.2.2.2.2.1 o n9 ca h3
  subst q1
  exact zs_newq hx hb hown hR hKs hA hts (by decide) h4 ze_a9 q2 (by decide) hd hK hn h hH

theorem zz_invokevirtual {n9 : Nat} (hF : ze_Fx p l R s m args meth c dC dI dA sp xs A o nL d cc rt ini jt cal mc ms) (hK : ze_KK p l e R s m args below meth c Q z0 dC dI dA sp xs A nL (fun cs => zk_code o cc nL rt ini jt cs = true) kk) (hV : zk_code o cc nL rt ini jt r = true) (hH : ze_H z0 dC dI dA sp xs A s nL ls st w g ρ ws H locs la vs) (hr : zk_iv n9 o cc nL rt ini jt pc ca cb cd tl r = true) (h : zo_inv r ca cb cd tl (ze_jp jt) kk k cal mc ms ls st w g nc ns = true) : W p l e R s m args below meth c H locs nc ns Q (F0 m pc la vs) := by
  obtain ⟨hZ, hx, hb, hml, hown, hKs, hsc, hA, hts, hR, hRd, hin, hcal, hjt⟩ := hF
  obtain ⟨h1, h3⟩ := zk_and hr
  obtain ⟨h1, h2⟩ := zk_and h1
  have hd := zk_dec h1
  have hn := zk_nx hV h2
  rcases zk_or h3 with h3 | h3
  · have h3 := of_decide_eq_true h3
    obtain ⟨q, ci, T, N, nb, q1, q2, q3, q4, q5, ⟨q6, q7, q8, q9⟩, q10, q11, q12⟩ := hZ.2.2.2.2.2.2.2.2.1 o n9 ca cb cd tl h3
    subst q2; subst q3; subst q4
    exact zs_invV (tl := []) (jp := ze_jp jt) (ca := 0) (cb := 0) (cd := 0) (k := k) hx hb hml hown hKs hsc hA hts hZ.1 hR hRd.2 (hcal.1 ca q q1) q5 q6 q7 q10 q11 q8 q9 q12 hd hK hn h hH
  · obtain ⟨h4, h5⟩ := zk_and h3
    have h4 := of_decide_eq_true h4
    have h5 := of_decide_eq_true h5
    subst h4
    obtain ⟨u1, u2, u3, u4⟩ := hZ.2.2.2.2.2.2.2.2.2.2.2.2.2.2.2
    exact zs_str (n9 := n9) (cb := cb) (cd := cd) (tl := [ca]) (jp := ze_jp jt) (k := k) (cal := cal) (u1 o n9 ca h5) u2 u3 u4 hx hb hml hown hsc hts hR hRd hd hK hn (show zo_str ca r ca cb cd [ca] (ze_jp jt) kk k cal mc ms ls st w g nc ns = true from h) hH

theorem zz_invokestatic {n9 : Nat} (hF : ze_Fx p l R s m args meth c dC dI dA sp xs A o nL d cc rt ini jt cal mc ms) (hK : ze_KK p l e R s m args below meth c Q z0 dC dI dA sp xs A nL (fun cs => zk_code o cc nL rt ini jt cs = true) kk) (hV : zk_code o cc nL rt ini jt r = true) (hH : ze_H z0 dC dI dA sp xs A s nL ls st w g ρ ws H locs la vs) (hr : zk_is n9 o cc nL rt ini jt pc ca cb cd tl r = true) (h : zo_stat r ca cb cd tl (ze_jp jt) kk k cal mc ms ls st w g nc ns = true) : W p l e R s m args below meth c H locs nc ns Q (F0 m pc la vs) := by
  obtain ⟨hZ, hx, hb, hml, hown, hKs, hsc, hA, hts, hR, hRd, hin, hcal, hjt⟩ := hF
  obtain ⟨h1, h3⟩ := zk_and hr
  obtain ⟨h1, h2⟩ := zk_and h1
  have hd := zk_dec h1
  have hn := zk_nx hV h2
  rcases zk_or h3 with h3 | h3
  rcases zk_or h3 with h3 | h3
  · have h3 := of_decide_eq_true h3
    obtain ⟨q, q1, q2, q4, ⟨q6, q7, q8, q9⟩, q10, q12⟩ := hZ.2.2.2.2.2.2.2.2.2.1 o n9 ca cb cd tl h3
    subst q2; subst q4
    exact zs_invS (tl := []) (jp := ze_jp jt) (ca := 0) (cb := 0) (cd := 0) (k := k) hx hb hml hown hKs hsc hA hts hR hRd.2 (hcal.1 ca q q1) q6 q7 q10 q8 q9 q12 hd hK hn h hH
  · obtain ⟨h4, h5⟩ := zk_and h3
    have h4 := of_decide_eq_true h4
    have h5 := of_decide_eq_true h5
    subst h4
    obtain ⟨w1, w2, w3, w4⟩ := hZ.2.2.2.2.2.2.2.2.2.2.2.2.1
    exact zs_copy hx hb hml hown hKs hts ze_a0 ⟨by omega, by omega⟩ (w1 o n9 h5) w2 w3 w4 hd hK hn h hH
  · obtain ⟨h4, h5⟩ := zk_and h3
    have h4 := of_decide_eq_true h4
    have h5 := of_decide_eq_true h5
    subst h4
    obtain ⟨w1, w2, w3, w4, w5, w6, w7, w8⟩ := hZ.2.2.2.2.2.2.2.2.2.2.2.2.2.2.1
    rcases w1 o n9 ca h5 with ⟨e9, w1⟩ | ⟨e9, w1⟩ | ⟨e9, w1⟩
    · subst e9
      exact zs_mmax (tl := [0]) (jp := ze_jp jt) (cb := cb) (cd := cd) (k := k) hx hb hml hown hts hR ⟨by omega, by omega⟩ w1 w2 w4 w5 hd hK hn (show zo_mm r 0 cb cd [0] (ze_jp jt) kk k cal mc ms ls st w g nc ns = true from h) hH
    · subst e9
      exact zs_mmin (tl := [0]) (jp := ze_jp jt) (cb := cb) (cd := cd) (k := k) hx hb hml hown hts hR ⟨by omega, by omega⟩ w1 w3 w4 w6 hd hK hn (show zo_mm r 1 cb cd [0] (ze_jp jt) kk k cal mc ms ls st w g nc ns = true from h) hH
    · subst e9
      exact zs_mabs (tl := [0]) (jp := ze_jp jt) (cb := cb) (cd := cd) (k := k) hx hb hml hown hts hR ⟨by omega, by omega⟩ w1 w7 w4 w8 hd hK hn (show zo_abs r 2 cb cd [0] (ze_jp jt) kk k cal mc ms ls st w g nc ns = true from h) hH

theorem zz_invokespecial {n9 : Nat} (hF : ze_Fx p l R s m args meth c dC dI dA sp xs A o nL d cc rt ini jt cal mc ms) (hK : ze_KK p l e R s m args below meth c Q z0 dC dI dA sp xs A nL (fun cs => zk_code o cc nL rt ini jt cs = true) kk) (hV : zk_code o cc nL rt ini jt r = true) (hH : ze_H z0 dC dI dA sp xs A s nL ls st w g ρ ws H locs la vs) (hr : zk_ip n9 o cc nL rt ini jt pc ca cb cd tl r = true) (h : zo_spec r ca cb cd tl (ze_jp jt) kk k cal mc ms ls st w g nc ns = true) : W p l e R s m args below meth c H locs nc ns Q (F0 m pc la vs) := by
  obtain ⟨hZ, hx, hb, hml, hown, hKs, hsc, hA, hts, hR, hRd, hin, hcal, hjt⟩ := hF
  obtain ⟨h1, h3⟩ := zk_and hr
  obtain ⟨h1, h2⟩ := zk_and h1
  have hd := zk_dec h1
  have hn := zk_nx hV h2
  rcases zk_or h3 with h3 | h3
  · have h3 := of_decide_eq_true h3
    obtain ⟨q, nb, q1, q2, q3, q4, ⟨q6, q7, q8, q9⟩, q13, q14, q10, q12⟩ := hZ.2.2.2.2.2.2.2.2.2.2.1 o n9 ca cb cd tl h3
    subst q2; subst q3; subst q4
    obtain ⟨h5, h6⟩ := ze_condf (show zcd (ze_rr nb st) (zo_call ca (nb + 1) 0 q.2.2.2.2.2.1 q.2.2.2.2.2.2 r ca (nb + 1) 0 [q.2.2.2.2.2.1, q.2.2.2.2.2.2] (ze_jp jt) kk k cal mc ms ls st w g nc ns) false = true from h)
    have hc9 := hcal.1 ca q q1
    rw [q13] at hc9 q7
    exact zs_invI (tl := []) (jp := ze_jp jt) (ca := 0) (cb := 0) (cd := 0) (k := k) hx hb hml hown hKs hsc hA hts hR hRd.2 hc9 q6 q7 q10 q8 q14 q9 q12 hd hK hn h6 (fun pop rest e1 e2 => ze_rr_spec nb st pop rest h5 e1 e2) hH
  · obtain ⟨h4, h5⟩ := zk_and h3
    have h4 := of_decide_eq_true h4
    have h5 := of_decide_eq_true h5
    subst h4
    obtain ⟨w1, w2, w3⟩ := hZ.2.2.2.2.2.2.2.2.2.2.2.1
    exact zs_objInit hx hb hml hown hts ⟨by omega, by omega⟩ (w1 o n9 h5) w2 w3 hd hK hn h hH

theorem zz_ireturn  (hE : ze_Re p l e R s m args below meth c Q z0 dC dI dA sp xs A nL cc rt k mc ms) (hF : ze_Fx p l R s m args meth c dC dI dA sp xs A o nL d cc rt ini jt cal mc ms) (hK : ze_KK p l e R s m args below meth c Q z0 dC dI dA sp xs A nL (fun cs => zk_code o cc nL rt ini jt cs = true) kk) (hV : zk_code o cc nL rt ini jt r = true) (hH : ze_H z0 dC dI dA sp xs A s nL ls st w g ρ ws H locs la vs) (hr : zk_ir o cc nL rt ini jt pc ca cb cd tl r = true) (h : zo_ireturn r ca cb cd tl (ze_jp jt) kk k cal mc ms ls st w g nc ns = true) : W p l e R s m args below meth c H locs nc ns Q (F0 m pc la vs) := by
  obtain ⟨hZ, hx, hb, hml, hown, hKs, hsc, hA, hts, hR, hRd, hin, hcal, hjt⟩ := hF
  obtain ⟨h1, h2⟩ := zk_and hr
  have hd := zk_dec h1
  rcases st with _ | ⟨v, t⟩
  · cases h
  rcases t with _ | ⟨v2, t⟩
  · rcases v with u | u
    · obtain ⟨c1, c2⟩ := ze_condf (show zcd (ze_tcg g ca (.inl u)) (ze_end nc ns mc ms (k (some (.inl u)) w g)) false = true from h)
      obtain ⟨c3, c4, c5⟩ := ze_end_ok c2
      obtain ⟨y1, r1, e1, V1, L1⟩ := hH.2.2.2.2.2.2.2.cons
      rw [L1.nil] at e1
      obtain ⟨z, ez⟩ := ze_intV V1
      subst ez
      have hty : ∃ ty, rt = some ty ∧ ze_ty ca ty := by
        unfold zk_rt at h2
        split at h2
        · exact ⟨_, rfl, Or.inl ⟨of_decide_eq_true h2, rfl⟩⟩
        · exact ⟨_, rfl, Or.inr (Or.inl ⟨of_decide_eq_true h2, rfl⟩)⟩
        · exact ⟨_, rfl, Or.inr (Or.inr (Or.inr (Or.inr (Or.inr ⟨of_decide_eq_true h2, rfl⟩))))⟩
        · cases h2
      obtain ⟨ty, hr1, hr2⟩ := hty
      exact (hE pc nc ns ls _ w g ρ ws H locs la vs hH c3 c4).1 u z ty rfl e1 c5 hd hr1 (ze_fitg hr2 c1 hH.1 V1).1
    · cases h
  · cases h

theorem zz_lreturn  (hE : ze_Re p l e R s m args below meth c Q z0 dC dI dA sp xs A nL cc rt k mc ms) (hF : ze_Fx p l R s m args meth c dC dI dA sp xs A o nL d cc rt ini jt cal mc ms) (hK : ze_KK p l e R s m args below meth c Q z0 dC dI dA sp xs A nL (fun cs => zk_code o cc nL rt ini jt cs = true) kk) (hV : zk_code o cc nL rt ini jt r = true) (hH : ze_H z0 dC dI dA sp xs A s nL ls st w g ρ ws H locs la vs) (hr : zk_lr o cc nL rt ini jt pc ca cb cd tl r = true) (h : zo_lreturn r ca cb cd tl (ze_jp jt) kk k cal mc ms ls st w g nc ns = true) : W p l e R s m args below meth c H locs nc ns Q (F0 m pc la vs) := by
  obtain ⟨hZ, hx, hb, hml, hown, hKs, hsc, hA, hts, hR, hRd, hin, hcal, hjt⟩ := hF
  obtain ⟨h1, h2⟩ := zk_and hr
  have hd := zk_dec h1
  have h2 := of_decide_eq_true h2
  rcases st with _ | ⟨v, t⟩
  · cases h
  rcases t with _ | ⟨v2, t⟩
  · rcases v with u | ((q | u) | x)
    · cases h
    · cases h
    · obtain ⟨c3, c4, c5⟩ := ze_end_ok (show ze_end nc ns mc ms (k (some (.inr (.inl (.inr u)))) w g) = true from h)
      obtain ⟨y1, r1, e1, V1, L1⟩ := hH.2.2.2.2.2.2.2.cons
      rw [L1.nil] at e1
      obtain ⟨z, ez⟩ := ze_longV V1
      subst ez
      exact (hE pc nc ns ls _ w g ρ ws H locs la vs hH c3 c4).2.1 u z rfl e1 c5 hd h2
    · cases h
  · cases h

theorem zz_areturn  (hE : ze_Re p l e R s m args below meth c Q z0 dC dI dA sp xs A nL cc rt k mc ms) (hF : ze_Fx p l R s m args meth c dC dI dA sp xs A o nL d cc rt ini jt cal mc ms) (hK : ze_KK p l e R s m args below meth c Q z0 dC dI dA sp xs A nL (fun cs => zk_code o cc nL rt ini jt cs = true) kk) (hV : zk_code o cc nL rt ini jt r = true) (hH : ze_H z0 dC dI dA sp xs A s nL ls st w g ρ ws H locs la vs) (hr : zk_ar o cc nL rt ini jt pc ca cb cd tl r = true) (h : zo_areturn r ca cb cd tl (ze_jp jt) kk k cal mc ms ls st w g nc ns = true) : W p l e R s m args below meth c H locs nc ns Q (F0 m pc la vs) := by
  obtain ⟨hZ, hx, hb, hml, hown, hKs, hsc, hA, hts, hR, hRd, hin, hcal, hjt⟩ := hF
  obtain ⟨h1, h2⟩ := zk_and hr
  have hd := zk_dec h1
  have hty : ∃ ty, rt = some ty ∧ ((∃ n, ty = .object n) ∨ ∃ t, ty = FieldType.array t) := by
    split at h2
    · exact ⟨_, rfl, Or.inl ⟨_, rfl⟩⟩
    · exact ⟨_, rfl, Or.inr ⟨_, rfl⟩⟩
    · cases h2
  obtain ⟨ty, hr1, hr2⟩ := hty
  rcases st with _ | ⟨v, t⟩
  · cases h
  rcases t with _ | ⟨v2, t⟩
  · rcases v with u | ((q | u) | x)
    · cases h
    · obtain ⟨c3, c4, c5⟩ := ze_end_ok (show ze_end nc ns mc ms (k (some (.inr (.inl (.inl q)))) w g) = true from h)
      obtain ⟨y1, r1, e1, V1, L1⟩ := hH.2.2.2.2.2.2.2.cons
      rw [L1.nil] at e1
      obtain ⟨z, -, ez⟩ := id V1
      subst ez
      exact (hE pc nc ns ls _ w g ρ ws H locs la vs hH c3 c4).2.2.1 _ z ty rfl e1 c5 hd hr1 hr2
    · cases h
    · obtain ⟨h6, h⟩ := ze_condf (show zcd (Nat.ble 12 x) (ze_end nc ns mc ms (k (some (.inr (.inr x))) w g)) false = true from h)
      have h6 := ze_ble' h6
      obtain ⟨c3, c4, c5⟩ := ze_end_ok h
      obtain ⟨y1, r1, e1, V1, L1⟩ := hH.2.2.2.2.2.2.2.cons
      rw [L1.nil] at e1
      obtain ⟨q, rfl⟩ : ∃ q, x = q + 2 := ⟨x - 2, by omega⟩
      have ez : y1 = .ref (sp q) := V1
      subst ez
      exact (hE pc nc ns ls _ w g ρ ws H locs la vs hH c3 c4).2.2.1 _ _ ty rfl e1 c5 hd hr1 hr2
  · cases h

theorem zz_return_  (hE : ze_Re p l e R s m args below meth c Q z0 dC dI dA sp xs A nL cc rt k mc ms) (hF : ze_Fx p l R s m args meth c dC dI dA sp xs A o nL d cc rt ini jt cal mc ms) (hK : ze_KK p l e R s m args below meth c Q z0 dC dI dA sp xs A nL (fun cs => zk_code o cc nL rt ini jt cs = true) kk) (hV : zk_code o cc nL rt ini jt r = true) (hH : ze_H z0 dC dI dA sp xs A s nL ls st w g ρ ws H locs la vs) (hr : zk_vr o cc nL rt ini jt pc ca cb cd tl r = true) (h : zo_return r ca cb cd tl (ze_jp jt) kk k cal mc ms ls st w g nc ns = true) : W p l e R s m args below meth c H locs nc ns Q (F0 m pc la vs) := by
  obtain ⟨hZ, hx, hb, hml, hown, hKs, hsc, hA, hts, hR, hRd, hin, hcal, hjt⟩ := hF
  obtain ⟨h1, h2⟩ := zk_and hr
  have hd := zk_dec h1
  have h2 := of_decide_eq_true h2
  rcases st with _ | ⟨v, t⟩
  · obtain ⟨c3, c4, c5⟩ := ze_end_ok (show ze_end nc ns mc ms (k none w g) = true from h)
    exact (hE pc nc ns ls _ w g ρ ws H locs la vs hH c3 c4).2.2.2 rfl hH.2.2.2.2.2.2.2.nil c5 hd h2
  · cases h

/-- a row -/
theorem ze_step {i : Jvm.ClassFile.Instr} (hE : ze_Re p l e R s m args below meth c Q z0 dC dI dA sp xs A nL cc rt k mc ms) (hF : ze_Fx p l R s m args meth c dC dI dA sp xs A o nL d cc rt ini jt cal mc ms) (hK : ze_KK p l e R s m args below meth c Q z0 dC dI dA sp xs A nL (fun cs => zk_code o cc nL rt ini jt cs = true) kk) (hV : zk_code o cc nL rt ini jt r = true) (hH : ze_H z0 dC dI dA sp xs A s nL ls st w g ρ ws H locs la vs) (hr : zk_do i o cc nL rt ini jt pc ca cb cd tl r = true) (h : ze_do i r ca cb cd tl (ze_jp jt) kk k cal mc ms ls st w g nc ns = true) : W p l e R s m args below meth c H locs nc ns Q (F0 m pc la vs) := by
  cases i with
  | aaload  => exact zz_aaload (ca := ca) (cb := cb) (cd := cd) (tl := tl) (k := k) hF hK hV hH hr h
  | aastore  => exact zz_aastore (ca := ca) (cb := cb) (cd := cd) (tl := tl) (k := k) hF hK hV hH hr h
  | aconst_null  => exact zz_aconst_null (ca := ca) (cb := cb) (cd := cd) (tl := tl) (k := k) hF hK hV hH hr h
  | aload x0 => exact zz_aload (ca := ca) (cb := cb) (cd := cd) (tl := tl) (k := k) hF hK hV hH hr h
  | aload_n x0 => exact zz_aload_n (ca := ca) (cb := cb) (cd := cd) (tl := tl) (k := k) hF hK hV hH hr h
  | anewarray x0 => exact zz_anewarray (ca := ca) (cb := cb) (cd := cd) (tl := tl) (k := k) hF hK hV hH hr h
  | areturn  => exact zz_areturn (ca := ca) (cb := cb) (cd := cd) (tl := tl) (k := k) hE hF hK hV hH hr h
  | arraylength  => exact zz_arraylength (ca := ca) (cb := cb) (cd := cd) (tl := tl) (k := k) hF hK hV hH hr h
  | astore x0 => exact zz_astore (ca := ca) (cb := cb) (cd := cd) (tl := tl) (k := k) hF hK hV hH hr h
  | astore_n x0 => exact zz_astore_n (ca := ca) (cb := cb) (cd := cd) (tl := tl) (k := k) hF hK hV hH hr h
  | athrow  => cases h
  | baload  => exact zz_baload (ca := ca) (cb := cb) (cd := cd) (tl := tl) (k := k) hF hK hV hH hr h
  | bastore  => exact zz_bastore (ca := ca) (cb := cb) (cd := cd) (tl := tl) (k := k) hF hK hV hH hr h
  | bipush x0 => exact zz_bipush (ca := ca) (cb := cb) (cd := cd) (tl := tl) (k := k) hF hK hV hH hr h
  | caload  => exact zz_caload (ca := ca) (cb := cb) (cd := cd) (tl := tl) (k := k) hF hK hV hH hr h
  | castore  => exact zz_castore (ca := ca) (cb := cb) (cd := cd) (tl := tl) (k := k) hF hK hV hH hr h
  | checkcast x0 => cases h
  | d2f  => cases h
  | d2i  => cases h
  | d2l  => cases h
  | dadd  => cases h
  | daload  => cases h
  | dastore  => cases h
  | dcmp x0 => cases h
  | dconst x0 => cases h
  | ddiv  => cases h
  | dload x0 => cases h
  | dload_n x0 => cases h
  | dmul  => cases h
  | dneg  => cases h
  | drem  => cases h
  | dreturn  => cases h
  | dstore x0 => cases h
  | dstore_n x0 => cases h
  | dsub  => cases h
  | dup  => exact zz_dup (ca := ca) (cb := cb) (cd := cd) (tl := tl) (k := k) hF hK hV hH hr h
  | dup_x1  => exact zz_dup_x1 (ca := ca) (cb := cb) (cd := cd) (tl := tl) (k := k) hF hK hV hH hr h
  | dup_x2  => exact zz_dup_x2 (ca := ca) (cb := cb) (cd := cd) (tl := tl) (k := k) hF hK hV hH hr h
  | dup2  => exact zz_dup2 (ca := ca) (cb := cb) (cd := cd) (tl := tl) (k := k) hF hK hV hH hr h
  | dup2_x1  => cases h
  | dup2_x2  => cases h
  | f2d  => cases h
  | f2i  => cases h
  | f2l  => cases h
  | fadd  => cases h
  | faload  => cases h
  | fastore  => cases h
  | fcmp x0 => cases h
  | fconst x0 => cases h
  | fdiv  => cases h
  | fload x0 => cases h
  | fload_n x0 => cases h
  | fmul  => cases h
  | fneg  => cases h
  | frem  => cases h
  | freturn  => cases h
  | fstore x0 => cases h
  | fstore_n x0 => cases h
  | fsub  => cases h
  | getfield x0 => exact zz_getfield (ca := ca) (cb := cb) (cd := cd) (tl := tl) (k := k) hF hK hV hH hr h
  | getstatic x0 => cases h
  | goto x0 => exact zz_goto (ca := ca) (cb := cb) (cd := cd) (tl := tl) (k := k) hF hK hV hH hr h
  | goto_w x0 => cases h
  | i2b  => exact zz_i2b (ca := ca) (cb := cb) (cd := cd) (tl := tl) (k := k) hF hK hV hH hr h
  | i2c  => exact zz_i2c (ca := ca) (cb := cb) (cd := cd) (tl := tl) (k := k) hF hK hV hH hr h
  | i2d  => cases h
  | i2f  => cases h
  | i2l  => exact zz_i2l (ca := ca) (cb := cb) (cd := cd) (tl := tl) (k := k) hF hK hV hH hr h
  | i2s  => exact zz_i2s (ca := ca) (cb := cb) (cd := cd) (tl := tl) (k := k) hF hK hV hH hr h
  | iadd  => exact zz_iadd (ca := ca) (cb := cb) (cd := cd) (tl := tl) (k := k) hF hK hV hH hr h
  | iaload  => exact zz_iaload (ca := ca) (cb := cb) (cd := cd) (tl := tl) (k := k) hF hK hV hH hr h
  | iand  => exact zz_iand (ca := ca) (cb := cb) (cd := cd) (tl := tl) (k := k) hF hK hV hH hr h
  | iastore  => exact zz_iastore (ca := ca) (cb := cb) (cd := cd) (tl := tl) (k := k) hF hK hV hH hr h
  | iconst x0 => exact zz_iconst (ca := ca) (cb := cb) (cd := cd) (tl := tl) (k := k) hF hK hV hH hr h
  | idiv  => exact zz_idiv (ca := ca) (cb := cb) (cd := cd) (tl := tl) (k := k) hF hK hV hH hr h
  | if_acmp x0 x1 => cases h
  | if_icmp x0 x1 => cases x0 with
    | eq => exact zz_icmp_eq (ca := ca) (cb := cb) (cd := cd) (tl := tl) (k := k) hF hK hV hH hr h
    | ne => exact zz_icmp_ne (ca := ca) (cb := cb) (cd := cd) (tl := tl) (k := k) hF hK hV hH hr h
    | lt => exact zz_icmp_lt (ca := ca) (cb := cb) (cd := cd) (tl := tl) (k := k) hF hK hV hH hr h
    | ge => exact zz_icmp_ge (ca := ca) (cb := cb) (cd := cd) (tl := tl) (k := k) hF hK hV hH hr h
    | gt => exact zz_icmp_gt (ca := ca) (cb := cb) (cd := cd) (tl := tl) (k := k) hF hK hV hH hr h
    | le => exact zz_icmp_le (ca := ca) (cb := cb) (cd := cd) (tl := tl) (k := k) hF hK hV hH hr h
  | ifCond x0 x1 => cases x0 with
    | eq => exact zz_if_eq (ca := ca) (cb := cb) (cd := cd) (tl := tl) (k := k) hF hK hV hH hr h
    | ne => exact zz_if_ne (ca := ca) (cb := cb) (cd := cd) (tl := tl) (k := k) hF hK hV hH hr h
    | lt => exact zz_if_lt (ca := ca) (cb := cb) (cd := cd) (tl := tl) (k := k) hF hK hV hH hr h
    | ge => exact zz_if_ge (ca := ca) (cb := cb) (cd := cd) (tl := tl) (k := k) hF hK hV hH hr h
    | gt => exact zz_if_gt (ca := ca) (cb := cb) (cd := cd) (tl := tl) (k := k) hF hK hV hH hr h
    | le => exact zz_if_le (ca := ca) (cb := cb) (cd := cd) (tl := tl) (k := k) hF hK hV hH hr h
  | ifnonnull x0 => exact zz_ifnonnull (ca := ca) (cb := cb) (cd := cd) (tl := tl) (k := k) hF hK hV hH hr h
  | ifnull x0 => exact zz_ifnull (ca := ca) (cb := cb) (cd := cd) (tl := tl) (k := k) hF hK hV hH hr h
  | iinc x0 x1 => exact zz_iinc (ca := ca) (cb := cb) (cd := cd) (tl := tl) (k := k) hF hK hV hH hr h
  | iload x0 => exact zz_iload (ca := ca) (cb := cb) (cd := cd) (tl := tl) (k := k) hF hK hV hH hr h
  | iload_n x0 => exact zz_iload_n (ca := ca) (cb := cb) (cd := cd) (tl := tl) (k := k) hF hK hV hH hr h
  | imul  => exact zz_imul (ca := ca) (cb := cb) (cd := cd) (tl := tl) (k := k) hF hK hV hH hr h
  | ineg  => exact zz_ineg (ca := ca) (cb := cb) (cd := cd) (tl := tl) (k := k) hF hK hV hH hr h
  | instanceof x0 => cases h
  | invokedynamic x0 => cases h
  | invokeinterface x0 x1 => cases h
  | invokespecial x0 => exact zz_invokespecial (ca := ca) (cb := cb) (cd := cd) (tl := tl) (k := k) hF hK hV hH hr h
  | invokestatic x0 => exact zz_invokestatic (ca := ca) (cb := cb) (cd := cd) (tl := tl) (k := k) hF hK hV hH hr h
  | invokevirtual x0 => exact zz_invokevirtual (ca := ca) (cb := cb) (cd := cd) (tl := tl) (k := k) hF hK hV hH hr h
  | ior  => exact zz_ior (ca := ca) (cb := cb) (cd := cd) (tl := tl) (k := k) hF hK hV hH hr h
  | irem  => exact zz_irem (ca := ca) (cb := cb) (cd := cd) (tl := tl) (k := k) hF hK hV hH hr h
  | ireturn  => exact zz_ireturn (ca := ca) (cb := cb) (cd := cd) (tl := tl) (k := k) hE hF hK hV hH hr h
  | ishl  => exact zz_ishl (ca := ca) (cb := cb) (cd := cd) (tl := tl) (k := k) hF hK hV hH hr h
  | ishr  => exact zz_ishr (ca := ca) (cb := cb) (cd := cd) (tl := tl) (k := k) hF hK hV hH hr h
  | istore x0 => exact zz_istore (ca := ca) (cb := cb) (cd := cd) (tl := tl) (k := k) hF hK hV hH hr h
  | istore_n x0 => exact zz_istore_n (ca := ca) (cb := cb) (cd := cd) (tl := tl) (k := k) hF hK hV hH hr h
  | isub  => exact zz_isub (ca := ca) (cb := cb) (cd := cd) (tl := tl) (k := k) hF hK hV hH hr h
  | iushr  => exact zz_iushr (ca := ca) (cb := cb) (cd := cd) (tl := tl) (k := k) hF hK hV hH hr h
  | ixor  => exact zz_ixor (ca := ca) (cb := cb) (cd := cd) (tl := tl) (k := k) hF hK hV hH hr h
  | jsr x0 => cases h
  | jsr_w x0 => cases h
  | l2d  => cases h
  | l2f  => cases h
  | l2i  => exact zz_l2i (ca := ca) (cb := cb) (cd := cd) (tl := tl) (k := k) hF hK hV hH hr h
  | ladd  => exact zz_ladd (ca := ca) (cb := cb) (cd := cd) (tl := tl) (k := k) hF hK hV hH hr h
  | laload  => exact zz_laload (ca := ca) (cb := cb) (cd := cd) (tl := tl) (k := k) hF hK hV hH hr h
  | land  => exact zz_land (ca := ca) (cb := cb) (cd := cd) (tl := tl) (k := k) hF hK hV hH hr h
  | lastore  => exact zz_lastore (ca := ca) (cb := cb) (cd := cd) (tl := tl) (k := k) hF hK hV hH hr h
  | lcmp  => exact zz_lcmp (ca := ca) (cb := cb) (cd := cd) (tl := tl) (k := k) hF hK hV hH hr h
  | lconst x0 => exact zz_lconst (ca := ca) (cb := cb) (cd := cd) (tl := tl) (k := k) hF hK hV hH hr h
  | ldc x0 => exact zz_ldc (ca := ca) (cb := cb) (cd := cd) (tl := tl) (k := k) hF hK hV hH hr h
  | ldc_w x0 => exact zz_ldc_w (ca := ca) (cb := cb) (cd := cd) (tl := tl) (k := k) hF hK hV hH hr h
  | ldc2_w x0 => exact zz_ldc2_w (ca := ca) (cb := cb) (cd := cd) (tl := tl) (k := k) hF hK hV hH hr h
  | ldiv  => exact zz_ldiv (ca := ca) (cb := cb) (cd := cd) (tl := tl) (k := k) hF hK hV hH hr h
  | lload x0 => exact zz_lload (ca := ca) (cb := cb) (cd := cd) (tl := tl) (k := k) hF hK hV hH hr h
  | lload_n x0 => exact zz_lload_n (ca := ca) (cb := cb) (cd := cd) (tl := tl) (k := k) hF hK hV hH hr h
  | lmul  => exact zz_lmul (ca := ca) (cb := cb) (cd := cd) (tl := tl) (k := k) hF hK hV hH hr h
  | lneg  => cases h
  | lookupswitch x0 x1 => exact zz_lookupswitch (ca := ca) (cb := cb) (cd := cd) (tl := tl) (k := k) hF hK hV hH hr h
  | lor  => exact zz_lor (ca := ca) (cb := cb) (cd := cd) (tl := tl) (k := k) hF hK hV hH hr h
  | lrem  => exact zz_lrem (ca := ca) (cb := cb) (cd := cd) (tl := tl) (k := k) hF hK hV hH hr h
  | lreturn  => exact zz_lreturn (ca := ca) (cb := cb) (cd := cd) (tl := tl) (k := k) hE hF hK hV hH hr h
  | lshl  => exact zz_lshl (ca := ca) (cb := cb) (cd := cd) (tl := tl) (k := k) hF hK hV hH hr h
  | lshr  => exact zz_lshr (ca := ca) (cb := cb) (cd := cd) (tl := tl) (k := k) hF hK hV hH hr h
  | lstore x0 => exact zz_lstore (ca := ca) (cb := cb) (cd := cd) (tl := tl) (k := k) hF hK hV hH hr h
  | lstore_n x0 => exact zz_lstore_n (ca := ca) (cb := cb) (cd := cd) (tl := tl) (k := k) hF hK hV hH hr h
  | lsub  => exact zz_lsub (ca := ca) (cb := cb) (cd := cd) (tl := tl) (k := k) hF hK hV hH hr h
  | lushr  => cases h
  | lxor  => cases h
  | monitorenter  => cases h
  | monitorexit  => cases h
  | multianewarray x0 x1 => cases h
  | new x0 => exact zz_new (ca := ca) (cb := cb) (cd := cd) (tl := tl) (k := k) hF hK hV hH hr h
  | newarray x0 => exact zz_newarray (ca := ca) (cb := cb) (cd := cd) (tl := tl) (k := k) hF hK hV hH hr h
  | nop  => cases h
  | pop  => exact zz_pop (ca := ca) (cb := cb) (cd := cd) (tl := tl) (k := k) hF hK hV hH hr h
  | pop2  => cases h
  | putfield x0 => exact zz_putfield (ca := ca) (cb := cb) (cd := cd) (tl := tl) (k := k) hF hK hV hH hr h
  | putstatic x0 => cases h
  | ret x0 => cases h
  | return_  => exact zz_return_ (ca := ca) (cb := cb) (cd := cd) (tl := tl) (k := k) hE hF hK hV hH hr h
  | saload  => cases h
  | sastore  => cases h
  | sipush x0 => exact zz_sipush (ca := ca) (cb := cb) (cd := cd) (tl := tl) (k := k) hF hK hV hH hr h
  | swap  => cases h
  | tableswitch x0 x1 x2 x3 => exact zz_tableswitch (ca := ca) (cb := cb) (cd := cd) (tl := tl) (k := k) hF hK hV hH hr h
/-- a run of rows -/
theorem ze_loop_ok (hF : ze_Fx p l R s m args meth c dC dI dA sp xs A o nL d cc rt ini jt cal mc ms) (hE : ze_Re p l e R s m args below meth c Q z0 dC dI dA sp xs A nL cc rt k mc ms) : ∀ n : Nat, ze_KK p l e R s m args below meth c Q z0 dC dI dA sp xs A nL (fun cs => zk_code o cc nL rt ini jt cs = true) (ze_loop (ze_jp jt) cal mc ms k n) := by
  intro n
  induction n with
  | zero => intro cs ls st w g nc ns h; cases h
  | succ n ih =>
    intro cs ls st w g nc ns h pc hat ρ ws H locs la vs hH
    obtain ⟨hV, e9, r, hcs, hpc⟩ := hat
    subst hcs
    obtain ⟨hrow, hVr⟩ := zk_tail hV
    subst hpc
    exact ze_step hE hF ih hVr hH hrow h
end ZZ
