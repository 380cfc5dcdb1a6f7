/-! THE ENGINE, part 3: what an instruction does. A row of code: instruction, its pc, three numbers, a list of numbers. -/
abbrev ECE : Type := Jvm.ClassFile.Instr × Nat × Nat × Nat × Nat × List Nat
abbrev EKn : Type := List ECE → List EV → List EV → EW → EG → Nat → Nat → Bool
/-- a jump to a row -/
abbrev EJp : Type := Nat → (List ECE → Bool) → Bool
abbrev ERt : Type := Option EV → EW → EG → Bool
abbrev ECal : Type := Nat → List EV → EW → EG → ERt → Bool
/-- next a b c list; jumps; going on; at the end; calls; cells and slots at most; locals stack world intervals, cells and slots made -/
abbrev EOp : Type := List ECE → Nat → Nat → Nat → List Nat → EJp → EKn → ERt → ECal → Nat → Nat → List EV → List EV → EW → EG → Nat → Nat → Bool
noncomputable def zo_no : EOp := fun _ _ _ _ _ _ _ _ _ _ _ _ _ _ _ _ _ => false
/-- an int that nothing is known of but its interval -/
noncomputable def zo_fr (lo hi : Nat) (nx : List ECE) (kk : EKn) (ls rest : List EV) (w : EW) (g : EG) (nc ns : Nat) : Bool := ze_f (ze_len g) (fun i => kk nx ls (eU i :: rest) w (ze_ap g (lo, hi)) nc ns)
noncomputable def zo_bin (fc : Nat → Nat → Nat) (bd : EG → EV → EV → Nat × Nat) : EOp := fun nx _ _ _ _ jp kk _ _ _ _ ls st w g nc ns => zl_ st (fun v2 t => zl_ t (fun v1 rest => ze_rs g v1 (fun x => ze_rs g v2 (fun y => ze_f (fc x y) (fun r => kk nx ls (eC r :: rest) w g nc ns)) (fun _ => zo_fr (bd g v1 v2).1 (bd g v1 v2).2 nx kk ls rest w g nc ns))
      (fun _ => ze_rs g v2 (fun _ => zo_fr (bd g v1 v2).1 (bd g v1 v2).2 nx kk ls rest w g nc ns) (fun _ => zo_fr (bd g v1 v2).1 (bd g v1 v2).2 nx kk ls rest w g nc ns))))
noncomputable def zo_top : EG → EV → EV → Nat × Nat := fun _ _ _ => (0, 4294967295)
/-- behind '& m', m a number of 0 and above -/
noncomputable def zo_bnd : EG → EV → EV → Nat × Nat := fun _ _ v2 => match v2 with
  | .inl (.inl m) => zcd (Nat.ble m 2147483647) (2147483648, Nat.add 2147483648 m) (0, 4294967295)
  | _ => (0, 4294967295)
/-- the i-th of a list, or d -/
noncomputable def zo_gd {α : Type} (l : List α) (i : Nat) (d : α) : α := List.rec (motive := fun _ => α) d (fun a _ _ => a) (ze_dp l i)
theorem zo_gd_eq {α : Type} {d : α} : ∀ (l : List α) (i : Nat), zo_gd l i d = l.getD i d := by
  intro l i
  rw [List.getD_eq_getElem?_getD]
  unfold zo_gd
  cases hd : ze_dp l i with
  | nil => rw [ze_dp_nil hd]; rfl
  | cons a t => rw [ze_dp_cons hd]; rfl
/-- an interval of an int -/
noncomputable def zo_iv (g : EG) (v : EV) : Nat × Nat := Sum.rec (motive := fun _ => Nat × Nat) (fun a => Sum.rec (motive := fun _ => Nat × Nat) (fun n => (ze_z n, ze_z n)) (fun i => zo_gd g i (0, 4294967295)) a) (fun _ => (0, 4294967295)) v
/-- behind '%', the divisor above 0 -/
noncomputable def zo_brem : EG → EV → EV → Nat × Nat := fun g v1 v2 => zcd (zcd (Nat.ble 2147483649 (zo_iv g v2).1) (Nat.ble 2147483648 (zo_iv g v1).1) false) (2147483648, Nat.pred (zo_iv g v2).2) (0, 4294967295)
/-- behind '/ m', m a number above 0 -/
noncomputable def zo_bdiv : EG → EV → EV → Nat × Nat := fun g v1 v2 => match v2 with
  | .inl (.inl m) => zcd (zcd (Nat.ble 1 m) (zcd (Nat.ble m 1073741824) (Nat.ble 2147483648 (zo_iv g v1).1) false) false) (Nat.add 2147483648 (Nat.div (Nat.sub (zo_iv g v1).1 2147483648) m), Nat.add 2147483648 (Nat.div (Nat.sub (zo_iv g v1).2 2147483648) m)) (0, 4294967295)
  | _ => (0, 4294967295)
noncomputable def zo_p2 (a : Nat) : Nat := Nat.add 2147483648 (Nat.pow 2 (Nat.sub a 2147483648))
theorem zo_p2_eq (a : Nat) : zo_p2 a = 2147483648 + 2 ^ (a - 2147483648) := rfl
/-- 1 << k -/
noncomputable def zo_bshl : EG → EV → EV → Nat × Nat := fun g v1 v2 => match v1 with
  | .inl (.inl m) => zcd (Nat.beq m 1) (zcd (zcd (Nat.ble 2147483648 (zo_iv g v2).1) (Nat.ble (zo_iv g v2).2 2147483678) false) (zo_p2 (zo_iv g v2).1, zo_p2 (zo_iv g v2).2) (0, 4294967295)) (0, 4294967295)
  | _ => (0, 4294967295)
/-- behind '>>> k' -/
noncomputable def zo_bush : EG → EV → EV → Nat × Nat := fun _ _ v2 => match v2 with
  | .inl (.inl k) => zcd (Nat.beq k 16) (2147483648, 2147549183) (0, 4294967295)
  | _ => (0, 4294967295)
/-- x - m -/
noncomputable def zo_bsub : EG → EV → EV → Nat × Nat := fun g v1 v2 => match v2 with
  | .inl (.inl m) => zcd (zcd (Nat.ble m 1073741824) (Nat.ble m (zo_iv g v1).1) false) (Nat.sub (zo_iv g v1).1 m, Nat.sub (zo_iv g v1).2 m) (0, 4294967295)
  | _ => (0, 4294967295)
/-- 0 >> anything -/
noncomputable def zo_bshr : EG → EV → EV → Nat × Nat := fun _ v1 _ => match v1 with
  | .inl (.inl 0) => (2147483648, 2147483648)
  | _ => (0, 4294967295)
noncomputable def zo_c2 (f : Int32 → Int32 → Int32) (a b : Nat) : Nat := ze_e (f (nI a) (nI b))
/-- x + y, x - y, x * y by their intervals -/
noncomputable def zo_badd : EG → EV → EV → Nat × Nat := fun g v1 v2 => zcd (zcd (Nat.ble 2147483648 (Nat.add (zo_iv g v1).1 (zo_iv g v2).1)) (Nat.ble (Nat.add (zo_iv g v1).2 (zo_iv g v2).2) 6442450943) false) (Nat.sub (Nat.add (zo_iv g v1).1 (zo_iv g v2).1) 2147483648, Nat.sub (Nat.add (zo_iv g v1).2 (zo_iv g v2).2) 2147483648) (0, 4294967295)
noncomputable def zo_bsb : EG → EV → EV → Nat × Nat := fun g v1 v2 => zcd (zcd (Nat.ble (zo_iv g v2).2 (Nat.add (zo_iv g v1).1 2147483648)) (Nat.ble (Nat.add (zo_iv g v1).2 2147483648) (Nat.add (zo_iv g v2).1 4294967295)) false) (Nat.sub (Nat.add (zo_iv g v1).1 2147483648) (zo_iv g v2).2, Nat.sub (Nat.add (zo_iv g v1).2 2147483648) (zo_iv g v2).1) (0, 4294967295)
noncomputable def zo_bml : EG → EV → EV → Nat × Nat := fun g v1 v2 => zcd (zcd (Nat.ble 2147483648 (zo_iv g v1).1) (zcd (Nat.ble 2147483648 (zo_iv g v2).1) (Nat.ble (Nat.mul (Nat.sub (zo_iv g v1).2 2147483648) (Nat.sub (zo_iv g v2).2 2147483648)) 2147483647) false) false) (2147483648, Nat.add 2147483648 (Nat.mul (Nat.sub (zo_iv g v1).2 2147483648) (Nat.sub (zo_iv g v2).2 2147483648))) (0, 4294967295)
noncomputable def zo_iaddb : EOp := zo_bin (fun a b => Nat.mod (Nat.add a b) 4294967296) zo_badd
/-- the law's place in the script (unknown 5) and the four behind it (6 .. 9) -/
noncomputable def zo_i5 (v1 v2 : EV) (f : Nat → Bool) (d : Bool) : Bool := zv_ v1 (fun a => zv_s a (fun _ => d) (fun i => zcd (Nat.beq i 5) (zv_ v2 (fun b => zv_s b (fun n => zcd (Nat.ble 1 n) (zcd (Nat.ble n 4) (f n) d) d) (fun _ => d)) (fun _ => d) (fun _ => d) (fun _ => d)) d)) (fun _ => d) (fun _ => d) (fun _ => d)
/-- an int, and 0 -/
noncomputable def zo_z2 (v1 v2 : EV) : Bool := zv_i v1 (fun _ => zv_c v2 (fun n => Nat.beq n 0))
noncomputable def zo_iadd0 : EOp := fun nx a b c tl jp kk k cal mc ms ls st w g nc ns => zl_ st (fun v2 t => zl_ t (fun v1 rest => zo_i5 v1 v2 (fun n => kk nx ls (eU (Nat.add 5 n) :: rest) w g nc ns) (zcd (zo_z2 v1 v2) (kk nx ls (v1 :: rest) w g nc ns) (zo_iaddb nx a b c tl jp kk k cal mc ms ls (v2 :: v1 :: rest) w g nc ns))))
noncomputable def zo_isub0 : EOp := zo_bin (fun a b => Nat.mod (Nat.add a (Nat.sub 4294967296 (Nat.mod b 4294967296))) 4294967296) zo_bsb
noncomputable def zo_imul0 : EOp := zo_bin (fun a b => Nat.mod (Nat.mul a b) 4294967296) zo_bml
noncomputable def zo_iand0 : EOp := zo_bin (zo_c2 (fun x y => x &&& y)) zo_bnd
noncomputable def zo_ior : EOp := zo_bin (zo_c2 (fun x y => x ||| y)) zo_top
noncomputable def zo_ixor : EOp := zo_bin (zo_c2 (fun x y => x ^^^ y)) zo_top
noncomputable def zo_ishl : EOp := zo_bin (zo_c2 (fun x y => x <<< (y &&& 31))) zo_bshl
noncomputable def zo_ishr0 : EOp := zo_bin (zo_c2 (fun x y => x >>> (y &&& 31))) zo_bshr
noncomputable def zo_iushr0 : EOp := zo_bin (zo_c2 (fun x y => (x.toUInt32 >>> (y.toUInt32 &&& Int32.toUInt32 31)).toInt32)) zo_bush
/-- a divisor that isn't 0 -/
noncomputable def zo_dv (op : EOp) : EOp := fun nx a b c tl jp kk k cal mc ms ls st w g nc ns => match st with
  | v2 :: rest => ze_rs g v2 (fun y => zcd (Nat.beq (Nat.mod y 4294967296) 0) false (op nx a b c tl jp kk k cal mc ms ls (v2 :: rest) w g nc ns)) (fun i => ze_n g i (fun p => zcd (zcd (Nat.ble 2147483649 p.1) true (Nat.ble p.2 2147483647)) (op nx a b c tl jp kk k cal mc ms ls (v2 :: rest) w g nc ns) false))
  | _ => false
noncomputable def zo_idiv : EOp := zo_dv (zo_bin (zo_c2 (fun x y => x / y)) zo_bdiv)
noncomputable def zo_irem0 : EOp := zo_dv (zo_bin (zo_c2 (fun x y => x - x / y * y)) zo_brem)
noncomputable def zo_un (fc : Nat → Nat) (lo hi : Nat) : EOp := fun nx _ _ _ _ jp kk _ _ _ _ ls st w g nc ns => zl_ st (fun v1 rest => ze_rs g v1 (fun x => ze_f (fc x) (fun r => kk nx ls (eC r :: rest) w g nc ns)) (fun _ => zo_fr lo hi nx kk ls rest w g nc ns))
noncomputable def zo_c1 (f : Int32 → Int32) (a : Nat) : Nat := ze_e (f (nI a))
noncomputable def zo_ineg : EOp := fun nx _ _ _ _ jp kk _ _ _ _ ls st w g nc ns => zl_ st (fun v1 rest => ze_rs g v1 (fun x => ze_f (zo_c1 (fun x => -x) x) (fun r => kk nx ls (eC r :: rest) w g nc ns)) (fun _ => zo_fr (zo_bsb g (eC 0) v1).1 (zo_bsb g (eC 0) v1).2 nx kk ls rest w g nc ns))
noncomputable def zo_i2b0 : EOp := zo_un (zo_c1 (fun x => x.toInt8.toInt32)) 0 4294967295
noncomputable def zo_i2s0 : EOp := zo_un (zo_c1 (fun x => x.toInt16.toInt32)) 0 4294967295
noncomputable def zo_i2c : EOp := fun nx _ _ _ _ jp kk _ _ _ _ ls st w g nc ns => zl_ st (fun v1 rest => ze_rs g v1 (fun x => ze_f (zo_c1 (fun x => (x.toUInt32 % 65536).toInt32) x) (fun r => kk nx ls (eC r :: rest) w g nc ns)) (fun i => ze_n g i (fun p => zcd (zcd (Nat.ble 2147483648 p.1) (Nat.ble p.2 2147549183) false) (kk nx ls (eU i :: rest) w g nc ns) (zo_fr 2147483648 2147549183 nx kk ls rest w g nc ns))))
/-- an op on ints of which one is unknown may be answered by a fact -/
noncomputable def zo_u2 (x y : Nat ⊕ Nat) (f : Bool) : Bool := zv_s x (fun _ => zv_s y (fun _ => false) (fun _ => f)) (fun _ => f)
noncomputable def zo_kr (nx : List ECE) (kk : EKn) (ls rest : List EV) (nc ns : Nat) : ERt := fun r w g => Option.rec (motive := fun _ => Bool) false (fun v => zv_i v (fun u => kk nx ls (.inl u :: rest) w g nc ns)) r
noncomputable def zo_hk (op : Nat) (old : EOp) : EOp := fun nx a b c tl jp kk k cal mc ms ls st w g nc ns => zcd (zl_ st (fun v2 t => zl_ t (fun v1 rest => zv_i v1 (fun x => zv_i v2 (fun y => zo_u2 x y (cal (Nat.add 400 op) [.inl x, .inl y] w g (zo_kr nx kk ls rest nc ns))))))) true (old nx a b c tl jp kk k cal mc ms ls st w g nc ns)
/-- the second one a number that isn't 0 -/
noncomputable def zo_hd (op : Nat) (old : EOp) : EOp := fun nx a b c tl jp kk k cal mc ms ls st w g nc ns => zcd (zl_ st (fun v2 t => zl_ t (fun v1 rest => zv_i v1 (fun x => zv_s x (fun _ => false) (fun i => zv_c v2 (fun n => zcd (Nat.beq (Nat.mod n 4294967296) 0) false (cal (Nat.add 400 op) [.inl (.inr i), .inl (.inl n)] w g (zo_kr nx kk ls rest nc ns)))))))) true (old nx a b c tl jp kk k cal mc ms ls st w g nc ns)
noncomputable def zo_h1 (op : Nat) (old : EOp) : EOp := fun nx a b c tl jp kk k cal mc ms ls st w g nc ns => zcd (zl_ st (fun v1 rest => zv_i v1 (fun x => zv_s x (fun _ => false) (fun i => cal (Nat.add 400 op) [.inl (.inr i), .inl (.inl 0)] w g (zo_kr nx kk ls rest nc ns))))) true (old nx a b c tl jp kk k cal mc ms ls st w g nc ns)
noncomputable def zo_iadd : EOp := zo_hk 0 zo_iadd0
noncomputable def zo_isub : EOp := zo_hk 1 zo_isub0
noncomputable def zo_imul : EOp := zo_hk 2 zo_imul0
noncomputable def zo_iand : EOp := zo_hk 3 zo_iand0
noncomputable def zo_ishr : EOp := zo_hk 4 zo_ishr0
noncomputable def zo_iushr : EOp := zo_hk 5 zo_iushr0
noncomputable def zo_irem : EOp := zo_hd 6 zo_irem0
noncomputable def zo_i2b : EOp := zo_h1 7 zo_i2b0
noncomputable def zo_i2s : EOp := zo_h1 8 zo_i2s0
/-- a long that is an int: as an int -/
noncomputable def ze_lr (n : Nat) : Bool := Nat.ble (Nat.mod (Nat.add n 2147483648) 18446744073709551616) 4294967295
theorem ze_lr_eq {n : Nat} (h : ze_lr n = true) : (n + 2147483648) % 18446744073709551616 ≤ 4294967295 := Nat.le_of_ble_eq_true h
noncomputable def ze_l32 (n : Nat) : Nat := Nat.mod n 4294967296
theorem ze_l32_eq (n : Nat) : ze_l32 n = n % 4294967296 := rfl
noncomputable def ze_li (ck : Nat → Bool) (cv : Nat → Nat) (v : Nat ⊕ Nat) (f : EV → Bool) (d : Bool) : Bool := zv_s v (fun n => zcd (ck n) (f (.inl (.inl (cv n)))) d) (fun i => f (.inl (.inr i)))
/-- longs: numbers, or ints as longs, where the result is such a one too (ck) -/
noncomputable def zo_lb (f : Int64 → Int64 → Int64) (ck : EG → EV → EV → Bool) (bd : EG → EV → EV → Nat × Nat) : EOp := fun nx _ _ _ _ jp kk _ _ _ _ ls st w g nc ns => match st with
  | .inr (.inl (.inr y)) :: .inr (.inl (.inr x)) :: rest => zv_s x (fun x0 => zv_s y (fun y0 => ze_f (ze_el (f (lN x0) (lN y0))) (fun r => kk nx ls (eL r :: rest) w g nc ns)) (fun _ => ze_li ze_lr ze_l32 x (fun x2 => ze_li ze_lr ze_l32 y (fun y2 => zcd (ck g x2 y2) (ze_f g.length (fun i => kk nx ls (eLU i :: rest) w (g ++ [bd g x2 y2]) nc ns)) false) false) false)) (fun _ => ze_li ze_lr ze_l32 x (fun x2 => ze_li ze_lr ze_l32 y (fun y2 => zcd (ck g x2 y2) (ze_f g.length (fun i => kk nx ls (eLU i :: rest) w (g ++ [bd g x2 y2]) nc ns)) false) false) false)
  | _ => false
noncomputable def zo_ckn : EG → EV → EV → Bool := fun _ _ _ => false
noncomputable def zo_cka : EG → EV → EV → Bool := fun g v1 v2 => zcd (Nat.ble 2147483648 (zo_iv g v1).1) (zcd (Nat.ble 2147483648 (zo_iv g v2).1) (Nat.ble (Nat.add (zo_iv g v1).2 (zo_iv g v2).2) 6442450943) false) false
noncomputable def zo_ckm : EG → EV → EV → Bool := fun g v1 v2 => zcd (Nat.ble 2147483648 (zo_iv g v1).1) (zcd (Nat.ble 2147483648 (zo_iv g v2).1) (Nat.ble (Nat.mul (Nat.sub (zo_iv g v1).2 2147483648) (Nat.sub (zo_iv g v2).2 2147483648)) 2147483647) false) false
noncomputable def zo_ckd : EG → EV → EV → Bool := fun g v1 v2 => zcd (Nat.ble 2147483648 (zo_iv g v1).1) (Nat.ble 2147483649 (zo_iv g v2).1) false
noncomputable def zo_bld : EG → EV → EV → Nat × Nat := fun g v1 _ => (2147483648, (zo_iv g v1).2)
noncomputable def zo_ldv (op : EOp) : EOp := fun nx a b c tl jp kk k cal mc ms ls st w g nc ns => match st with
  | .inr (.inl (.inr y)) :: rest => zv_s y (fun n => zcd (Nat.beq (Nat.mod n 18446744073709551616) 0) false (op nx a b c tl jp kk k cal mc ms ls (.inr (.inl (.inr y)) :: rest) w g nc ns)) (fun i => ze_n g i (fun p => zcd (Nat.ble 2147483649 p.1) (op nx a b c tl jp kk k cal mc ms ls (.inr (.inl (.inr y)) :: rest) w g nc ns) false))
  | _ => false
noncomputable def zo_ladd : EOp := zo_lb (fun x y => x + y) zo_cka zo_badd
noncomputable def zo_lsub : EOp := zo_lb (fun x y => x - y) zo_ckn zo_top
noncomputable def zo_lmul : EOp := zo_lb (fun x y => x * y) zo_ckm zo_bml
noncomputable def zo_land : EOp := zo_lb (fun x y => x &&& y) zo_ckn zo_top
noncomputable def zo_lor : EOp := zo_lb (fun x y => x ||| y) zo_ckn zo_top
noncomputable def zo_ldiv : EOp := zo_ldv (zo_lb (fun x y => x / y) zo_ckd zo_bld)
noncomputable def zo_lrem : EOp := zo_ldv (zo_lb (fun x y => x - x / y * y) zo_ckd zo_brem)
noncomputable def zo_lsf (f : Int64 → Int32 → Int64) : EOp := fun nx _ _ _ _ jp kk _ _ _ _ ls st w g nc ns => match st with
  | v :: .inr (.inl (.inr (.inl x))) :: rest => ze_ix g v (fun y g => ze_f (ze_el (f (lN x) (nI y))) (fun r => kk nx ls (eL r :: rest) w g nc ns))
  | _ => false
noncomputable def zo_lshl : EOp := zo_lsf (fun x y => x <<< (y.toInt64 &&& 63))
noncomputable def zo_lshr : EOp := zo_lsf (fun x y => x >>> (y.toInt64 &&& 63))
noncomputable def zo_i2l : EOp := fun nx _ _ _ _ jp kk _ _ _ _ ls st w g nc ns => zl_ st (fun v rest => ze_rs g v (fun x => ze_f (ze_el (nI x).toInt64) (fun r => kk nx ls (eL r :: rest) w g nc ns)) (fun i => kk nx ls (eLU i :: rest) w g nc ns))
noncomputable def zo_l2i : EOp := fun nx _ _ _ _ jp kk _ _ _ _ ls st w g nc ns => match st with
  | .inr (.inl (.inr x)) :: rest => zv_s x (fun x => ze_f (ze_e (lN x).toInt32) (fun r => kk nx ls (eC r :: rest) w g nc ns)) (fun i => kk nx ls (eU i :: rest) w g nc ns)
  | _ => false
/-- constants: a -/
noncomputable def zo_cst : EOp := fun nx a _ _ _ jp kk _ _ _ _ ls st w g nc ns => kk nx ls (eC a :: st) w g nc ns
/-- a number, or (b = 1) a text's cell -/
noncomputable def zo_ldcs : EOp := fun nx a b _ _ jp kk _ _ _ _ ls st w g nc ns => zcd (Nat.beq b 1) (zcd (Nat.ble 12 a) (kk nx ls (eX a :: st) w g nc ns) false) (kk nx ls (eC a :: st) w g nc ns)
noncomputable def zo_lcst : EOp := fun nx a _ _ _ jp kk _ _ _ _ ls st w g nc ns => kk nx ls (eL a :: st) w g nc ns
noncomputable def zo_null : EOp := fun nx _ _ _ _ jp kk _ _ _ _ ls st w g nc ns => kk nx ls (eX 0 :: st) w g nc ns
/-- locals: a -/
noncomputable def zo_iload : EOp := fun nx a _ _ _ jp kk _ _ _ _ ls st w g nc ns => ze_n ls a (fun v => zv_i v (fun u => kk nx ls (.inl u :: st) w g nc ns))
noncomputable def zo_lload : EOp := fun nx a _ _ _ jp kk _ _ _ _ ls st w g nc ns => ze_n ls a (fun v => zv_l v (fun u => kk nx ls (.inr (.inl (.inr u)) :: st) w g nc ns))
noncomputable def zo_aload : EOp := fun nx a _ _ _ jp kk _ _ _ _ ls st w g nc ns => ze_n ls a (fun v => zv_ v (fun _ => false) (fun u => kk nx ls (.inr (.inl (.inl u)) :: st) w g nc ns) (fun _ => false) (fun u => zcd (Nat.beq u 1) false (kk nx ls (.inr (.inr u) :: st) w g nc ns)))
noncomputable def ze_cl (u : EV) : EV := Sum.rec (motive := fun _ => EV) (fun q => .inl q) (fun u => Sum.rec (motive := fun _ => EV) (fun z => Sum.rec (motive := fun _ => EV) (fun q => .inr (.inl (.inl q))) (fun _ => eX 1) z) (fun q => .inr (.inr q)) u) u
noncomputable def ze_st (v : EV) (ls : List EV) (i : Nat) : List EV := Nat.rec (motive := fun _ => List EV) (ze_s v ls 0) (fun j _ => ze_s v (ze_m ze_cl ls j) (Nat.succ j)) i
noncomputable def zo_istore : EOp := fun nx a _ _ _ jp kk _ _ _ _ ls st w g nc ns => zl_ st (fun v rest => zv_i v (fun u => kk nx (ze_st (.inl u) ls a) rest w g nc ns))
noncomputable def zo_astore : EOp := fun nx a _ _ _ jp kk _ _ _ _ ls st w g nc ns => zl_ st (fun v rest => zv_ v (fun _ => false) (fun u => kk nx (ze_st (.inr (.inl (.inl u))) ls a) rest w g nc ns) (fun _ => false) (fun u => zcd (Nat.beq u 1) false (kk nx (ze_st (.inr (.inr u)) ls a) rest w g nc ns)))
noncomputable def zo_lstore : EOp := fun nx a _ _ _ jp kk _ _ _ _ ls st w g nc ns => zl_ st (fun v rest => zv_l v (fun u => kk nx (ze_s (eX 1) (ze_st (.inr (.inl (.inr u))) ls a) (Nat.succ a)) rest w g nc ns))
noncomputable def zo_iinc0 : EOp := fun nx a b _ _ jp kk _ _ _ _ ls st w g nc ns => ze_n ls a (fun v => ze_rs g v (fun x => ze_f (Nat.mod (Nat.add x b) 4294967296) (fun r => kk nx (ze_st (eC r) ls a) st w g nc ns))
    (fun _ => ze_f g.length (fun i => kk nx (ze_st (eU i) ls a) st w (g ++ [zo_badd g v (eC b)]) nc ns)))
noncomputable def zo_iinc : EOp := fun nx a b _ _ jp kk _ _ _ _ ls st w g nc ns => ze_n ls a (fun v => ze_rs g v (fun x => ze_f (Nat.mod (Nat.add x b) 4294967296) (fun r => kk nx (ze_st (eC r) ls a) st w g nc ns))
    (fun _ => ze_f (ze_len g) (fun i => kk nx (ze_st (eU i) ls a) st w (ze_ap g (zo_badd g v (eC b))) nc ns)))
theorem zo_iinc_eq : zo_iinc = zo_iinc0 := by
  funext nx a b c tl jp kk k cal mc ms ls st w g nc ns
  unfold zo_iinc zo_iinc0
  simp only [ze_len_eq, ze_ap_eq]
/-- the stack -/
noncomputable def ze_ct (v : EV) : Nat := Sum.rec (motive := fun _ => Nat) (fun _ => 1) (fun u => Sum.rec (motive := fun _ => Nat) (fun z => Sum.rec (motive := fun _ => Nat) (fun _ => 1) (fun _ => 2) z) (fun _ => 1) u) v
noncomputable def zo_dup : EOp := fun nx _ _ _ _ jp kk _ _ _ _ ls st w g nc ns => zl_ st (fun v rest => zcd (Nat.beq (ze_ct v) 1) (kk nx ls (v :: v :: rest) w g nc ns) false)
noncomputable def zo_pop : EOp := fun nx _ _ _ _ jp kk _ _ _ _ ls st w g nc ns => zl_ st (fun v rest => zcd (Nat.beq (ze_ct v) 1) (kk nx ls rest w g nc ns) false)
noncomputable def zo_dup_x1 : EOp := fun nx _ _ _ _ jp kk _ _ _ _ ls st w g nc ns => match st with
  | v :: u :: rest => zcd (Nat.beq (ze_ct v) 1) (zcd (Nat.beq (ze_ct u) 1) (kk nx ls (v :: u :: v :: rest) w g nc ns) false) false
  | _ => false
noncomputable def zo_dup_x2 : EOp := fun nx _ _ _ _ jp kk _ _ _ _ ls st w g nc ns => match st with
  | v :: u :: z :: rest => zcd (Nat.beq (ze_ct v) 1) (zcd (Nat.beq (ze_ct u) 1) (zcd (Nat.beq (ze_ct z) 1) (kk nx ls (v :: u :: z :: v :: rest) w g nc ns) false) false) false
  | _ => false
noncomputable def zo_dup2 : EOp := fun nx _ _ _ _ jp kk _ _ _ _ ls st w g nc ns => match st with
  | v :: u :: rest => zcd (Nat.beq (ze_ct v) 1) (zcd (Nat.beq (ze_ct u) 1) (kk nx ls (v :: u :: v :: u :: rest) w g nc ns) false) false
  | _ => false
/-- branches: a is the target's row -/
noncomputable def zo_b2 (f : EG → EV → EV → (EG → Bool) → (EG → Bool) → Bool) : EOp := fun nx a _ _ _ jp kk _ _ _ _ ls st w g nc ns => zl_ st (fun v2 t => zl_ t (fun v1 rest => f g v1 v2 (fun g => jp a (fun cs => kk cs ls rest w g nc ns)) (fun g => kk nx ls rest w g nc ns)))
noncomputable def zo_b1 (f : EG → EV → EV → (EG → Bool) → (EG → Bool) → Bool) : EOp := fun nx a _ _ _ jp kk _ _ _ _ ls st w g nc ns => zl_ st (fun v1 rest => f g v1 (eC 0) (fun g => jp a (fun cs => kk cs ls rest w g nc ns)) (fun g => kk nx ls rest w g nc ns))
noncomputable def zc_eq : EG → EV → EV → (EG → Bool) → (EG → Bool) → Bool := fun g x y t f => ze_eq g x y t f
noncomputable def zc_ne : EG → EV → EV → (EG → Bool) → (EG → Bool) → Bool := fun g x y t f => ze_eq g x y f t
noncomputable def zc_lt : EG → EV → EV → (EG → Bool) → (EG → Bool) → Bool := fun g x y t f => ze_lt g x y t f
noncomputable def zc_ge : EG → EV → EV → (EG → Bool) → (EG → Bool) → Bool := fun g x y t f => ze_lt g x y f t
noncomputable def zc_gt : EG → EV → EV → (EG → Bool) → (EG → Bool) → Bool := fun g x y t f => ze_lt g y x t f
noncomputable def zc_le : EG → EV → EV → (EG → Bool) → (EG → Bool) → Bool := fun g x y t f => ze_lt g y x f t
noncomputable def zo_if (c : Jvm.ClassFile.Cond) : EOp := Jvm.ClassFile.Cond.rec (motive := fun _ => EOp) (zo_b1 zc_eq) (zo_b1 zc_ne) (zo_b1 zc_lt) (zo_b1 zc_ge) (zo_b1 zc_gt) (zo_b1 zc_le) c
noncomputable def zo_icmp (c : Jvm.ClassFile.Cond) : EOp := Jvm.ClassFile.Cond.rec (motive := fun _ => EOp) (zo_b2 zc_eq) (zo_b2 zc_ne) (zo_b2 zc_lt) (zo_b2 zc_ge) (zo_b2 zc_gt) (zo_b2 zc_le) c
noncomputable def zo_goto : EOp := fun _ a _ _ _ jp kk _ _ _ _ ls st w g nc ns => jp a (fun cs => kk cs ls st w g nc ns)
noncomputable def zo_ifnull : EOp := fun nx a _ _ _ jp kk _ _ _ _ ls st w g nc ns => match st with
  | .inr (.inl (.inl _)) :: rest => kk nx ls rest w g nc ns
  | .inr (.inr 0) :: rest => jp a (fun cs => kk cs ls rest w g nc ns)
  | _ => false
noncomputable def zo_ifnonnull : EOp := fun nx a _ _ _ jp kk _ _ _ _ ls st w g nc ns => match st with
  | .inr (.inl (.inl _)) :: rest => jp a (fun cs => kk cs ls rest w g nc ns)
  | .inr (.inr 0) :: rest => kk nx ls rest w g nc ns
  | _ => false
/-- switches: a: row of the default; list: numbers (with 2^31 added) and rows, one behind the other -/
noncomputable def ze_tg (z a : Nat) (tl : List Nat) : Bool → Nat → Nat := List.rec (motive := fun _ => Bool → Nat → Nat) (fun _ _ => a) (fun t _ ih odd m => zcd odd (zcd (Nat.beq m z) t (ih false 0)) (ih true t)) tl
noncomputable def zo_swu (i a : Nat) (tl : List Nat) (go : Nat → EG → Bool) : Bool → Nat → EG → Bool := List.rec (motive := fun _ => Bool → Nat → EG → Bool) (fun _ _ g => go a g) (fun t _ ih odd m g => zcd odd (ze_eu g i m (fun g => go t g) (fun g => ih false 0 g)) (ih true t g)) tl
noncomputable def zo_sw : EOp := fun _ a _ _ tl jp kk _ _ _ _ ls st w g nc ns => zl_ st (fun v rest => ze_rs g v (fun x => ze_f (ze_tg (ze_z x) a tl false 0) (fun t => jp t (fun cs => kk cs ls rest w g nc ns))) (fun i => zo_swu i a tl (fun t g => jp t (fun cs => kk cs ls rest w g nc ns)) false 0 g))
/-- fields: a class, b place, c type (0 int, 1 boolean, 2 reference, 3 long) -/
noncomputable def zo_getf_m : EOp := fun nx a b _ _ jp kk _ _ _ _ ls st w g nc ns => match st with
  | .inr (.inl (.inl q)) :: rest => ze_g w q (fun c => zcd (Nat.beq c.1 a) (ze_n c.2 b (fun v => kk nx ls (v :: rest) w g nc ns)) false)
  | _ => false
noncomputable def zo_getf : EOp := fun nx a b _ _ jp kk _ _ _ _ ls st w g nc ns => zl_ st (fun v rest => zv_r v (fun q => ze_g w q (fun c => zcd (Nat.beq c.1 a) (ze_n c.2 b (fun v => kk nx ls (v :: rest) w g nc ns)) false)))
theorem zo_getf_eq : zo_getf = zo_getf_m := by
  funext nx a b c tl jp kk k cal mc ms ls st w g nc ns
  rcases st with _ | ⟨v, r⟩
  · rfl
  · rcases v with (n | i) | ((q | (l | u)) | x) <;> rfl
noncomputable def ze_tc (t : Nat) (v : EV) : Bool := Nat.rec (motive := fun _ => Bool) (zv_i v (fun _ => true)) (fun t _ => Nat.rec (motive := fun _ => Bool) (zv_c v (fun n => Nat.ble n 1)) (fun t _ => Nat.rec (motive := fun _ => Bool) (zv_ v (fun _ => false) (fun _ => true) (fun _ => false) (fun k => Nat.rec (motive := fun _ => Bool) true (fun _ _ => false) k))
  (fun t _ => Nat.rec (motive := fun _ => Bool) (zv_l v (fun _ => true)) (fun t _ => Nat.rec (motive := fun _ => Bool) (zv_c v (fun n => Nat.ble n 65535)) (fun _ _ => false) t) t) t) t) t
noncomputable def zo_putf_m : EOp := fun nx a b c _ jp kk _ _ _ _ ls st w g nc ns => match st with
  | v :: .inr (.inl (.inl q)) :: rest => zcd (ze_tc c v) (ze_g w q (fun e => zcd (Nat.beq e.1 a) (ze_n e.2 b (fun _ => kk nx ls rest (ze_ws w q (a, ze_s v e.2 b)) g nc ns)) false)) false
  | _ => false
noncomputable def zo_putf : EOp := fun nx a b c _ jp kk _ _ _ _ ls st w g nc ns => zl_ st (fun v t => zl_ t (fun r rest => zv_r r (fun q => zcd (ze_tc c v) (ze_g w q (fun e => zcd (Nat.beq e.1 a) (ze_n e.2 b (fun _ => kk nx ls rest (ze_ws w q (a, ze_s v e.2 b)) g nc ns)) false)) false)))
theorem zo_putf_eq : zo_putf = zo_putf_m := by
  funext nx a b c tl jp kk k cal mc ms ls st w g nc ns
  rcases st with _ | ⟨v, r⟩
  · rfl
  · rcases r with _ | ⟨v2, r⟩
    · rcases v with (n | i) | ((q | (l | u)) | x) <;> rfl
    · rcases v with (n | i) | ((q | (l | u)) | x) <;> rcases v2 with (n2 | i2) | ((q2 | (l2 | u2)) | x2) <;> rfl
/-- an array known by its interval: how many, from, to -/
noncomputable def zo_s3 (l : List EV) (f : Nat → Nat → Nat → Bool) : Bool := zl_ l (fun a t => zv_c a (fun n => zl_ t (fun b t => zv_c b (fun lo => zl_ t (fun c t => zv_c c (fun hi => zl_0 t (f n lo hi)))))))
/-- an index of 0 .. n - 1 -/
noncomputable def zo_in (g : EG) (i : EV) (n : Nat) : Bool := zv_i i (fun _ => zcd (Nat.ble 2147483648 (zo_iv g i).1) (Nat.ble (Nat.succ (zo_iv g i).2) (Nat.add 2147483648 n)) false)
/-- a number of an interval -/
noncomputable def zo_wi (g : EG) (v : EV) (lo hi : Nat) : Bool := zv_i v (fun _ => zcd (Nat.ble lo (zo_iv g v).1) (Nat.ble (zo_iv g v).2 hi) false)
noncomputable def zo_als (kd : Nat) (i : EV) (c : EC) (nx : List ECE) (kk : EKn) (ls rest : List EV) (w : EW) (g : EG) (nc ns : Nat) : Bool := zcd (Nat.beq c.1 (Nat.add 1000 kd)) (zo_s3 c.2 (fun n lo hi => zcd (zo_in g i n) (zo_fr lo hi nx kk ls rest w g nc ns) false)) false
noncomputable def zo_all (i : EV) (c : EC) (nx : List ECE) (kk : EKn) (ls rest : List EV) (w : EW) (g : EG) (nc ns : Nat) : Bool := zcd (Nat.beq c.1 1150) (zo_s3 c.2 (fun n lo hi => zcd (zo_in g i n) (ze_f g.length (fun z => kk nx ls (eLU z :: rest) w (g ++ [(lo, hi)]) nc ns)) false)) false
noncomputable def zo_pus (kd : Nat) (v i : EV) (c : EC) (nx : List ECE) (kk : EKn) (ls rest : List EV) (w : EW) (g : EG) (nc ns : Nat) : Bool := zcd (Nat.beq c.1 (Nat.add 1000 kd)) (zo_s3 c.2 (fun n lo hi => zcd (zo_in g i n) (zcd (zo_wi g v lo hi) (kk nx ls rest w g nc ns) false) false)) false
/-- is the cell such a one -/
noncomputable def zo_big (w : EW) (q : Nat) (f : EC → Bool) (d : Bool) : Bool := ze_g w q (fun c => zcd (Nat.ble 1000 c.1) (f c) d)
/-- arrays of a kind -/
noncomputable def zo_ald_m (kd : Nat) : EOp := fun nx _ _ _ _ jp kk _ _ _ _ ls st w g nc ns => match st with
  | i :: .inr (.inl (.inl q)) :: rest => ze_ix g i (fun n g => zcd (Nat.ble n 1073741824) (ze_g w q (fun c => zcd (Nat.beq c.1 kd) (ze_n c.2 n (fun v => kk nx ls (v :: rest) w g nc ns)) false)) false)
  | _ => false
noncomputable def zo_ald0 (kd : Nat) : EOp := fun nx _ _ _ _ jp kk _ _ _ _ ls st w g nc ns => zl_ st (fun i t => zl_ t (fun r rest => zv_r r (fun q => ze_ix g i (fun n g => zcd (Nat.ble n 1073741824) (ze_g w q (fun c => zcd (Nat.beq c.1 kd) (ze_n c.2 n (fun v => kk nx ls (v :: rest) w g nc ns)) false)) false))))
theorem zo_ald_eq (kd : Nat) : zo_ald0 kd = zo_ald_m kd := by
  funext nx a b c tl jp kk k cal mc ms ls st w g nc ns
  rcases st with _ | ⟨v, r⟩
  · rfl
  · rcases r with _ | ⟨v2, r⟩
    · rcases v with (n | i) | ((q | (l | u)) | x) <;> rfl
    · rcases v with (n | i) | ((q | (l | u)) | x) <;> rcases v2 with (n2 | i2) | ((q2 | (l2 | u2)) | x2) <;> rfl
noncomputable def zo_ald (kd : Nat) : EOp := fun nx a b c tl jp kk k cal mc ms ls st w g nc ns => zl_ st (fun i t => zl_ t (fun r rest => zv_r r (fun q => zo_big w q (fun e => zo_als kd i e nx kk ls rest w g nc ns) (zo_ald0 kd nx a b c tl jp kk k cal mc ms ls (i :: r :: rest) w g nc ns))))
noncomputable def zo_lald : EOp := fun nx a b c tl jp kk k cal mc ms ls st w g nc ns => zl_ st (fun i t => zl_ t (fun r rest => zv_r r (fun q => zo_big w q (fun e => zo_all i e nx kk ls rest w g nc ns) (zo_ald0 150 nx a b c tl jp kk k cal mc ms ls (i :: r :: rest) w g nc ns))))
noncomputable def zh_s (a b : Nat ⊕ Nat) : Bool := Sum.rec (motive := fun _ => Bool) (fun n => Sum.rec (motive := fun _ => Bool) (fun m => Nat.beq n m) (fun _ => false) b) (fun i => Sum.rec (motive := fun _ => Bool) (fun _ => false) (fun j => Nat.beq i j) b) a
theorem zh_s_ok {a b : Nat ⊕ Nat} (h : zh_s a b = true) : a = b := by
  rcases a with a | a <;> rcases b with b | b
  · exact congrArg Sum.inl (ze_beq h)
  · cases h
  · cases h
  · exact congrArg Sum.inr (ze_beq h)
noncomputable def zh_eq (u v : EV) : Bool := zv_ u (fun a => zv_ v (fun b => zh_s a b) (fun _ => false) (fun _ => false) (fun _ => false)) (fun a => zv_ v (fun _ => false) (fun b => Nat.beq a b) (fun _ => false) (fun _ => false))
  (fun a => zv_ v (fun _ => false) (fun _ => false) (fun b => zh_s a b) (fun _ => false)) (fun a => zv_ v (fun _ => false) (fun _ => false) (fun _ => false) (fun b => Nat.beq a b))
theorem zh_eq_ok {u v : EV} (h : zh_eq u v = true) : u = v := by
  rcases u with a | ((a | a) | a) <;> rcases v with b | ((b | b) | b)
  · exact congrArg Sum.inl (zh_s_ok h)
  · cases h
  · cases h
  · cases h
  · cases h
  · exact congrArg (fun n => (eR n : EV)) (ze_beq h)
  · cases h
  · cases h
  · cases h
  · cases h
  · exact congrArg (fun n => (.inr (.inl (.inr n)) : EV)) (zh_s_ok h)
  · cases h
  · cases h
  · cases h
  · cases h
  · exact congrArg (fun n => (eX n : EV)) (ze_beq h)
/-! arrays that a predicate is known of -/
/-- the list [v, k, t], k and t numbers -/
noncomputable def zo_m3 (l : List EV) (f : EV → Nat → Nat → Bool) : Bool := zl_ l (fun v r => zl_ r (fun a r => zv_c a (fun k => zl_ r (fun b r => zv_c b (fun t => zl_0 r (f v k t))))))
/-- the list of a row that is read -/
noncomputable def zo_m8 (l : List EV) (f : EV → Nat → EV → EV → Nat → EV → EV → Nat → Bool) : Bool := zl_ l (fun h r => zl_ r (fun a r => zv_c a (fun d => zl_ r (fun c r => zl_ r (fun p r => zl_ r (fun b r => zv_c b (fun q => zl_ r (fun t r => zl_ r (fun b0 r => zl_ r (fun x r => zv_c x (fun e => zl_0 r (f h d c p q t b0 e))))))))))))
/-- the list [o, k, c, d, ..]: o, k, d numbers -/
noncomputable def zo_m4 (l : List EV) (f : Nat → Nat → EV → Nat → EV → EV → EV → Bool) : Bool := zl_ l (fun a r => zv_c a (fun o => zl_ r (fun b r => zv_c b (fun k => zl_ r (fun c r => zl_ r (fun e r => zv_c e (fun d => zl_ r (fun x r => zl_ r (fun y r => zl_ r (fun z r => zl_0 r (f o k c d x y z)))))))))))
/-- a code's height -/
noncomputable def zP_cl (g : EG) (v : EV) (t : Nat) (f : Nat → Bool) : Bool := zcd (zo_wi g v 2147483648 2147484654) (f (Nat.succ t)) (zcd (zo_wi g v 2147486648 2147486648) (zcd (Nat.ble 1 t) (f t) false) (zcd (zo_wi g v 2147485648 2147485654) (zcd (Nat.ble 2 t) (f (Nat.pred t)) false) false))
noncomputable def zP_ld (q n : Nat) (c : EC) (nx : List ECE) (kk : EKn) (ls rest : List EV) (w : EW) (g : EG) (nc ns : Nat) : Bool :=
  zcd (Nat.beq c.1 1300) (zo_m3 c.2 (fun v k t => zcd (Nat.beq k n) (zcd (Nat.ble n 79) (zcd (Nat.ble t 1000) (zcd (Nat.ble (Nat.add 2147483649 n) (zo_iv g v).1)
      (zcd (zcd (Nat.ble 1 t) (kk nx ls (eC 3000 :: rest) (ze_ws w q (1300, [v, eC (Nat.succ n), eC t])) g nc ns) true)
        (zcd (zcd (Nat.ble 2 t) (zo_fr 2147485648 2147485654 nx kk ls rest (ze_ws w q (1300, [v, eC (Nat.succ n), eC (Nat.pred t)])) g nc ns) true)
          (zo_fr 2147483648 2147484654 nx kk ls rest (ze_ws w q (1300, [v, eC (Nat.succ n), eC (Nat.succ t)])) g nc ns) false) false) false) false) false) false))
    (zcd (Nat.beq c.1 1302) (zcd (Nat.ble n 11) (ze_n c.2 n (fun v => ze_lt g v (eC 2) (fun g => zo_fr 2147483648 2147483657 nx kk ls rest w g nc ns) (fun g => zo_fr 2147483648 2147483652 nx kk ls rest w g nc ns))) false)
      (zcd (Nat.beq c.1 1305) (zcd (Nat.ble n 28) (zo_m4 c.2 (fun o k cv d x y z => zcd (zcd (Nat.beq k n) (zcd (Nat.ble o 4) (Nat.ble d 1000) false) false)
        (zcd (kk nx ls (eC (Nat.add 10 o) :: rest) (ze_ws w q (1305, [eC o, eC (Nat.succ n), cv, eC (Nat.succ d), x, y, z])) g nc ns)
          (zcd (zo_fr 0 (Nat.add 2147483657 o) nx kk ls rest (ze_ws w q (1305, [eC o, eC (Nat.succ n), cv, eC d, x, y, z])) g nc ns)
            (zo_fr (Nat.add 2147483659 o) 4294967295 nx kk ls rest (ze_ws w q (1305, [eC o, eC (Nat.succ n), cv, eC d, x, y, z])) g nc ns) false) false) false)) false) false))
noncomputable def zP_st (q n : Nat) (v : EV) (c : EC) (nx : List ECE) (kk : EKn) (ls rest : List EV) (w : EW) (g : EG) (nc ns : Nat) : Bool :=
  zcd (Nat.beq c.1 1300) (zo_m3 c.2 (fun _ k t => zcd (Nat.beq k n) (zcd (Nat.ble n 79) (zcd (Nat.ble t 1000) (zP_cl g v t (fun t2 => kk nx ls rest (ze_ws w q (1300, [eC (Nat.succ n), eC (Nat.succ n), eC t2])) g nc ns)) false) false) false))
    (zcd (Nat.beq c.1 1301) (zo_m8 c.2 (fun h d cv p o t b e => zcd (zcd (Nat.ble n 79) (zcd (Nat.ble 1 o) (Nat.ble o 1000) false) false) (zcd (zo_wi g cv (Nat.add 2147483648 n) (Nat.add 2147483648 n))
        (zcd (Nat.beq d 255) (kk nx ls rest (ze_ws w q (1301, [h, eC 255, eC (Nat.succ n), p, eC (Nat.pred o), t, b, eC e])) g nc ns)
          (zcd (Nat.ble d 200) (zP_cl g v d (fun d2 => kk nx ls rest (ze_ws w q (1301, [h, eC d2, eC (Nat.succ n), p, eC (Nat.pred o), t, b, eC e])) g nc ns)) false)) false) false))
      (zcd (Nat.beq c.1 1302) (zcd (Nat.ble n 11) (zcd (zo_wi g v 2147483648 2147483652) (kk nx ls rest (ze_ws w q (1302, ze_s (eC 2) c.2 n)) g nc ns) (zcd (zo_wi g v 2147483648 2147483657) (kk nx ls rest (ze_ws w q (1302, ze_s (eC 0) c.2 n)) g nc ns) false)) false) false))
/-- a number: that which was read or put last, or another one -/
noncomputable def zP_lt (kd n lo hi q : Nat) (i : EV) (c : EC) (nx : List ECE) (kk : EKn) (ls rest : List EV) (w : EW) (g : EG) (nc ns : Nat) : Bool := zl_ c.2 (fun p r => zl_ r (fun v r => zl_0 r (zcd (zh_eq i p) (kk nx ls (v :: rest) w g nc ns) (zcd (zo_in g i n) (ze_f g.length (fun z => kk nx ls (eU z :: rest) (ze_ws w q (kd, [i, eU z])) (g ++ [(lo, hi)]) nc ns)) false))))
noncomputable def zP_s4 (q : Nat) (v i : EV) (nx : List ECE) (kk : EKn) (ls rest : List EV) (w : EW) (g : EG) (nc ns : Nat) : Bool := zcd (zo_in g i 60) (zcd (zo_wi g v 2147483393 2147483903) (kk nx ls rest (ze_ws w q (1304, [i, v])) g nc ns) false) false
noncomputable def zo_pal : EOp := fun nx _ _ _ _ jp kk _ _ _ _ ls st w g nc ns => zl_ st (fun i t => zl_ t (fun r rest => zv_r r (fun q => ze_g w q (fun c => zcd (Nat.ble 1300 c.1) (zcd (Nat.beq c.1 1303) (zP_lt 1303 80 2147483648 2147483903 q i c nx kk ls rest w g nc ns) (zcd (Nat.beq c.1 1304) (zP_lt 1304 60 2147483393 2147483903 q i c nx kk ls rest w g nc ns) (ze_ix g i (fun n g => zP_ld q n c nx kk ls rest w g nc ns)))) false))))
noncomputable def zo_pas : EOp := fun nx _ _ _ _ jp kk _ _ _ _ ls st w g nc ns => zl_ st (fun v t => zl_ t (fun i t => zl_ t (fun r rest => zv_r r (fun q => zv_i v (fun u => ze_g w q (fun c => zcd (Nat.ble 1300 c.1) (zcd (Nat.beq c.1 1304) (zP_s4 q (.inl u) i nx kk ls rest w g nc ns) (ze_ix g i (fun n g => zP_st q n (.inl u) c nx kk ls rest w g nc ns))) false))))))
/-- the script, at place 2 of the special ones: at the law's place in it, and the four behind, are the first unknowns -/
noncomputable def zo_iald0 : EOp := fun nx a b c tl jp kk k cal mc ms ls st w g nc ns => match st with
  | .inl (.inr n) :: .inr (.inr s) :: rest => zcd (Nat.beq s 2) (ze_n g 5 (fun p5 => zcd (Nat.ble 1 p5.1) (zcd (Nat.ble 5 n) (zcd (Nat.ble n 9) (kk nx ls (eU (Nat.sub n 5) :: rest) w g nc ns) false) false) false)) false
  | st => zcd (zo_pal nx a b c tl jp kk k cal mc ms ls st w g nc ns) true (zo_ald 100 nx a b c tl jp kk k cal mc ms ls st w g nc ns)
noncomputable def zo_iald : EOp := fun nx a b c tl jp kk k cal mc ms ls st w g nc ns => zl_ st (fun i t => zl_ t (fun r _ => zv_ r (fun _ => false) (fun _ => zcd (zo_pal nx a b c tl jp kk k cal mc ms ls st w g nc ns) true (zo_ald 100 nx a b c tl jp kk k cal mc ms ls st w g nc ns)) (fun _ => false) (fun _ => zv_i i (fun _ => zo_iald0 nx a b c tl jp kk k cal mc ms ls st w g nc ns))))
theorem zo_iald_of {nx : List ECE} {a b c : Nat} {tl : List Nat} {jp : EJp} {kk : EKn} {k : ERt} {cal : ECal} {mc ms : Nat} {ls st : List EV} {w : EW} {g : EG} {nc ns : Nat} (h : zo_iald nx a b c tl jp kk k cal mc ms ls st w g nc ns = true) : zo_iald0 nx a b c tl jp kk k cal mc ms ls st w g nc ns = true := by
  rcases st with _ | ⟨i, _ | ⟨r, rest⟩⟩
  · cases h
  · cases h
  · rcases r with r | ((r | r) | r)
    · cases h
    · rcases i with (i | i) | i
      · exact h
      · exact h
      · exact h
    · cases h
    · rcases i with i | i
      · exact h
      · cases h
/-- is a class one that arrays are made of -/
noncomputable def ze_mem (n : Nat) (l : List Nat) : Bool := List.rec (motive := fun _ => Bool) false (fun a _ ih => zcd (Nat.beq a n) true ih) l
noncomputable def zo_aald_m : EOp := fun nx _ _ _ _ jp kk _ _ _ _ ls st w g nc ns => match st with
  | i :: .inr (.inl (.inl q)) :: rest => ze_ix g i (fun n g => zcd (Nat.ble n 1073741824) (ze_g w q (fun c => zcd (zcd (Nat.ble 200 c.1) (Nat.ble c.1 999) false) (zcd (ze_mem (Nat.sub c.1 200) ze_rk) (ze_n c.2 n (fun v => kk nx ls (v :: rest) w g nc ns)) false) false)) false)
  | _ => false
noncomputable def zo_aald : EOp := fun nx _ _ _ _ jp kk _ _ _ _ ls st w g nc ns => zl_ st (fun i t => zl_ t (fun r rest => zv_r r (fun q => ze_ix g i (fun n g => zcd (Nat.ble n 1073741824) (ze_g w q (fun c => zcd (zcd (Nat.ble 200 c.1) (Nat.ble c.1 999) false) (zcd (ze_mem (Nat.sub c.1 200) ze_rk) (ze_n c.2 n (fun v => kk nx ls (v :: rest) w g nc ns)) false) false)) false))))
theorem zo_aald_eq : zo_aald = zo_aald_m := by
  funext nx a b c tl jp kk k cal mc ms ls st w g nc ns
  rcases st with _ | ⟨v, r⟩
  · rfl
  · rcases r with _ | ⟨v2, r⟩
    · rcases v with (n | i) | ((q | (l | u)) | x) <;> rfl
    · rcases v with (n | i) | ((q | (l | u)) | x) <;> rcases v2 with (n2 | i2) | ((q2 | (l2 | u2)) | x2) <;> rfl
noncomputable def zo_put (kd : Nat) (v i : EV) (q : Nat) (nx : List ECE) (kk : EKn) (ls rest : List EV) (w : EW) (g : EG) (nc ns : Nat) : Bool := ze_ix g i (fun n g => zcd (Nat.ble n 1073741824) (ze_g w q (fun c => zcd (Nat.beq c.1 kd) (ze_n c.2 n (fun _ => kk nx ls rest (ze_ws w q (kd, ze_s v c.2 n)) g nc ns)) false)) false)
noncomputable def zo_iast_m : EOp := fun nx _ _ _ _ jp kk _ _ _ _ ls st w g nc ns => match st with
  | .inl u :: i :: .inr (.inl (.inl q)) :: rest => zo_put 100 (.inl u) i q nx kk ls rest w g nc ns
  | _ => false
noncomputable def zo_iast0 : EOp := fun nx _ _ _ _ jp kk _ _ _ _ ls st w g nc ns => zl_ st (fun v t => zl_ t (fun i t => zl_ t (fun r rest => zv_r r (fun q => zv_i v (fun u => zo_put 100 (.inl u) i q nx kk ls rest w g nc ns)))))
theorem zo_iast_eq : zo_iast0 = zo_iast_m := by
  funext nx a b c tl jp kk k cal mc ms ls st w g nc ns
  rcases st with _ | ⟨v, r⟩
  · rfl
  · rcases r with _ | ⟨v2, r⟩
    · rcases v with (n | i) | ((q | (l | u)) | x) <;> rfl
    · rcases r with _ | ⟨v3, r⟩
      · rcases v with (n | i) | ((q | (l | u)) | x) <;> rcases v2 with (n2 | i2) | ((q2 | (l2 | u2)) | x2) <;> rfl
      · rcases v with (n | i) | ((q | (l | u)) | x) <;> rcases v2 with (n2 | i2) | ((q2 | (l2 | u2)) | x2) <;> rcases v3 with (n3 | i3) | ((q3 | (l3 | u3)) | x3) <;> rfl
noncomputable def zo_ps (kd : Nat) (op : EOp) : EOp := fun nx a b c tl jp kk k cal mc ms ls st w g nc ns => zl_ st (fun v t => zl_ t (fun i t => zl_ t (fun r rest => zv_r r (fun q => zo_big w q (fun e => zo_pus kd v i e nx kk ls rest w g nc ns) (op nx a b c tl jp kk k cal mc ms ls (v :: i :: r :: rest) w g nc ns)))))
noncomputable def zo_iast : EOp := fun nx a b c tl jp kk k cal mc ms ls st w g nc ns => zcd (zo_pas nx a b c tl jp kk k cal mc ms ls st w g nc ns) true (zo_ps 100 zo_iast0 nx a b c tl jp kk k cal mc ms ls st w g nc ns)
noncomputable def zo_cast0 : EOp := fun nx _ _ _ _ jp kk _ _ _ _ ls st w g nc ns => match st with
  | .inl (.inl u) :: i :: .inr (.inl (.inl q)) :: rest => zcd (Nat.ble u 65535) (zo_put 101 (.inl (.inl u)) i q nx kk ls rest w g nc ns) false
  | .inl (.inr u) :: i :: .inr (.inl (.inl q)) :: rest => ze_n g u (fun p => zcd (zcd (Nat.ble 2147483648 p.1) (Nat.ble p.2 2147549183) false) (zo_put 101 (.inl (.inr u)) i q nx kk ls rest w g nc ns) false)
  | _ => false
/-- chars: the interval's numbers are chars too -/
noncomputable def zo_cast : EOp := fun nx a b c tl jp kk k cal mc ms ls st w g nc ns => zl_ st (fun v t => zl_ t (fun i t => zl_ t (fun r rest => zv_r r (fun q => zo_big w q (fun e => zcd (zo_wi g v 2147483648 2147549183) (zo_pus 101 v i e nx kk ls rest w g nc ns) false) (zo_cast0 nx a b c tl jp kk k cal mc ms ls (v :: i :: r :: rest) w g nc ns)))))
noncomputable def zo_bast0 : EOp := fun nx _ _ _ _ jp kk _ _ _ _ ls st w g nc ns => match st with
  | .inl (.inl u) :: i :: .inr (.inl (.inl q)) :: rest => zcd (Nat.ble u 1) (zo_put 104 (.inl (.inl u)) i q nx kk ls rest w g nc ns) false
  | _ => false
noncomputable def zo_bast : EOp := fun nx a b c tl jp kk k cal mc ms ls st w g nc ns => zl_ st (fun v t => zl_ t (fun i t => zl_ t (fun r rest => zv_r r (fun q => zo_big w q (fun e => zcd (zo_wi g v 2147483648 2147483649) (zo_pus 104 v i e nx kk ls rest w g nc ns) false) (zo_bast0 nx a b c tl jp kk k cal mc ms ls (v :: i :: r :: rest) w g nc ns)))))
noncomputable def zo_last0 : EOp := fun nx _ _ _ _ jp kk _ _ _ _ ls st w g nc ns => match st with
  | .inr (.inl (.inr u)) :: i :: .inr (.inl (.inl q)) :: rest => zo_put 150 (.inr (.inl (.inr u))) i q nx kk ls rest w g nc ns
  | _ => false
noncomputable def zo_last : EOp := fun nx a b c tl jp kk k cal mc ms ls st w g nc ns => zl_ st (fun v t => zl_ t (fun i t => zl_ t (fun r rest => zv_r r (fun q => zo_big w q (fun e => zv_l v (fun u => ze_li ze_lr ze_l32 u (fun v2 => zo_pus 150 v2 i e nx kk ls rest w g nc ns) false)) (zo_last0 nx a b c tl jp kk k cal mc ms ls (v :: i :: r :: rest) w g nc ns)))))
/-- an array of objects of class kd - 200 -/
noncomputable def zo_aast : EOp := fun nx _ _ _ _ jp kk _ _ _ _ ls st w g nc ns => match st with
  | .inr (.inl (.inl u)) :: i :: .inr (.inl (.inl q)) :: rest => ze_g w u (fun o => zcd (ze_mem o.1 ze_rk) (zo_put (Nat.add 200 o.1) (.inr (.inl (.inl u))) i q nx kk ls rest w g nc ns) false)
  | _ => false
noncomputable def zo_alen : EOp := fun nx _ _ _ _ jp kk _ _ _ _ ls st w g nc ns => match st with
  | .inr (.inl (.inl q)) :: rest => ze_g w q (fun c => zcd (ze_mem c.1 ze_ka) (ze_f c.2.length (fun n => kk nx ls (eC n :: rest) w g nc ns)) false)
  | _ => false
/-- a new array: a its kind, b the default (0: 0, 1: 0L, 2: null) -/
noncomputable def ze_df (t : Nat) : EV := match t with
  | 2 => eX 0
  | 3 => eL 0
  | _ => eC 0
noncomputable def zo_mk (w : EW) (c : EC) (n : Nat) (nx : List ECE) (mc ms : Nat) (kk : EKn) (ls rest : List EV) (g : EG) (nc ns : Nat) : Bool := zcd (Nat.ble (Nat.succ nc) mc) (zcd (Nat.ble (Nat.add ns n) ms) (ze_wp w c (fun w2 => kk nx ls (eR w.1 :: rest) w2 g (Nat.succ nc) (Nat.add ns n))) false) false
noncomputable def zo_newa : EOp := fun nx a b _ _ jp kk _ _ mc ms ls st w g nc ns => match st with
  | .inl (.inl n) :: rest => zcd (Nat.ble n 1048576) (zo_mk w (a, List.replicate n (ze_df b)) n nx mc ms kk ls rest g nc ns) false
  | _ => false
/-- a new object: a its class, list: the types of its fields -/
noncomputable def zo_new : EOp := fun nx a _ _ tl jp kk _ _ mc ms ls st w g nc ns => ze_f tl.length (fun n => zo_mk w (a, tl.map ze_df) n nx mc ms kk ls st g nc ns)
/-- a call: a method, b arguments (this too), c 0: no 'this', else 1 and its class; list: cells and slots that it makes -/
noncomputable def ze_cs (l : List EV) : Nat := List.rec (motive := fun _ => Nat) 0 (fun v _ ih => Nat.add (ze_ct v) ih) l
noncomputable def ze_tk (n : Nat) (st acc : List EV) (f : List EV → List EV → Bool) : Bool := Nat.rec (motive := fun _ => List EV → List EV → Bool) (fun st acc => f acc st) (fun _ ih st acc => zl_ st (fun v r => ih r (v :: acc))) n st acc
noncomputable def ze_pu (r : Option EV) (rest : List EV) : List EV := Option.rec (motive := fun _ => List EV) rest (fun v => v :: rest) r
noncomputable def ze_rc (w : EW) (c : Nat) (av : List EV) : Bool := Nat.rec (motive := fun _ => Bool) true (fun ci _ => zl_ av (fun v _ => zv_r v (fun q => ze_g w q (fun e => Nat.beq e.1 ci)))) c
theorem ze_rc_eq (w : EW) (ci : Nat) (av : List EV) : ze_rc w (ci + 1) av = (match av with
      | .inr (.inl (.inl q)) :: _ => ze_g w q (fun e => Nat.beq e.1 ci)
      | _ => false) := by
  rcases av with _ | ⟨v, r⟩
  · rfl
  · rcases v with (n | i) | ((q | (l | u)) | x) <;> rfl
/-- cells and slots of a call, or what goes without -/
noncomputable def zl_2 (tl : List Nat) (f : Nat → Nat → Bool) (d : Bool) : Bool := List.rec (motive := fun _ => Bool) d (fun a r _ => List.rec (motive := fun _ => Bool) false (fun b _ _ => f a b) r) tl
noncomputable def zo_call (a b c cy sy : Nat) : EOp := fun nx _ _ _ _ jp kk _ cal mc ms ls st w g nc ns => ze_tk b st [] (fun av rest => zcd (ze_rc w c av) (zcd (Nat.ble (ze_cs rest) 8) (zcd (Nat.ble (Nat.add nc cy) mc) (zcd (Nat.ble (Nat.add ns sy) ms)
    (cal a av w g (fun r w g => kk nx ls (ze_pu r rest) w g (Nat.add nc cy) (Nat.add ns sy))) false) false) false) false)
/-- the texts that are constants: their signs -/
noncomputable def zt_n : List (List Nat) := [[], [57], [57, 55], [57, 57, 57], [43, 51], [119, 105, 108, 109, 115, 107, 110], [60, 62, 61], [43, 45], [42, 47], [110, 99, 115, 108, 116, 112, 103, 119], [45, 43]]
/-- a text's cell: which -/
noncomputable def zo_sx (v : EV) (f : Nat → List Nat → Bool) : Bool := zv_ v (fun _ => false) (fun _ => false) (fun _ => false) (fun s => zcd (Nat.ble 12 s) (zcd (Nat.beq (Nat.mod s 2) 0) (ze_n zt_n (Nat.div (Nat.sub s 12) 2) (fun cs => f (Nat.div (Nat.sub s 12) 2) cs)) false) false)
noncomputable def zo_rm (rest : List EV) (nc mc ns ms : Nat) (x : Bool) : Bool := zcd (Nat.ble (ze_cs rest) 8) (zcd (Nat.ble nc mc) (zcd (Nat.ble ns ms) x false) false) false
noncomputable def zo_slen : EOp := fun nx _ _ _ _ jp kk _ _ mc ms ls st w g nc ns => zl_ st (fun v rest => zo_rm rest nc mc ns ms (zo_sx v (fun _ cs => kk nx ls (eC cs.length :: rest) w g nc ns)))
noncomputable def zo_semp : EOp := fun nx _ _ _ _ jp kk _ _ mc ms ls st w g nc ns => zl_ st (fun v rest => zo_rm rest nc mc ns ms (zo_sx v (fun _ cs => kk nx ls (eC (zcd (Nat.beq cs.length 0) 1 0) :: rest) w g nc ns)))
noncomputable def zo_schr : EOp := fun nx _ _ _ _ jp kk _ _ mc ms ls st w g nc ns => zl_ st (fun i t => zl_ t (fun v rest => zo_rm rest nc mc ns ms (ze_ix g i (fun n g => zo_sx v (fun _ cs => ze_n cs n (fun ch => kk nx ls (eC ch :: rest) w g nc ns))))))
noncomputable def zo_sidx : EOp := fun nx _ _ _ _ jp kk _ _ mc ms ls st w g nc ns => zl_ st (fun i t => zl_ t (fun v rest => zo_rm rest nc mc ns ms (zv_i i (fun _ => zo_sx v (fun _ cs => zo_fr 2147483647 (Nat.add 2147483647 cs.length) nx kk ls rest w g nc ns)))))
noncomputable def zo_str (m : Nat) : EOp := Nat.rec (motive := fun _ => EOp) zo_slen (fun m _ => Nat.rec (motive := fun _ => EOp) zo_semp (fun m _ => Nat.rec (motive := fun _ => EOp) zo_schr (fun m _ => Nat.rec (motive := fun _ => EOp) zo_sidx (fun _ _ => zo_no) m) m) m) m
noncomputable def zo_inv : EOp := fun nx a b c tl jp kk k cal mc ms ls st w g nc ns => List.rec (motive := fun _ => Bool) false (fun cy r _ => List.rec (motive := fun _ => Bool) (zo_str cy nx a b c tl jp kk k cal mc ms ls st w g nc ns) (fun sy _ _ => zo_call a b c cy sy nx a b c tl jp kk k cal mc ms ls st w g nc ns) r) tl
/-- the receiver, below so many arguments, is a reference -/
noncomputable def ze_rr (n : Nat) : List EV → Bool := Nat.rec (motive := fun _ => List EV → Bool) (fun st => zl_ st (fun v _ => zv_r v (fun _ => true))) (fun _ ih st => zl_ st (fun _ r => ih r)) n
noncomputable def zo_spec : EOp := fun nx a b c tl jp kk k cal mc ms ls st w g nc ns => zl_2 tl (fun cy sy => zcd (ze_rr (Nat.pred b) st) (zo_call a b c cy sy nx a b c tl jp kk k cal mc ms ls st w g nc ns) false) (zl_ st (fun v rest => zv_r v (fun _ => zcd (Nat.ble (ze_cs rest) 8) (kk nx ls rest w g nc ns) false)))
/-- n of the list s from i on over the list d from j on -/
noncomputable def ze_cp (s d : List EV) (i j n : Nat) (f : List EV → Bool) : Bool := Nat.rec (motive := fun _ => List EV → Nat → Nat → Bool) (fun d _ _ => f d) (fun _ ih d i j => ze_n s i (fun v => ze_n d j (fun _ => ih (ze_s v d j) (Nat.succ i) (Nat.succ j)))) n d i j
noncomputable def zo_cps : EOp := fun nx _ _ _ _ jp kk _ _ _ _ ls st w g nc ns => match st with
    | .inl (.inl n) :: .inl (.inl dp) :: .inr (.inl (.inl d)) :: .inl (.inl p0) :: .inr (.inl (.inl s)) :: rest =>
      zcd (zcd (Nat.ble 1 n) (Nat.ble n 1048576) false) (zcd (Nat.ble dp 1048576) (zcd (Nat.ble p0 1048576) (zcd (Nat.ble (ze_cs rest) 8) (ze_g w s (fun cs => zcd (Nat.beq cs.1 1100) (ze_g w d (fun cd => zcd (Nat.beq cd.1 1100) (zo_s3 cs.2 (fun sn slo shi => zo_s3 cd.2 (fun dn dlo dhi => zcd (zcd (Nat.ble (Nat.add p0 n) sn) (Nat.ble (Nat.add dp n) dn) false) (zcd (zcd (Nat.ble dlo slo) (Nat.ble shi dhi) false) (kk nx ls rest w g nc ns) false) false))) false)) false)) false) false) false) false
    | _ => false
noncomputable def zo_copy0 : EOp := fun nx _ _ _ _ jp kk _ _ _ _ ls st w g nc ns => match st with
    | .inl (.inl n) :: .inl (.inl dp) :: .inr (.inl (.inl d)) :: .inl (.inl p0) :: .inr (.inl (.inl s)) :: rest =>
      zcd (zcd (Nat.ble 1 n) (Nat.ble n 1048576) false) (zcd (Nat.ble dp 1048576) (zcd (Nat.ble p0 1048576) (zcd (Nat.ble (ze_cs rest) 8) (ze_g w s (fun cs => zcd (Nat.beq cs.1 100) (ze_g w d (fun cd => zcd (Nat.beq cd.1 100) (ze_cp cs.2 cd.2 p0 dp n (fun l => kk nx ls rest (ze_ws w d (100, l)) g nc ns)) false)) false)) false) false) false) false
    | _ => false
noncomputable def zo_copy : EOp := fun nx a b c tl jp kk k cal mc ms ls st w g nc ns => zcd (zo_cps nx a b c tl jp kk k cal mc ms ls st w g nc ns) true (zo_copy0 nx a b c tl jp kk k cal mc ms ls st w g nc ns)
noncomputable def zo_mm : EOp := fun nx a _ _ _ jp kk _ _ mc ms ls st w g nc ns => zl_ st (fun y t => zl_ t (fun x rest => zcd (Nat.ble (ze_cs rest) 8) (zcd (Nat.ble nc mc) (zcd (Nat.ble ns ms) (Nat.rec (motive := fun _ => Bool) (ze_lt g x y (fun g => kk nx ls (y :: rest) w g nc ns) (fun g => kk nx ls (x :: rest) w g nc ns)) (fun _ _ => ze_lt g y x (fun g => kk nx ls (y :: rest) w g nc ns) (fun g => kk nx ls (x :: rest) w g nc ns)) a) false) false) false))
noncomputable def zo_abs : EOp := fun nx _ _ _ _ jp kk _ _ mc ms ls st w g nc ns => zl_ st (fun x rest => zcd (Nat.ble (ze_cs rest) 8) (zcd (Nat.ble nc mc) (zcd (Nat.ble ns ms) (ze_lt g x (eC 0) (fun g => zo_fr (zo_bsb g (eC 0) x).1 (zo_bsb g (eC 0) x).2 nx kk ls rest w g nc ns) (fun g => kk nx ls (x :: rest) w g nc ns)) false) false) false)
noncomputable def zo_mm2 : EOp := fun nx a b c tl jp kk k cal mc ms ls st w g nc ns => zcd (Nat.beq a 2) (zo_abs nx a b c tl jp kk k cal mc ms ls st w g nc ns) (zo_mm nx a b c tl jp kk k cal mc ms ls st w g nc ns)
noncomputable def zo_stat : EOp := fun nx a b c tl jp kk k cal mc ms ls st w g nc ns => List.rec (motive := fun _ => Bool) (zo_copy nx a b c tl jp kk k cal mc ms ls st w g nc ns) (fun cy r _ => List.rec (motive := fun _ => Bool) (zo_mm2 nx a b c tl jp kk k cal mc ms ls st w g nc ns) (fun sy _ _ => zo_call a b c cy sy nx a b c tl jp kk k cal mc ms ls st w g nc ns) r) tl
/-- ends -/
noncomputable def ze_end (nc ns mc ms : Nat) (x : Bool) : Bool := zcd (Nat.ble nc mc) (zcd (Nat.ble ns ms) x false) false
/-- as ze_tc, also by an interval -/
noncomputable def ze_tm (t : Nat) : Nat := zcd (Nat.beq t 1) 2147483649 (zcd (Nat.beq t 4) 2147549183 0)
noncomputable def ze_tcg (g : EG) (t : Nat) (v : EV) : Bool := zcd (ze_tc t v) true (zo_wi g v 2147483648 (ze_tm t))
noncomputable def zo_ireturn : EOp := fun _ a _ _ _ _ _ k _ mc ms _ st w g nc ns => zl_ st (fun v r => zl_0 r (zv_i v (fun u => zcd (ze_tcg g a (.inl u)) (ze_end nc ns mc ms (k (some (.inl u)) w g)) false)))
noncomputable def zo_lreturn : EOp := fun _ _ _ _ _ _ _ k _ mc ms _ st w g nc ns => zl_ st (fun v r => zl_0 r (zv_l v (fun u => ze_end nc ns mc ms (k (some (.inr (.inl (.inr u)))) w g))))
noncomputable def zo_areturn : EOp := fun _ _ _ _ _ _ _ k _ mc ms _ st w g nc ns => zl_ st (fun v r => zl_0 r (zv_ v (fun _ => false) (fun u => ze_end nc ns mc ms (k (some (.inr (.inl (.inl u)))) w g)) (fun _ => false) (fun u => zcd (Nat.ble 12 u) (ze_end nc ns mc ms (k (some (.inr (.inr u))) w g)) false)))
noncomputable def zo_return : EOp := fun _ _ _ _ _ _ _ k _ mc ms _ st w g nc ns => zl_0 st (ze_end nc ns mc ms (k none w g))
noncomputable def zo_lcc (x y : Nat ⊕ Nat) (nx : List ECE) (kk : EKn) (ls rest : List EV) (w : EW) (g : EG) (nc ns : Nat) : Bool := match x, y with
  | .inl x, .inl y => zcd (decide (lN x < lN y)) (kk nx ls (eC 4294967295 :: rest) w g nc ns) (zcd (decide (lN y < lN x)) (kk nx ls (eC 1 :: rest) w g nc ns) (kk nx ls (eC 0 :: rest) w g nc ns))
  | _, _ => false
noncomputable def zo_lcmp : EOp := fun nx _ _ _ _ jp kk _ _ _ _ ls st w g nc ns => match st with
  | .inr (.inl (.inr y)) :: .inr (.inl (.inr x)) :: rest => ze_li ze_lr ze_l32 x (fun x2 => ze_li ze_lr ze_l32 y (fun y2 => ze_lt g x2 y2 (fun g => kk nx ls (eC 4294967295 :: rest) w g nc ns) (fun g => ze_lt g y2 x2 (fun g => kk nx ls (eC 1 :: rest) w g nc ns) (fun g => kk nx ls (eC 0 :: rest) w g nc ns)))
      (zo_lcc x y nx kk ls rest w g nc ns)) (zo_lcc x y nx kk ls rest w g nc ns)
  | _ => false
