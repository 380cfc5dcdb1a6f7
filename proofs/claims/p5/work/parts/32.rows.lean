/-! THE ENGINE, part 9: what a row of code must be; what a run of rows says -/
/-- own class, code, locals, answer's type, is it a constructor, the rows from each sixteenth on; pc a b c list; the rows behind -/
abbrev EKC : Type := Nat → ByteArray → Nat → Option FieldType → Bool → List (List ECE) → Nat → Nat → Nat → Nat → List Nat → List ECE → Bool
noncomputable def zk_no : EKC := fun _ _ _ _ _ _ _ _ _ _ _ _ => true
noncomputable def zk_d (cc : ByteArray) (pc : Nat) (i : Jvm.ClassFile.Instr) (len : Nat) : Bool := decide (decode cc pc = .ok (i, len))
noncomputable def zk_n (r : List ECE) (pc : Nat) : Bool := match r with
  | [] => false
  | e :: _ => Nat.beq e.2.1 pc
/-- the rows at a target -/
noncomputable def ze_drop : Nat → List ECE → Option (List ECE)
  | 0, cs => some cs
  | _ + 1, [] => none
  | n + 1, _ :: r => ze_drop n r
noncomputable def ze_tgt (jt : List (List ECE)) (a : Nat) : Option (List ECE) := (jt[a / 16]?).bind (ze_drop (a % 16))
noncomputable def zk_jm (jt : List (List ECE)) (pc : Nat) (off : Int) (a : Nat) : Bool := match ze_tgt jt a with
  | some (e :: _) => decide ((pc : Int) + off = (e.2.1 : Int))
  | _ => false
noncomputable def zk_s (i : Jvm.ClassFile.Instr) : EKC := fun _ cc _ _ _ _ pc _ _ _ _ r => zk_d cc pc i 1 && zk_n r (pc + 1)
noncomputable def zk_ic (n : Int) : EKC := fun _ cc _ _ _ _ pc a _ _ _ r => zk_d cc pc (.iconst n) 1 && zk_n r (pc + 1) && decide (Int32.ofInt n = nI a)
noncomputable def zk_bi (n : Int) : EKC := fun _ cc _ _ _ _ pc a _ _ _ r => zk_d cc pc (.bipush n) 2 && zk_n r (pc + 2) && decide ((Int8.ofInt n).toInt32 = nI a)
noncomputable def zk_si (n : Int) : EKC := fun _ cc _ _ _ _ pc a _ _ _ r => zk_d cc pc (.sipush n) 3 && zk_n r (pc + 3) && decide ((Int16.ofInt n).toInt32 = nI a)
noncomputable def zk_lc (n : Fin 2) : EKC := fun _ cc _ _ _ _ pc a _ _ _ r => zk_d cc pc (.lconst n) 1 && zk_n r (pc + 1) && decide (Int64.ofNat n.val = lN a)
noncomputable def zk_ld (n : Nat) : EKC := fun o cc _ _ _ _ pc a b _ _ r => zk_d cc pc (.ldc n) 2 && zk_n r (pc + 2) && ((decide (b = 0) && decide ((n, a) ∈ zl_k.getD o [])) || (decide (b = 1) && decide ((n, a) ∈ zl_t.getD o [])))
noncomputable def zk_ldw (n : Nat) : EKC := fun o cc _ _ _ _ pc a b _ _ r => zk_d cc pc (.ldc_w n) 3 && zk_n r (pc + 3) && ((decide (b = 0) && decide ((n, a) ∈ zl_k.getD o [])) || (decide (b = 1) && decide ((n, a) ∈ zl_t.getD o [])))
noncomputable def zk_ld2 (n : Nat) : EKC := fun o cc _ _ _ _ pc a _ _ _ r => zk_d cc pc (.ldc2_w n) 3 && zk_n r (pc + 3) && decide ((n, a) ∈ zl_kl.getD o [])
noncomputable def zk_x (i : Jvm.ClassFile.Instr) (len n : Nat) : EKC := fun _ cc _ _ _ _ pc a _ _ _ r => zk_d cc pc i len && zk_n r (pc + len) && decide (n = a)
noncomputable def zk_y (i : Jvm.ClassFile.Instr) (len n wd : Nat) : EKC := fun _ cc nL _ _ _ pc a _ _ _ r => zk_d cc pc i len && zk_n r (pc + len) && decide (n = a) && decide (a + wd ≤ nL)
noncomputable def zk_ii (i : Nat) (n : Int) : EKC := fun _ cc nL _ _ _ pc a b _ _ r => zk_d cc pc (.iinc i n) 3 && zk_n r (pc + 3) && decide (i = a) && decide (a + 1 ≤ nL) && decide (Int32.ofInt n = nI b)
noncomputable def zk_go (f : Int) : EKC := fun _ cc _ _ _ jt pc a _ _ _ _ => zk_d cc pc (.goto f) 3 && zk_jm jt pc f a
noncomputable def zk_j (i : Jvm.ClassFile.Instr) (f : Int) : EKC := fun _ cc _ _ _ jt pc a _ _ _ r => zk_d cc pc i 3 && zk_n r (pc + 3) && zk_jm jt pc f a
noncomputable def zk_de (cc : ByteArray) (pc : Nat) (i : Jvm.ClassFile.Instr) : Bool := match decode cc pc with
  | .ok q => decide (q.1 = i)
  | .error _ => false
noncomputable def zk_tt (jt : List (List ECE)) (pc : Nat) : Int → List Int → List Nat → Bool
  | _, [], [] => true
  | lo, o :: os, z :: t :: ts => decide ((z : Int) = lo + 2147483648) && zk_jm jt pc o t && zk_tt jt pc (lo + 1) os ts
  | _, _, _ => false
noncomputable def zk_ts (d lo hi : Int) (offs : Array Int) : EKC := fun _ cc _ _ _ jt pc a _ _ tl _ => zk_de cc pc (.tableswitch d lo hi offs) && zk_jm jt pc d a && decide (lo + (offs.toList.length : Int) = hi + 1) && zk_tt jt pc lo offs.toList tl
noncomputable def zk_lt (jt : List (List ECE)) (pc : Nat) : List (Int × Int) → List Nat → Bool
  | [], [] => true
  | q :: ps, z :: t :: ts => decide ((z : Int) = q.1 + 2147483648) && zk_jm jt pc q.2 t && zk_lt jt pc ps ts
  | _, _ => false
noncomputable def zk_ls (d : Int) (ps : Array (Int × Int)) : EKC := fun _ cc _ _ _ jt pc a _ _ tl _ => zk_de cc pc (.lookupswitch d ps) && zk_jm jt pc d a && (ps.toList.zip (ps.toList.drop 1)).all (fun (a, next) => a.1 < next.1) && zk_lt jt pc ps.toList tl
noncomputable def zk_gf (n : Nat) : EKC := fun o cc _ _ _ _ pc a b _ _ r => zk_d cc pc (.getfield n) 3 && zk_n r (pc + 3) && decide ((n, a, b) ∈ zl_f.getD o [])
noncomputable def zk_pf (n : Nat) : EKC := fun o cc _ _ ini _ pc a b c _ r => zk_d cc pc (.putfield n) 3 && zk_n r (pc + 3) && (decide ((n, a, b, c, 0) ∈ zl_p.getD o []) || (ini && decide ((n, a, b, c, 1) ∈ zl_p.getD o [])))
noncomputable def zk_nw (n : Nat) : EKC := fun o cc _ _ _ _ pc a _ _ tl r => zk_d cc pc (.new n) 3 && zk_n r (pc + 3) && decide ((n, a, tl) ∈ zl_n.getD o [])
noncomputable def zk_na (t : ArrayType) : EKC := fun _ cc _ _ _ _ pc a b _ _ r => zk_d cc pc (.newarray t) 2 && zk_n r (pc + 2) && (match t with
  | .int => decide (a = 100) && decide (b = 0)
  | .char => decide (a = 101) && decide (b = 0)
  | .boolean => decide (a = 104) && decide (b = 0)
  | .long => decide (a = 150) && decide (b = 3)
  | _ => false)
noncomputable def zk_aa (n : Nat) : EKC := fun o cc _ _ _ _ pc a b _ _ r => zk_d cc pc (.anewarray n) 3 && zk_n r (pc + 3) && decide ((n, a) ∈ zl_a.getD o []) && decide (b = 2)
noncomputable def zk_iv (n : Nat) : EKC := fun o cc _ _ _ _ pc a b c tl r => zk_d cc pc (.invokevirtual n) 3 && zk_n r (pc + 3) && (decide ((n, a, b, c, tl) ∈ zl_v.getD o []) || (decide (tl = [a]) && decide ((n, a) ∈ zl_q.getD o [])))
noncomputable def zk_is (n : Nat) : EKC := fun o cc _ _ _ _ pc a b c tl r => zk_d cc pc (.invokestatic n) 3 && zk_n r (pc + 3) && (decide ((n, a, b, c, tl) ∈ zl_s.getD o []) || (decide (tl = []) && decide (n ∈ zl_y.getD o [])) || (decide (tl = [0]) && decide ((n, a) ∈ zl_m.getD o [])))
noncomputable def zk_ip (n : Nat) : EKC := fun o cc _ _ _ _ pc a b c tl r => zk_d cc pc (.invokespecial n) 3 && zk_n r (pc + 3) && (decide ((n, a, b, c, tl) ∈ zl_i.getD o []) || (decide (tl = []) && decide (n ∈ zl_o.getD o [])))
noncomputable def zk_rt (rt : Option FieldType) (a : Nat) : Bool := match rt with
  | some .int => decide (a = 0)
  | some .boolean => decide (a = 1)
  | some .char => decide (a = 4)
  | _ => false
noncomputable def zk_ir : EKC := fun _ cc _ rt _ _ pc a _ _ _ _ => zk_d cc pc .ireturn 1 && zk_rt rt a
noncomputable def zk_lr : EKC := fun _ cc _ rt _ _ pc _ _ _ _ _ => zk_d cc pc .lreturn 1 && decide (rt = some .long)
noncomputable def zk_ar : EKC := fun _ cc _ rt _ _ pc _ _ _ _ _ => zk_d cc pc .areturn 1 && (match rt with
  | some (.object _) => true
  | some (.array _) => true
  | _ => false)
noncomputable def zk_vr : EKC := fun _ cc _ rt _ _ pc _ _ _ _ _ => zk_d cc pc .return_ 1 && decide (rt = none)
noncomputable def zk_do (i : Jvm.ClassFile.Instr) : EKC := Jvm.ClassFile.Instr.rec (motive := fun _ => EKC)
  (zk_s .aaload) (zk_s .aastore) (zk_s .aconst_null) (fun n => zk_x (.aload n) 2 n) (fun n => zk_x (.aload_n n) 1 n.val) (fun n => zk_aa n) zk_ar (zk_s .arraylength) (fun n => zk_y (.astore n) 2 n 1) (fun n => zk_y (.astore_n n) 1 n.val 1) zk_no (zk_s .baload) (zk_s .bastore) (fun n => zk_bi n) (zk_s .caload) (zk_s .castore) (fun _ => zk_no) zk_no zk_no zk_no zk_no zk_no zk_no (fun _ => zk_no) (fun _ => zk_no) zk_no (fun _ => zk_no) (fun _ => zk_no) zk_no zk_no zk_no zk_no (fun _ => zk_no) (fun _ => zk_no) zk_no (zk_s .dup) (zk_s .dup_x1) (zk_s .dup_x2) (zk_s .dup2) zk_no zk_no zk_no zk_no zk_no zk_no zk_no zk_no (fun _ => zk_no) (fun _ => zk_no) zk_no (fun _ => zk_no) (fun _ => zk_no) zk_no zk_no zk_no zk_no (fun _ => zk_no) (fun _ => zk_no) zk_no (fun n => zk_gf n) (fun _ => zk_no) (fun f => zk_go f) (fun _ => zk_no) (zk_s .i2b) (zk_s .i2c) zk_no zk_no (zk_s .i2l) (zk_s .i2s) (zk_s .iadd) (zk_s .iaload) (zk_s .iand) (zk_s .iastore) (fun n => zk_ic n) (zk_s .idiv) (fun _ _ => zk_no) (fun c f => zk_j (.if_icmp c f) f) (fun c f => zk_j (.ifCond c f) f) (fun f => zk_j (.ifnonnull f) f) (fun f => zk_j (.ifnull f) f) (fun i n => zk_ii i n) (fun n => zk_x (.iload n) 2 n) (fun n => zk_x (.iload_n n) 1 n.val) (zk_s .imul) (zk_s .ineg) (fun _ => zk_no) (fun _ => zk_no) (fun _ _ => zk_no) (fun n => zk_ip n) (fun n => zk_is n) (fun n => zk_iv n) (zk_s .ior) (zk_s .irem) zk_ir (zk_s .ishl) (zk_s .ishr) (fun n => zk_y (.istore n) 2 n 1) (fun n => zk_y (.istore_n n) 1 n.val 1) (zk_s .isub) (zk_s .iushr) (zk_s .ixor) (fun _ => zk_no) (fun _ => zk_no) zk_no zk_no (zk_s .l2i) (zk_s .ladd) (zk_s .laload) (zk_s .land) (zk_s .lastore) (zk_s .lcmp) (fun n => zk_lc n) (fun n => zk_ld n) (fun n => zk_ldw n) (fun n => zk_ld2 n) (zk_s .ldiv) (fun n => zk_x (.lload n) 2 n) (fun n => zk_x (.lload_n n) 1 n.val) (zk_s .lmul) zk_no (fun d ps => zk_ls d ps) (zk_s .lor) (zk_s .lrem) zk_lr (zk_s .lshl) (zk_s .lshr) (fun n => zk_y (.lstore n) 2 n 2) (fun n => zk_y (.lstore_n n) 1 n.val 2) (zk_s .lsub) zk_no zk_no zk_no zk_no (fun _ _ => zk_no) (fun n => zk_nw n) (fun t => zk_na t) zk_no (zk_s .pop) zk_no (fun n => zk_pf n) (fun _ => zk_no) (fun _ => zk_no) zk_vr zk_no zk_no (fun n => zk_si n) zk_no (fun d lo hi offs => zk_ts d lo hi offs) i
noncomputable def zk_code (o : Nat) (cc : ByteArray) (nL : Nat) (rt : Option FieldType) (ini : Bool) (jt : List (List ECE)) (cs : List ECE) : Bool := List.rec (motive := fun _ => Bool) true (fun e r ih => zcd (zk_do e.1 o cc nL rt ini jt e.2.1 e.2.2.1 e.2.2.2.1 e.2.2.2.2.1 e.2.2.2.2.2 r) ih false) cs
