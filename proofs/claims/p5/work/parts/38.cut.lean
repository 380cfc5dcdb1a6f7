/-! THE ENGINE, part 16: runs that are cut -/
noncomputable def ze_lb (jp : EJp) (cal : ECal) (mc ms : Nat) (k : ERt) (base : EKn) (n : Nat) : EKn := Nat.rec (motive := fun _ => EKn) base (fun _ ih cs ls st w g nc ns => List.rec (motive := fun _ => Bool) false (fun e r _ => ze_do e.1 r e.2.2.1 e.2.2.2.1 e.2.2.2.2.1 e.2.2.2.2.2 jp ih k cal mc ms ls st w g nc ns) cs) n
section ZZ
variable {p : Program} {l : Launch} {e : Env} {R : Room} {s : State} {m : MethodId} {args : Array Value} {below : List Frame} {meth : Method} {c : Code} {Q : State → Prop}
variable {z0 : List Int32 × List Nat} {dC : Nat → ClassId} {dI : Nat → Nat → Nat} {dA : Nat → ClassId} {sp : Nat → Nat} {xs : ZXs} {A : Nat → Prop} {o nL d : Nat} {cc : ByteArray} {rt : Option FieldType} {ini : Bool} {jt : List (List ECE)}
variable {kk : EKn} {k : ERt} {cal : ECal} {mc ms pc ca cb cd nc ns : Nat} {r : List ECE} {tl : List Nat} {ls st : List EV} {w : EW} {g : EG} {ρ : List Int32} {ws : va_W} {H : Heap} {locs : List Loc} {la : Array Slot} {vs : List Value}
theorem ze_lb_ok {base : EKn} (hF : ze_Fx p l R s m args meth c dC dI dA sp xs A o nL d cc rt ini jt cal mc ms) (hE : ze_Re p l e R s m args below meth c Q z0 dC dI dA sp xs A nL cc rt k mc ms) (hB : ze_KK p l e R s m args below meth c Q z0 dC dI dA sp xs A nL (fun cs => zk_code o cc nL rt ini jt cs = true) base) : ∀ n : Nat, ze_KK p l e R s m args below meth c Q z0 dC dI dA sp xs A nL (fun cs => zk_code o cc nL rt ini jt cs = true) (ze_lb (ze_jp jt) cal mc ms k base n) := by
  intro n
  induction n with
  | zero => exact hB
  | succ n ih =>
    intro cs ls st w g nc ns h pc hat ρ ws H locs la vs hH
    obtain ⟨hV, e9, r, hcs, hpc⟩ := hat
    subst hcs
    obtain ⟨hrow, hVr⟩ := zk_tail hV
    subst hpc
    exact ze_step hE hF ih hVr hH hrow h
end ZZ
/-- a block of rows at a time -/
noncomputable def zk_blk (o : Nat) (cc : ByteArray) (nL : Nat) (rt : Option FieldType) (ini : Bool) (jt : List (List ECE)) (n : Nat) : List ECE → Bool := Nat.rec (motive := fun _ => List ECE → Bool) (fun _ => true) (fun _ ih cs => List.rec (motive := fun _ => Bool) true (fun e r _ => zcd (zk_do e.1 o cc nL rt ini jt e.2.1 e.2.2.1 e.2.2.2.1 e.2.2.2.2.1 e.2.2.2.2.2 r) (ih r) false) cs) n
theorem zk_blk_ok {o nL : Nat} {cc : ByteArray} {rt : Option FieldType} {ini : Bool} {jt : List (List ECE)} : ∀ (n : Nat) (cs r : List ECE), zk_blk o cc nL rt ini jt n cs = true → ze_drop n cs = some r → zk_code o cc nL rt ini jt r = true → zk_code o cc nL rt ini jt cs = true := by
  intro n
  induction n with
  | zero => intro cs r _ h2 h3; cases h2; exact h3
  | succ n ih =>
    intro cs r h1 h2 h3
    cases cs with
    | nil => rfl
    | cons e t =>
      obtain ⟨h4, h5⟩ := ze_condf (show zcd (zk_do e.1 o cc nL rt ini jt e.2.1 e.2.2.1 e.2.2.2.1 e.2.2.2.2.1 e.2.2.2.2.2 t) (zk_blk o cc nL rt ini jt n t) false = true from h1)
      have h6 := ih t r h5 h2 h3
      show zcd (zk_do e.1 o cc nL rt ini jt e.2.1 e.2.2.1 e.2.2.2.1 e.2.2.2.2.1 e.2.2.2.2.2 t) (zk_code o cc nL rt ini jt t) false = true
      rw [h4]
      exact h6
