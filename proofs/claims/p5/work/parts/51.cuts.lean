/-! a method by a list of cuts: from each of them the engine runs to the next cut row, where the state is one of the later ones -/
/-- row, pc, locals and places that are unknown, locals, world, intervals -/
abbrev ZK : Type := Nat × Nat × List Nat × List (Nat × Nat) × List EV × EW × EG
/-- a cut, its successors, what is split at it: unknowns, each at some numbers -/
abbrev ZC : Type := ZK × List Nat × List (Nat × List Nat)
noncomputable def zy_mt (N : Nat) (K : ZK) (pc : Nat) (ls : List EV) (w : EW) (g : EG) : Bool := zcd (Nat.beq pc K.2.1) (zh_chk N K.2.2.1 K.2.2.2.1 K.2.2.2.2.1 K.2.2.2.2.2.1 K.2.2.2.2.2.2 ls w g) false
/-- one of the cuts js -/
noncomputable def zy_any (N : Nat) (KS : List ZC) (js : List Nat) (pc : Nat) (ls : List EV) (w : EW) (g : EG) : Bool := List.rec (motive := fun _ => Bool) false (fun j _ ih => zcd (ze_n KS j (fun K => zy_mt N K.1 pc ls w g)) true ih) js
noncomputable def zy_B (N : Nat) (KS : List ZC) (js : List Nat) : EKn := fun cs ls st w g nc ns => List.rec (motive := fun _ => Bool) false (fun e _ _ => zl_0 st (zcd (Nat.beq nc 0) (zcd (Nat.beq ns 0) (zy_any N KS js e.2.1 ls w g) false) false)) cs
noncomputable def zy_pc (ps : List Nat) (pc : Nat) : Bool := List.rec (motive := fun _ => Bool) false (fun p _ ih => zcd (Nat.beq pc p) true ih) ps
/-- runs up to one of some rows -/
noncomputable def zy_lp (jp : EJp) (cal : ECal) (mc ms : Nat) (k : ERt) (ps : List Nat) (base : EKn) (n : Nat) : EKn := Nat.rec (motive := fun _ => EKn) (fun _ _ _ _ _ _ _ => false) (fun _ ih cs ls st w g nc ns => List.rec (motive := fun _ => Bool) false (fun e r _ => zcd (zy_pc ps e.2.1) (base (e :: r) ls st w g nc ns) (ze_do e.1 r e.2.2.1 e.2.2.2.1 e.2.2.2.2.1 e.2.2.2.2.2 jp ih k cal mc ms ls st w g nc ns)) cs) n
/-- an interval in pieces -/
noncomputable def zy_s1 (u : Nat) (f : EG → Bool) (g : EG) (hi : Nat) (ms : List Nat) : Nat → Bool := List.rec (motive := fun _ => Nat → Bool) (fun lo => f (ze_s (lo, hi) g u)) (fun m _ ih lo => zcd (f (ze_s (lo, m) g u)) (ih (Nat.succ m)) false) ms
noncomputable def zy_spl (f : EG → Bool) (sp : List (Nat × List Nat)) : EG → Bool := List.rec (motive := fun _ => EG → Bool) (fun g => f g) (fun p _ ih g => ze_n g p.1 (fun q => zy_s1 p.1 ih g q.2 p.2 q.1)) sp
theorem zy_s1_ok {u hi : Nat} {f : EG → Bool} {g : EG} {ρ : List Int32} {x : Int32} (hG : ze_G g ρ) (hx : ρ[u]? = some x) (h2 : ze_b x ≤ hi) : ∀ (ms : List Nat) (lo : Nat), zy_s1 u f g hi ms lo = true → lo ≤ ze_b x → ∃ g', ze_G g' ρ ∧ f g' = true := by
  intro ms
  induction ms with
  | nil => intro lo h h1; exact ⟨_, hG.set (p := (lo, hi)) hx h1 h2, h⟩
  | cons m t ih =>
    intro lo h h1
    obtain ⟨h3, h4⟩ := ze_condf (show zcd (f (ze_s (lo, m) g u)) (zy_s1 u f g hi t (Nat.succ m)) false = true from h)
    rcases Nat.lt_or_ge m (ze_b x) with q | q
    · exact ih _ h4 q
    · exact ⟨_, hG.set (p := (lo, m)) hx h1 q, h3⟩
theorem zy_spl_ok {f : EG → Bool} {ρ : List Int32} : ∀ (sp : List (Nat × List Nat)) (g : EG), zy_spl f sp g = true → ze_G g ρ → ∃ g', ze_G g' ρ ∧ f g' = true := by
  intro sp
  induction sp with
  | nil => intro g h hG; exact ⟨g, hG, h⟩
  | cons p t ih =>
    intro g h hG
    obtain ⟨q, h1, h2⟩ := ze_n_spec _ _ _ (show ze_n g p.1 (fun q => zy_s1 p.1 (zy_spl f t) g q.2 p.2 q.1) = true from h)
    have hl : p.1 < ρ.length := by rw [← hG.1]; exact (List.getElem?_eq_some_iff.mp h1).1
    have hx : ρ[p.1]? = some ρ[p.1] := List.getElem?_eq_getElem hl
    have hb := hG.2 _ _ _ h1 hx
    obtain ⟨g', k1, k2⟩ := zy_s1_ok hG hx hb.2 p.2 q.1 h2 hb.1
    exact ih g' k2 k1
/-- from a cut on -/
noncomputable def zy_st (jt : List (List ECE)) (cal : ECal) (mc ms : Nat) (k : ERt) (ps : List Nat) (F : Nat) (base : EKn) (K : ZK) (g : EG) : Bool := ze_jp jt K.1 (fun cs => ze_lb (ze_jp jt) cal mc ms k (zy_lp (ze_jp jt) cal mc ms k ps base F) 1 cs K.2.2.2.2.1 [] K.2.2.2.2.2.1 g 0 0)
noncomputable def zy_hd (jt : List (List ECE)) (K : ZK) : Bool := ze_jp jt K.1 (fun cs => List.rec (motive := fun _ => Bool) false (fun e _ _ => Nat.beq e.2.1 K.2.1) cs)
/-- all above i -/
noncomputable def zy_gt (i : Nat) (js : List Nat) : Bool := List.rec (motive := fun _ => Bool) true (fun j _ ih => zcd (Nat.ble (Nat.succ i) j) ih false) js
theorem zy_gt_ok {i : Nat} : ∀ (js : List Nat), zy_gt i js = true → ∀ j ∈ js, i < j := by
  intro js
  induction js with
  | nil => intro _ j h; cases h
  | cons a t ih =>
    intro h j hj
    obtain ⟨h1, h2⟩ := ze_condf (show zcd (Nat.ble (Nat.succ i) a) (zy_gt i t) false = true from h)
    rcases List.mem_cons.mp hj with e | hj
    · subst e; exact ze_ble' h1
    · exact ih h2 j hj
theorem zy_any_ok {N pc : Nat} {KS : List ZC} {ls : List EV} {w : EW} {g : EG} : ∀ (js : List Nat), zy_any N KS js pc ls w g = true → ∃ j K, j ∈ js ∧ KS[j]? = some K ∧ zy_mt N K.1 pc ls w g = true := by
  intro js
  induction js with
  | nil => intro h; cases h
  | cons j t ih =>
    intro h
    rcases ze_cond (show zcd (ze_n KS j (fun K => zy_mt N K.1 pc ls w g)) true (zy_any N KS t pc ls w g) = true from h) with ⟨h1, -⟩ | ⟨-, h1⟩
    · obtain ⟨K, a, b⟩ := ze_n_spec _ _ _ h1
      exact ⟨j, K, List.mem_cons_self, a, b⟩
    · obtain ⟨j2, K2, a, b⟩ := ih h1
      exact ⟨j2, K2, List.mem_cons_of_mem _ a, b⟩
section ZYC
variable {p : Program} {l : Launch} {e : Env} {R : Room} {s : State} {m : MethodId} {args : Array Value} {below : List Frame} {meth : Method} {c : Code} {Q : State → Prop}
variable {z0 : List Int32 × List Nat} {dC : Nat → ClassId} {dI : Nat → Nat → Nat} {dA : Nat → ClassId} {sp : Nat → Nat} {xs : ZXs} {A : Nat → Prop} {o nL d : Nat} {cc : ByteArray} {rt : Option FieldType} {ini : Bool} {jt : List (List ECE)}
variable {kk : EKn} {k : ERt} {cal : ECal} {mc ms : Nat}
theorem zy_lp_ok {base : EKn} {ps : List Nat} (hF : ze_Fx p l R s m args meth c dC dI dA sp xs A o nL d cc rt ini jt cal mc ms) (hE : ze_Re p l e R s m args below meth c Q z0 dC dI dA sp xs A nL cc rt k mc ms) (hB : ze_KK p l e R s m args below meth c Q z0 dC dI dA sp xs A nL (fun cs => zk_code o cc nL rt ini jt cs = true) base) : ∀ n : Nat, ze_KK p l e R s m args below meth c Q z0 dC dI dA sp xs A nL (fun cs => zk_code o cc nL rt ini jt cs = true) (zy_lp (ze_jp jt) cal mc ms k ps base n) := by
  intro n
  induction n with
  | zero => intro cs ls st w g nc ns h; cases h
  | succ n ih =>
    intro cs ls st w g nc ns h pc hat ρ ws H locs la vs hH
    obtain ⟨hV, e9, r, hcs, hpc⟩ := hat
    subst hcs
    rcases ze_cond (show zcd (zy_pc ps e9.2.1) (base (e9 :: r) ls st w g nc ns) (ze_do e9.1 r e9.2.2.1 e9.2.2.2.1 e9.2.2.2.2.1 e9.2.2.2.2.2 (ze_jp jt) (zy_lp (ze_jp jt) cal mc ms k ps base n) k cal mc ms ls st w g nc ns) = true from h) with ⟨-, h⟩ | ⟨-, h⟩
    · exact hB _ _ _ _ _ _ _ h pc ⟨hV, e9, r, rfl, hpc⟩ _ _ _ _ _ _ hH
    · obtain ⟨hrow, hVr⟩ := zk_tail hV
      subst hpc
      exact ze_step hE hF ih hVr hH hrow h
theorem zy_B_ok {V : List ECE → Prop} {N : Nat} {KS : List ZC} {js : List Nat} (hz : z0.1.length = N) (hz6 : 10 ≤ N) (hzx : xs.2.length ≤ N) (hS : ∀ j K, j ∈ js → KS[j]? = some K → ∃ cs0, ze_at V cs0 K.1.2.1 ∧ ze_WS p l e R s m args below meth c Q z0 dC dI dA sp xs A nL V cs0 K.1.2.2.2.2.1 [] K.1.2.2.2.2.2.1 K.1.2.2.2.2.2.2 0 0) : ze_KK p l e R s m args below meth c Q z0 dC dI dA sp xs A nL V (zy_B N KS js) := by
  intro cs ls st w g nc ns h pc hat ρ ws H locs la vs hH
  obtain ⟨hV, e9, r, rfl, hpc⟩ := hat
  cases st with
  | cons a t => cases h
  | nil =>
    obtain ⟨h2, h⟩ := ze_condf (show zcd (Nat.beq nc 0) (zcd (Nat.beq ns 0) (zy_any N KS js e9.2.1 ls w g) false) false = true from h)
    obtain ⟨h3, h⟩ := ze_condf h
    obtain ⟨j9, K, hj9, hK, hm⟩ := zy_any_ok js h
    obtain ⟨h1, hck⟩ := ze_condf hm
    obtain ⟨cs0, hat0, hW0⟩ := hS j9 K hj9 hK
    have b2 := ze_beq h2
    have b3 := ze_beq h3
    have b4 : vs = [] := hH.2.2.2.2.2.2.2.nil
    have b5 : pc = K.1.2.1 := hpc.symm.trans (ze_beq h1)
    subst b2; subst b3; subst b4
    rw [b5]
    obtain ⟨ρ', hH'⟩ := zh_H hck hz hz6 hzx hH
    exact hW0 _ hat0 ρ' ws H locs la [] hH'
/-- a cut's check -/
noncomputable def zy_f (N : Nat) (jt : List (List ECE)) (cal : ECal) (mc ms : Nat) (k : ERt) (ps : List Nat) (F : Nat) (KS : List ZC) (i : Nat) : Bool := ze_n KS i (fun K => zcd (zy_hd jt K.1) (zcd (zy_gt i K.2.1) (zy_spl (fun g => zy_st jt cal mc ms k ps F (zy_B N KS K.2.1) K.1 g) K.2.2 K.1.2.2.2.2.2.2) false) false)
/-- all cuts -/
theorem zy_all {N F : Nat} {ps : List Nat} {KS : List ZC} (hF : ze_Fx p l R s m args meth c dC dI dA sp xs A o nL d cc rt ini jt cal mc ms) (hE : ze_Re p l e R s m args below meth c Q z0 dC dI dA sp xs A nL cc rt k mc ms) (hz : z0.1.length = N) (hz6 : 10 ≤ N) (hzx : xs.2.length ≤ N)
    (hst : ∀ i, i < KS.length → zy_f N jt cal mc ms k ps F KS i = true) : ∀ (n i : Nat) (K : ZC), KS.length - i ≤ n → KS[i]? = some K → ∃ cs0, ze_at (fun cs => zk_code o cc nL rt ini jt cs = true) cs0 K.1.2.1 ∧ ze_WS p l e R s m args below meth c Q z0 dC dI dA sp xs A nL (fun cs => zk_code o cc nL rt ini jt cs = true) cs0 K.1.2.2.2.2.1 [] K.1.2.2.2.2.2.1 K.1.2.2.2.2.2.2 0 0 := by
  intro n
  induction n with
  | zero =>
    intro i K hi hK
    have := (List.getElem?_eq_some_iff.mp hK).1
    omega
  | succ n ih =>
    intro i K hi hK
    have hlt := (List.getElem?_eq_some_iff.mp hK).1
    have hjt := hF.2.2.2.2.2.2.2.2.2.2.2.2.2
    obtain ⟨K9, hK9, hf⟩ := ze_n_spec _ _ _ (hst i hlt)
    rw [hK] at hK9
    cases hK9
    obtain ⟨hhd, hf⟩ := ze_condf hf
    obtain ⟨hgt, hf⟩ := ze_condf hf
    obtain ⟨cs, h1, h4⟩ := ze_jp_spec hhd
    have hV : zk_code o cc nL rt ini jt cs = true := by
      unfold ze_tgt at h1
      cases hj : jt[K.1.1 / 16]? with
      | none => rw [hj] at h1; cases h1
      | some c0 =>
        rw [hj] at h1
        exact zk_drop _ c0 _ (hjt c0 (List.mem_of_getElem? hj)) h1
    refine ⟨cs, ⟨hV, ?_⟩, ?_⟩
    · cases cs with
      | nil => cases h4
      | cons e8 r8 => exact ⟨e8, r8, rfl, ze_beq h4⟩
    · intro pc hat ρ ws H locs la vs hH
      obtain ⟨g', hG', hrun⟩ := zy_spl_ok K.2.2 K.1.2.2.2.2.2.2 hf hH.1
      obtain ⟨cs9, h3, h2⟩ := ze_jp_spec hrun
      rw [h1] at h3
      cases h3
      refine ze_lb_ok hF hE (zy_lp_ok hF hE (zy_B_ok hz hz6 hzx (fun j K2 hj hK2 => ?_)) F) 1 _ _ _ _ _ _ _ h2 pc hat ρ ws H locs la vs (hH.gs hG')
      have h9 := zy_gt_ok _ hgt j hj
      exact ih j K2 (by omega) hK2
end ZYC
