/-! the law's own level -/
def zL_sp (b L a2 a3 : Nat) : Nat → Nat := fun k => match k with
  | 0 => b
  | 1 => L
  | 2 => a2
  | _ => a3
def zL_xs (L : Nat) (xs : Nat → Int32) : Nat → Int32 := fun j => if j < 5 then xs j else nI L
def zL_A (s : State) : Nat → Prop := fun q => s.heap.size ≤ q
noncomputable def zL_end : ERt := fun r _ _ => match r with
  | some (.inl (.inl n)) => Nat.beq n 1
  | _ => false
/-- the empty text's place -/
theorem zL_Sof {p : Program} {s : State} {m : MethodId} {meth : Method} {c : Code} {b L : Nat} {xs : Nat → Int32} (C0 : lw_At p s m meth c b L xs) : ∃ a2 a3 : Nat, ze_S (zL_sp b L a2 a3) (zL_A s) s := by
  obtain ⟨-, -, -, -, -, hts, -, -, -, hgv⟩ := C0
  have hs := flat_of_before _ hgv
  have hA : ∀ a : Nat, a < s.heap.size → ¬ zL_A s a := fun a h => Nat.not_le.mpr h
  obtain ⟨adK, adV, h1, h2⟩ := vk_Sof (args := #[Value.ref b]) (s := s) (N := 1) (tm := fun _ => Term.string "ConfettiMinutes$Script" 29) (len := [0]) (byt := [[]]) (A := zL_A s) (fun i hi => by cases (show i = 0 by omega); decide) (fun i _ => hs _ (by decide +kernel)) (fun i _ => hs _ (by decide +kernel)) (fun i _ => hs _ (by decide +kernel))
    (fun i hi => by cases (show i = 0 by omega); exact hs _ (by decide +kernel)) (fun i hi j hj => by cases (show i = 0 by omega); cases hj) (fun i j hi hj h => absurd (show i = j by omega) h) hA
  have h3 : vk_S 1 [0] [[]] (fun _ => adK 0) (fun _ => adV 0) (zL_A s) s s.heap := ⟨fun i hi => by cases (show i = 0 by omega); exact h1.1 0 hi, fun i j hi hj _ => by omega⟩
  refine ⟨adK 0, adV 0, vk_R.of (hts _ (by decide +kernel)) (h2 0 (by omega)), h3, va_Zof (hts _ (by decide +kernel)) (hts _ (by decide +kernel)) (va_eqt (hs _ (by decide +kernel))) hA⟩
section ZLaw
variable {p : Program} {l : Launch} {e : Env} {s : State} {m : MethodId} {below : List Frame} {meth : Method} {c : Code} {b L a2 a3 : Nat} {xs : Nat → Int32} {dC : Nat → ClassId} {dI : Nat → Nat → Nat} {dA : Nat → ClassId}
theorem zL_X (hSt : ze_S (zL_sp b L a2 a3) (zL_A s) s) (hL : L ≤ 5) (C0 : lw_At p s m meth c b L xs) : ze_X (zL_sp b L a2 a3) (zL_xs L xs) (zL_A s) s := by
  obtain ⟨-, -, -, -, -, -, h7, h8, -⟩ := C0
  obtain ⟨scr, h1, h2, h3, h4, h5⟩ := h7
  refine ⟨⟨scr, h1, h2, h3, h4, fun j hj => ?_⟩, h8, Nat.not_le.mpr h8, hL, rfl, hSt⟩
  have hj : j < L := hj
  rw [h5 j hj]
  show some (Value.int (xs j)) = some (Value.int (if j < 5 then xs j else nI L))
  rw [if_pos (by omega)]
theorem zL_Fx (hSt : ze_S (zL_sp b L a2 a3) (zL_A s) s) (hL : L ≤ 5) (C0 : lw_At p s m meth c b L xs) (hK : ze_K dC dI dA s) (hjt : ∀ cs ∈ zp_L_law_, zk_code 15 code 8 ret false zp_L_law_ cs = true) : ze_Fx p l room_1 s m #[Value.ref b] meth c dC dI dA (zL_sp b L a2 a3) (zL_xs L xs) (zL_A s) 15 8 30 code ret false zp_L_law_ (ze_ex zp_all 30) 600002 7302232 :=
  ⟨zF, C0.1, C0.2.1, C0.2.2.2.1, C0.2.2.2.2.1, hK, zL_X hSt hL C0, fun q hq => hq, fun w hw => C0.2.2.2.2.2.1 w (zb_good w hw).1, ⟨rfl, rfl⟩, ⟨by decide, by decide⟩, (fun h => by cases h), fun y q hy => zF_ex 30 y q hy, hjt⟩
theorem zL_Re {z0 : List Int32 × List Nat} (C0 : lw_At p s m meth c b L xs) : ze_Re p l e room_1 s m #[Value.ref b] below meth c (lw_Z below #[Value.ref b] s) z0 dC dI dA (zL_sp b L a2 a3) (zL_xs L xs) (zL_A s) 8 code ret zL_end 600002 7302232 := by
  intro pc nc ns ls st w g ρ ws H locs la vs hH h1 h2
  refine ⟨?_, ?_, ?_, ?_⟩
  · intro u x ty e1 e2 e3 e4 e5 e6
    subst e1; subst e2
    rcases u with n | i
    · have e7 := ze_beq (show Nat.beq n 1 = true from e3)
      subst e7
      have e8 : Value.int x = .int (nI 1) := hH.2.2.2.2.2.2.2.1
      have e9 : x = 1 := (Value.int.inj e8).trans (by decide +kernel)
      subst e9
      exact va_forget (fun q hq => hH.2.2.2.2.2.1.2.2 q hq) (W.widen h1 h2 (lw_ret C0.1 C0.2.1 C0.2.2.1 C0.2.2.2.2.2.2.2.2.1 e4))
    · cases e3
  · intro u x e1 e2 e3; cases e3
  · intro u x ty e1 e2 e3; cases e3
  · intro e1 e2 e3; cases e3
end ZLaw
