/-! a case of the law: the row that works out script[0] & 63 is walked by hand, its value known -/
noncomputable def zL_run (base : EKn) (n : Nat) : EKn := ze_lb (ze_jp zp_L_law_) (ze_ex zp_all 30) 600002 7302232 zL_end base n
noncomputable def zL_no : EKn := fun _ _ _ _ _ _ _ => false
noncomputable def zL_B (j n : Nat) : EKn := fun cs ls st w g nc ns => match cs, st with
  | (.iand, pc, a, b, c, tl) :: r, .inl (.inl k) :: .inl (.inr i) :: rest => cond (Nat.beq k 63) (cond (Nat.beq i 0) (zL_run zL_no n r ls (eC j :: rest) w g nc ns) false) false
  | _, _ => false
section ZCase
variable {p : Program} {l : Launch} {e : Env} {s : State} {m : MethodId} {below : List Frame} {meth : Method} {c : Code} {b L a2 a3 : Nat} {xs : Nat → Int32} {dC : Nat → ClassId} {dI : Nat → Nat → Nat} {dA : Nat → ClassId}
theorem zL_Bok {j n : Nat} (hSt : ze_S (zL_sp b L a2 a3) (zL_A s) s) (hL : L ≤ 5) (C0 : lw_At p s m meth c b L xs) (hK : ze_K dC dI dA s) (hj : xs 0 &&& 63 = nI j) : ze_KK p l e room_1 s m #[Value.ref b] below meth c (lw_Z below #[Value.ref b] s) ([], []) dC dI dA (zL_sp b L a2 a3) (zL_xs L xs) (zL_A s) 8 (fun cs => zk_code 15 code 8 ret false zp_L_law_ cs = true) (zL_B j n) := by
  intro cs ls st w g nc ns h pc hat ρ ws H locs la vs hH
  unfold zL_B at h
  split at h
  · rename_i pc0 a0 b0 c0 tl0 r k i rest
    obtain ⟨h1, h⟩ := ze_condf h
    obtain ⟨h2, h⟩ := ze_condf h
    have e1 := ze_beq h1
    have e2 := ze_beq h2
    subst e1; subst e2
    obtain ⟨hV, e9, r9, hcs, hpc⟩ := hat
    obtain ⟨rfl, rfl⟩ := List.cons.inj hcs
    obtain ⟨hrow, hVr⟩ := zk_tail hV
    subst hpc
    obtain ⟨h3, h4⟩ := zk_and (show zk_s .iand 15 code 8 ret false zp_L_law_ pc0 a0 b0 c0 tl0 r = true from hrow)
    have hd := zk_dec h3
    have hn := zk_nx hVr h4
    obtain ⟨y1, r1, q1, V1, L1⟩ := hH.2.2.2.2.2.2.2.cons
    obtain ⟨y2, r2, q2, V2, L2⟩ := L1.cons
    subst q1; subst q2
    have V1 : y1 = .int (nI 63) := V1
    obtain ⟨z, hz, V2⟩ := id V2
    subst V1; subst V2
    have ez : z = xs 0 := Option.some.inj (hz.symm.trans (hH.2.1.1 0 (by omega)))
    subst ez
    refine lv_iand C0.1 C0.2.1 hd ?_
    rw [show xs 0 &&& nI 63 = nI j from hj]
    have hB : ze_KK p l e room_1 s m #[Value.ref b] below meth c (lw_Z below #[Value.ref b] s) ([], []) dC dI dA (zL_sp b L a2 a3) (zL_xs L xs) (zL_A s) 8 (fun cs => zk_code 15 code 8 ret false zp_L_law_ cs = true) zL_no := fun _ _ _ _ _ _ _ h => by cases h
    exact ze_lb_ok (zL_Fx hSt hL C0 hK zq_L_law_) (zL_Re C0) hB n _ _ _ _ _ _ _ h _ hn _ _ _ _ _ _ (hH.stk ⟨rfl, L2⟩)
  · cases h
end ZCase
