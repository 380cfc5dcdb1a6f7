/-! the law's level over other calls -/
noncomputable def zL_run2 (cal : ECal) (base : EKn) (n : Nat) : EKn := ze_lb (ze_jp zp_L_law_) cal 600002 7302232 zL_end base n
noncomputable def zL_B2 (cal : ECal) (j n : Nat) : EKn := fun cs ls st w g nc ns => match cs, st with
  | (.iand, pc, a, b, c, tl) :: r, .inl (.inl k) :: .inl (.inr i) :: rest => cond (Nat.beq k 63) (cond (Nat.beq i 0) (zL_run2 cal zL_no n r ls (eC j :: rest) w g nc ns) false) false
  | _, _ => false
section ZLaw2
variable {p : Program} {l : Launch} {e : Env} {s : State} {m : MethodId} {below : List Frame} {meth : Method} {c : Code} {b L a2 a3 : Nat} {xs : Nat → Int32} {dC : Nat → ClassId} {dI : Nat → Nat → Nat} {dA : Nat → ClassId} {cal : ECal}
theorem zL_Fx2 (hcal : ∀ y q, zm y = some q → ze_Cal l dC dI dA (zL_sp b L a2 a3) (zL_xs L xs) (zL_A s) cal y 30 q.1 q.2.1 q.2.2.1 q.2.2.2.1 q.2.2.2.2.2.1 q.2.2.2.2.2.2) (hSt : ze_S (zL_sp b L a2 a3) (zL_A s) s) (hL : L ≤ 5) (C0 : lw_At p s m meth c b L xs) (hK : ze_K dC dI dA s) : ze_Fx p l room_1 s m #[Value.ref b] meth c dC dI dA (zL_sp b L a2 a3) (zL_xs L xs) (zL_A s) 15 8 30 code ret false zp_L_law_ cal 600002 7302232 :=
  ⟨zF, C0.1, C0.2.1, C0.2.2.2.1, C0.2.2.2.2.1, hK, zL_X hSt hL C0, fun q hq => hq, fun w hw => C0.2.2.2.2.2.1 w (zb_good w hw).1, ⟨rfl, rfl⟩, ⟨by decide, by decide⟩, (fun h => by cases h), hcal, zq_L_law_⟩
theorem zL_Kno : ze_KK p l e room_1 s m #[Value.ref b] below meth c (lw_Z below #[Value.ref b] s) ([], []) dC dI dA (zL_sp b L a2 a3) (zL_xs L xs) (zL_A s) 8 (fun cs => zk_code 15 code 8 ret false zp_L_law_ cs = true) zL_no := fun _ _ _ _ _ _ _ h => by cases h
theorem zL_run2_ok {base : EKn} (hcal : ∀ y q, zm y = some q → ze_Cal l dC dI dA (zL_sp b L a2 a3) (zL_xs L xs) (zL_A s) cal y 30 q.1 q.2.1 q.2.2.1 q.2.2.2.1 q.2.2.2.2.2.1 q.2.2.2.2.2.2) (hSt : ze_S (zL_sp b L a2 a3) (zL_A s) s) (hL : L ≤ 5) (C0 : lw_At p s m meth c b L xs) (hK : ze_K dC dI dA s) (hB : ze_KK p l e room_1 s m #[Value.ref b] below meth c (lw_Z below #[Value.ref b] s) ([], []) dC dI dA (zL_sp b L a2 a3) (zL_xs L xs) (zL_A s) 8 (fun cs => zk_code 15 code 8 ret false zp_L_law_ cs = true) base) (n : Nat) : ze_KK p l e room_1 s m #[Value.ref b] below meth c (lw_Z below #[Value.ref b] s) ([], []) dC dI dA (zL_sp b L a2 a3) (zL_xs L xs) (zL_A s) 8 (fun cs => zk_code 15 code 8 ret false zp_L_law_ cs = true) (zL_run2 cal base n) :=
  ze_lb_ok (zL_Fx2 hcal hSt hL C0 hK) (zL_Re C0) hB n
/-- the row that works out script[0] & 63, what goes on behind it any -/
noncomputable def zL_B3 (kk : EKn) (j : Nat) : EKn := fun cs ls st w g nc ns => match cs, st with
  | (.iand, pc, a, b, c, tl) :: r, .inl (.inl k) :: .inl (.inr i) :: rest => cond (Nat.beq k 63) (cond (Nat.beq i 0) (kk r ls (eC j :: rest) w g nc ns) false) false
  | _, _ => false
theorem zL_Bok3 {j : Nat} {kk : EKn} (C0 : lw_At p s m meth c b L xs) (hj : xs 0 &&& 63 = nI j) (hkk : ze_KK p l e room_1 s m #[Value.ref b] below meth c (lw_Z below #[Value.ref b] s) ([], []) dC dI dA (zL_sp b L a2 a3) (zL_xs L xs) (zL_A s) 8 (fun cs => zk_code 15 code 8 ret false zp_L_law_ cs = true) kk) : ze_KK p l e room_1 s m #[Value.ref b] below meth c (lw_Z below #[Value.ref b] s) ([], []) dC dI dA (zL_sp b L a2 a3) (zL_xs L xs) (zL_A s) 8 (fun cs => zk_code 15 code 8 ret false zp_L_law_ cs = true) (zL_B3 kk j) := by
  intro cs ls st w g nc ns h pc hat ρ ws H locs la vs hH
  unfold zL_B3 at h
  split at h
  · rename_i pc0 a0 b0 c0 tl0 r k i rest
    obtain ⟨h1, h⟩ := ze_condf h
    obtain ⟨h2, h⟩ := ze_condf h
    have e1 := ze_beq h1
    have e2 := ze_beq h2
    subst e1; subst e2
    obtain ⟨hV, e9, r9, hcs, hpc⟩ := hat
    obtain ⟨rfl, rfl⟩ := List.cons.inj hcs
    obtain ⟨hrow, hVr⟩ := zk_tail hV
    subst hpc
    obtain ⟨h3, h4⟩ := zk_and (show zk_s .iand 15 code 8 ret false zp_L_law_ pc0 a0 b0 c0 tl0 r = true from hrow)
    have hd := zk_dec h3
    have hn := zk_nx hVr h4
    obtain ⟨y1, r1, q1, V1, L1⟩ := hH.2.2.2.2.2.2.2.cons
    obtain ⟨y2, r2, q2, V2, L2⟩ := L1.cons
    subst q1; subst q2
    have V1 : y1 = .int (nI 63) := V1
    obtain ⟨z, hz, V2⟩ := id V2
    subst V1; subst V2
    have ez : z = xs 0 := Option.some.inj (hz.symm.trans (hH.2.1.1 0 (by omega)))
    subst ez
    refine lv_iand C0.1 C0.2.1 hd ?_
    rw [show xs 0 &&& nI 63 = nI j from hj]
    exact hkk _ _ _ _ _ _ _ h _ hn _ _ _ _ _ _ (hH.stk ⟨rfl, L2⟩)
  · cases h
/-- case j of the law, over any calls that keep their contracts -/
theorem zL_case {j n n2 : Nat} {g : EG} (hcal : ∀ y q, zm y = some q → ze_Cal l dC dI dA (zL_sp b 5 a2 a3) (zL_xs 5 xs) (zL_A s) cal y 30 q.1 q.2.1 q.2.2.1 q.2.2.2.1 q.2.2.2.2.2.1 q.2.2.2.2.2.2) (hSt : ze_S (zL_sp b 5 a2 a3) (zL_A s) s) (C0 : lw_At p s m meth c b 5 xs) (hK : ze_K dC dI dA s) (hj : xs 0 &&& 63 = nI j) (hG : ze_G g [xs 0, xs 1, xs 2, xs 3, xs 4, nI 5])
    (h : zL_run (zL_B3 (zL_run2 cal zL_no n) j) n2 zp_L_law__0 (ze_il [eX 2] 8) [] (0, []) g 0 0 = true) : W p l e room_1 s m #[Value.ref b] below meth c s.heap [] 0 0 (lw_Z below #[Value.ref b] s) (entryFrame m ([Value.ref b] : List Value).toArray 8) :=
  zL_start hG hSt (Nat.le_refl 5) C0 hK (zL_Bok3 C0 hj (zL_run2_ok hcal hSt (Nat.le_refl 5) C0 hK zL_Kno n)) h
end ZLaw2
