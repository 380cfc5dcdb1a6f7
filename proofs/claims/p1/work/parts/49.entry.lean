/-! the law's entry -/
def zL_g0 : EG := [(0, 4294967295), (0, 4294967295), (0, 4294967295), (0, 4294967295), (0, 4294967295), (2147483648, 2147483653)]
theorem zL_G {L : Nat} {xs : Nat → Int32} (hL : L ≤ 5) : ze_G zL_g0 [xs 0, xs 1, xs 2, xs 3, xs 4, nI L] := by
  refine ⟨rfl, fun i q x h1 h2 => ?_⟩
  match i, h1, h2 with
  | 0, h1, h2 => cases h1; cases h2; exact ⟨Nat.zero_le _, ze_b_top _⟩
  | 1, h1, h2 => cases h1; cases h2; exact ⟨Nat.zero_le _, ze_b_top _⟩
  | 2, h1, h2 => cases h1; cases h2; exact ⟨Nat.zero_le _, ze_b_top _⟩
  | 3, h1, h2 => cases h1; cases h2; exact ⟨Nat.zero_le _, ze_b_top _⟩
  | 4, h1, h2 => cases h1; cases h2; exact ⟨Nat.zero_le _, ze_b_top _⟩
  | 5, h1, h2 =>
    cases h1; cases h2
    have h3 := ze_b_int (nI L)
    rw [nI_toInt (Nat.lt_of_le_of_lt hL (by decide))] at h3
    show 2147483648 ≤ ze_b (nI L) ∧ ze_b (nI L) ≤ 2147483653
    omega
  | i + 6, h1, h2 => cases h1
/-- the law, from its first row to a cut -/
theorem zL_start {p : Program} {l : Launch} {e : Env} {s : State} {m : MethodId} {below : List Frame} {meth : Method} {c : Code} {b L a2 a3 : Nat} {xs : Nat → Int32} {base : EKn} {n : Nat} {g : EG} (hG : ze_G g [xs 0, xs 1, xs 2, xs 3, xs 4, nI L]) (hSt : ze_S (zL_sp b L a2 a3) (zL_A s) s) (hL : L ≤ 5) (C0 : lw_At p s m meth c b L xs) {dC : Nat → ClassId} {dI : Nat → Nat → Nat} {dA : Nat → ClassId} (hK : ze_K dC dI dA s)
    (hB : ze_KK p l e room_1 s m #[Value.ref b] below meth c (lw_Z below #[Value.ref b] s) ([], []) dC dI dA (zL_sp b L a2 a3) (zL_xs L xs) (zL_A s) 8 (fun cs => zk_code 15 code 8 ret false zp_L_law_ cs = true) base)
    (h : ze_lb (ze_jp zp_L_law_) (ze_ex zp_all 30) 600002 7302232 zL_end base n zp_L_law__0 (ze_il [eX 2] 8) [] (0, []) g 0 0 = true) : W p l e room_1 s m #[Value.ref b] below meth c s.heap [] 0 0 (lw_Z below #[Value.ref b] s) (entryFrame m ([Value.ref b] : List Value).toArray 8) := by
  rw [lg_entry_eq]
  have hl := lv_entry [Value.ref b] (n := 8) (show 1 ≤ 8 from by decide)
  refine ze_lb_ok (zL_Fx hSt hL C0 hK zq_L_law_) (zL_Re C0) hB n _ _ _ _ _ _ _ h 0 ⟨zt_L_law_, _, _, rfl, rfl⟩ [xs 0, xs 1, xs 2, xs 3, xs 4, nI L] [] s.heap [] _ [] ⟨hG, ⟨fun j hj => ?_, List.nil_prefix, List.nil_prefix⟩, ⟨rfl, fun k c h => ?_⟩, ?_, ?_, ⟨Nat.le_refl _, fun _ _ _ => rfl, fun q hq => by cases hq⟩, ⟨_, hl, ?_⟩, trivial⟩
  · match j, hj with
    | 0, _ => rfl
    | 1, _ => rfl
    | 2, _ => rfl
    | 3, _ => rfl
    | 4, _ => rfl
    | 5, _ => rfl
    | j + 6, h => omega
  · cases h
  · intro k q hq; cases hq
  · exact ⟨(fun i j q r hq => by cases hq), (fun k q hq => by cases hq)⟩
  · intro j v hj hn
    obtain ⟨x, q1, q2⟩ := ze_il_LL (sp := zL_sp b L a2 a3) (ρ := [xs 0, xs 1, xs 2, xs 3, xs 4, nI L]) (ad := []) [eX 2] [Value.ref b] 8 0 ⟨rfl, trivial⟩ j v hj hn
    rw [Nat.zero_add] at q1
    exact ⟨x, q1, q2⟩
