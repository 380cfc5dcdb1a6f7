/-! calls by contracts on small worlds: the cells are found from the arguments on -/
/-- an argument, or a field of a cell found before -/
noncomputable def zf_ix (av : List EV) (w : EW) (ps : List (Nat ⊕ (Nat × Nat))) : List Nat → (List Nat → Bool) → Bool := List.rec (motive := fun _ => List Nat → (List Nat → Bool) → Bool) (fun acc F => F acc) (fun p _ ih acc F => Sum.rec (motive := fun _ => Bool) (fun j => ze_n av j (fun v => zv_r v (fun k => ih (acc ++ [k]) F))) (fun q => ze_n acc q.1 (fun k => ze_g w k (fun c => ze_n c.2 q.2 (fun v => zv_r v (fun k2 => ih (acc ++ [k2]) F))))) p) ps
theorem zf_r_ {v : EV} {f : Nat → Bool} (h : zv_r v f = true) : ∃ k, f k = true := by
  rcases v with a | ((k | a) | a)
  · cases h
  · exact ⟨k, h⟩
  · cases h
  · cases h
theorem zf_ix_ok {av : List EV} {w : EW} {F : List Nat → Bool} : ∀ (ps : List (Nat ⊕ (Nat × Nat))) (acc : List Nat), zf_ix av w ps acc F = true → ∃ idx, F idx = true := by
  intro ps
  induction ps with
  | nil => intro acc h; exact ⟨acc, h⟩
  | cons p t ih =>
    intro acc h
    rcases p with j | q
    · obtain ⟨v, -, h⟩ := ze_n_spec _ _ _ (show ze_n av j (fun v => zv_r v (fun k => zf_ix av w t (acc ++ [k]) F)) = true from h)
      obtain ⟨k, h⟩ := zf_r_ h
      exact ih _ h
    · obtain ⟨k, -, h⟩ := ze_n_spec _ _ _ (show ze_n acc q.1 (fun k => ze_g w k (fun c => ze_n c.2 q.2 (fun v => zv_r v (fun k2 => zf_ix av w t (acc ++ [k2]) F)))) = true from h)
      obtain ⟨c, -, h⟩ := ze_g_spec h
      obtain ⟨v, -, h⟩ := ze_n_spec _ _ _ h
      obtain ⟨k2, h⟩ := zf_r_ h
      exact ih _ h
noncomputable def zf_cal0 (y0 N : Nat) (ps : List (Nat ⊕ (Nat × Nat))) (pa : List Nat) (pl : List (Nat × Nat)) (av0 : List EV) (wg : EW) (g0 : EG) (es : List ZN) : ECal := fun y av w g k => zcd (Nat.beq y y0) (zf_ix av w ps [] (fun idx => zf_at1 N idx pa pl av0 wg g0 es av w g k)) false
section ZFK
variable {l : Launch} {dC : Nat → ClassId} {dI : Nat → Nat → Nat} {dA : Nat → ClassId} {sp : Nat → Nat} {xs : Nat → Int32} {A : Nat → Prop}
theorem zf_cal0_ok {y0 : Nat} {q : ZMt} (hq0 : q.2.2.2.2.2.1 = 0 ∧ q.2.2.2.2.2.2 = 0) {D N : Nat} {ps : List (Nat ⊕ (Nat × Nat))} {pa : List Nat} {pl : List (Nat × Nat)} {av0 : List EV} {wg : EW} {g0 : EG} {es : List ZN} (hN6 : 10 ≤ N) (hrr : ∀ e ∈ es, e.1 ≠ some (eX 1))
    (hloc : ∀ (A : Nat → Prop) (ρ : List Int32) (ws : va_W) (avs : List Value), g0.length ≤ ρ.length → ze_G g0 ρ → (∀ j, j < 10 → ρ[j]? = some (xs j)) → ze_W dA sp ρ wg ws → ze_L sp ρ (ws.map (·.1)) av0 avs → Met l q.1 (.code q.1 q.2.1 q.2.2.1 q.2.2.2.1 :: zb_T) (ze_rm D q.2.2.2.2.2.1 q.2.2.2.2.2.2) (va_Pc avs (ze_Pc dC dI dA sp xs A ws)) (ze_Qc dC dI dA sp A (zy_ends g0.length es) (ρ.take g0.length) (ws.map (·.1))) q.2.2.2.2.2.1 q.2.2.2.2.2.2 A) :
    ze_Cal l dC dI dA sp xs A (zf_cal0 y0 N ps pa pl av0 wg g0 es) y0 D q.1 q.2.1 q.2.2.1 q.2.2.2.1 q.2.2.2.2.2.1 q.2.2.2.2.2.2 := by
  intro av w g k' h ρ ws avs hG hX hW hL
  obtain ⟨-, h⟩ := ze_condf h
  obtain ⟨idx, h⟩ := zf_ix_ok ps [] h
  rw [hq0.1, hq0.2] at hloc ⊢
  exact zf_met hN6 hrr hloc h hG hX hW hL
end ZFK
/-! the same, its lists made without appending, its data worked out once -/
noncomputable def zq_rv (acc : List Nat) : List Nat → (List Nat → Bool) → Bool := List.rec (motive := fun _ => List Nat → (List Nat → Bool) → Bool) (fun out F => F out) (fun k _ ih out F => ih (k :: out) F) acc
theorem zq_rv_eq : ∀ (acc out : List Nat) (F : List Nat → Bool), zq_rv acc out F = F (acc.reverse ++ out) := by
  intro acc
  induction acc with
  | nil => intro out F; rfl
  | cons k t ih =>
    intro out F
    show zq_rv t (k :: out) F = _
    rw [ih, List.reverse_cons, List.append_assoc]
    rfl
theorem ze_n_el {α : Type} : ∀ (l : List α) (i : Nat) (f : α → Bool), ze_n l i f = (match l[i]? with | some a => f a | none => false) := by
  intro l i f
  unfold ze_n
  cases hd : ze_dp l i with
  | nil => rw [ze_dp_nil hd]
  | cons a t => rw [ze_dp_cons hd]
noncomputable def zq_ix (av : List EV) (w : EW) (ps : List (Nat ⊕ (Nat × Nat))) : Nat → List Nat → (List Nat → Bool) → Bool := List.rec (motive := fun _ => Nat → List Nat → (List Nat → Bool) → Bool) (fun _ acc F => zq_rv acc [] F) (fun p _ ih m acc F => Sum.rec (motive := fun _ => Bool) (fun j => ze_n av j (fun v => zv_r v (fun k => ih (Nat.succ m) (k :: acc) F))) (fun q => zcd (Nat.ble (Nat.succ q.1) m) (ze_n acc (Nat.sub m (Nat.succ q.1)) (fun k => ze_g w k (fun c => ze_n c.2 q.2 (fun v => zv_r v (fun k2 => ih (Nat.succ m) (k2 :: acc) F))))) false) p) ps
theorem zq_ix_eq {av : List EV} {w : EW} : ∀ (ps : List (Nat ⊕ (Nat × Nat))) (acc : List Nat) (F : List Nat → Bool), zq_ix av w ps acc.length acc F = zf_ix av w ps acc.reverse F := by
  intro ps
  induction ps with
  | nil =>
    intro acc F
    show zq_rv acc [] F = F acc.reverse
    rw [zq_rv_eq, List.append_nil]
  | cons p t ih =>
    intro acc F
    have h : ∀ k : Nat, zq_ix av w t (Nat.succ acc.length) (k :: acc) F = zf_ix av w t (acc.reverse ++ [k]) F := fun k => by
      have h9 := ih (k :: acc) F
      rw [List.reverse_cons] at h9
      exact h9
    rcases p with j | q
    · show ze_n av j (fun v => zv_r v (fun k => zq_ix av w t (Nat.succ acc.length) (k :: acc) F)) = ze_n av j (fun v => zv_r v (fun k => zf_ix av w t (acc.reverse ++ [k]) F))
      simp only [h]
    · show zcd (Nat.ble (Nat.succ q.1) acc.length) (ze_n acc (Nat.sub acc.length (Nat.succ q.1)) (fun k => ze_g w k (fun c => ze_n c.2 q.2 (fun v => zv_r v (fun k2 => zq_ix av w t (Nat.succ acc.length) (k2 :: acc) F))))) false = ze_n acc.reverse q.1 (fun k => ze_g w k (fun c => ze_n c.2 q.2 (fun v => zv_r v (fun k2 => zf_ix av w t (acc.reverse ++ [k2]) F))))
      simp only [h]
      rw [ze_n_el acc.reverse, ze_n_el acc]
      by_cases hq : q.1 < acc.length
      · rw [ze_ble (show Nat.succ q.1 ≤ acc.length from hq), List.getElem?_reverse hq, show acc.length - 1 - q.1 = Nat.sub acc.length (Nat.succ q.1) by show acc.length - 1 - q.1 = acc.length - (q.1 + 1); omega]
        rfl
      · have e1 : Nat.ble (Nat.succ q.1) acc.length = false := by
          cases hb : Nat.ble (Nat.succ q.1) acc.length with
          | false => rfl
          | true => exact absurd (ze_ble' hb) hq
        rw [e1, show acc.reverse[q.1]? = none from List.getElem?_eq_none (by rw [List.length_reverse]; omega)]
        rfl
noncomputable def zq_nd {α : Type} (l : List α) (d : α) (f : α → Bool) (i : Nat) : Bool := List.rec (motive := fun _ => Bool) (f d) (fun a _ _ => f a) (ze_dp l i)
theorem zq_nd_eq {α : Type} {d : α} {f : α → Bool} : ∀ (l : List α) (i : Nat), zq_nd l d f i = f (l.getD i d) := by
  intro l i
  rw [List.getD_eq_getElem?_getD]
  unfold zq_nd
  cases hd : ze_dp l i with
  | nil => rw [ze_dp_nil hd]; rfl
  | cons a t => rw [ze_dp_cons hd]; rfl
noncomputable def zq_rdi (w : EW) (idx : List Nat) (pl : List (Nat × Nat)) : (List EV → Bool) → Bool := List.rec (motive := fun _ => (List EV → Bool) → Bool) (fun f => f []) (fun p _ ih f => zq_nd idx 0 (fun k => ze_g w k (fun c => ze_n c.2 p.2 (fun v => zv_i v (fun _ => ih (fun r => f (v :: r)))))) p.1) pl
theorem zq_rdi_eq {w : EW} {idx : List Nat} : ∀ (pl : List (Nat × Nat)) (f : List EV → Bool), zq_rdi w idx pl f = zq_rd w (pl.map (fun p => (idx.getD p.1 0, p.2))) f := by
  intro pl
  induction pl with
  | nil => intro f; rfl
  | cons p t ih =>
    intro f
    show zq_nd idx 0 (fun k => ze_g w k (fun c => ze_n c.2 p.2 (fun v => zv_i v (fun _ => zq_rdi w idx t (fun r => f (v :: r)))))) p.1 = ze_g w (idx.getD p.1 0) (fun c => ze_n c.2 p.2 (fun v => zv_i v (fun _ => zq_rd w (t.map (fun p => (idx.getD p.1 0, p.2))) (fun r => f (v :: r)))))
    rw [zq_nd_eq]
    simp only [ih]
/-- a name back, worked out -/
noncomputable def zq_r2 (N N2 M : Nat) (σ : List EV) (idx : List Nat) (u : EV) (f : EV → Bool) : Bool := Sum.rec (motive := fun _ => Bool) (fun a => Sum.rec (motive := fun _ => Bool) (fun n => f (eC n)) (fun i => zcd (Nat.ble (Nat.succ i) N) (f (eU i)) (zcd (Nat.ble (Nat.succ i) N2) (zq_nd σ (eC 0) f (Nat.sub i N)) (ze_f (Nat.add M (Nat.sub i N2)) (fun j => f (eU j))))) a) (fun b => Sum.rec (motive := fun _ => Bool) (fun z => Sum.rec (motive := fun _ => Bool) (fun n => zq_nd idx 0 (fun k => f (eR k)) n) (fun y => Sum.rec (motive := fun _ => Bool) (fun n => f (eL n)) (fun i => zcd (Nat.ble (Nat.succ i) N) (f (eLU i)) (zcd (Nat.ble (Nat.succ i) N2) (zq_nd σ (eC 0) (fun s => zN_v (zf_lo s) f) (Nat.sub i N)) (ze_f (Nat.add M (Nat.sub i N2)) (fun j => f (eLU j))))) y) z) (fun k => f (eX k)) b) u
theorem zq_cnd {b : Bool} {f : EV → Bool} {x y : EV} : zcd b (f x) (f y) = f (zcd b x y) := by cases b <;> rfl
theorem zq_r2_eq {N N2 M : Nat} {σ : List EV} {idx : List Nat} (u : EV) (f : EV → Bool) : zq_r2 N N2 M σ idx u f = f (zf_r2 N N2 M σ idx u) := by
  rcases u with (n | i) | ((k | (n | i)) | k)
  · rfl
  · show zcd (Nat.ble (Nat.succ i) N) (f (eU i)) (zcd (Nat.ble (Nat.succ i) N2) (zq_nd σ (eC 0) f (Nat.sub i N)) (ze_f (Nat.add M (Nat.sub i N2)) (fun j => f (eU j)))) = f (zf_ri N N2 M σ i)
    rw [zq_nd_eq, ze_f_eq, zq_cnd, zq_cnd]
    rfl
  · show zq_nd idx 0 (fun k => f (eR k)) k = f (eR (idx.getD k 0))
    rw [zq_nd_eq]
  · rfl
  · show zcd (Nat.ble (Nat.succ i) N) (f (eLU i)) (zcd (Nat.ble (Nat.succ i) N2) (zq_nd σ (eC 0) (fun s => zN_v (zf_lo s) f) (Nat.sub i N)) (ze_f (Nat.add M (Nat.sub i N2)) (fun j => f (eLU j)))) = f (zf_rl N N2 M σ i)
    rw [zq_nd_eq, zN_v_eq, ze_f_eq, zq_cnd, zq_cnd]
    rfl
  · rfl
noncomputable def zq_ml (N N2 M : Nat) (σ : List EV) (idx : List Nat) (l : List EV) : (List EV → Bool) → Bool := List.rec (motive := fun _ => (List EV → Bool) → Bool) (fun f => f []) (fun u _ ih f => zq_r2 N N2 M σ idx u (fun v => ih (fun r => f (v :: r)))) l
theorem zq_ml_eq {N N2 M : Nat} {σ : List EV} {idx : List Nat} : ∀ (l : List EV) (f : List EV → Bool), zq_ml N N2 M σ idx l f = f (l.map (zf_r2 N N2 M σ idx)) := by
  intro l
  induction l with
  | nil => intro f; rfl
  | cons u t ih =>
    intro f
    show zq_r2 N N2 M σ idx u (fun v => zq_ml N N2 M σ idx t (fun r => f (v :: r))) = _
    rw [zq_r2_eq, ih]
    rfl
noncomputable def zq_up (N N2 M : Nat) (σ : List EV) (idx0 : List Nat) (we : EW) (idx : List Nat) : Nat → EW → (EW → Bool) → Bool := List.rec (motive := fun _ => Nat → EW → (EW → Bool) → Bool) (fun _ w f => f w) (fun k _ ih n w f => ze_g we n (fun c => zq_ml N N2 M σ idx0 c.2 (fun l => ih (Nat.succ n) (ze_ws w k (c.1, l)) f))) idx
theorem zq_up_eq {N N2 M : Nat} {σ : List EV} {idx0 : List Nat} {we : EW} : ∀ (idx : List Nat) (n : Nat) (w : EW) (f : EW → Bool), zq_up N N2 M σ idx0 we idx n w f = zf_up (zf_r2 N N2 M σ idx0) we idx n w f := by
  intro idx
  induction idx with
  | nil => intro n w f; rfl
  | cons k t ih =>
    intro n w f
    show ze_g we n (fun c => zq_ml N N2 M σ idx0 c.2 (fun l => zq_up N N2 M σ idx0 we t (Nat.succ n) (ze_ws w k (c.1, l)) f)) = ze_g we n (fun c => zf_up (zf_r2 N N2 M σ idx0) we t (Nat.succ n) (ze_ws w k (c.1, c.2.map (zf_r2 N N2 M σ idx0))) f)
    simp only [zq_ml_eq, ih]
noncomputable def zq_o (N N2 M : Nat) (σ : List EV) (idx : List Nat) (r : Option EV) (f : Option EV → Bool) : Bool := Option.rec (motive := fun _ => Bool) (f none) (fun u => zq_r2 N N2 M σ idx u (fun v => f (some v))) r
theorem zq_o_eq {N N2 M : Nat} {σ : List EV} {idx : List Nat} (r : Option EV) (f : Option EV → Bool) : zq_o N N2 M σ idx r f = f (r.map (zf_r2 N N2 M σ idx)) := by
  cases r with
  | none => rfl
  | some u =>
    show zq_r2 N N2 M σ idx u (fun v => f (some v)) = _
    rw [zq_r2_eq]
    rfl
noncomputable def zq_fin (N N2 M : Nat) (σ : List EV) (idx : List Nat) (w : EW) (g : EG) (k : ERt) (es : List ZN) : Bool := List.rec (motive := fun _ => Bool) true (fun e _ ih => zcd (zcd (Nat.beq e.2.2.2.1.1 (zq_len idx)) (zq_up N N2 M σ idx e.2.2.2.1 idx 0 w (fun w' => zq_ap g (zq_dr N2 e.2.2.2.2) (fun g1 => zf_nw σ (zq_dr N e.2.2.2.2) g1 (fun g' => zq_o N N2 M σ idx e.1 (fun r => k r w' g'))))) false) ih false) es
theorem zq_fin_eq {N N2 : Nat} {σ : List EV} {idx : List Nat} {w : EW} {g : EG} {k : ERt} : ∀ (es : List ZN), zq_fin N N2 g.length σ idx w g k es = zf_fin N N2 σ idx w g k es := by
  intro es
  induction es with
  | nil => rfl
  | cons e t ih =>
    show zcd (zcd (Nat.beq e.2.2.2.1.1 (zq_len idx)) (zq_up N N2 g.length σ idx e.2.2.2.1 idx 0 w (fun w' => zq_ap g (zq_dr N2 e.2.2.2.2) (fun g1 => zf_nw σ (zq_dr N e.2.2.2.2) g1 (fun g' => zq_o N N2 g.length σ idx e.1 (fun r => k r w' g'))))) false) (zq_fin N N2 g.length σ idx w g k t) false = zcd (zcd (Nat.beq e.2.2.2.1.1 idx.length) (zf_up (zf_r2 N N2 g.length σ idx) e.2.2.2.1 idx 0 w (fun w' => zf_nw σ (e.2.2.2.2.drop N) (g ++ e.2.2.2.2.drop N2) (fun g' => k (e.1.map (zf_r2 N N2 g.length σ idx)) w' g'))) false) (zf_fin N N2 σ idx w g k t) false
    rw [ih]
    simp only [zq_len_eq, zq_up_eq, zq_ap_eq, zq_dr_eq, zq_o_eq]
noncomputable def zf_i2 (t : List Nat) : Nat → Bool := List.rec (motive := fun _ => Nat → Bool) (fun _ => true) (fun a _ ih p => zcd (Nat.ble (Nat.succ p) a) (ih a) false) t
noncomputable def zf_ic (l : List Nat) : Bool := List.rec (motive := fun _ => Bool) true (fun a t _ => zf_i2 t a) l
theorem zf_i2_ok : ∀ (t : List Nat) (p : Nat), zf_i2 t p = true → (∀ x ∈ t, p < x) ∧ zf_nd t = true := by
  intro t
  induction t with
  | nil => intro p _; exact ⟨fun x hx => (by cases hx), rfl⟩
  | cons a t ih =>
    intro p h
    obtain ⟨h1, h2⟩ := ze_condf (show zcd (Nat.ble (Nat.succ p) a) (zf_i2 t a) false = true from h)
    obtain ⟨h3, h4⟩ := ih a h2
    have h1 : p < a := ze_ble' h1
    refine ⟨fun x hx => ?_, ?_⟩
    · rcases List.mem_cons.mp hx with e | hx
      · rw [e]; exact h1
      · exact Nat.lt_trans h1 (h3 x hx)
    · show zcd (ze_mem a t) false (zf_nd t) = true
      cases hm : ze_mem a t with
      | true => exact absurd (h3 a (ze_mem_in _ _ hm)) (Nat.lt_irrefl a)
      | false => exact h4
noncomputable def zf_nx (l : List Nat) : Bool := zcd (zf_ic l) true (zf_nd l)
theorem zf_nx_eq (l : List Nat) : zf_nx l = zf_nd l := by
  unfold zf_nx
  cases h : zf_ic l with
  | false => rfl
  | true =>
    cases l with
    | nil => rfl
    | cons a t =>
      obtain ⟨h3, h4⟩ := zf_i2_ok t a h
      show true = zcd (ze_mem a t) false (zf_nd t)
      cases hm : ze_mem a t with
      | true => exact absurd (h3 a (ze_mem_in _ _ hm)) (Nat.lt_irrefl a)
      | false => exact h4.symm
noncomputable def zq_at1 (N : Nat) (idx pa : List Nat) (pl : List (Nat × Nat)) (av0 : List EV) (wg : EW) (g0 : EG) (es : List ZN) (av : List EV) (w : EW) (g : EG) (k : ERt) : Bool :=
  zcd (zf_nx idx) (ze_f (zq_len g) (fun M => ze_f (zq_len g0) (fun N2 => zcd (Nat.ble N M) (zq_rl av pa (fun s0 => zq_rdi w idx pl (fun s1 => zq_ap s0 s1 (fun σ => zcd (Nat.beq N2 (Nat.add N (zq_len σ))) (zcd (zh_gi N σ g0 g) (zcd (zh_all (zf_v N σ idx) av0 av) (zcd (zf_w N σ g idx wg w) (zq_fin N N2 M σ idx w g k es) false) false) false) false)))) false))) false
theorem zq_at1_eq {N : Nat} {idx pa : List Nat} {pl : List (Nat × Nat)} {av0 : List EV} {wg : EW} {g0 : EG} {es : List ZN} {av : List EV} {w : EW} {g : EG} {k : ERt} : zq_at1 N idx pa pl av0 wg g0 es av w g k = zf_at1 N idx pa pl av0 wg g0 es av w g k := by
  unfold zq_at1 zf_at1
  rw [zf_nx_eq, ze_f_eq, ze_f_eq, zq_rl_eq]
  simp only [zq_ap_eq, zq_rd_eq, zq_rdi_eq, zq_len_eq, zq_fin_eq, List.nil_append]
noncomputable def zf_cal (y0 N : Nat) (ps : List (Nat ⊕ (Nat × Nat))) (pa : List Nat) (pl : List (Nat × Nat)) (av0 : List EV) (wg : EW) (g0 : EG) (es : List ZN) : ECal := fun y av w g k => zcd (Nat.beq y y0) (zq_ix av w ps 0 [] (fun idx => zq_at1 N idx pa pl av0 wg g0 es av w g k)) false
theorem zf_cal_eq {y0 N : Nat} {ps : List (Nat ⊕ (Nat × Nat))} {pa : List Nat} {pl : List (Nat × Nat)} {av0 : List EV} {wg : EW} {g0 : EG} {es : List ZN} : zf_cal y0 N ps pa pl av0 wg g0 es = zf_cal0 y0 N ps pa pl av0 wg g0 es := by
  funext y av w g k
  show zcd (Nat.beq y y0) (zq_ix av w ps 0 [] (fun idx => zq_at1 N idx pa pl av0 wg g0 es av w g k)) false = zcd (Nat.beq y y0) (zf_ix av w ps [] (fun idx => zf_at1 N idx pa pl av0 wg g0 es av w g k)) false
  simp only [zq_at1_eq]
  rw [show zq_ix av w ps 0 [] (fun idx => zf_at1 N idx pa pl av0 wg g0 es av w g k) = zf_ix av w ps [] (fun idx => zf_at1 N idx pa pl av0 wg g0 es av w g k) from zq_ix_eq ps [] _]
section ZFK2
variable {l : Launch} {dC : Nat → ClassId} {dI : Nat → Nat → Nat} {dA : Nat → ClassId} {sp : Nat → Nat} {xs : Nat → Int32} {A : Nat → Prop}
theorem zf_cal_ok {y0 : Nat} {q : ZMt} (hq0 : q.2.2.2.2.2.1 = 0 ∧ q.2.2.2.2.2.2 = 0) {D N : Nat} {ps : List (Nat ⊕ (Nat × Nat))} {pa : List Nat} {pl : List (Nat × Nat)} {av0 : List EV} {wg : EW} {g0 : EG} {es : List ZN} (hN6 : 10 ≤ N) (hrr : ∀ e ∈ es, e.1 ≠ some (eX 1))
    (hloc : ∀ (A : Nat → Prop) (ρ : List Int32) (ws : va_W) (avs : List Value), g0.length ≤ ρ.length → ze_G g0 ρ → (∀ j, j < 10 → ρ[j]? = some (xs j)) → ze_W dA sp ρ wg ws → ze_L sp ρ (ws.map (·.1)) av0 avs → Met l q.1 (.code q.1 q.2.1 q.2.2.1 q.2.2.2.1 :: zb_T) (ze_rm D q.2.2.2.2.2.1 q.2.2.2.2.2.2) (va_Pc avs (ze_Pc dC dI dA sp xs A ws)) (ze_Qc dC dI dA sp A (zy_ends g0.length es) (ρ.take g0.length) (ws.map (·.1))) q.2.2.2.2.2.1 q.2.2.2.2.2.2 A) :
    ze_Cal l dC dI dA sp xs A (zf_cal y0 N ps pa pl av0 wg g0 es) y0 D q.1 q.2.1 q.2.2.1 q.2.2.2.1 q.2.2.2.2.2.1 q.2.2.2.2.2.2 := by
  rw [zf_cal_eq]
  exact zf_cal0_ok hq0 hN6 hrr hloc
end ZFK2
