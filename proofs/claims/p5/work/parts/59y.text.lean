/-! intervals told by those that differ -/
noncomputable def zy_su (l : List (Nat × Nat × Nat)) (g : EG) : EG := List.rec (motive := fun _ => EG → EG) (fun g => g) (fun p _ ih g => ih (ze_s p.2 g p.1)) l g
