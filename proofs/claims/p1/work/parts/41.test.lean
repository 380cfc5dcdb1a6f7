set_option maxRecDepth 1000000 in
theorem zt_1 : ze_ex zp_all 8 125 [eR 0] (1, [[(11, [eX 0, eX 0, eX 0, eX 0, eX 0, eX 0, eX 0, eX 0, eX 0, eX 0, eX 0, eX 0, eX 0])]]) [] (fun _ w g => ze_ex zp_all 8 173 [eR 0] w g (fun _ _ _ => true)) = true := by decide +kernel
