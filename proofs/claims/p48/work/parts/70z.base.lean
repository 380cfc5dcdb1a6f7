/-! what the methods of the reference begin with: common, and the reading of rules -/
noncomputable def zEb : ECal := zS_or zdR0_0 zc_com
theorem zEb_ok : ZE zEb 545 := ZE.or zdR0_0_ok zc_com_ok (by decide) (by decide)
