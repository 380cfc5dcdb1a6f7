/-! what the methods of the reference begin with: common, and the reading of rules -/
noncomputable def zEb : ECal := zS_or zdR0_0 (zS_or zc_com zEin)
theorem zEb_ok : ZE zEb 554 := ZE.or zdR0_0_ok (ZE.or zc_com_ok zEin_ok (by decide) (by decide) : ZE (zS_or zc_com zEin) 62) (by decide) (by decide)
