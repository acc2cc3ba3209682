/-! order -/
theorem op_order (a1 a2 : Int32) {G : G_} (h : RR G) : pOK (f_X7_order a1 a2) (f_X8_order a1 a2) G := by
  sorry
