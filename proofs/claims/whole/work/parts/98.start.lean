theorem op_step : OP_step Rel := by
  sorry
