/-! contracts (by program) -/

