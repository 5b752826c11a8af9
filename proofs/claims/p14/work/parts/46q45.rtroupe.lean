/-! Nothing here. -/
