/-! a line of names: shown in 47m -/
