/-! part 63 -/
