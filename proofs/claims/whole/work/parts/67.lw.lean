/-! part 67 -/
