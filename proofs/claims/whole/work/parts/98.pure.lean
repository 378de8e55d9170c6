section
theorem xpure : xPure := by
  sorry
end
