/-! p53: the light machine runs the law -/
section
theorem xpure : xPure := by
  intro X hX
  obtain ⟨S, g, li, ⟨c1, c2⟩, k⟩ := lw_start (X := X)
  obtain ⟨P, A, sn, H, -, S', g', cap', i, ⟨d0, d1, d2⟩, k2⟩ := lw_head (X := X) (S := S) (g := g) (y4 := none) (y5 := none) (y6 := none) (y7 := none) (y8 := none) (y9 := none) (y10 := none) hX li
  have hc := i.2.1
  obtain ⟨a, -, -, -, -, hcap, -⟩ := hc
  have h : Wx X 400 417 0 (xen 11 [.retAddr 0]) [] xw0 (fun o w => o = .inl (some (.int (iI 1))) ∧ w = hp S' g') := by
    rw [k, k2]
    exact ⟨rfl, rfl⟩
  obtain ⟨n, out, wf, h1, h2, h3⟩ := h
  subst h2
  subst h3
  rw [xm417.1] at h1
  refine ⟨n, hp S' g', h1, ?_, ?_⟩
  · show S'.2.2.1 ≤ 600130
    omega
  · show S'.2.2.2 ≤ 7301080
    omega
end
