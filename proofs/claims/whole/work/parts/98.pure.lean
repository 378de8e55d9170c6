/-! The light machine runs the law -/
section
theorem LB_0 : LB (200 * ((0 : Nat) : Int)) A0 none [] := ⟨by decide, fun B hB => (nomatch hB), fun B hB => absurd hB List.not_mem_nil⟩
theorem xpure : xPure := by
  intro X hX
  obtain ⟨S, g, li, ⟨c1, c2⟩, k⟩ := l_start (X := X)
  obtain ⟨S', g', d1, d2, k2⟩ := l_law (X := X) hX 513 0 S g P0 A0 none [] none none none none li LB_0 rfl
  rw [show (4 : Int) * ((0 : Nat) : Int) = 0 by decide] at k2
  have h : Wx X 400 417 0 (xen 9 [.retAddr 0]) [] xw0 (fun o w => o = .inl (some (.int (iI 1))) ∧ w = hp S' g') := by
    rw [k, k2]
    exact ⟨rfl, rfl⟩
  obtain ⟨n, out, wf, h1, h2, h3⟩ := h
  subst h2
  subst h3
  rw [xm417.1] at h1
  refine ⟨n, hp S' g', h1, ?_, ?_⟩
  · show S'.2.2.1 ≤ 601024
    omega
  · show S'.2.2.2 ≤ 7293034
    omega
end
