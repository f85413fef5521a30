/-- the fuel of every loop: far above what any run can need; a number that nothing unfolds -/
noncomputable def gx_F : Nat := Classical.choose (⟨100000000, rfl⟩ : ∃ n : Nat, n = 100000000)
theorem gx_F_eq : gx_F = 100000000 := Classical.choose_spec (⟨100000000, rfl⟩ : ∃ n : Nat, n = 100000000)
