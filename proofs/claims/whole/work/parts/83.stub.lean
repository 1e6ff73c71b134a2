theorem tok_all : ∀ r ∈ mtab, (mi_tb r).all (fun q => okE r q.1 q.2) = true := sorry
theorem okm_all : ∀ r ∈ mtab, ∃ a b c d, okM r a b c d = true := sorry
