theorem gtStep {f g : Nat → Int32} {k : Nat} {b b' : Int32} (h : (b = 1 ∧ ∀ i, i < k → gtC (f i) (g i)) ∨ (b = 0 ∧ ¬ ∀ i, i < k → gtC (f i) (g i))) (h' : (b' = 1 ∧ ¬ b = 0 ∧ gtC (f k) (g k)) ∨ (b' = 0 ∧ (b = 0 ∨ ¬ gtC (f k) (g k)))) : (b' = 1 ∧ ∀ i, i < k + 1 → gtC (f i) (g i)) ∨ (b' = 0 ∧ ¬ ∀ i, i < k + 1 → gtC (f i) (g i)) := by
  rcases h' with ⟨h1, h2, h3⟩ | ⟨h1, h2⟩
  · rcases h with ⟨h4, h5⟩ | ⟨h4, h5⟩
    · refine Or.inl ⟨h1, fun i hi => ?_⟩
      by_cases e : i = k
      · subst e; exact h3
      · exact h5 i (by omega)
    · exact absurd h4 h2
  · refine Or.inr ⟨h1, fun hall => ?_⟩
    rcases h2 with h2 | h2
    · rcases h with ⟨h4, h5⟩ | ⟨h4, h5⟩
      · rw [h4] at h2; exact absurd h2 (by decide)
      · exact h5 (fun i hi => hall i (by omega))
    · exact h2 (hall k (by omega))
