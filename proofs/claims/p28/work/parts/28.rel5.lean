theorem okR_id {n : Nat} (hn : n < 64) : okR (nI n) 0 63 = true := by
  rw [okR, if_neg (nI_pos (by omega)), if_pos (show nI n ≤ (63 : Int32) from nI_le (a := n) (b := 63) (by omega) (by decide))]
theorem idB_nI {n : Nat} (hn : n < 64) : idB (nI n) = true := by
  rw [idB, if_neg (nI_pos (by omega)), if_neg (show ¬ (64 : Int32) ≤ nI n from nI_ge (b := 64) hn (by decide))]
theorem id_or (x : Int32) : (∃ n, n < 64 ∧ x = nI n) ∨ (idB x = false ∧ okR x 0 63 = false) := by
  rcases pk_ix x (n := 64) (by decide) with h | h | ⟨j, hj, rfl⟩
  · exact Or.inr ⟨by rw [idB, if_pos h], by rw [okR, if_pos h]⟩
  · refine Or.inr ⟨?_, ?_⟩
    · rw [idB]; split
      · rfl
      · rw [if_pos (show (64 : Int32) ≤ x from h)]
    · rw [okR]; split
      · rfl
      · rw [if_neg]
        intro q
        have : nI 64 ≤ nI 63 := Int32.le_trans h q
        exact absurd this (by decide)
  · exact Or.inl ⟨j, hj, rfl⟩
theorem rg_or (x : Int32) {N : Nat} (hN : N < 64) : (∃ p, p < N + 1 ∧ x = nI p) ∨ (x < 0 ∧ okR x 0 (nI N) = false) ∨ (¬ x < 0 ∧ nI (N + 1) ≤ x ∧ okR x 0 (nI N) = false) := by
  by_cases h0 : x < 0
  · exact Or.inr (Or.inl ⟨h0, by rw [okR, if_pos h0]⟩)
  · obtain ⟨j, hj, rfl⟩ := nI_of h0
    rcases Nat.lt_or_ge j (N + 1) with q | q
    · exact Or.inl ⟨j, q, rfl⟩
    · refine Or.inr (Or.inr ⟨h0, nI_le q hj, ?_⟩)
      rw [okR, if_neg h0, if_neg]
      intro z
      have := (nI_leI hj (by omega)).mp z
      omega
theorem okR_rg {p N : Nat} (hp : p < N + 1) (hN : N < 2 ^ 30) : okR (nI p) 0 (nI N) = true := by
  rw [okR, if_neg (nI_pos (by omega)), if_pos (nI_le (by omega) (by omega))]
theorem cd_1 {k : Nat} {P : Prop} (h : k = 1) (q : k = 0) : P := by omega
