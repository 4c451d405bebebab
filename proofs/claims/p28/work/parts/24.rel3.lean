theorem cp_iff {a5 a4 m7 m6 b5 b4 k7 k6 : Int32} (h : okV a5 a4 m7 m6) (g : okV b5 b4 k7 k6) : m7 < k7 ↔ a5 < b5 := by
  have pos : ∀ t : Nat, 1 ≤ t → t < 2 ^ 30 → ((0 : Int32) < nI t ∧ (-1 : Int32) < nI t ∧ ¬ nI t < 0 ∧ ¬ nI t < -1) := by
    intro t h1 h2
    have h3 : (0 : Int32) < nI t := nI_lt (a := 0) (by omega) (by omega)
    have h4 : ¬ nI t < 0 := nI_pos (by omega)
    exact ⟨h3, Int32.lt_trans (by decide) h3, h4, fun q => h4 (Int32.lt_trans q (by decide))⟩
  rcases h with ⟨rfl, -, rfl⟩ | ⟨t, v, h1, h2, -, rfl, -, rfl, -⟩ <;> rcases g with ⟨rfl, -, rfl⟩ | ⟨u, w, g1, g2, -, rfl, -, rfl, -⟩
  · decide
  · exact ⟨fun _ => (pos u g1 g2).2.1, fun _ => (pos u g1 g2).1⟩
  · exact ⟨fun q => absurd q (pos t h1 h2).2.2.1, fun q => absurd q (pos t h1 h2).2.2.2⟩
  · exact Iff.rfl
section RW3
variable {Z : Nat} {σ μ : cS} {n f t k : Nat}
theorem cp_no (h : Rl Z σ μ) (hf : Lv σ f) (ht : Lv σ t) (hk : k < 64) (c : ¬ μ 7 ((64 : Int32) * nI t + nI k).toNatClampNeg < μ 7 ((64 : Int32) * nI f + nI k).toNatClampNeg) : gcC σ (nI f) (nI t) (nI k) = 0 ∧ gcS σ (nI f) (nI t) (nI k) = σ := by
  have q : ¬ tat 64 (σ 5) (nI t) (nI k) < tat 64 (σ 5) (nI f) (nI k) := fun z => c ((cp_iff (rl_v h ht k hk) (rl_v h hf k hk)).mpr z)
  exact ⟨by rw [gcC, if_neg q], by rw [gcS, if_neg q]⟩
theorem cp_yes (h : Rl Z σ μ) (hf : Lv σ f) (ht : Lv σ t) (hk : k < 64) (c : μ 7 ((64 : Int32) * nI t + nI k).toNatClampNeg < μ 7 ((64 : Int32) * nI f + nI k).toNatClampNeg) : gcC σ (nI f) (nI t) (nI k) = 1 ∧
    Rl Z (gcS σ (nI f) (nI t) (nI k)) (va_up (va_up μ 7 (upd (μ 7) ((64 : Int32) * nI t + nI k).toNatClampNeg (μ 7 ((64 : Int32) * nI f + nI k).toNatClampNeg))) 6 (upd (μ 6) ((64 : Int32) * nI t + nI k).toNatClampNeg (μ 6 ((64 : Int32) * nI f + nI k).toNatClampNeg))) := by
  have q : tat 64 (σ 5) (nI t) (nI k) < tat 64 (σ 5) (nI f) (nI k) := (cp_iff (rl_v h ht k hk) (rl_v h hf k hk)).mp c
  refine ⟨by rw [gcC, if_pos q], ?_⟩
  rw [gcS, if_pos q]
  rcases rl_v h hf k hk with ⟨a, b, m⟩ | ⟨u, v, g1, g2, g3, a, b, m, m2⟩
  · exfalso
    have c2 : μ 7 ((64 : Int32) * nI t + nI k).toNatClampNeg < 0 := by
      have m9 : μ 7 ((64 : Int32) * nI f + nI k).toNatClampNeg = 0 := m
      rw [m9] at c; exact c
    rcases rl_v h ht k hk with ⟨-, -, m3⟩ | ⟨u, v, g1, g2, -, -, -, m3, -⟩
    · have m4 : μ 7 ((64 : Int32) * nI t + nI k).toNatClampNeg = 0 := m3
      rw [m4] at c2; exact absurd c2 (by decide)
    · have m4 : μ 7 ((64 : Int32) * nI t + nI k).toNatClampNeg = nI u := m3
      rw [m4] at c2; exact absurd c2 (nI_pos (by omega))
  · have m4 : μ 7 ((64 : Int32) * nI f + nI k).toNatClampNeg = nI u := m
    have m5 : μ 6 ((64 : Int32) * nI f + nI k).toNatClampNeg = nI v := m2
    rw [a, b, m4, m5]
    exact rl_cp h ht.1 hk g1 g2 g3
theorem ms_nt {σ1 : cS} {s : Nat} (hm : mdN σ (nI n) = nI s) (e : σ1 = foS σ (nI n) (nI s)) : msS σ (nI n) = ntS σ1 (nI n) (nI s) := by
  rw [msS, hm, ← e]
theorem nI_ne1 {v : Nat} (h : v < 2 ^ 31) : ¬ nI v = -1 := fun e => absurd (show nI v < 0 by rw [e]; decide) (nI_pos h)
theorem gcS_1 {f t k : Int32} : gcS σ f t k 1 = σ 1 := by unfold gcS; split <;> rfl
theorem gcS_2 {f t k : Int32} : gcS σ f t k 2 = σ 2 := by unfold gcS; split <;> rfl
theorem gcS_3 {f t k : Int32} : gcS σ f t k 3 = σ 3 := by unfold gcS; split <;> rfl
theorem chA_1 {n k : Int32} : chA σ n k 1 = σ 1 := by
  unfold chA; split
  · rfl
  · exact gcS_1
theorem rf_ok {σ' σ2 : cS} {x : Int32} {j : Nat} (h9 : σ' = rfS σ (nI n) k) (hn : n < 64) (hk : k < 6) (ej : fnR σ' (nI n) (nI ((n + 2 ^ k) % 64)) = nI j) : va_up σ' 3 (tset 6 (σ' 3) (nI n) (nI k) (nI j)) = rfS σ (nI n) (k + 1) := by
  rw [rfS, ← h9, fgs_nI hn hk, ej]
end RW3
theorem rl_p1 {Z : Nat} {σ μ : cS} {n : Nat} (h : Rl Z σ μ) (hL : Lv σ n) : μ 4 (nI n).toNatClampNeg = tat 1 (σ 2) (nI n) 0 := by
  rcases rl_p h hL with ⟨e, m⟩ | ⟨j, -, e, m⟩ <;> rw [e, m]
theorem rl_f1 {Z : Nat} {σ μ : cS} {n : Nat} (h : Rl Z σ μ) (hL : Lv σ n) (i : Nat) (hi : i < 6) : μ 5 (nI 6 * nI n + nI i).toNatClampNeg = tat 6 (σ 3) (nI n) (nI i) := by
  rcases rl_f h hL i hi with ⟨e, m⟩ | ⟨j, -, e, m⟩ <;> rw [e, m]
theorem rl_fol2 {Z : Nat} {σ μ : cS} {n : Nat} (h : Rl Z σ μ) (hn : n < 64) {x j0 j1 : Nat} (hx : x < 64) (h0 : j0 < 64) (h1 : j1 < 64) (e0 : tat 3 (σ 1) (nI x) 0 = nI j0) (e1 : tat 3 (σ 1) (nI x) 1 = nI j1) :
    Rl Z (foS σ (nI n) (nI x)) (va_up μ 3 (upd (upd (upd (μ 3) ((3 : Int32) * nI n).toNatClampNeg (nI x)) ((3 : Int32) * nI n + 1).toNatClampNeg (nI j0)) ((3 : Int32) * nI n + 2).toNatClampNeg (nI j1))) := by
  have q := rl_fol h hn hx h0 h1 e0 e1
  rw [va_up2, va_up2] at q
  exact q
