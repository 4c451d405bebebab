/-! the law's own arrays beside the class: τ 0 d, 1 l, 2 a, 3 b, 4 w; ν a slot's node, δ a node's slot, κ the keys -/
def wQ (G : cG) (q : Nat → Nat) (τ : cS) : va_W :=
  [(q 0, .inl (G.2.1, 64, .inl (τ 0))), (q 1, .inl (G.2.1, 27, .inl (τ 1))), (q 2, .inl (G.2.1, 40, .inl (τ 2))), (q 3, .inl (G.2.1, 60, .inl (τ 3))), (q 4, .inl (G.2.1, 60, .inl (τ 4)))]
abbrev nF : Type := Nat → Nat
/-- fixed over the turns: ten nodes, six keys -/
def Fx (ν δ κ : nF) : Prop :=
  (∀ k, k < 10 → ν k < 64 ∧ δ (ν k) = k) ∧ (∀ n, n < 64 → δ n < 10 → ν (δ n) = n) ∧ (∀ i, i < 6 → κ i < 64) ∧ (∀ i j, i < 6 → j < 6 → κ i = κ j → i = j)
/-- what the law keeps of a node that lives, in its slot k -/
def Nq (κ : nF) (σ τ : cS) (n k : Nat) : Prop :=
  (∀ p, p < 3 → τ 2 (k * 4 + p) = σ 1 (n * 3 + p)) ∧ τ 2 (k * 4 + 3) = σ 2 (n * 1 + 0) ∧ (∀ i, i < 6 → τ 3 (k * 6 + i) = σ 3 (n * 6 + i)) ∧
  (∀ i, i < 6 → τ 4 (k * 6 + i) = σ 5 (n * 64 + κ i)) ∧ (∀ c, c < 64 → σ 4 (n * 64 + c) = σ 5 (n * 64 + c)) ∧ (∀ c, c < 64 → (∀ i, i < 6 → κ i ≠ c) → σ 5 (n * 64 + c) = -1)
def Ty (ν δ κ : nF) (σ τ : cS) : Prop :=
  Fx ν δ κ ∧ (∀ n, n < 64 → τ 0 n = if δ n < 10 then nI (δ n) else -1) ∧ (∀ k, k < 10 → τ 1 k = nI (ν k) ∧ τ 1 (10 + k) = σ 0 (ν k)) ∧ (∀ i, i < 6 → τ 1 (20 + i) = nI (κ i)) ∧ τ 1 26 = σ 6 0 ∧
  (∀ n, n < 64 → ¬ δ n < 10 → σ 0 n = 0) ∧ ∀ k, k < 10 → σ 0 (ν k) = 1 → Nq κ σ τ (ν k) k
def Rq (Z : Nat) (ν δ κ : nF) (σ τ : cS) : Prop := (∃ μ, Rl Z σ μ) ∧ Ty ν δ κ σ τ
section TIE
variable {Z : Nat} {ν δ κ : nF} {σ τ : cS} {n k : Nat}
theorem Rq.fx (h : Rq Z ν δ κ σ τ) : Fx ν δ κ := h.2.1
theorem Rq.nu (h : Rq Z ν δ κ σ τ) (hk : k < 10) : ν k < 64 := (h.2.1.1 k hk).1
theorem Rq.dn (h : Rq Z ν δ κ σ τ) (hk : k < 10) : δ (ν k) = k := (h.2.1.1 k hk).2
theorem Rq.nd (h : Rq Z ν δ κ σ τ) (hn : n < 64) (hd : δ n < 10) : ν (δ n) = n := h.2.1.2.1 n hn hd
theorem Rq.ka (h : Rq Z ν δ κ σ τ) {i : Nat} (hi : i < 6) : κ i < 64 := h.2.1.2.2.1 i hi
theorem Rq.one (h : Rq Z ν δ κ σ τ) (hL : Lv σ n) : σ 0 n = 1 := by
  obtain ⟨μ, hR⟩ := h.1
  exact hR.one hL
theorem Rq.zo (h : Rq Z ν δ κ σ τ) (hn : n < 64) : σ 0 n = 0 ∨ σ 0 n = 1 := by
  obtain ⟨μ, hR⟩ := h.1
  exact (hR.1 n hn).2
theorem Rq.lv1 (h : Rq Z ν δ κ σ τ) (hn : n < 64) (e : σ 0 n = 1) : Lv σ n := by
  obtain ⟨μ, hR⟩ := h.1
  exact hR.lv1 hn e
theorem Rq.d9 (h : Rq Z ν δ κ σ τ) (hL : Lv σ n) : δ n < 10 := by
  rcases Nat.lt_or_ge (δ n) 10 with q | q
  · exact q
  · have e := h.2.2.2.2.2.2.1 n hL.1 (by omega)
    rw [h.one hL] at e
    exact absurd e (by decide)
/-- the slot k of the node n that lives -/
theorem Rq.nq (h : Rq Z ν δ κ σ τ) (hL : Lv σ n) (hk : δ n = k) : Nq κ σ τ n k := by
  have hd := h.d9 hL
  have e := h.nd hL.1 hd
  have q := h.2.2.2.2.2.2.2 (δ n) hd (by rw [e]; exact h.one hL)
  rw [e, hk] at q
  exact q
theorem Rq.alv (h : Rq Z ν δ κ σ τ) (hn : n < 64) : σ 0 n = bI (alv (σ 0) (nI n)) := by
  rw [alv_nI hn]
  rcases h.zo hn with e | e <;> rw [e] <;> rfl
theorem Rq.up {Z' : Nat} (h : Rq Z ν δ κ σ τ) (hz : Z ≤ Z') : Rq Z' ν δ κ σ τ := by
  obtain ⟨⟨μ, h1, h2, z, h3, h4⟩, h5⟩ := h
  exact ⟨⟨μ, h1, h2, z, by omega, h4⟩, h5⟩
-- reads
theorem rq_d (h : Rq Z ν δ κ σ τ) (hn : n < 64) (hd : δ n < 10) : τ 0 (nI n).toNatClampNeg = nI (δ n) := by
  rw [nI_clamp (by omega), h.2.2.1 n hn, if_pos hd]
theorem rq_d0 (h : Rq Z ν δ κ σ τ) (hn : n < 64) (hd : ¬ δ n < 10) : τ 0 (nI n).toNatClampNeg = -1 := by
  rw [nI_clamp (by omega), h.2.2.1 n hn, if_neg hd]
theorem rq_no (h : Rq Z ν δ κ σ τ) (hn : n < 64) (hd : ¬ δ n < 10) : alv (σ 0) (nI n) = false := by
  rw [alv_nI hn, h.2.2.2.2.2.2.1 n hn hd]; rfl
theorem rq_n (h : Rq Z ν δ κ σ τ) (hk : k < 10) : τ 1 (nI k).toNatClampNeg = nI (ν k) := by
  rw [nI_clamp (by omega)]; exact (h.2.2.2.1 k hk).1
theorem rq_l (h : Rq Z ν δ κ σ τ) (hk : k < 10) : τ 1 (nI (10 + k)).toNatClampNeg = bI (alv (σ 0) (nI (ν k))) := by
  rw [nI_clamp (by omega), (h.2.2.2.1 k hk).2]; exact h.alv (h.nu hk)
theorem rq_ln (h : Rq Z ν δ κ σ τ) (hn : n < 64) (hd : δ n < 10) : τ 1 (nI (10 + δ n)).toNatClampNeg = bI (alv (σ 0) (nI n)) := by
  have q := rq_l h hd
  rw [h.nd hn hd] at q
  exact q
theorem rq_k (h : Rq Z ν δ κ σ τ) {i : Nat} (hi : i < 6) : τ 1 (nI (20 + i)).toNatClampNeg = nI (κ i) := by
  rw [nI_clamp (by omega)]; exact h.2.2.2.2.1 i hi
theorem rq_26 (h : Rq Z ν δ κ σ τ) : ∃ z, z ≤ Z ∧ σ 6 0 = nI z ∧ τ 1 26 = nI z := by
  obtain ⟨⟨μ, -, -, z, h3, h4, -⟩, h5⟩ := h
  exact ⟨z, h3, h4, h5.2.2.2.2.1.trans h4⟩
theorem rq_s (h : Rq Z ν δ κ σ τ) (hL : Lv σ n) (hk : δ n = k) (p : Nat) (hp : p < 3) {i : Nat} (hi : i = 4 * k + p) : ∃ j, j < 64 ∧ tat 3 (σ 1) (nI n) (nI p) = nI j ∧ τ 2 (nI i).toNatClampNeg = nI j := by
  have hd := h.d9 hL
  obtain ⟨μ, hR⟩ := h.1
  obtain ⟨j, hj, e, -⟩ := rl_s hR hL p hp
  refine ⟨j, hj, e, ?_⟩
  rw [← e, tat_nI (by decide) hL.1 hp, nI_clamp (by omega), hi, Nat.mul_comm 4 k]
  exact (h.nq hL hk).1 p hp
theorem rq_p (h : Rq Z ν δ κ σ τ) (hL : Lv σ n) (hk : δ n = k) {i : Nat} (hi : i = 4 * k + 3) : (tat 1 (σ 2) (nI n) 0 = -1 ∧ τ 2 (nI i).toNatClampNeg = -1) ∨ ∃ j, j < 64 ∧ tat 1 (σ 2) (nI n) 0 = nI j ∧ τ 2 (nI i).toNatClampNeg = nI j := by
  have hd := h.d9 hL
  obtain ⟨μ, hR⟩ := h.1
  have et : tat 1 (σ 2) (nI n) 0 = σ 2 (n * 1 + 0) := tat_nI (w := 1) (c := 0) (by decide) hL.1 (by decide)
  have e2 : τ 2 (nI i).toNatClampNeg = tat 1 (σ 2) (nI n) 0 := by
    rw [et, nI_clamp (by omega), hi, Nat.mul_comm 4 k]
    exact (h.nq hL hk).2.1
  rw [e2]
  rcases rl_p hR hL with ⟨e, -⟩ | ⟨j, hj, e, -⟩
  · exact Or.inl ⟨e, e⟩
  · exact Or.inr ⟨j, hj, e, e⟩
theorem rq_p1 (h : Rq Z ν δ κ σ τ) (hL : Lv σ n) (hk : δ n = k) {i : Nat} (hi : i = 4 * k + 3) : τ 2 (nI i).toNatClampNeg = tat 1 (σ 2) (nI n) 0 := by
  rcases rq_p h hL hk hi with ⟨e, m⟩ | ⟨j, -, e, m⟩ <;> rw [e, m]
theorem rq_f1 (h : Rq Z ν δ κ σ τ) (hL : Lv σ n) (hk : δ n = k) (p : Nat) (hp : p < 6) {i : Nat} (hi : i = 6 * k + p) : τ 3 (nI i).toNatClampNeg = tat 6 (σ 3) (nI n) (nI p) := by
  have hd := h.d9 hL
  rw [tat_nI (by decide) hL.1 hp, nI_clamp (by omega), hi, Nat.mul_comm 6 k]
  exact (h.nq hL hk).2.2.1 p hp
theorem rq_f (h : Rq Z ν δ κ σ τ) (hL : Lv σ n) (hk : δ n = k) (p : Nat) (hp : p < 6) {i : Nat} (hi : i = 6 * k + p) : (tat 6 (σ 3) (nI n) (nI p) = -1 ∧ τ 3 (nI i).toNatClampNeg = -1) ∨ ∃ j, j < 64 ∧ tat 6 (σ 3) (nI n) (nI p) = nI j ∧ τ 3 (nI i).toNatClampNeg = nI j := by
  obtain ⟨μ, hR⟩ := h.1
  rw [rq_f1 h hL hk p hp hi]
  rcases rl_f hR hL p hp with ⟨e, -⟩ | ⟨j, hj, e, -⟩
  · exact Or.inl ⟨e, e⟩
  · exact Or.inr ⟨j, hj, e, e⟩
theorem rq_w (h : Rq Z ν δ κ σ τ) (hL : Lv σ n) (hk : δ n = k) (c : Nat) (hc : c < 6) {i : Nat} (hi : i = 6 * k + c) : τ 4 (nI i).toNatClampNeg = tat 64 (σ 5) (nI n) (nI (κ c)) := by
  have hd := h.d9 hL
  rw [tat_nI (by decide) hL.1 (h.ka hc), nI_clamp (by omega), hi, Nat.mul_comm 6 k]
  exact (h.nq hL hk).2.2.2.1 c hc
/-- a stamp, and the value beside it -/
theorem rq_v (h : Rq Z ν δ κ σ τ) (hL : Lv σ n) {c : Nat} (hc : c < 64) : tat 64 (σ 4) (nI n) (nI c) = tat 64 (σ 5) (nI n) (nI c) := by
  rw [tat_nI (by decide) hL.1 hc, tat_nI (by decide) hL.1 hc]
  exact (h.nq hL rfl).2.2.2.2.1 c hc
theorem rq_st (h : Rq Z ν δ κ σ τ) (hL : Lv σ n) {c : Nat} (hc : c < 64) : tat 64 (σ 5) (nI n) (nI c) = -1 ∨ ∃ t, 1 ≤ t ∧ t < 1000 ∧ tat 64 (σ 5) (nI n) (nI c) = nI t := by
  have e := rq_v h hL hc
  obtain ⟨μ, hR⟩ := h.1
  rcases rl_v hR hL c hc with ⟨a, -, -⟩ | ⟨t, v, h1, h2, h3, a, b, -, -⟩
  · exact Or.inl a
  · rw [a, b] at e
    have : v = t := nI_inj (by omega) (by omega) e
    exact Or.inr ⟨t, h1, by omega, a⟩
/-- no value is kept for a key that isn't among the six -/
theorem rq_out (h : Rq Z ν δ κ σ τ) (hL : Lv σ n) {c : Nat} (hc : c < 64) (ho : ∀ i, i < 6 → κ i ≠ c) : tat 64 (σ 5) (nI n) (nI c) = -1 := by
  rw [tat_nI (by decide) hL.1 hc]
  exact (h.nq hL rfl).2.2.2.2.2 c hc ho
-- lookups and live successors, out of the ghost's tie
theorem Rq.ls (h : Rq Z ν δ κ σ τ) (hL : Lv σ n) : ∃ j, lsF (σ 0) (σ 1) (nI n) = nI j ∧ Lv σ j := by
  obtain ⟨μ, hR⟩ := h.1
  exact hL.ls hR
theorem Rq.fn (h : Rq Z ν δ κ σ τ) (hL : Lv σ n) {key : Nat} (hk : key < 64) : ∃ j, fnR σ (nI n) (nI key) = nI j ∧ Lv σ j := by
  obtain ⟨μ, hR⟩ := h.1
  exact Lv.fn hR hL hk
theorem Rq.hp (h : Rq Z ν δ κ σ τ) (hL : Lv σ n) {key : Nat} (hk : key < 64) : hpc (σ 0) (σ 1) (σ 3) (nI key) 64 (nI n) < 64 := by
  obtain ⟨μ, hR⟩ := h.1
  exact Lv.hp hR hL hk
theorem Rq.nx (h : Rq Z ν δ κ σ τ) (hL : Lv σ n) {key : Nat} (hk : key < 64) (hc : upTo (nI key) (nI n) (lsF (σ 0) (σ 1) (nI n)) = false) : ∃ j, nxF (σ 0) (σ 1) (σ 3) (nI key) (nI n) = nI j ∧ Lv σ j ∧ upw j key < upw n key := by
  obtain ⟨μ, hR⟩ := h.1
  exact hL.nx hR hk hc
end TIE
