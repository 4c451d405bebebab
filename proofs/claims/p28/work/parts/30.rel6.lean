/-! rows for the reference's other public methods -/
theorem rg_or2 (x : Int32) {N : Nat} (hN : N < 2 ^ 30) : (∃ p, p < N + 1 ∧ x = nI p) ∨ (x < 0 ∧ okR x 0 (nI N) = false) ∨ (¬ x < 0 ∧ nI (N + 1) ≤ x ∧ okR x 0 (nI N) = false) := by
  by_cases h0 : x < 0
  · exact Or.inr (Or.inl ⟨h0, by rw [okR, if_pos h0]⟩)
  · obtain ⟨j, hj, rfl⟩ := nI_of h0
    rcases Nat.lt_or_ge j (N + 1) with q | q
    · exact Or.inl ⟨j, q, rfl⟩
    · refine Or.inr (Or.inr ⟨h0, nI_le q hj, ?_⟩)
      rw [okR, if_neg h0, if_neg]
      intro z
      have := (nI_leI hj (by omega)).mp z
      omega
def cntN (L : Nat → Int32) : Nat → Nat
  | 0 => 0
  | k + 1 => if alv L (nI k) = true then cntN L k + 1 else cntN L k
theorem cnt_N {L : Nat → Int32} : ∀ k, cnt L k = nI (cntN L k)
  | 0 => rfl
  | k + 1 => by
    rw [cnt, cntN, cnt_N k]
    split
    · exact nI_1 _
    · rfl
theorem cntN_le {L : Nat → Int32} : ∀ k, cntN L k ≤ k
  | 0 => Nat.le_refl 0
  | k + 1 => by
    have := cntN_le (L := L) k
    rw [cntN]; split <;> omega
theorem cntN_0 {L : Nat → Int32} : ∀ k, cntN L k = 0 → ∀ j, j < k → alv L (nI j) = false
  | 0 => fun _ j hj => absurd hj (Nat.not_lt_zero j)
  | k + 1 => by
    intro h j hj
    rw [cntN] at h
    by_cases c : alv L (nI k) = true
    · rw [if_pos c] at h; omega
    · rw [if_neg c] at h
      by_cases e : j = k
      · subst e; exact Bool.not_eq_true _ ▸ c
      · exact cntN_0 k h j (by omega)
theorem cnt_no {L : Nat → Int32} (c : cnt L 64 ≤ 0) : ∀ j, j < 64 → alv L (nI j) = false := by
  refine cntN_0 64 ?_
  rw [cnt_N] at c
  have h := cntN_le (L := L) 64
  have h2 := (nI_leI (a := cntN L 64) (b := 0) (by omega) (by decide)).mp c
  omega
theorem cnt_up1 {L : Nat → Int32} {n : Nat} (h : ∀ j, j < 64 → alv L (nI j) = false) : ∀ k, k ≤ 64 → cntN (upd L n 1) k = if n < k then 1 else 0
  | 0 => fun _ => by rw [cntN, if_neg (Nat.not_lt_zero n)]
  | k + 1 => by
    intro hk
    have hL := h k (by omega)
    rw [alv_nI (by omega)] at hL
    rw [cntN, cnt_up1 h k (by omega), alv_nI (by omega)]
    by_cases e : k = n
    · subst e
      rw [pk_us, if_neg (show ¬ (1 : Int32) = 0 by decide), if_pos rfl, if_neg (by omega), if_pos (by omega)]
    · rw [pk_un e]
      by_cases c : L k = 0
      · rw [if_pos c, if_neg (by decide)]
        by_cases q : n < k
        · rw [if_pos q, if_pos (by omega)]
        · rw [if_neg q, if_neg (by omega)]
      · rw [if_neg c] at hL; cases hL
theorem cr_1 {σ : cS} {n : Nat} (hn : n < 64) (c : cnt (σ 0) 64 ≤ 0) {x y z : Int32} : cnt (blS σ (nI n) x y z 0) 64 = 1 := by
  rw [blS_0 hn, cnt_N, cnt_up1 (cnt_no c) 64 (Nat.le_refl 64), if_pos hn]
  rfl
theorem hoS_q {σ σ' σq : cS} {n x : Int32} (h9 : σ' = hoL σ n x 64) (hq : σq = hoP σ' n x) : hoS σ n x = if tat 1 (σ' 2) n 0 = n then σq else if alv (σq 0) (tat 1 (σ' 2) n 0) = true then foS σq (tat 1 (σ' 2) n 0) x else σq := by
  subst h9; subst hq; rfl
theorem rl_put {Z : Nat} {σ μ : cS} {n k v z : Nat} (h : Rl Z σ μ) (hn : n < 64) (hk : k < 64) (hv : v < 1000) (hz : z ≤ Z) (hZ : Z + 1 < 2 ^ 30) (e : σ 6 0 = nI z) :
    Rl (Z + 1) (puA σ (nI n) (nI k) (nI v)) (va_up (va_up (va_up μ 1 (fun _ => nI (z + 1))) 7 (upd (μ 7) ((64 : Int32) * nI n + nI k).toNatClampNeg (nI (z + 1)))) 6 (upd (μ 6) ((64 : Int32) * nI n + nI k).toNatClampNeg (nI v))) := by
  have h1 : Rl (Z + 1) (va_up σ 6 (fun _ => nI (z + 1))) (va_up μ 1 (fun _ => nI (z + 1))) := ⟨h.1, h.2.1, z + 1, by omega, rfl, rfl⟩
  have h2 := rl_cp h1 hn hk (t := z + 1) (by omega) (by omega) hv
  rw [puA, e, nI_1]
  exact h2
def cdH (σ : cS) (x k h : Int32) : Nat := if cdP σ x k 63 = 0 then (if h < 0 then 3 else if nI (hpc (σ 0) (σ 1) (σ 3) k 64 x) < h then 3 else 0) else cdP σ x k 63
theorem cdH_b {σ : cS} {x k h : Int32} {c : Nat} (e : cdP σ x k 63 = c + 1) : cdH σ x k h = c + 1 := by rw [cdH, if_neg (by omega), e]
theorem cdH_1 {σ : cS} {x k h : Int32} (e : cdP σ x k 63 = 0) (q : h < 0) : cdH σ x k h = 3 := by rw [cdH, if_pos e, if_pos q]
theorem cdH_2 {σ : cS} {x k h : Int32} (e : cdP σ x k 63 = 0) (q : ¬ h < 0) (r : nI (hpc (σ 0) (σ 1) (σ 3) k 64 x) < h) : cdH σ x k h = 3 := by rw [cdH, if_pos e, if_neg q, if_pos r]
theorem cdH_3 {σ : cS} {x k h : Int32} (e : cdP σ x k 63 = 0) (q : ¬ h < 0) (r : ¬ nI (hpc (σ 0) (σ 1) (σ 3) k 64 x) < h) : cdH σ x k h = 0 := by rw [cdH, if_pos e, if_neg q, if_neg r]
theorem ha_65 {h rh : Int32} {k : Nat} (h0 : ¬ h < 0) (h1 : ¬ rh < h) (e : rh = nI k) (hk : k < 64) : h < nI 65 := by
  have h2 := ha_le h0 h1 e hk
  obtain ⟨j, hj, rfl⟩ := nI_of h0
  rw [nI_clamp hj] at h2
  exact (nI_ltI hj (by decide)).mpr (by omega)
/-! rounds ahead: what they keep -/
section RA
variable {σ : cS} {i : Nat}
theorem lrf_n (h1 : i ≠ 1) (h2 : i ≠ 2) (h3 : i ≠ 3) {n : Int32} : lrN false σ n i = σ i := by
  have rf : ∀ (τ : cS) (m : Int32) (k : Nat), rfS τ m k i = τ i := by
    intro τ m k
    induction k with
    | zero => rfl
    | succ k ih => rw [rfS, vu_ne h3]; exact ih
  have nt : ∀ (τ : cS) (m x : Int32), ntS τ m x i = τ i := by
    intro τ m x
    rw [ntS]
    split
    · split
      · rw [vu_ne h2]
      · rfl
    · rw [vu_ne h2]
  have dd : ∀ (τ : cS) (m : Int32), ddS τ m i = τ i := by
    intro τ m
    rw [ddS]
    split
    · rfl
    · rw [vu_ne h2]
  rw [lrN, if_neg (by decide), rf, msS, nt, foS, ssS_n h1, dd]
theorem lrf_s (h1 : i ≠ 1) (h2 : i ≠ 2) (h3 : i ≠ 3) : ∀ k, lrS false σ k i = σ i
  | 0 => rfl
  | k + 1 => by
    rw [lrS]
    split
    · rw [lrf_n h1 h2 h3]; exact lrf_s h1 h2 h3 k
    · exact lrf_s h1 h2 h3 k
theorem rtS_k (h1 : i ≠ 1) (h2 : i ≠ 2) (h3 : i ≠ 3) : ∀ (d : Nat) (σ : cS), rtS σ d i = σ i
  | 0, σ => rfl
  | d + 1, σ => by
    rw [rtS]
    split
    · rw [rtS_k h1 h2 h3 d]; exact lrf_s h1 h2 h3 64
    · rfl
end RA
def K4 (σ σ' : cS) : Prop := σ' 0 = σ 0 ∧ σ' 4 = σ 4 ∧ σ' 5 = σ 5 ∧ σ' 6 = σ 6
theorem K4.lp {σ : cS} : K4 σ (lpS σ) := ⟨rfl, rfl, rfl, rfl⟩
theorem K4.lr {σ σ' : cS} (h : K4 σ σ') : K4 σ (lrS false σ' 64) :=
  ⟨(lrf_s (by decide) (by decide) (by decide) 64).trans h.1, (lrf_s (by decide) (by decide) (by decide) 64).trans h.2.1, (lrf_s (by decide) (by decide) (by decide) 64).trans h.2.2.1, (lrf_s (by decide) (by decide) (by decide) 64).trans h.2.2.2⟩
theorem rl_lp {Z : Nat} {σ μ : cS} (h : Rl Z σ μ) : Rl Z (lpS σ) μ := h
theorem cpy_at {f g : Nat → Int32} {N j : Nat} (hj : j < N) : va_cpy f g 0 0 N j = f j := by
  show (if 0 ≤ j ∧ j < 0 + N then f (0 + (j - 0)) else g j) = f j
  rw [if_pos ⟨Nat.zero_le _, by omega⟩, Nat.zero_add, Nat.sub_zero]
theorem mvA_at {f g : Nat → Int32} {N j : Nat} (hj : j < N) : mvA N f g j = f j := by
  show (if j < N then f j else g j) = f j
  rw [if_pos hj]
/-- after the pointers are put back -/
theorem rt_fin {Z D : Nat} {σ σ' μ μ' μe : cS} {g1 g2 g3 k1 k2 k3 : Nat → Int32} (h : Rl Z σ μ) (h' : Rl Z σ' μ') (hK : K4 σ σ')
    (e1 : μe 1 = μ' 1) (e2 : μe 2 = μ' 2) (e6 : μe 6 = μ' 6) (e7 : μe 7 = μ' 7) (e3 : μe 3 = mvA 192 (mvA 192 (μ 3) g1) k1) (e4 : μe 4 = mvA 64 (mvA 64 (μ 4) g2) k2) (e5 : μe 5 = mvA 384 (mvA 384 (μ 5) g3) k3) : Rl Z (tbS (rtS (lpS σ) D)) μe := by
  have t0 : tbS (rtS (lpS σ) D) 0 = σ 0 := by rw [tbS, vu_ne (by decide), vu_ne (by decide), vu_ne (by decide), rtS_k (by decide) (by decide) (by decide)]; rfl
  have t4 : tbS (rtS (lpS σ) D) 4 = σ 4 := by rw [tbS, vu_ne (by decide), vu_ne (by decide), vu_ne (by decide), rtS_k (by decide) (by decide) (by decide)]; rfl
  have t5 : tbS (rtS (lpS σ) D) 5 = σ 5 := by rw [tbS, vu_ne (by decide), vu_ne (by decide), vu_ne (by decide), rtS_k (by decide) (by decide) (by decide)]; rfl
  have t6 : tbS (rtS (lpS σ) D) 6 = σ 6 := by rw [tbS, vu_ne (by decide), vu_ne (by decide), vu_ne (by decide), rtS_k (by decide) (by decide) (by decide)]; rfl
  have t1 : ∀ j, j < 192 → tbS (rtS (lpS σ) D) 1 j = σ 1 j := by
    intro j hj
    rw [tbS, vu_ne (by decide), vu_ne (by decide), vu_eq, cpy_at hj, rtS_k (by decide) (by decide) (by decide)]
    show va_cpy (σ 1) (σ 9) 0 0 192 j = σ 1 j
    exact cpy_at hj
  have t2 : ∀ j, j < 64 → tbS (rtS (lpS σ) D) 2 j = σ 2 j := by
    intro j hj
    rw [tbS, vu_ne (by decide), vu_eq, cpy_at hj, rtS_k (by decide) (by decide) (by decide)]
    show va_cpy (σ 2) (σ 10) 0 0 64 j = σ 2 j
    exact cpy_at hj
  have t3 : ∀ j, j < 384 → tbS (rtS (lpS σ) D) 3 j = σ 3 j := by
    intro j hj
    rw [tbS, vu_eq, cpy_at hj, rtS_k (by decide) (by decide) (by decide)]
    show va_cpy (σ 3) (σ 11) 0 0 384 j = σ 3 j
    exact cpy_at hj
  unfold Rl
  rw [t0, t6, e1, e2]
  refine ⟨fun n hn => ?_, fun n hn e => ?_, ?_⟩
  · have := h'.1 n hn; rw [hK.1] at this; exact this
  · obtain ⟨h1, h2, h3, -⟩ := h.2.1 n hn e
    obtain ⟨-, -, -, h4⟩ := h'.2.1 n hn (by rw [hK.1]; exact e)
    unfold Nd
    rw [t4, t5, e3, e4, e5, e6, e7]
    refine ⟨fun p hp => ?_, ?_, fun i hi => ?_, fun k hk => ?_⟩
    · rw [t1 _ (by omega), mvA_at (by omega), mvA_at (by omega)]; exact h1 p hp
    · rw [t2 _ (by omega), mvA_at (by omega), mvA_at (by omega)]; exact h2
    · rw [t3 _ (by omega), mvA_at (by omega), mvA_at (by omega)]; exact h3 i hi
    · have := h4 k hk; rw [hK.2.1, hK.2.2.1] at this; exact this
  · have := h'.2.2; rw [hK.2.2.2] at this; exact this
theorem rt_k9 {σ : cS} {k : Nat} (c : ¬ cwp σ 64 ≤ 0) : rtK σ 0 (k + 1) = rtK σ (0 + 1) k := by
  show k + 1 = if 0 < cwp σ 64 then rtK (lrS false σ 64) 0 (k + 1) else k
  rw [if_pos (Int32.not_le.mp c)]
  show k + 1 = k + 1
  rfl
