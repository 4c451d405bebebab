/-! the reference beside the class: Rl σ μ ties the reference's cells μ to the class's σ, for the nodes that live -/
def okN (x : Int32) : Prop := ∃ j, j < 64 ∧ x = nI j
def okP (x : Int32) : Prop := x = -1 ∨ okN x
def okV (a5 a4 m7 m6 : Int32) : Prop := (a5 = -1 ∧ a4 = -1 ∧ m7 = 0) ∨ ∃ t v, 1 ≤ t ∧ t < 2 ^ 30 ∧ v < 1000 ∧ a5 = nI t ∧ a4 = nI v ∧ m7 = nI t ∧ m6 = nI v
def Nd (σ μ : cS) (n : Nat) : Prop :=
  (∀ p, p < 3 → okN (σ 1 (n * 3 + p)) ∧ μ 3 (n * 3 + p) = σ 1 (n * 3 + p)) ∧ (okP (σ 2 (n * 1 + 0)) ∧ μ 4 n = σ 2 (n * 1 + 0)) ∧
  (∀ i, i < 6 → okP (σ 3 (n * 6 + i)) ∧ μ 5 (n * 6 + i) = σ 3 (n * 6 + i)) ∧ (∀ k, k < 64 → okV (σ 5 (n * 64 + k)) (σ 4 (n * 64 + k)) (μ 7 (n * 64 + k)) (μ 6 (n * 64 + k)))
def Rl (Z : Nat) (σ μ : cS) : Prop :=
  (∀ n, n < 64 → μ 2 n = σ 0 n ∧ (σ 0 n = 0 ∨ σ 0 n = 1)) ∧ (∀ n, n < 64 → σ 0 n = 1 → Nd σ μ n) ∧ ∃ z, z ≤ Z ∧ σ 6 0 = nI z ∧ μ 1 0 = nI z
/-- what the reference's methods leave: thrown and the held pointers -/
def Kp (μ u : cS) : Prop := u 0 = μ 0 ∧ u 10 = μ 10 ∧ u 11 = μ 11 ∧ u 12 = μ 12
theorem Kp.rf {μ : cS} : Kp μ μ := ⟨rfl, rfl, rfl, rfl⟩
theorem Kp.tr {μ u v : cS} (h : Kp μ u) (k : Kp u v) : Kp μ v := ⟨k.1.trans h.1, k.2.1.trans h.2.1, k.2.2.1.trans h.2.2.1, k.2.2.2.trans h.2.2.2⟩
/-- a node that lives -/
def Lv (σ : cS) (n : Nat) : Prop := n < 64 ∧ alv (σ 0) (nI n) = true
theorem nw_le {n w c : Nat} (hw : w ≤ 64) (hn : n < 64) (hc : c < w) : n * w + c < 4096 ∧ n * w + c < 64 * w := by
  have h1 : n * w ≤ 63 * w := Nat.mul_le_mul_right w (by omega)
  constructor <;> omega
theorem tat_nI {w n c : Nat} {f : Nat → Int32} (hw : w ≤ 64) (hn : n < 64) (hc : c < w) : tat w f (nI n) (nI c) = f (n * w + c) := by
  have h := nw_le hw hn hc
  rw [tat, if_neg (nI_pos (by omega)), if_neg (show ¬ (64 : Int32) ≤ nI n from nI_ge (b := 64) hn (by decide)), if_neg (nI_pos (by omega)), if_pos ((nI_ltI (by omega) (by omega)).mpr hc), pk_mul, nI_add, nI_clamp (by omega)]
theorem tset_nI {w n c : Nat} {f : Nat → Int32} {v : Int32} (hw : w ≤ 64) (hn : n < 64) (hc : c < w) : tset w f (nI n) (nI c) v = upd f (n * w + c) v := by
  have h := nw_le hw hn hc
  rw [tset, if_neg (nI_pos (by omega)), if_neg (show ¬ (64 : Int32) ≤ nI n from nI_ge (b := 64) hn (by decide)), if_neg (nI_pos (by omega)), if_pos ((nI_ltI (by omega) (by omega)).mpr hc), pk_mul, nI_add, nI_clamp (by omega)]
theorem alv_nI {L : Nat → Int32} {n : Nat} (hn : n < 64) : alv L (nI n) = if L n = 0 then false else true := by
  rw [alv, if_neg (nI_pos (by omega)), if_neg (nI_ge (b := 64) hn (by decide)), nI_clamp (by omega)]
theorem alv_m1 {L : Nat → Int32} : alv L (-1) = false := by
  rw [alv, if_pos (by decide)]
theorem nI_nem {j : Nat} (h : j < 64) : ¬ nI j = -1 := fun e => absurd (show nI j < 0 by rw [e]; decide) (nI_pos (by omega))
theorem nI_inj {a b : Nat} (ha : a < 2 ^ 31) (hb : b < 2 ^ 31) (h : nI a = nI b) : a = b := (nI_eq ha hb).mp h
section REL
variable {Z : Nat} {σ μ : cS} {n : Nat}
theorem Rl.one (h : Rl Z σ μ) (hL : Lv σ n) : σ 0 n = 1 := by
  have h2 := hL.2
  rw [alv_nI hL.1] at h2
  rcases (h.1 n hL.1).2 with e | e
  · rw [if_pos e] at h2; cases h2
  · exact e
theorem Rl.nd (h : Rl Z σ μ) (hL : Lv σ n) : Nd σ μ n := h.2.1 n hL.1 (h.one hL)
theorem Rl.lv1 (h : Rl Z σ μ) (hn : n < 64) (e : σ 0 n = 1) : Lv σ n := ⟨hn, by rw [alv_nI hn, e]; rfl⟩
theorem rl_l (h : Rl Z σ μ) (hn : n < 64) : μ 2 (nI n).toNatClampNeg = bI (alv (σ 0) (nI n)) := by
  rw [nI_clamp (by omega), alv_nI hn, (h.1 n hn).1]
  rcases (h.1 n hn).2 with e | e <;> rw [e] <;> rfl
theorem ix_w {w p : Nat} (hw : w ≤ 64) (hn : n < 64) (hp : p < w) : (nI w * nI n + nI p).toNatClampNeg = n * w + p := by
  have h := nw_le hw hn hp
  rw [pk_mul, nI_add, Nat.mul_comm w n, nI_clamp (by omega)]
theorem vi_1 (hn : n < 64) : vp_in (nI n) 64 := vp_in_nI hn (by decide)
theorem vi_w {w p : Nat} (hw : w ≤ 64) (hn : n < 64) (hp : p < w) : vp_in (nI w * nI n + nI p) (64 * w) := by
  have h := nw_le hw hn hp
  rw [pk_mul, nI_add, Nat.mul_comm w n]
  exact vp_in_nI h.2 (by omega)
theorem ix_0 (hn : n < 64) : ((3 : Int32) * nI n).toNatClampNeg = n * 3 + 0 := by
  rw [show (3 : Int32) * nI n = nI 3 * nI n from rfl, pk_mul, nI_clamp (by omega)]; omega
theorem vi_30 (hn : n < 64) : vp_in ((3 : Int32) * nI n) 192 := by
  rw [show (3 : Int32) * nI n = nI 3 * nI n from rfl, pk_mul]
  exact vp_in_nI (by omega) (by decide)
theorem rl_s (h : Rl Z σ μ) (hL : Lv σ n) (p : Nat) (hp : p < 3) : ∃ j, j < 64 ∧ tat 3 (σ 1) (nI n) (nI p) = nI j ∧ μ 3 (nI 3 * nI n + nI p).toNatClampNeg = nI j := by
  obtain ⟨h1, h2⟩ := (h.nd hL).1 p hp
  obtain ⟨j, hj, e⟩ := h1
  exact ⟨j, hj, by rw [tat_nI (by decide) hL.1 hp]; exact e, by rw [ix_w (by decide) hL.1 hp, h2]; exact e⟩
theorem rl_s0 (h : Rl Z σ μ) (hL : Lv σ n) : ∃ j, j < 64 ∧ tat 3 (σ 1) (nI n) 0 = nI j ∧ μ 3 ((3 : Int32) * nI n).toNatClampNeg = nI j := by
  obtain ⟨h1, h2⟩ := (h.nd hL).1 0 (by decide)
  obtain ⟨j, hj, e⟩ := h1
  exact ⟨j, hj, (tat_nI (w := 3) (c := 0) (by decide) hL.1 (by decide)).trans e, by rw [ix_0 hL.1, h2]; exact e⟩
theorem rl_p (h : Rl Z σ μ) (hL : Lv σ n) : (tat 1 (σ 2) (nI n) 0 = -1 ∧ μ 4 (nI n).toNatClampNeg = -1) ∨ ∃ j, j < 64 ∧ tat 1 (σ 2) (nI n) 0 = nI j ∧ μ 4 (nI n).toNatClampNeg = nI j := by
  have et : tat 1 (σ 2) (nI n) 0 = σ 2 (n * 1 + 0) := tat_nI (w := 1) (c := 0) (by decide) hL.1 (by decide)
  obtain ⟨h1, h2⟩ := (h.nd hL).2.1
  have hn := hL.1
  rw [et, nI_clamp (by omega), h2]
  rcases h1 with e | ⟨j, hj, e⟩
  · exact Or.inl ⟨e, e⟩
  · exact Or.inr ⟨j, hj, e, e⟩
theorem rl_f (h : Rl Z σ μ) (hL : Lv σ n) (i : Nat) (hi : i < 6) : (tat 6 (σ 3) (nI n) (nI i) = -1 ∧ μ 5 (nI 6 * nI n + nI i).toNatClampNeg = -1) ∨ ∃ j, j < 64 ∧ tat 6 (σ 3) (nI n) (nI i) = nI j ∧ μ 5 (nI 6 * nI n + nI i).toNatClampNeg = nI j := by
  obtain ⟨h1, h2⟩ := (h.nd hL).2.2.1 i hi
  rw [tat_nI (by decide) hL.1 hi, ix_w (by decide) hL.1 hi, h2]
  rcases h1 with e | ⟨j, hj, e⟩
  · exact Or.inl ⟨e, e⟩
  · exact Or.inr ⟨j, hj, e, e⟩
theorem rl_v (h : Rl Z σ μ) (hL : Lv σ n) (k : Nat) (hk : k < 64) : okV (tat 64 (σ 5) (nI n) (nI k)) (tat 64 (σ 4) (nI n) (nI k)) (μ 7 (nI 64 * nI n + nI k).toNatClampNeg) (μ 6 (nI 64 * nI n + nI k).toNatClampNeg) := by
  rw [tat_nI (by decide) hL.1 hk, tat_nI (by decide) hL.1 hk, ix_w (by decide) hL.1 hk]
  exact (h.nd hL).2.2.2 k hk
/-- the live successor of a node that lives, lives -/
theorem Lv.ls (h : Rl Z σ μ) (hL : Lv σ n) : ∃ j, lsF (σ 0) (σ 1) (nI n) = nI j ∧ Lv σ j := by
  obtain ⟨j0, h0, e0, -⟩ := rl_s h hL 0 (by decide)
  obtain ⟨j1, h1, e1, -⟩ := rl_s h hL 1 (by decide)
  obtain ⟨j2, h2, e2, -⟩ := rl_s h hL 2 (by decide)
  have e0 : tat 3 (σ 1) (nI n) 0 = nI j0 := e0
  have e1 : tat 3 (σ 1) (nI n) 1 = nI j1 := e1
  have e2 : tat 3 (σ 1) (nI n) 2 = nI j2 := e2
  unfold lsF
  rw [e0, e1, e2]
  by_cases c0 : alv (σ 0) (nI j0) = true
  · exact ⟨j0, by rw [if_pos c0], h0, c0⟩
  · rw [if_neg c0]
    by_cases c1 : alv (σ 0) (nI j1) = true
    · exact ⟨j1, by rw [if_pos c1], h1, c1⟩
    · rw [if_neg c1]
      by_cases c2 : alv (σ 0) (nI j2) = true
      · exact ⟨j2, by rw [if_pos c2], h2, c2⟩
      · exact ⟨n, by rw [if_neg c2], hL⟩
/-- places upwards -/
def upw (a b : Nat) : Nat := (b + 63 - a) % 64
theorem and63 {a b : Nat} (ha : a < 64) (hb : b < 64) : ((nI b - nI a - 1) &&& 63) = nI (upw a b) := by
  have e : nI b - nI a - 1 = nI (b + 63 - a) - 64 := by
    have h1 : nI b - nI a - 1 = nI b + nI 63 - nI a - 64 := by
      rw [show (64 : Int32) = nI 63 + 1 from rfl]
      apply Int32.toBitVec_inj.mp
      simp only [Int32.toBitVec_sub, Int32.toBitVec_add]
      bv_omega
    rw [h1, nI_add, pk_sub (by omega)]
  rw [e, pk_and _ 6 (by decide)]
  congr 1
  have h2 : (nI (b + 63 - a) - 64).toBitVec.toNat = (b + 63 - a + (2 ^ 32 - 64)) % 2 ^ 32 := by
    rw [Int32.toBitVec_sub, BitVec.toNat_sub, pk_tn (by omega)]
    show ((2 ^ 32 - 64) + (b + 63 - a)) % 2 ^ 32 = _
    rw [Nat.add_comm]
  rw [h2]
  unfold upw
  omega
theorem upTo_nI {x a b : Nat} (hx : x < 64) (ha : a < 64) (hb : b < 64) : upTo (nI x) (nI a) (nI b) = decide (upw a x ≤ upw a b) := by
  have h1 : upw a x < 64 := Nat.mod_lt _ (by decide)
  have h2 : upw a b < 64 := Nat.mod_lt _ (by decide)
  rw [upTo, and63 ha hx, and63 ha hb]
  by_cases c : upw a b < upw a x
  · rw [if_pos ((nI_ltI (by omega) (by omega)).mpr c)]
    symm; rw [decide_eq_false_iff_not]; omega
  · rw [if_neg (fun q => c ((nI_ltI (by omega) (by omega)).mp q))]
    symm; rw [decide_eq_true_iff]; omega
theorem btw_nI {x a b : Nat} (hx : x < 64) (ha : a < 64) (hb : b < 64) : btw (nI x) (nI a) (nI b) = decide (upw a x < upw a b) := by
  have h1 : upw a x < 64 := Nat.mod_lt _ (by decide)
  have h2 : upw a b < 64 := Nat.mod_lt _ (by decide)
  rw [btw, and63 ha hx, and63 ha hb]
  by_cases c : upw a b ≤ upw a x
  · rw [if_pos ((nI_leI (by omega) (by omega)).mpr c)]
    symm; rw [decide_eq_false_iff_not]; omega
  · rw [if_neg (fun q => c ((nI_leI (by omega) (by omega)).mp q))]
    symm; rw [decide_eq_true_iff]; omega
/-- a step of a lookup leads to a node that lives and lies nearer to the key -/
theorem Lv.hop (h : Rl Z σ μ) (hL : Lv σ n) {key s : Nat} (hk : key < 64) (hs : Lv σ s) (hc : upw n s < upw n key) : ∀ i, i ≤ 6 → ∃ j, hopT (σ 0) (σ 3) (nI key) (nI n) (nI s) i = nI j ∧ Lv σ j ∧ upw n j < upw n key := by
  intro i
  induction i with
  | zero => intro _; exact ⟨s, rfl, hs, hc⟩
  | succ i ih =>
    intro hi
    obtain ⟨j0, e0, l0, c0⟩ := ih (by omega)
    rw [hopT, e0]
    rcases rl_f h hL i (by omega) with ⟨e, -⟩ | ⟨j, hj, e, -⟩
    · rw [e, alv_m1]
      exact ⟨j0, rfl, l0, c0⟩
    · rw [e]
      by_cases ca : alv (σ 0) (nI j) = true
      · rw [if_pos ca, btw_nI hj hL.1 hk]
        by_cases cb : upw n j < upw n key
        · rw [if_pos (by simpa using cb)]
          exact ⟨j, rfl, ⟨hj, ca⟩, cb⟩
        · rw [if_neg (by simpa using cb)]
          exact ⟨j0, rfl, l0, c0⟩
      · rw [if_neg ca]
        exact ⟨j0, rfl, l0, c0⟩
theorem upw_step {n j key : Nat} (hn : n < 64) (hj : j < 64) (hk : key < 64) (h : upw n j < upw n key) : upw j key < upw n key := by
  unfold upw at *
  omega
/-- one step of a lookup that doesn't end -/
theorem Lv.nx (h : Rl Z σ μ) (hL : Lv σ n) {key : Nat} (hk : key < 64) (hc : upTo (nI key) (nI n) (lsF (σ 0) (σ 1) (nI n)) = false) : ∃ j, nxF (σ 0) (σ 1) (σ 3) (nI key) (nI n) = nI j ∧ Lv σ j ∧ upw j key < upw n key := by
  obtain ⟨s, es, ls⟩ := hL.ls h
  rw [es, upTo_nI hk hL.1 ls.1] at hc
  have hc : upw n s < upw n key := by have := of_decide_eq_false hc; omega
  obtain ⟨j, e, l, c⟩ := Lv.hop h hL hk ls hc 6 (Nat.le_refl 6)
  exact ⟨j, by rw [nxF, es]; exact e, l, upw_step hL.1 l.1 hk c⟩
/-- a lookup finds a node that lives, within as many hops as it is far -/
theorem Lv.fd9 (h : Rl Z σ μ) {key : Nat} (hk : key < 64) : ∀ (d n : Nat), Lv σ n → upw n key < d → (∃ j, fnd (σ 0) (σ 1) (σ 3) (nI key) d (nI n) = nI j ∧ Lv σ j) ∧ hpc (σ 0) (σ 1) (σ 3) (nI key) d (nI n) ≤ upw n key := by
  intro d
  induction d with
  | zero => intro n _ h0; exact absurd h0 (by omega)
  | succ d ih =>
    intro n hL hd
    rw [fnd, hpc]
    cases c : upTo (nI key) (nI n) (lsF (σ 0) (σ 1) (nI n)) with
    | true => exact ⟨by rw [if_pos rfl]; exact hL.ls h, by rw [if_pos rfl]; omega⟩
    | false =>
      obtain ⟨j, ej, lj, cj⟩ := hL.nx h hk c
      obtain ⟨h1, h2⟩ := ih j lj (by omega)
      rw [if_neg (by decide), if_neg (by decide), ej]
      exact ⟨h1, by omega⟩
theorem Lv.fn (h : Rl Z σ μ) (hL : Lv σ n) {key : Nat} (hk : key < 64) : ∃ j, fnR σ (nI n) (nI key) = nI j ∧ Lv σ j :=
  (Lv.fd9 h hk 64 n hL (Nat.mod_lt _ (by decide))).1
theorem Lv.hp (h : Rl Z σ μ) (hL : Lv σ n) {key : Nat} (hk : key < 64) : hpc (σ 0) (σ 1) (σ 3) (nI key) 64 (nI n) < 64 :=
  Nat.lt_of_le_of_lt (Lv.fd9 h hk 64 n hL (Nat.mod_lt _ (by decide))).2 (Nat.mod_lt _ (by decide))
end REL
