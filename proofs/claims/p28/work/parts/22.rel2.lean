/-! what the writers leave: who lives, and the tie -/
theorem Lv.tr {σ σ' : cS} {n : Nat} (h : σ' 0 = σ 0) (hL : Lv σ n) : Lv σ' n := ⟨hL.1, by rw [h]; exact hL.2⟩
theorem ssS_0 {σ : cS} {n x y z : Int32} : ssS σ n x y z 0 = σ 0 := rfl
theorem foS_0 {σ : cS} {n x : Int32} : foS σ n x 0 = σ 0 := rfl
theorem ddS_0 {σ : cS} {n : Int32} : ddS σ n 0 = σ 0 := by unfold ddS; split <;> rfl
theorem ntS_0 {σ : cS} {n x : Int32} : ntS σ n x 0 = σ 0 := by unfold ntS; split <;> (try split) <;> rfl
theorem msS_0 {σ : cS} {n : Int32} : msS σ n 0 = σ 0 := by unfold msS; rw [ntS_0, foS_0]
theorem gcS_0 {σ : cS} {f t k : Int32} : gcS σ f t k 0 = σ 0 := by unfold gcS; split <;> rfl
theorem rfS_0 {σ : cS} {n : Int32} : ∀ k, rfS σ n k 0 = σ 0
  | 0 => rfl
  | k + 1 => by show rfS σ n k 0 = σ 0; exact rfS_0 k
theorem chA_0 {σ : cS} {n k : Int32} : chA σ n k 0 = σ 0 := by
  unfold chA; split
  · rfl
  · exact gcS_0
theorem chS_0 {σ : cS} {n k : Int32} : chS σ n k 0 = σ 0 := by
  unfold chS; split
  · exact chA_0
  · rw [gcS_0, chA_0]
theorem spS_0 {σ : cS} {n k : Int32} : spS σ n k 0 = σ 0 := by
  unfold spS; split
  · exact chS_0
  · split
    · exact chS_0
    · exact gcS_0
theorem svS_0 {σ : cS} {n : Int32} : ∀ k, svS σ n k 0 = σ 0
  | 0 => rfl
  | k + 1 => by
    rw [svS]; split
    · exact svS_0 k
    · rw [spS_0]; exact svS_0 k
theorem lrN_0 {b : Bool} {σ : cS} {n : Int32} : lrN b σ n 0 = σ 0 := by
  unfold lrN; split
  · rw [svS_0, rfS_0, msS_0, ddS_0]
  · rw [rfS_0, msS_0, ddS_0]
theorem lrS_0 {b : Bool} {σ : cS} : ∀ k, lrS b σ k 0 = σ 0
  | 0 => rfl
  | k + 1 => by
    rw [lrS]; split
    · rw [lrN_0]; exact lrS_0 k
    · exact lrS_0 k
theorem lrI_0 {b : Bool} {σ : cS} : ∀ k, lrI b σ k 0 = σ 0
  | 0 => rfl
  | k + 1 => by rw [lrI, lrS_0]; exact lrI_0 k
theorem hoL_0 {σ : cS} {n x : Int32} : ∀ k, hoL σ n x k 0 = σ 0
  | 0 => rfl
  | k + 1 => by rw [hoL, gcS_0]; exact hoL_0 k
section RW2
variable {Z : Nat} {σ μ : cS} {n : Nat}
theorem Rl.s8 {f : Nat → Int32} (h : Rl Z σ μ) : Rl Z σ (va_up μ 8 f) := h
theorem Rl.s9 {f : Nat → Int32} (h : Rl Z σ μ) : Rl Z σ (va_up μ 9 f) := h
theorem Rl.s0 {f : Nat → Int32} (h : Rl Z σ μ) : Rl Z σ (va_up μ 0 f) := h
theorem Rl.s10 {f : Nat → Int32} (h : Rl Z σ μ) : Rl Z σ (va_up μ 10 f) := h
theorem Rl.s11 {f : Nat → Int32} (h : Rl Z σ μ) : Rl Z σ (va_up μ 11 f) := h
theorem Rl.s12 {f : Nat → Int32} (h : Rl Z σ μ) : Rl Z σ (va_up μ 12 f) := h
theorem Kp.s8 {f : Nat → Int32} : Kp μ (va_up μ 8 f) := ⟨rfl, rfl, rfl, rfl⟩
theorem Kp.s9 {f : Nat → Int32} : Kp μ (va_up μ 9 f) := ⟨rfl, rfl, rfl, rfl⟩
theorem Kp.s2 {f : Nat → Int32} : Kp μ (va_up μ 2 f) := ⟨rfl, rfl, rfl, rfl⟩
theorem Kp.s3 {f : Nat → Int32} : Kp μ (va_up μ 3 f) := ⟨rfl, rfl, rfl, rfl⟩
theorem Kp.s4 {f : Nat → Int32} : Kp μ (va_up μ 4 f) := ⟨rfl, rfl, rfl, rfl⟩
theorem Kp.s5 {f : Nat → Int32} : Kp μ (va_up μ 5 f) := ⟨rfl, rfl, rfl, rfl⟩
theorem Kp.s6 {f : Nat → Int32} : Kp μ (va_up μ 6 f) := ⟨rfl, rfl, rfl, rfl⟩
theorem Kp.s7 {f : Nat → Int32} : Kp μ (va_up μ 7 f) := ⟨rfl, rfl, rfl, rfl⟩
theorem Kp.s1 {f : Nat → Int32} : Kp μ (va_up μ 1 f) := ⟨rfl, rfl, rfl, rfl⟩
/-- one successor is set on both sides -/
theorem rl_U (h : Rl Z σ μ) {p : Nat} (hn : n < 64) (hp : p < 3) {v : Int32} (hv : okN v) : Rl Z (va_up σ 1 (upd (σ 1) (n * 3 + p) v)) (va_up μ 3 (upd (μ 3) (n * 3 + p) v)) := by
  refine ⟨h.1, fun m hm e => ?_, h.2.2⟩
  obtain ⟨h1, h2, h3, h4⟩ := h.2.1 m hm e
  refine ⟨fun q hq => ?_, h2, h3, h4⟩
  show okN (upd (σ 1) (n * 3 + p) v (m * 3 + q)) ∧ upd (μ 3) (n * 3 + p) v (m * 3 + q) = upd (σ 1) (n * 3 + p) v (m * 3 + q)
  by_cases c : m * 3 + q = n * 3 + p
  · rw [c, pk_us, pk_us]; exact ⟨hv, rfl⟩
  · rw [pk_un c, pk_un c]; exact h1 q hq
theorem rl_P (h : Rl Z σ μ) (hn : n < 64) {v : Int32} (hv : okP v) : Rl Z (va_up σ 2 (upd (σ 2) (n * 1 + 0) v)) (va_up μ 4 (upd (μ 4) n v)) := by
  refine ⟨h.1, fun m hm e => ?_, h.2.2⟩
  obtain ⟨h1, h2, h3, h4⟩ := h.2.1 m hm e
  refine ⟨h1, ?_, h3, h4⟩
  show okP (upd (σ 2) (n * 1 + 0) v (m * 1 + 0)) ∧ upd (μ 4) n v m = upd (σ 2) (n * 1 + 0) v (m * 1 + 0)
  by_cases c : m = n
  · subst c; rw [pk_us, pk_us]; exact ⟨hv, rfl⟩
  · rw [pk_un c, pk_un (by omega)]; exact h2
theorem rl_Fg (h : Rl Z σ μ) {p : Nat} (hn : n < 64) (hp : p < 6) {v : Int32} (hv : okP v) : Rl Z (va_up σ 3 (upd (σ 3) (n * 6 + p) v)) (va_up μ 5 (upd (μ 5) (n * 6 + p) v)) := by
  refine ⟨h.1, fun m hm e => ?_, h.2.2⟩
  obtain ⟨h1, h2, h3, h4⟩ := h.2.1 m hm e
  refine ⟨h1, h2, fun q hq => ?_, h4⟩
  show okP (upd (σ 3) (n * 6 + p) v (m * 6 + q)) ∧ upd (μ 5) (n * 6 + p) v (m * 6 + q) = upd (σ 3) (n * 6 + p) v (m * 6 + q)
  by_cases c : m * 6 + q = n * 6 + p
  · rw [c, pk_us, pk_us]; exact ⟨hv, rfl⟩
  · rw [pk_un c, pk_un c]; exact h3 q hq
theorem rl_Vl (h : Rl Z σ μ) {p t v : Nat} (hn : n < 64) (hp : p < 64) (ht : 1 ≤ t) (ht2 : t < 2 ^ 30) (hv : v < 1000) :
    Rl Z (va_up (va_up σ 4 (upd (σ 4) (n * 64 + p) (nI v))) 5 (upd (σ 5) (n * 64 + p) (nI t))) (va_up (va_up μ 7 (upd (μ 7) (n * 64 + p) (nI t))) 6 (upd (μ 6) (n * 64 + p) (nI v))) := by
  refine ⟨h.1, fun m hm e => ?_, h.2.2⟩
  obtain ⟨h1, h2, h3, h4⟩ := h.2.1 m hm e
  refine ⟨h1, h2, h3, fun q hq => ?_⟩
  show okV (upd (σ 5) (n * 64 + p) (nI t) (m * 64 + q)) (upd (σ 4) (n * 64 + p) (nI v) (m * 64 + q)) (upd (μ 7) (n * 64 + p) (nI t) (m * 64 + q)) (upd (μ 6) (n * 64 + p) (nI v) (m * 64 + q))
  by_cases c : m * 64 + q = n * 64 + p
  · rw [c, pk_us, pk_us, pk_us, pk_us]; exact Or.inr ⟨t, v, ht, ht2, hv, rfl, rfl, rfl, rfl⟩
  · rw [pk_un c, pk_un c, pk_un c, pk_un c]; exact h4 q hq
theorem rl_die (h : Rl Z σ μ) (hn : n < 64) : Rl Z (saS σ (nI n) 0) (va_up μ 2 (upd (μ 2) (nI n).toNatClampNeg (vp_nar .boolean 0))) := by
  have e : saS σ (nI n) 0 = va_up σ 0 (upd (σ 0) n 0) := by
    rw [saS, if_neg (nI_pos (by omega)), if_neg (nI_ge (b := 64) hn (by decide)), nI_clamp (by omega)]
    rfl
  rw [e, nI_clamp (by omega), show vp_nar .boolean 0 = 0 from rfl]
  refine ⟨fun m hm => ?_, fun m hm e => ?_, h.2.2⟩
  · show upd (μ 2) n 0 m = upd (σ 0) n 0 m ∧ (upd (σ 0) n 0 m = 0 ∨ upd (σ 0) n 0 m = 1)
    by_cases c : m = n
    · subst c; rw [pk_us, pk_us]; exact ⟨rfl, Or.inl rfl⟩
    · rw [pk_un c, pk_un c]; exact h.1 m hm
  · have e : upd (σ 0) n 0 m = 1 := e
    by_cases c : m = n
    · subst c; rw [pk_us] at e; exact absurd e (by decide)
    · rw [pk_un c] at e; exact h.2.1 m hm e
theorem va_up2 {α : Type} {f : Nat → α} {k : Nat} {v w : α} : va_up (va_up f k v) k w = va_up f k w := by
  funext j; simp only [va_up]; split <;> rfl
theorem va_upr {f : cS} {k i : Nat} {x : Int32} (h : f k i = x) : va_up f k (upd (f k) i x) = f := by
  funext j; simp only [va_up]
  split
  · rename_i e; subst e; funext q; simp only [upd]; split
    · rename_i e; rw [e, h]
    · rfl
  · rfl
theorem okN.P {x : Int32} (h : okN x) : okP x := Or.inr h
theorem okN.nI {j : Nat} (h : j < 64) : okN (nI j) := ⟨j, h, rfl⟩
theorem okP.nI {j : Nat} (h : j < 64) : okP (nI j) := Or.inr ⟨j, h, rfl⟩
theorem okP.m1 : okP (-1) := Or.inl rfl
theorem ix_3 {p : Nat} (hn : n < 64) (hp : p < 3) : ((3 : Int32) * nI n + nI p).toNatClampNeg = n * 3 + p := ix_w (w := 3) (by decide) hn hp
theorem rl_fol (h : Rl Z σ μ) (hn : n < 64) {x j0 j1 : Nat} (hx : x < 64) (h0 : j0 < 64) (h1 : j1 < 64) (e0 : tat 3 (σ 1) (nI x) 0 = nI j0) (e1 : tat 3 (σ 1) (nI x) 1 = nI j1) :
    Rl Z (foS σ (nI n) (nI x)) (va_up (va_up (va_up μ 3 (upd (μ 3) ((3 : Int32) * nI n).toNatClampNeg (nI x))) 3 (upd (upd (μ 3) ((3 : Int32) * nI n).toNatClampNeg (nI x)) ((3 : Int32) * nI n + 1).toNatClampNeg (nI j0))) 3 (upd (upd (upd (μ 3) ((3 : Int32) * nI n).toNatClampNeg (nI x)) ((3 : Int32) * nI n + 1).toNatClampNeg (nI j0)) ((3 : Int32) * nI n + 2).toNatClampNeg (nI j1))) := by
  rw [ix_0 hn, show ((3 : Int32) * nI n + 1).toNatClampNeg = n * 3 + 1 from ix_3 (p := 1) hn (by decide), show ((3 : Int32) * nI n + 2).toNatClampNeg = n * 3 + 2 from ix_3 (p := 2) hn (by decide)]
  unfold foS ssS
  rw [e0, e1, show tset 3 (σ 1) (nI n) 0 (nI x) = upd (σ 1) (n * 3 + 0) (nI x) from tset_nI (w := 3) (c := 0) (by decide) hn (by decide)]
  rw [show tset 3 (upd (σ 1) (n * 3 + 0) (nI x)) (nI n) 1 (nI j0) = upd (upd (σ 1) (n * 3 + 0) (nI x)) (n * 3 + 1) (nI j0) from tset_nI (w := 3) (c := 1) (by decide) hn (by decide)]
  rw [show tset 3 (upd (upd (σ 1) (n * 3 + 0) (nI x)) (n * 3 + 1) (nI j0)) (nI n) 2 (nI j1) = upd (upd (upd (σ 1) (n * 3 + 0) (nI x)) (n * 3 + 1) (nI j0)) (n * 3 + 2) (nI j1) from tset_nI (w := 3) (c := 2) (by decide) hn (by decide)]
  exact rl_U (rl_U (rl_U h (p := 0) hn (by decide) (okN.nI hx)) (p := 1) hn (by decide) (okN.nI h0)) (p := 2) hn (by decide) (okN.nI h1)
theorem rl_pre (h : Rl Z σ μ) (hn : n < 64) {v : Int32} (hv : okP v) : Rl Z (va_up σ 2 (tset 1 (σ 2) (nI n) 0 v)) (va_up μ 4 (upd (μ 4) (nI n).toNatClampNeg v)) := by
  rw [nI_clamp (by omega), show tset 1 (σ 2) (nI n) 0 v = upd (σ 2) (n * 1 + 0) v from tset_nI (w := 1) (c := 0) (by decide) hn (by decide)]
  exact rl_P h hn hv
theorem rl_fin (h : Rl Z σ μ) (hn : n < 64) {i : Nat} (hi : i < 6) {v : Int32} (hv : okP v) : Rl Z (va_up σ 3 (tset 6 (σ 3) (nI n) (nI i) v)) (va_up μ 5 (upd (μ 5) ((6 : Int32) * nI n + nI i).toNatClampNeg v)) := by
  rw [show ((6 : Int32) * nI n + nI i).toNatClampNeg = n * 6 + i from ix_w (w := 6) (by decide) hn hi, tset_nI (by decide) hn hi]
  exact rl_Fg h hn hi hv
/-- a copy that is kept -/
theorem rl_cp (h : Rl Z σ μ) (hn : n < 64) {k t v : Nat} (hk : k < 64) (ht : 1 ≤ t) (ht2 : t < 2 ^ 30) (hv : v < 1000) :
    Rl Z (va_up (va_up σ 4 (tset 64 (σ 4) (nI n) (nI k) (nI v))) 5 (tset 64 (σ 5) (nI n) (nI k) (nI t))) (va_up (va_up μ 7 (upd (μ 7) ((64 : Int32) * nI n + nI k).toNatClampNeg (nI t))) 6 (upd (μ 6) ((64 : Int32) * nI n + nI k).toNatClampNeg (nI v))) := by
  rw [show ((64 : Int32) * nI n + nI k).toNatClampNeg = n * 64 + k from ix_w (w := 64) (by decide) hn hk, tset_nI (by decide) hn hk, tset_nI (by decide) hn hk]
  exact rl_Vl h hn hk ht ht2 hv
theorem fw_route {L U F : Nat → Int32} {key m x y : Int32} {k : Nat} {μ' : cS} {g : Nat → Int32} (hk : k < 64) (hp : pth L U F key m k = x) (hy : nxF L U F key x = y) (hr : ∀ j, j ≤ k → μ' 8 j = pth L U F key m j) : ∀ j, j ≤ k + 1 → (va_up (va_up μ' 9 g) 8 (upd (va_up μ' 9 g 8) (nI (k + 1)).toNatClampNeg y)) 8 j = pth L U F key m j := by
  intro j hj
  show upd (μ' 8) (nI (k + 1)).toNatClampNeg y j = _
  rw [nI_clamp (by omega)]
  by_cases h : j = k + 1
  · subst h
    rw [pk_us]
    show y = nxF L U F key (pth L U F key m k)
    rw [hp, hy]
  · rw [pk_un h]
    exact hr j (by omega)
end RW2
theorem fw_0 {L U F : Nat → Int32} {key x : Int32} {μ : cS} {g : Nat → Int32} : ∀ j, j ≤ 0 → (va_up (va_up μ 9 g) 8 (upd (va_up μ 9 g 8) (0 : Int32).toNatClampNeg x)) 8 j = pth L U F key x j := by
  intro j hj
  have h0 : j = 0 := by omega
  subst h0
  show upd (va_up μ 9 g 8) (0 : Int32).toNatClampNeg x 0 = x
  rw [sb_cl0, pk_us]
