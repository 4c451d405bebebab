/-! what the law's writers leave -/
theorem Ty.cells {ν δ κ : nF} {σ τ σ' τ' : cS} (h : Ty ν δ κ σ τ) (e0 : σ' 0 = σ 0) (e6 : σ' 6 0 = σ 6 0) (t0 : τ' 0 = τ 0) (t1 : τ' 1 = τ 1) (q : ∀ k, k < 10 → ν k < 64 → δ (ν k) = k → Nq κ σ τ (ν k) k → Nq κ σ' τ' (ν k) k) : Ty ν δ κ σ' τ' := by
  obtain ⟨h1, h2, h3, h4, h5, h6, h7⟩ := h
  unfold Ty
  rw [e0, e6, t0, t1]
  exact ⟨h1, h2, h3, h4, h5, h6, fun k hk e => q k hk (h1.1 k hk).1 (h1.1 k hk).2 (h7 k hk e)⟩
section TW
variable {Z : Nat} {ν δ κ : nF} {σ τ : cS} {n k : Nat}
theorem rq_U (h : Rq Z ν δ κ σ τ) {p : Nat} (hn : n < 64) (hd : δ n < 10) (hp : p < 3) {v : Int32} (hv : okN v) : Rq Z ν δ κ (va_up σ 1 (upd (σ 1) (n * 3 + p) v)) (va_up τ 2 (upd (τ 2) (δ n * 4 + p) v)) := by
  have en := h.nd hn hd
  obtain ⟨⟨μ, hR⟩, hT⟩ := h
  refine ⟨⟨_, rl_U hR hn hp hv⟩, hT.cells rfl rfl rfl rfl (fun k hk h64 hdk hN => ?_)⟩
  obtain ⟨a1, a2, a3, a4, a5, a6⟩ := hN
  refine ⟨fun i hi => ?_, ?_, a3, a4, a5, a6⟩
  · show upd (τ 2) (δ n * 4 + p) v (k * 4 + i) = upd (σ 1) (n * 3 + p) v (ν k * 3 + i)
    by_cases c : k = δ n ∧ i = p
    · obtain ⟨c1, c2⟩ := c
      rw [c1, c2, en, pk_us, pk_us]
    · have c3 : ¬ (ν k = n ∧ i = p) := fun q => c ⟨by rw [← q.1]; exact hdk.symm, q.2⟩
      rw [pk_un (by omega), pk_un (by omega)]
      exact a1 i hi
  · show upd (τ 2) (δ n * 4 + p) v (k * 4 + 3) = σ 2 (ν k * 1 + 0)
    rw [pk_un (by omega)]
    exact a2
theorem upd3 {f : Nat → Int32} {a b c : Nat} {x y z : Int32} (h1 : a ≠ b) (h2 : a ≠ c) (h3 : b ≠ c) : upd (upd (upd f a x) b y) c z = upd (upd (upd f c z) b y) a x := by
  funext j
  by_cases e1 : j = a
  · subst e1; rw [pk_us, pk_un h2, pk_un h1, pk_us]
  · rw [pk_un (f := upd (upd f c z) b y) e1]
    by_cases e2 : j = b
    · subst e2; rw [pk_us, pk_un h3, pk_us]
    · rw [pk_un (f := upd f c z) e2]
      by_cases e3 : j = c
      · subst e3; rw [pk_us, pk_us]
      · rw [pk_un e3, pk_un e2, pk_un e1, pk_un e3]
/-- adopt -/
theorem rq_fol (h : Rq Z ν δ κ σ τ) (hn : Lv σ n) {x j0 j1 : Nat} (hx : x < 64) (h0 : j0 < 64) (h1 : j1 < 64) (e0 : tat 3 (σ 1) (nI x) 0 = nI j0) (e1 : tat 3 (σ 1) (nI x) 1 = nI j1) {i0 i1 i2 : Nat} (hi0 : i0 = 4 * δ n) (hi1 : i1 = 4 * δ n + 1) (hi2 : i2 = 4 * δ n + 2) :
    Rq Z ν δ κ (foS σ (nI n) (nI x)) (va_up τ 2 (upd (upd (upd (τ 2) (nI i2).toNatClampNeg (nI j1)) (nI i1).toNatClampNeg (nI j0)) (nI i0).toNatClampNeg (nI x))) := by
  have hd := h.d9 hn
  have hn0 := hn.1
  rw [nI_clamp (by omega), nI_clamp (by omega), nI_clamp (by omega), ← upd3 (show i0 ≠ i1 by omega) (show i0 ≠ i2 by omega) (show i1 ≠ i2 by omega)]
  rw [show i0 = δ n * 4 + 0 by omega, show i1 = δ n * 4 + 1 by omega, show i2 = δ n * 4 + 2 by omega]
  unfold foS ssS
  rw [e0, e1, show tset 3 (σ 1) (nI n) 0 (nI x) = upd (σ 1) (n * 3 + 0) (nI x) from tset_nI (w := 3) (c := 0) (by decide) hn0 (by decide)]
  rw [show tset 3 (upd (σ 1) (n * 3 + 0) (nI x)) (nI n) 1 (nI j0) = upd (upd (σ 1) (n * 3 + 0) (nI x)) (n * 3 + 1) (nI j0) from tset_nI (w := 3) (c := 1) (by decide) hn0 (by decide)]
  rw [show tset 3 (upd (upd (σ 1) (n * 3 + 0) (nI x)) (n * 3 + 1) (nI j0)) (nI n) 2 (nI j1) = upd (upd (upd (σ 1) (n * 3 + 0) (nI x)) (n * 3 + 1) (nI j0)) (n * 3 + 2) (nI j1) from tset_nI (w := 3) (c := 2) (by decide) hn0 (by decide)]
  have q := rq_U (rq_U (rq_U h (p := 0) hn0 hd (by decide) (okN.nI hx)) (p := 1) hn0 hd (by decide) (okN.nI h0)) (p := 2) hn0 hd (by decide) (okN.nI h1)
  have q2 : Rq Z ν δ κ _ (va_up (va_up (va_up τ 2 (upd (τ 2) (δ n * 4 + 0) (nI x))) 2 (upd (upd (τ 2) (δ n * 4 + 0) (nI x)) (δ n * 4 + 1) (nI j0))) 2 (upd (upd (upd (τ 2) (δ n * 4 + 0) (nI x)) (δ n * 4 + 1) (nI j0)) (δ n * 4 + 2) (nI j1))) := q
  rw [va_up2, va_up2] at q2
  exact q2
theorem rq_pre (h : Rq Z ν δ κ σ τ) (hn : n < 64) (hd : δ n < 10) {v : Int32} (hv : okP v) {i : Nat} (hi : i = 4 * δ n + 3) : Rq Z ν δ κ (va_up σ 2 (tset 1 (σ 2) (nI n) 0 v)) (va_up τ 2 (upd (τ 2) (nI i).toNatClampNeg v)) := by
  have en := h.nd hn hd
  rw [nI_clamp (by omega), show tset 1 (σ 2) (nI n) 0 v = upd (σ 2) (n * 1 + 0) v from tset_nI (w := 1) (c := 0) (by decide) hn (by decide), show i = δ n * 4 + 3 by omega]
  obtain ⟨⟨μ, hR⟩, hT⟩ := h
  refine ⟨⟨_, rl_P hR hn hv⟩, hT.cells rfl rfl rfl rfl (fun k hk h64 hdk hN => ?_)⟩
  obtain ⟨a1, a2, a3, a4, a5, a6⟩ := hN
  refine ⟨fun p hp => ?_, ?_, a3, a4, a5, a6⟩
  · show upd (τ 2) (δ n * 4 + 3) v (k * 4 + p) = σ 1 (ν k * 3 + p)
    rw [pk_un (by omega)]
    exact a1 p hp
  · show upd (τ 2) (δ n * 4 + 3) v (k * 4 + 3) = upd (σ 2) (n * 1 + 0) v (ν k * 1 + 0)
    by_cases c : k = δ n
    · rw [c, en, pk_us, pk_us]
    · have c3 : ¬ ν k = n := fun q => c (by rw [← q]; exact hdk.symm)
      rw [pk_un (by omega), pk_un (by omega)]
      exact a2
theorem rq_fin (h : Rq Z ν δ κ σ τ) (hn : n < 64) (hd : δ n < 10) {p : Nat} (hp : p < 6) {v : Int32} (hv : okP v) {i : Nat} (hi : i = 6 * δ n + p) : Rq Z ν δ κ (va_up σ 3 (tset 6 (σ 3) (nI n) (nI p) v)) (va_up τ 3 (upd (τ 3) (nI i).toNatClampNeg v)) := by
  have en := h.nd hn hd
  rw [nI_clamp (by omega), tset_nI (by decide) hn hp, show i = δ n * 6 + p by omega]
  obtain ⟨⟨μ, hR⟩, hT⟩ := h
  refine ⟨⟨_, rl_Fg hR hn hp hv⟩, hT.cells rfl rfl rfl rfl (fun k hk h64 hdk hN => ?_)⟩
  obtain ⟨a1, a2, a3, a4, a5, a6⟩ := hN
  refine ⟨a1, a2, fun i hi => ?_, a4, a5, a6⟩
  show upd (τ 3) (δ n * 6 + p) v (k * 6 + i) = upd (σ 3) (n * 6 + p) v (ν k * 6 + i)
  by_cases c : k = δ n ∧ i = p
  · obtain ⟨c1, c2⟩ := c
    rw [c1, c2, en, pk_us, pk_us]
  · have c3 : ¬ (ν k = n ∧ i = p) := fun q => c ⟨by rw [← q.1]; exact hdk.symm, q.2⟩
    rw [pk_un (by omega), pk_un (by omega)]
    exact a3 i hi
/-- a value and its stamp are set -/
theorem rq_Vl (h : Rq Z ν δ κ σ τ) (hn : n < 64) (hd : δ n < 10) {c t : Nat} (hc : c < 6) (h1 : 1 ≤ t) (ht : t < 1000) :
    Rq Z ν δ κ (va_up (va_up σ 4 (upd (σ 4) (n * 64 + κ c) (nI t))) 5 (upd (σ 5) (n * 64 + κ c) (nI t))) (va_up τ 4 (upd (τ 4) (δ n * 6 + c) (nI t))) := by
  have en := h.nd hn hd
  have hk := h.ka hc
  have hj := h.fx.2.2.2
  have hq : ∀ i, i < 6 → κ i < 64 := fun i hi => h.ka hi
  obtain ⟨⟨μ, hR⟩, hT⟩ := h
  refine ⟨⟨_, rl_Vl hR hn hk h1 (by omega) ht⟩, hT.cells rfl rfl rfl rfl (fun k hk0 h64 hdk hN => ?_)⟩
  obtain ⟨a1, a2, a3, a4, a5, a6⟩ := hN
  refine ⟨a1, a2, a3, fun i hi => ?_, fun j hj0 => ?_, fun j hj0 ho => ?_⟩
  · show upd (τ 4) (δ n * 6 + c) (nI t) (k * 6 + i) = upd (σ 5) (n * 64 + κ c) (nI t) (ν k * 64 + κ i)
    by_cases e : k = δ n ∧ i = c
    · obtain ⟨c1, c2⟩ := e
      rw [c1, c2, en, pk_us, pk_us]
    · have h6 := hq i hi
      have c3 : ¬ (ν k = n ∧ κ i = κ c) := fun q => e ⟨by rw [← q.1]; exact hdk.symm, hj i c hi hc q.2⟩
      rw [pk_un (by omega), pk_un (by omega)]
      exact a4 i hi
  · show upd (σ 4) (n * 64 + κ c) (nI t) (ν k * 64 + j) = upd (σ 5) (n * 64 + κ c) (nI t) (ν k * 64 + j)
    by_cases e : ν k * 64 + j = n * 64 + κ c
    · rw [e, pk_us, pk_us]
    · rw [pk_un e, pk_un e]; exact a5 j hj0
  · show upd (σ 5) (n * 64 + κ c) (nI t) (ν k * 64 + j) = -1
    have h6 := ho c hc
    rw [pk_un (by omega)]
    exact a6 j hj0 ho
theorem nI_m1le {t : Nat} (h : t < 2 ^ 31) : (-1 : Int32) ≤ nI t := Int32.le_trans (show (-1 : Int32) ≤ 0 by decide) (nI_pos' h)
/-- give -/
theorem rq_gc1 (h : Rq Z ν δ κ σ τ) {f t c : Nat} (hf : Lv σ f) (ht : Lv σ t) (hc : c < 6) {v : Int32} (hv : v = tat 64 (σ 5) (nI f) (nI (κ c))) {i : Nat} (hi : i = 6 * δ t + c) (q : ¬ v ≤ τ 4 (nI i).toNatClampNeg) :
    gcC σ (nI f) (nI t) (nI (κ c)) = 1 ∧ Rq Z ν δ κ (gcS σ (nI f) (nI t) (nI (κ c))) (va_up τ 4 (upd (τ 4) (nI i).toNatClampNeg v)) := by
  have hd := h.d9 ht
  have e4 := rq_w h ht rfl c hc hi
  have hk := h.ka hc
  have q2 : tat 64 (σ 5) (nI t) (nI (κ c)) < tat 64 (σ 5) (nI f) (nI (κ c)) := by
    rw [← e4, ← hv]; exact Int32.not_le.mp q
  refine ⟨by rw [gcC, if_pos q2], ?_⟩
  rw [gcS, if_pos q2, rq_v h hf hk, ← hv]
  rcases rq_st h hf hk with e | ⟨u, h1, h2, e⟩
  · exfalso
    rcases rq_st h ht hk with e5 | ⟨w, -, h3, e5⟩
    · rw [e, e5] at q2; exact absurd q2 (by decide)
    · rw [e, e5] at q2; exact absurd (nI_m1le (by omega)) (Int32.not_le.mpr q2)
  · rw [hv, e, tset_nI (by decide) ht.1 hk, tset_nI (by decide) ht.1 hk, nI_clamp (by omega), show i = δ t * 6 + c by omega]
    exact rq_Vl h ht.1 hd hc h1 h2
theorem rq_gc0 (h : Rq Z ν δ κ σ τ) {f t c : Nat} (hf : Lv σ f) (ht : Lv σ t) (hc : c < 6) {v : Int32} (hv : v = tat 64 (σ 5) (nI f) (nI (κ c))) {i : Nat} (hi : i = 6 * δ t + c) (q : v ≤ τ 4 (nI i).toNatClampNeg) :
    gcC σ (nI f) (nI t) (nI (κ c)) = 0 ∧ gcS σ (nI f) (nI t) (nI (κ c)) = σ ∧ Rq Z ν δ κ (gcS σ (nI f) (nI t) (nI (κ c))) (va_up τ 4 (upd (τ 4) (nI i).toNatClampNeg (τ 4 (nI i).toNatClampNeg))) := by
  have e4 := rq_w h ht rfl c hc hi
  have q2 : ¬ tat 64 (σ 5) (nI t) (nI (κ c)) < tat 64 (σ 5) (nI f) (nI (κ c)) := by
    rw [← e4, ← hv]; exact Int32.not_lt.mpr q
  rw [gcC, if_neg q2, gcS, if_neg q2, va_upr rfl]
  exact ⟨rfl, rfl, h⟩
/-- a node lives no more -/
theorem rq_die (h : Rq Z ν δ κ σ τ) (hn : n < 64) (hd : δ n < 10) {i : Nat} (hi : i = 10 + δ n) : Rq Z ν δ κ (saS σ (nI n) 0) (va_up τ 1 (upd (τ 1) (nI i).toNatClampNeg 0)) := by
  have en := h.nd hn hd
  rw [nI_clamp (by omega), hi]
  obtain ⟨⟨μ, hR⟩, h1, h2, h3, h4, h5, h6, h7⟩ := h
  have e : saS σ (nI n) 0 = va_up σ 0 (upd (σ 0) n 0) := by
    rw [saS, if_neg (nI_pos (by omega)), if_neg (nI_ge (b := 64) hn (by decide)), nI_clamp (by omega)]
    rfl
  have hR2 := rl_die hR hn
  rw [e] at hR2 ⊢
  refine ⟨⟨_, hR2⟩, h1, h2, fun k hk => ⟨?_, ?_⟩, fun i hi => ?_, ?_, fun m hm q => ?_, fun k hk q => ?_⟩
  · show upd (τ 1) (10 + δ n) 0 k = nI (ν k)
    rw [pk_un (by omega)]; exact (h3 k hk).1
  · show upd (τ 1) (10 + δ n) 0 (10 + k) = upd (σ 0) n 0 (ν k)
    by_cases c : k = δ n
    · rw [c, en, pk_us, pk_us]
    · have c3 : ¬ ν k = n := fun q => c (by rw [← q]; exact (h1.1 k hk).2.symm)
      rw [pk_un (by omega), pk_un c3]; exact (h3 k hk).2
  · show upd (τ 1) (10 + δ n) 0 (20 + i) = nI (κ i)
    rw [pk_un (by omega)]; exact h4 i hi
  · show upd (τ 1) (10 + δ n) 0 26 = σ 6 0
    rw [pk_un (by omega)]; exact h5
  · show upd (σ 0) n 0 m = 0
    by_cases c : m = n
    · rw [c, pk_us]
    · rw [pk_un c]; exact h6 m hm q
  · have q : upd (σ 0) n 0 (ν k) = 1 := q
    by_cases c : ν k = n
    · rw [c, pk_us] at q; exact absurd q (by decide)
    · rw [pk_un c] at q; exact h7 k hk q
/-- a value is put: its stamp is the value -/
theorem rq_put (h : Rq Z ν δ κ σ τ) (hn : Lv σ n) {c z : Nat} (hc : c < 6) (hz : z ≤ Z) (hZ : Z + 1 < 1000) (e : σ 6 0 = nI z) {i : Nat} (hi : i = 6 * δ n + c) :
    Rq (Z + 1) ν δ κ (puA σ (nI n) (nI (κ c)) (nI (z + 1))) (va_up (va_up τ 1 (upd (τ 1) 26 (nI (z + 1)))) 4 (upd (τ 4) (nI i).toNatClampNeg (nI (z + 1)))) := by
  have hd := h.d9 hn
  have hk := h.ka hc
  have hn0 := hn.1
  have h9 : Rq (Z + 1) ν δ κ (va_up σ 6 (fun _ => nI (z + 1))) (va_up τ 1 (upd (τ 1) 26 (nI (z + 1)))) := by
    obtain ⟨⟨μ, q1, q2, z0, q3, q4, q5⟩, h1, h2, h3, h4, h5, h6, h7⟩ := h
    refine ⟨⟨va_up μ 1 (fun _ => nI (z + 1)), q1, q2, z + 1, by omega, rfl, rfl⟩, h1, h2, fun k hk => ⟨?_, ?_⟩, fun i hi => ?_, ?_, h6, h7⟩
    · show upd (τ 1) 26 (nI (z + 1)) k = nI (ν k)
      rw [pk_un (by omega)]; exact (h3 k hk).1
    · show upd (τ 1) 26 (nI (z + 1)) (10 + k) = σ 0 (ν k)
      rw [pk_un (by omega)]; exact (h3 k hk).2
    · show upd (τ 1) 26 (nI (z + 1)) (20 + i) = nI (κ i)
      rw [pk_un (by omega)]; exact h4 i hi
    · show upd (τ 1) 26 (nI (z + 1)) 26 = nI (z + 1)
      rw [pk_us]
  have h8 := rq_Vl h9 hn0 hd hc (t := z + 1) (by omega) (by omega)
  rw [puA, e, nI_1, tset_nI (by decide) hn0 hk, tset_nI (by decide) hn0 hk, nI_clamp (by omega), show i = δ n * 6 + c by omega]
  exact h8
/-- six cells of the slot k set to none, the first j of them -/
def qclr (f : Nat → Int32) (k : Nat) : Nat → (Nat → Int32)
  | 0 => f
  | j + 1 => upd (qclr f k j) (nI (6 * k + j)).toNatClampNeg (-1)
theorem qclr_at {f : Nat → Int32} (hk : k < 10) (i : Nat) : ∀ j, j ≤ 6 → qclr f k j i = if k * 6 ≤ i ∧ i < k * 6 + j then -1 else f i := by
  intro j
  induction j with
  | zero => intro _; rw [qclr, if_neg (by omega)]
  | succ j ih =>
    intro hj
    rw [qclr, nI_clamp (by omega), show 6 * k + j = k * 6 + j by omega]
    by_cases c : i = k * 6 + j
    · subst c; rw [pk_us, if_pos (by omega)]
    · rw [pk_un c, ih (by omega)]
      by_cases d : k * 6 ≤ i ∧ i < k * 6 + j
      · rw [if_pos d, if_pos (by omega)]
      · rw [if_neg d, if_neg (by omega)]
/-- a node begins to live -/
theorem rq_beg (h : Rq Z ν δ κ σ τ) (hn : n < 64) (hd : δ n < 10) {x y z : Nat} (hx : x < 64) (hy : y < 64) (hz : z < 64) {τ' : cS} (t0 : τ' 0 = τ 0) (t1 : τ' 1 = upd (τ 1) (nI (10 + δ n)).toNatClampNeg 1) (t2 : τ' 2 = upd (upd (upd (upd (τ 2) (nI (4 * δ n)).toNatClampNeg (nI x)) (nI (4 * δ n + 1)).toNatClampNeg (nI y)) (nI (4 * δ n + 2)).toNatClampNeg (nI z)) (nI (4 * δ n + 3)).toNatClampNeg (-1)) (t3 : τ' 3 = qclr (τ 3) (δ n) 6) (t4 : τ' 4 = qclr (τ 4) (δ n) 6) :
    Rq Z ν δ κ (blS σ (nI n) (nI x) (nI y) (nI z)) τ' := by
  have en := h.nd hn hd
  rw [nI_clamp (by omega)] at t1
  rw [nI_clamp (by omega), nI_clamp (by omega), nI_clamp (by omega), nI_clamp (by omega)] at t2
  obtain ⟨⟨μ, hR⟩, h1, h2, h3, h4, h5, h6, h7⟩ := h
  have hR2 : Rl Z (blS σ (nI n) (nI x) (nI y) (nI z)) (fun i => if i = 2 then upd (μ 2) n 1 else if i = 3 then upd (upd (upd (μ 3) (n * 3 + 0) (nI x)) (n * 3 + 1) (nI y)) (n * 3 + 2) (nI z) else if i = 4 then upd (μ 4) n (-1) else if i = 5 then mclr 6 (-1) (μ 5) n 6 else if i = 7 then mclr 64 0 (μ 7) n 64 else μ i) :=
    rl_beg hR hn hx hy hz (blS_0 hn) (blS_1 hn) (blS_2 hn) (blS_3 hn) (blS_4 hn) (blS_5 hn) (blS_6 hn) rfl rfl rfl rfl rfl rfl rfl
  refine ⟨⟨_, hR2⟩, h1, ?_, fun k hk => ⟨?_, ?_⟩, fun i hi => ?_, ?_, fun m hm q => ?_, fun k hk q => ?_⟩
  · rw [t0]; exact h2
  · rw [t1, pk_un (by omega)]; exact (h3 k hk).1
  · rw [t1, blS_0 hn]
    by_cases c : k = δ n
    · rw [c, en, pk_us, pk_us]
    · have c3 : ¬ ν k = n := fun q => c (by rw [← q]; exact (h1.1 k hk).2.symm)
      rw [pk_un (by omega), pk_un c3]; exact (h3 k hk).2
  · rw [t1, pk_un (by omega)]; exact h4 i hi
  · rw [t1, blS_6 hn, pk_un (by omega)]; exact h5
  · rw [blS_0 hn]
    have c : m ≠ n := fun e => q (by rw [e]; exact hd)
    rw [pk_un c]; exact h6 m hm q
  · rw [blS_0 hn] at q
    unfold Nq
    rw [blS_1 hn, blS_2 hn, blS_3 hn, blS_4 hn, blS_5 hn, t2, t3, t4]
    have h64 := (h1.1 k hk).1
    by_cases c : ν k = n
    · have c4 : k = δ n := by rw [← c]; exact (h1.1 k hk).2.symm
      rw [c, c4]
      refine ⟨fun p hp => ?_, ?_, fun i hi => ?_, fun i hi => ?_, fun j hj => ?_, fun j hj ho => ?_⟩
      · rcases (show p = 0 ∨ p = 1 ∨ p = 2 by omega) with rfl | rfl | rfl
        · rw [pk_un (by omega), pk_un (by omega), pk_un (by omega), show δ n * 4 + 0 = 4 * δ n by omega, pk_us, pk_un (by omega), pk_un (by omega), pk_us]
        · rw [pk_un (by omega), pk_un (by omega), show δ n * 4 + 1 = 4 * δ n + 1 by omega, pk_us, pk_un (by omega), pk_us]
        · rw [pk_un (by omega), show δ n * 4 + 2 = 4 * δ n + 2 by omega, pk_us, pk_us]
      · rw [show δ n * 4 + 3 = 4 * δ n + 3 by omega, pk_us, tclr_at (by decide) hn _ 1 (by decide), if_pos (by omega)]
      · rw [qclr_at hd _ 6 (by decide), if_pos (by omega), tclr_at (by decide) hn _ 6 (by decide), if_pos (by omega)]
      · have hk9 := h1.2.2.1 i hi
        rw [qclr_at hd _ 6 (by decide), if_pos (by omega), tclr_at (by decide) hn _ 64 (by decide), if_pos (by omega)]
      · rw [tclr_at (by decide) hn _ 64 (by decide), if_pos (by omega), tclr_at (by decide) hn _ 64 (by decide), if_pos (by omega)]
      · rw [tclr_at (by decide) hn _ 64 (by decide), if_pos (by omega)]
    · have c3 : ¬ k = δ n := fun e => c (by rw [e]; exact en)
      rw [pk_un c] at q
      obtain ⟨a1, a2, a3, a4, a5, a6⟩ := h7 k hk q
      refine ⟨fun p hp => ?_, ?_, fun i hi => ?_, fun i hi => ?_, fun j hj => ?_, fun j hj ho => ?_⟩
      · rw [pk_un (by omega), pk_un (by omega), pk_un (by omega), pk_un (by omega), pk_un (by omega), pk_un (by omega), pk_un (by omega)]; exact a1 p hp
      · rw [pk_un (by omega), pk_un (by omega), pk_un (by omega), pk_un (by omega), tclr_at (by decide) hn _ 1 (by decide), if_neg (by omega)]; exact a2
      · rw [qclr_at hd _ 6 (by decide), if_neg (by omega), tclr_at (by decide) hn _ 6 (by decide), if_neg (by omega)]; exact a3 i hi
      · have hk9 := h1.2.2.1 i hi
        rw [qclr_at hd _ 6 (by decide), if_neg (by omega), tclr_at (by decide) hn _ 64 (by decide), if_neg (by omega)]; exact a4 i hi
      · rw [tclr_at (by decide) hn _ 64 (by decide), if_neg (by omega), tclr_at (by decide) hn _ 64 (by decide), if_neg (by omega)]; exact a5 j hj
      · rw [tclr_at (by decide) hn _ 64 (by decide), if_neg (by omega)]; exact a6 j hj ho
end TW
