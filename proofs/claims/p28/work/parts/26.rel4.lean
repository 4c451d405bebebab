section RW4
variable {Z : Nat} {σ μ : cS} {n k : Nat}
theorem sv_s0 {σ' : cS} {m : Int32} (h9 : σ' = svS σ m k) (hb : tat 64 (σ' 4) m (nI k) = -1) : σ' = svS σ m (k + 1) := by
  rw [svS, ← h9, if_pos hb]
theorem sv_c0 {σ' : cS} {m x : Int32} (h9 : σ' = svS σ m k) (hx : x = svC σ m k) (hb : tat 64 (σ' 4) m (nI k) = -1) : x = svC σ m (k + 1) := by
  rw [svC, ← h9, if_pos hb]; exact hx
theorem sv_s {σ' X : cS} {m : Int32} (h9 : σ' = svS σ m k) (hb : ¬ tat 64 (σ' 4) m (nI k) = -1) (hs : spS σ' m (nI k) = X) : X = svS σ m (k + 1) := by
  rw [svS, ← h9, if_neg hb, hs]
theorem sv_c {σ' : cS} {m x r : Int32} (h9 : σ' = svS σ m k) (hx : x = svC σ m k) (hb : ¬ tat 64 (σ' 4) m (nI k) = -1) (hs : spC σ' m (nI k) = r) : x + r = svC σ m (k + 1) := by
  rw [svC, ← h9, if_neg hb, hs, hx]
theorem tat_ne {σ' : cS} {m : Int32} {v : Nat} (e : tat 64 (σ' 4) m (nI k) = nI v) (hv : v < 1000) : ¬ tat 64 (σ' 4) m (nI k) = -1 := by
  rw [e]; exact nI_ne1 (by omega)
/-- a row of w cells of node n set to v, the first k of them -/
def mclr (w : Nat) (v : Int32) (f : Nat → Int32) (n : Nat) : Nat → (Nat → Int32)
  | 0 => f
  | k + 1 => upd (mclr w v f n k) (nI w * nI n + nI k).toNatClampNeg v
theorem mclr_at {w : Nat} {v : Int32} {f : Nat → Int32} (hw : w ≤ 64) (hn : n < 64) (i : Nat) : ∀ k, k ≤ w → mclr w v f n k i = if n * w ≤ i ∧ i < n * w + k then v else f i := by
  intro k
  induction k with
  | zero => intro _; rw [mclr, if_neg (by omega)]
  | succ k ih =>
    intro hk
    rw [mclr, ix_w hw hn (by omega)]
    by_cases c : i = n * w + k
    · subst c; rw [pk_us, if_pos (by omega)]
    · rw [pk_un c, ih (by omega)]
      by_cases d : n * w ≤ i ∧ i < n * w + k
      · rw [if_pos d, if_pos (by omega)]
      · rw [if_neg d, if_neg (by omega)]
theorem tclr_at {w : Nat} {f : Nat → Int32} (hw : w ≤ 64) (hn : n < 64) (i : Nat) : ∀ k, k ≤ w → tclr w f (nI n) k i = if n * w ≤ i ∧ i < n * w + k then -1 else f i := by
  intro k
  induction k with
  | zero => intro _; rw [tclr, if_neg (by omega)]
  | succ k ih =>
    intro hk
    rw [tclr, tset_nI hw hn (by omega)]
    by_cases c : i = n * w + k
    · subst c; rw [pk_us, if_pos (by omega)]
    · rw [pk_un c, ih (by omega)]
      by_cases d : n * w ≤ i ∧ i < n * w + k
      · rw [if_pos d, if_pos (by omega)]
      · rw [if_neg d, if_neg (by omega)]
theorem vu_eq {α : Type} {f : Nat → α} {k : Nat} {v : α} : va_up f k v k = v := if_pos rfl
theorem vu_ne {α : Type} {f : Nat → α} {k j : Nat} {v : α} (h : j ≠ k) : va_up f k v j = f j := if_neg h
theorem blS_0 (hn : n < 64) {x y z : Int32} : blS σ (nI n) x y z 0 = upd (σ 0) n 1 := by
  have e : blD σ (nI n) x y z 0 = σ 0 := by
    rw [blD, vu_ne (by decide), blC, vu_ne (by decide), blB, vu_ne (by decide), blA, vu_ne (by decide), ssS, vu_ne (by decide), vu_ne (by decide), vu_ne (by decide)]
  rw [blS, saS, if_neg (nI_pos (by omega)), if_neg (nI_ge (b := 64) hn (by decide)), nI_clamp (by omega), vu_eq, e]
  rfl
theorem blS_n (hn : n < 64) {x y z : Int32} {i : Nat} (hi : i ≠ 0) : blS σ (nI n) x y z i = blD σ (nI n) x y z i := by
  rw [blS, saS, if_neg (nI_pos (by omega)), if_neg (nI_ge (b := 64) hn (by decide)), vu_ne hi]
theorem ssS_1 {m x y z : Int32} : ssS σ m x y z 1 = tset 3 (tset 3 (tset 3 (σ 1) m 0 x) m 1 y) m 2 z := by rw [ssS, vu_eq]
theorem ssS_n {m x y z : Int32} {i : Nat} (hi : i ≠ 1) : ssS σ m x y z i = σ i := by rw [ssS, vu_ne hi, vu_ne hi, vu_ne hi]
theorem blS_1 (hn : n < 64) {x y z : Int32} : blS σ (nI n) x y z 1 = upd (upd (upd (σ 1) (n * 3 + 0) x) (n * 3 + 1) y) (n * 3 + 2) z := by
  rw [blS_n hn (by decide), blD, vu_ne (by decide), blC, vu_ne (by decide), blB, vu_ne (by decide), blA, vu_ne (by decide), ssS_1]
  rw [show tset 3 (σ 1) (nI n) 0 x = upd (σ 1) (n * 3 + 0) x from tset_nI (w := 3) (c := 0) (by decide) hn (by decide)]
  rw [show tset 3 (upd (σ 1) (n * 3 + 0) x) (nI n) 1 y = upd (upd (σ 1) (n * 3 + 0) x) (n * 3 + 1) y from tset_nI (w := 3) (c := 1) (by decide) hn (by decide)]
  exact tset_nI (w := 3) (c := 2) (by decide) hn (by decide)
theorem blS_2 (hn : n < 64) {x y z : Int32} : blS σ (nI n) x y z 2 = tclr 1 (σ 2) (nI n) 1 := by
  rw [blS_n hn (by decide), blD, vu_ne (by decide), blC, vu_ne (by decide), blB, vu_ne (by decide), blA, vu_eq, ssS_n (by decide)]
theorem blS_3 (hn : n < 64) {x y z : Int32} : blS σ (nI n) x y z 3 = tclr 6 (σ 3) (nI n) 6 := by
  rw [blS_n hn (by decide), blD, vu_ne (by decide), blC, vu_ne (by decide), blB, vu_eq, blA, vu_ne (by decide), ssS_n (by decide)]
theorem blS_4 (hn : n < 64) {x y z : Int32} : blS σ (nI n) x y z 4 = tclr 64 (σ 4) (nI n) 64 := by
  rw [blS_n hn (by decide), blD, vu_ne (by decide), blC, vu_eq, blB, vu_ne (by decide), blA, vu_ne (by decide), ssS_n (by decide)]
theorem blS_5 (hn : n < 64) {x y z : Int32} : blS σ (nI n) x y z 5 = tclr 64 (σ 5) (nI n) 64 := by
  rw [blS_n hn (by decide), blD, vu_eq, blC, vu_ne (by decide), blB, vu_ne (by decide), blA, vu_ne (by decide), ssS_n (by decide)]
theorem blS_6 (hn : n < 64) {x y z : Int32} : blS σ (nI n) x y z 6 = σ 6 := by
  rw [blS_n hn (by decide), blD, vu_ne (by decide), blC, vu_ne (by decide), blB, vu_ne (by decide), blA, vu_ne (by decide), ssS_n (by decide)]
theorem rl_beg (h : Rl Z σ μ) (hn : n < 64) {x y z : Nat} (hx : x < 64) (hy : y < 64) (hz : z < 64) {σ' μ' : cS} (e0 : σ' 0 = upd (σ 0) n 1) (e1 : σ' 1 = upd (upd (upd (σ 1) (n * 3 + 0) (nI x)) (n * 3 + 1) (nI y)) (n * 3 + 2) (nI z)) (e2 : σ' 2 = tclr 1 (σ 2) (nI n) 1) (e3 : σ' 3 = tclr 6 (σ 3) (nI n) 6) (e4 : σ' 4 = tclr 64 (σ 4) (nI n) 64) (e5 : σ' 5 = tclr 64 (σ 5) (nI n) 64) (e6 : σ' 6 = σ 6)
    (m1 : μ' 1 = μ 1) (m2 : μ' 2 = upd (μ 2) n 1) (m3 : μ' 3 = upd (upd (upd (μ 3) (n * 3 + 0) (nI x)) (n * 3 + 1) (nI y)) (n * 3 + 2) (nI z)) (m4 : μ' 4 = upd (μ 4) n (-1)) (m5 : μ' 5 = mclr 6 (-1) (μ 5) n 6) (m6 : μ' 6 = μ 6) (m7 : μ' 7 = mclr 64 0 (μ 7) n 64) : Rl Z σ' μ' := by
  unfold Rl
  rw [e0, e6, m1, m2]
  refine ⟨fun m hm => ?_, fun m hm e => ?_, h.2.2⟩
  · by_cases c : m = n
    · subst c; rw [pk_us, pk_us]; exact ⟨rfl, Or.inr rfl⟩
    · rw [pk_un c, pk_un c]; exact h.1 m hm
  · unfold Nd
    rw [e1, e2, e3, e4, e5, m3, m4, m5, m6, m7]
    by_cases c : m = n
    · subst c
      refine ⟨fun p hp => ?_, ?_, fun i hi => ?_, fun k hk => ?_⟩
      · rcases (show p = 0 ∨ p = 1 ∨ p = 2 by omega) with rfl | rfl | rfl
        · rw [pk_un (by omega), pk_un (by omega), pk_us, pk_un (by omega), pk_un (by omega), pk_us]; exact ⟨okN.nI hx, rfl⟩
        · rw [pk_un (by omega), pk_us, pk_un (by omega), pk_us]; exact ⟨okN.nI hy, rfl⟩
        · rw [pk_us, pk_us]; exact ⟨okN.nI hz, rfl⟩
      · rw [tclr_at (by decide) hn _ 1 (by decide), if_pos (by omega), pk_us]; exact ⟨okP.m1, rfl⟩
      · rw [tclr_at (by decide) hn _ 6 (by decide), if_pos (by omega), mclr_at (by decide) hn _ 6 (by decide), if_pos (by omega)]; exact ⟨okP.m1, rfl⟩
      · rw [tclr_at (by decide) hn _ 64 (by decide), if_pos (by omega), tclr_at (by decide) hn _ 64 (by decide), if_pos (by omega), mclr_at (by decide) hn _ 64 (by decide), if_pos (by omega)]
        exact Or.inl ⟨rfl, rfl, rfl⟩
    · have e : upd (σ 0) n 1 m = 1 := e
      rw [pk_un c] at e
      obtain ⟨h1, h2, h3, h4⟩ := h.2.1 m hm e
      refine ⟨fun p hp => ?_, ?_, fun i hi => ?_, fun k hk => ?_⟩
      · rw [pk_un (by omega), pk_un (by omega), pk_un (by omega), pk_un (by omega), pk_un (by omega), pk_un (by omega)]; exact h1 p hp
      · rw [tclr_at (by decide) hn _ 1 (by decide), if_neg (by omega), pk_un c]; exact h2
      · rw [tclr_at (by decide) hn _ 6 (by decide), if_neg (by omega), mclr_at (by decide) hn _ 6 (by decide), if_neg (by omega)]; exact h3 i hi
      · rw [tclr_at (by decide) hn _ 64 (by decide), if_neg (by omega), tclr_at (by decide) hn _ 64 (by decide), if_neg (by omega), mclr_at (by decide) hn _ 64 (by decide), if_neg (by omega)]; exact h4 k hk
end RW4
def mvA (N : Nat) (f g : Nat → Int32) : Nat → Int32 := fun j => if j < N then f j else g j
theorem mvA_0 {f g : Nat → Int32} : mvA 0 f g = g := by funext j; simp [mvA]
theorem mvA_s {f g : Nat → Int32} {k : Nat} (hk : k < 2 ^ 31) : upd (mvA k f g) (nI k).toNatClampNeg (f (nI k).toNatClampNeg) = mvA (k + 1) f g := by
  rw [nI_clamp hk]
  funext j
  simp only [upd, mvA]
  by_cases c : j = k
  · subst c; rw [if_pos rfl, if_pos (by omega)]
  · rw [if_neg c]
    by_cases d : j < k
    · rw [if_pos d, if_pos (by omega)]
    · rw [if_neg d, if_neg (by omega)]
def wV (G : cG) (p q N : Nat) (f g : Nat → Int32) : va_W := [(p, .inl (G.2.1, N, .inl f)), (q, .inl (G.2.1, N, .inl g))]
