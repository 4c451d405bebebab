/-! pure rows for the reference's readers -/
def wM (G : cG) (b : Nat → Nat) (μ : cS) : va_W :=
  [(b 0, .inr (2, [.int (μ 0 0), .int (μ 1 0), .ref (b 1), .ref (b 2), .ref (b 3), .ref (b 4), .ref (b 5), .ref (b 6), .ref (b 7), .int (μ 9 0), .ref (b 8), .ref (b 9), .ref (b 10)])),
   (b 1, .inl (G.2.2.1, 64, .inl (μ 2))), (b 2, .inl (G.2.1, 64 * 3, .inl (μ 3))), (b 3, .inl (G.2.1, 64, .inl (μ 4))), (b 4, .inl (G.2.1, 64 * 6, .inl (μ 5))),
   (b 5, .inl (G.2.1, 64 * 64, .inl (μ 6))), (b 6, .inl (G.2.1, 64 * 64, .inl (μ 7))), (b 7, .inl (G.2.1, 65, .inl (μ 8))),
   (b 8, .inl (G.2.1, 64 * 3, .inl (μ 10))), (b 9, .inl (G.2.1, 64, .inl (μ 11))), (b 10, .inl (G.2.1, 64 * 6, .inl (μ 12)))]
section CQ
variable {p : Program} {l : Launch} {e : Env} {R : Room} {s : State} {m : MethodId} {args : Array Value} {below : List Frame} {meth : Method} {c : Code} {H : Heap} {locs : List Loc} {cells slots : Nat} {Q : State → Prop} {pc : Nat} {ls : Array Slot} {rest : List Value}
theorem co_eq {x y : Int32} (h : x = y) (k : W p l e R s m args below meth c H locs cells slots Q (F0 m pc ls (.int y :: rest))) : W p l e R s m args below meth c H locs cells slots Q (F0 m pc ls (.int x :: rest)) := by
  rw [h]; exact k
end CQ
def idB (x : Int32) : Bool := if x < 0 then false else if 64 ≤ x then false else true
def upm (a b : Nat) : Nat := (b + 64 - a) % 64
theorem rem64 {a : Nat} (ha : a < 2 ^ 31) : nI a - nI a / 64 * 64 = nI (a % 64) := pk_rem (d := 64) ha (by decide) (by decide)
theorem up_leaf {a b : Nat} (ha : a < 64) (hb : b < 64) : (nI b - nI a + 64) - (nI b - nI a + 64) / 64 * 64 = nI (upm a b) := by
  have e : nI b - nI a + 64 = nI (b + 64 - a) := by
    have h1 : nI b - nI a + 64 = nI b + nI 64 - nI a := by
      rw [show (64 : Int32) = nI 64 from rfl]
      apply Int32.toBitVec_inj.mp
      simp only [Int32.toBitVec_sub, Int32.toBitVec_add]
      bv_omega
    rw [h1, nI_add, pk_sub (by omega)]
  rw [e, rem64 (by omega)]
  rfl
theorem iw_leaf {x a b : Nat} (hx : x < 64) (ha : a < 64) (hb : b < 64) {F I : Int32} (hF : (nI (upm a b) = 0 ∧ F = 64) ∨ (¬ nI (upm a b) = 0 ∧ F = nI (upm a b))) (hI : (nI (upm a x) = 0 ∧ I = 64) ∨ (¬ nI (upm a x) = 0 ∧ I = nI (upm a x))) :
    (F < I → bI false = bI (upTo (nI x) (nI a) (nI b))) ∧ (¬ F < I → bI true = bI (upTo (nI x) (nI a) (nI b))) := by
  have key : ∀ y, y < 64 → ∀ K : Int32, ((nI (upm a y) = 0 ∧ K = 64) ∨ (¬ nI (upm a y) = 0 ∧ K = nI (upm a y))) → K = nI (upw a y + 1) := by
    intro y hy K h
    have hm : upm a y < 64 := Nat.mod_lt _ (by decide)
    rcases h with ⟨h, rfl⟩ | ⟨h, rfl⟩
    · have h0 : upm a y = 0 := (nI_eq (by omega) (by decide)).mp h
      have : upw a y + 1 = 64 := by unfold upm at h0; unfold upw; omega
      rw [this]; rfl
    · have h0 : ¬ upm a y = 0 := fun q => h (by rw [q]; rfl)
      congr 1
      unfold upm at *; unfold upw; omega
  have h1 : upw a b < 64 := Nat.mod_lt _ (by decide)
  have h2 : upw a x < 64 := Nat.mod_lt _ (by decide)
  rw [key b hb F hF, key x hx I hI, upTo_nI hx ha hb]
  constructor
  · intro q
    have := (nI_ltI (by omega) (by omega)).mp q
    rw [decide_eq_false (by omega)]
  · intro q
    rw [decide_eq_true]
    rcases Nat.lt_or_ge (upw a b) (upw a x) with z | z
    · exact absurd ((nI_ltI (by omega) (by omega)).mpr (by omega)) q
    · exact z
theorem ib_eq {x a b : Nat} (hx : x < 64) (ha : a < 64) (hb : b < 64) (c : nI x = nI b) : bI false = bI (btw (nI x) (nI a) (nI b)) := by
  have : x = b := nI_inj (by omega) (by omega) c
  subst this
  rw [btw_nI hx ha hx, decide_eq_false (by omega)]
theorem ib_f {x a b : Nat} (hx : x < 64) (ha : a < 64) (hb : b < 64) (c : upTo (nI x) (nI a) (nI b) = false) : bI false = bI (btw (nI x) (nI a) (nI b)) := by
  rw [upTo_nI hx ha hb] at c
  have := of_decide_eq_false c
  rw [btw_nI hx ha hb, decide_eq_false (by omega)]
theorem ib_t {x a b : Nat} (hx : x < 64) (ha : a < 64) (hb : b < 64) (n : ¬ nI x = nI b) (c : upTo (nI x) (nI a) (nI b) = true) : bI true = bI (btw (nI x) (nI a) (nI b)) := by
  rw [upTo_nI hx ha hb] at c
  have h := of_decide_eq_true c
  have hn : x ≠ b := fun q => n (by rw [q])
  rw [btw_nI hx ha hb, decide_eq_true]
  unfold upw at *
  omega
theorem onw_nI {a k : Nat} (ha : a < 64) (hk : k ≤ 64) : onw (nI a) (nI k) = nI ((a + k) % 64) := by
  rw [onw, nI_add, pk_andN (by omega) 6 (by decide)]
theorem onw_dn {a k : Nat} (ha : a < 64) (hk : k < 64) : onw (nI a) (-nI k) = nI ((a + 64 - k) % 64) := by
  rw [onw]
  have e : nI a + -nI k = nI (a + 64 - k) - 64 := by
    have h1 : nI a + -nI k = nI a + nI 64 - nI k - 64 := by
      rw [show (64 : Int32) = nI 64 from rfl]
      apply Int32.toBitVec_inj.mp
      simp only [Int32.toBitVec_sub, Int32.toBitVec_add, Int32.toBitVec_neg]
      bv_omega
    rw [h1, nI_add, pk_sub (by omega)]
  rw [e, pk_and _ 6 (by decide)]
  congr 1
  have h2 : (nI (a + 64 - k) - 64).toBitVec.toNat = (a + 64 - k + (2 ^ 32 - 64)) % 2 ^ 32 := by
    rw [Int32.toBitVec_sub, BitVec.toNat_sub, pk_tn (by omega)]
    show ((2 ^ 32 - 64) + (a + 64 - k)) % 2 ^ 32 = _
    rw [Nat.add_comm]
  rw [h2]
  omega
theorem fgs_nI {n i : Nat} (hn : n < 64) (hi : i < 6) : fgs (nI n) (nI i) = nI ((n + 2 ^ i) % 64) := by
  have hp : 2 ^ i ≤ 32 := by
    have : 2 ^ i ≤ 2 ^ 5 := Nat.pow_le_pow_right (by decide) (by omega)
    exact this
  rw [fgs]
  have h1 : (1 : Int32) <<< (nI i &&& 31) = nI (2 ^ i) := by
    rcases (show i = 0 ∨ i = 1 ∨ i = 2 ∨ i = 3 ∨ i = 4 ∨ i = 5 by omega) with rfl | rfl | rfl | rfl | rfl | rfl <;> decide
  rw [h1, onw_nI hn (by omega)]
theorem sh_nI {i : Nat} (hi : i < 6) : (1 : Int32) <<< (nI i &&& 31) = nI (2 ^ i) := by
  rcases (show i = 0 ∨ i = 1 ∨ i = 2 ∨ i = 3 ∨ i = 4 ∨ i = 5 by omega) with rfl | rfl | rfl | rfl | rfl | rfl <;> decide
theorem fg_rem {n i : Nat} (hn : n < 64) (hi : i < 6) : (nI n + 1 <<< (nI i &&& 31)) - (nI n + 1 <<< (nI i &&& 31)) / 64 * 64 = nI ((n + 2 ^ i) % 64) := by
  have hp : 2 ^ i ≤ 32 := by
    have : 2 ^ i ≤ 2 ^ 5 := Nat.pow_le_pow_right (by decide) (by omega)
    exact this
  rw [sh_nI hi, nI_add, rem64 (by omega)]
theorem ad_rem {a k : Nat} (ha : a < 64) (hk : k ≤ 64) : (nI a + nI k) - (nI a + nI k) / 64 * 64 = nI ((a + k) % 64) := by
  rw [nI_add, rem64 (by omega)]
theorem bf_rem {a k : Nat} (ha : a < 64) (hk : k ≤ 64) : (nI a + 64 - nI k) - (nI a + 64 - nI k) / 64 * 64 = nI ((a + (64 - k)) % 64) := by
  rw [show nI a + 64 = nI (a + 64) from nI_add a 64, pk_sub (by omega), rem64 (by omega), show a + 64 - k = a + (64 - k) by omega]
/-- going down from y, the first k places passed over; what is found if none lives is z -/
def dnD (L : Nat → Int32) (y z : Int32) : Nat → Nat → Int32
  | 0, _ => z
  | d + 1, k => if alv L (onw y (-nI k)) = true then onw y (-nI k) else dnD L y z d (k + 1)
theorem dnD_eq {L : Nat → Int32} {y z : Int32} : ∀ (d k j : Nat), k ≤ j → j < k + d → alv L (onw y (-nI j)) = true → dnD L y z d k = dnF L y d k := by
  intro d
  induction d with
  | zero => intro k j h1 h2; exact absurd h2 (by omega)
  | succ d ih =>
    intro k j h1 h2 h3
    rw [dnD, dnF]
    by_cases c : alv L (onw y (-nI k)) = true
    · rw [if_pos c, if_pos c]
    · rw [if_neg c, if_neg c]
      refine ih (k + 1) j ?_ (by omega) h3
      rcases Nat.lt_or_ge k j with q | q
      · exact q
      · have : j = k := by omega
        subst this
        exact absurd h3 c
theorem bf_dn {n k : Nat} (hn : n < 64) (hk : k < 64) : onw (onw (nI n) (-1)) (-nI k) = nI ((n + (64 - (k + 1))) % 64) := by
  rw [show (-1 : Int32) = -nI 1 from by decide, onw_dn hn (by decide), onw_dn (Nat.mod_lt _ (by decide)) hk]
  congr 1
  omega
