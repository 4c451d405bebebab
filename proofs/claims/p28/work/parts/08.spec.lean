/-! what the class computes, in words of its cells: σ 0 lives, σ 1 successors, σ 2 predecessors, σ 3 fingers, σ 4 values, σ 5 stamps, σ 6 lastStamp, σ 9 10 11 the pointers laid aside; ρ 0 route, ρ 1 routeHops -/
abbrev cS : Type := Nat → Nat → Int32
theorem nI_m (k : Nat) : nI (k + 1) + Int32.ofInt (-1) = nI k := pk_m1 k
theorem pG_nil {G : cG} {H : Heap} : pG G [] H := fun k q h => by simp at h
theorem vin_of {x : Int32} {n : Nat} (h0 : ¬ x < 0) (h1 : ¬ nI n ≤ x) (hn : n < 2 ^ 31) : vp_in x n := by
  obtain ⟨j, hj, rfl⟩ := nI_of h0
  refine vp_in_nI ?_ hn
  rcases Nat.lt_or_ge j n with h | h
  · exact h
  · exact absurd (nI_le h hj) h1
def onw (x k : Int32) : Int32 := (x + k) &&& 63
def fgs (n i : Int32) : Int32 := onw n (1 <<< (i &&& 31))
def upTo (x a b : Int32) : Bool := if ((b - a - 1) &&& 63) < ((x - a - 1) &&& 63) then false else true
def btw (x a b : Int32) : Bool := if ((b - a - 1) &&& 63) ≤ ((x - a - 1) &&& 63) then false else true
def tat (w : Nat) (f : Nat → Int32) (n c : Int32) : Int32 := if n < 0 then -1 else if 64 ≤ n then -1 else if c < 0 then -1 else if c < nI w then f (n * nI w + c).toNatClampNeg else -1
def tset (w : Nat) (f : Nat → Int32) (n c v : Int32) : Nat → Int32 := if n < 0 then f else if 64 ≤ n then f else if c < 0 then f else if c < nI w then upd f (n * nI w + c).toNatClampNeg v else f
theorem tat_in {w : Nat} {n c : Int32} (hw : w ≤ 64) (h1 : ¬ n < 0) (h2 : ¬ 64 ≤ n) (h3 : ¬ c < 0) (h4 : c < nI w) : vp_in (n * nI w + c) (64 * w) := by
  obtain ⟨j, hj, rfl⟩ := nI_of h1
  obtain ⟨i, hi, rfl⟩ := nI_of h3
  have hj' : j < 64 := by
    rcases Nat.lt_or_ge j 64 with h | h
    · exact h
    · exact absurd (nI_le h hj) h2
  have hi' : i < w := (nI_ltI hi (by omega)).mp h4
  rw [pk_mul, nI_add]
  refine vp_in_nI ?_ (by omega)
  have : j * w ≤ 63 * w := Nat.mul_le_mul_right w (by omega)
  omega
theorem tat_no {w : Nat} {n c : Int32} {P : Prop} (hw : w ≤ 64) (h1 : ¬ n < 0) (h2 : ¬ 64 ≤ n) (h3 : ¬ c < 0) (h4 : c < nI w) (h5 : nI (64 * w) ≤ n * nI w + c) : P := by
  have h := tat_in hw h1 h2 h3 h4
  obtain ⟨k, hk, e⟩ := vp_in_of h (by omega)
  rw [e] at h5
  have := (nI_leI (by omega) (by omega)).mp h5
  omega
def alv (L : Nat → Int32) (x : Int32) : Bool := if x < 0 then false else if nI 64 ≤ x then false else if L x.toNatClampNeg = 0 then false else true
def lsF (L U : Nat → Int32) (n : Int32) : Int32 :=
  if alv L (tat 3 U n 0) = true then tat 3 U n 0 else if alv L (tat 3 U n 1) = true then tat 3 U n 1 else if alv L (tat 3 U n 2) = true then tat 3 U n 2 else n
/-- a table at the address t, its cells at q, w columns -/
def wT (G : cG) (t q w : Nat) (f : Nat → Int32) : va_W := [(t, .inr (0, [.int (nI w), .ref q])), (q, .inl (G.2.1, 64 * w, .inl f))]
/-- the whole class -/
def wO (G : cG) (a : Nat → Nat) (σ ρ : cS) : va_W :=
  [(a 0, .inr (1, [.ref (a 1), .ref (a 2), .ref (a 4), .ref (a 6), .ref (a 8), .ref (a 10), .int (σ 6 0), .ref (a 12), .int (ρ 1 0), .ref (a 13), .ref (a 15), .ref (a 17)])),
   (a 1, .inl (G.2.2.1, 64, .inl (σ 0))),
   (a 2, .inr (0, [.int (nI 3), .ref (a 3)])), (a 3, .inl (G.2.1, 64 * 3, .inl (σ 1))),
   (a 4, .inr (0, [.int (nI 1), .ref (a 5)])), (a 5, .inl (G.2.1, 64 * 1, .inl (σ 2))),
   (a 6, .inr (0, [.int (nI 6), .ref (a 7)])), (a 7, .inl (G.2.1, 64 * 6, .inl (σ 3))),
   (a 8, .inr (0, [.int (nI 64), .ref (a 9)])), (a 9, .inl (G.2.1, 64 * 64, .inl (σ 4))),
   (a 10, .inr (0, [.int (nI 64), .ref (a 11)])), (a 11, .inl (G.2.1, 64 * 64, .inl (σ 5))),
   (a 12, .inl (G.2.1, 64, .inl (ρ 0))),
   (a 13, .inr (0, [.int (nI 3), .ref (a 14)])), (a 14, .inl (G.2.1, 64 * 3, .inl (σ 9))),
   (a 15, .inr (0, [.int (nI 1), .ref (a 16)])), (a 16, .inl (G.2.1, 64 * 1, .inl (σ 10))),
   (a 17, .inr (0, [.int (nI 6), .ref (a 18)])), (a 18, .inl (G.2.1, 64 * 6, .inl (σ 11)))]
theorem uX1 : ∀ w ∈ u_ws RX1 TX1 2, w ∈ wsX10 := fun _ h => h
