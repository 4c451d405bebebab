/-! what the class's public methods answer: 0 no throw, 1 IllegalArgument, 2 IllegalState, 3 IndexOutOfBounds -/
def okR (x lo hi : Int32) : Bool := if x < lo then false else if x ≤ hi then true else false
def exq (k : Nat) (E : String) : Prop := (k = 1 ∧ E = "java/lang/IllegalArgumentException") ∨ (k = 2 ∧ E = "java/lang/IllegalStateException") ∨ (k = 3 ∧ E = "java/lang/IndexOutOfBoundsException")
theorem exq_1 {k : Nat} {E : String} (h : k = 1) (e : E = "java/lang/IllegalArgumentException") : exq k E := Or.inl ⟨h, e⟩
theorem exq_2 {k : Nat} {E : String} (h : k = 2) (e : E = "java/lang/IllegalStateException") : exq k E := Or.inr (Or.inl ⟨h, e⟩)
theorem exq_3 {k : Nat} {E : String} (h : k = 3) (e : E = "java/lang/IndexOutOfBoundsException") : exq k E := Or.inr (Or.inr ⟨h, e⟩)
def cd1 (x lo hi : Int32) : Nat := if okR x lo hi = true then 0 else 1
def cdA (σ : cS) (x : Int32) : Nat := if okR x 0 63 = true then (if alv (σ 0) x = true then 0 else 2) else 1
def cdP (σ : cS) (x i hi : Int32) : Nat := if okR x 0 63 = true then (if okR i 0 hi = true then (if alv (σ 0) x = true then 0 else 2) else 1) else 1
def cdC (σ : cS) (x : Int32) : Nat := if okR x 0 63 = true then (if cnt (σ 0) 64 ≤ 0 then 0 else 2) else 1
def cdJ (σ : cS) (x v : Int32) : Nat := if okR x 0 63 = true then (if okR v 0 63 = true then (if alv (σ 0) x = true then 2 else if alv (σ 0) v = true then 0 else 2) else 1) else 1
def cdW (σ : cS) (x k v : Int32) : Nat := if okR x 0 63 = true then (if okR k 0 63 = true then (if okR v 0 999 = true then (if alv (σ 0) x = true then 0 else 2) else 1) else 1) else 1
def lvA (σ : cS) (n : Int32) : cS := if lsF (σ 0) (σ 1) n = n then σ else hoS σ n (lsF (σ 0) (σ 1) n)
def lvS (σ : cS) (n : Int32) : cS := saS (lvA σ n) n 0
def lrI (b : Bool) (σ : cS) : Nat → cS
  | 0 => σ
  | k + 1 => lrS b (lrI b σ k) 64
def puA (σ : cS) (t k v : Int32) : cS := va_up (va_up (va_up σ 6 (fun _ => σ 6 0 + 1)) 4 (tset 64 (σ 4) t k v)) 5 (tset 64 (σ 5) t k (σ 6 0 + 1))
def puS (σ : cS) (n k v : Int32) : cS := chS (puA σ (fnR σ n k) k v) (fnR σ n k) k
def kpC (σ : cS) (key : Int32) : Nat → Int32
  | 0 => 0
  | k + 1 => if alv (σ 0) (nI k) = true then (if tat 64 (σ 4) (nI k) key = -1 then kpC σ key k else kpC σ key k + 1) else kpC σ key k
def rtK (σ : cS) : Nat → Nat → Nat
  | 0, k => k
  | d + 1, k => if 0 < cwp σ 64 then rtK (lrS false σ 64) d (k + 1) else k
def rtS (σ : cS) : Nat → cS
  | 0 => σ
  | d + 1 => if 0 < cwp σ 64 then rtS (lrS false σ 64) d else σ
def jnS (σ : cS) (n v : Int32) : cS := blS σ n (fnR σ v n) (tat 3 (σ 1) (fnR σ v n) 0) (tat 3 (σ 1) (fnR σ v n) 1)
def chB (σ : cS) (n : Int32) : Bool := if tat 1 (ddS σ n 2) n 0 = -1 then false else true
theorem okR_nI {x : Int32} {M : Nat} (hM : M < 2 ^ 31) (h : okR x 1 (nI M) = true) : ∃ j, 1 ≤ j ∧ j ≤ M ∧ x = nI j := by
  by_cases h1 : x < 1
  · rw [okR, if_pos h1] at h; cases h
  · rw [okR, if_neg h1] at h
    by_cases h2 : x ≤ nI M
    · have h0 : ¬ x < 0 := fun h3 => h1 (Int32.lt_trans h3 (by decide))
      obtain ⟨j, hj, rfl⟩ := nI_of h0
      refine ⟨j, ?_, (nI_leI hj hM).mp h2, rfl⟩
      rcases Nat.lt_or_ge j 1 with h4 | h4
      · exact absurd ((nI_ltI hj (by omega)).mpr h4) h1
      · exact h4
    · rw [if_neg h2] at h; cases h
