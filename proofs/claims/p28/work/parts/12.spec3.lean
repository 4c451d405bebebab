/-! what the class's writers make of its cells -/
def saS (σ : cS) (n v : Int32) : cS := if n < 0 then σ else if nI 64 ≤ n then σ else va_up σ 0 (upd (σ 0) n.toNatClampNeg (vp_nar .boolean v))
def ssS (σ : cS) (n x y z : Int32) : cS := va_up (va_up (va_up σ 1 (tset 3 (σ 1) n 0 x)) 1 (tset 3 (tset 3 (σ 1) n 0 x) n 1 y)) 1 (tset 3 (tset 3 (tset 3 (σ 1) n 0 x) n 1 y) n 2 z)
def foS (σ : cS) (n x : Int32) : cS := ssS σ n x (tat 3 (σ 1) x 0) (tat 3 (σ 1) x 1)
def tclr (w : Nat) (f : Nat → Int32) (n : Int32) : Nat → (Nat → Int32)
  | 0 => f
  | k + 1 => tset w (tclr w f n k) n (nI k) (-1)
def blA (σ : cS) (n x y z : Int32) : cS := va_up (ssS σ n x y z) 2 (tclr 1 (ssS σ n x y z 2) n 1)
def blB (σ : cS) (n x y z : Int32) : cS := va_up (blA σ n x y z) 3 (tclr 6 (blA σ n x y z 3) n 6)
def blC (σ : cS) (n x y z : Int32) : cS := va_up (blB σ n x y z) 4 (tclr 64 (blB σ n x y z 4) n 64)
def blD (σ : cS) (n x y z : Int32) : cS := va_up (blC σ n x y z) 5 (tclr 64 (blC σ n x y z 5) n 64)
def blS (σ : cS) (n x y z : Int32) : cS := saS (blD σ n x y z) n 1
def gcS (σ : cS) (f t k : Int32) : cS := if tat 64 (σ 5) t k < tat 64 (σ 5) f k then va_up (va_up σ 4 (tset 64 (σ 4) t k (tat 64 (σ 4) f k))) 5 (tset 64 (σ 5) t k (tat 64 (σ 5) f k)) else σ
def gcC (σ : cS) (f t k : Int32) : Int32 := if tat 64 (σ 5) t k < tat 64 (σ 5) f k then 1 else 0
def hoL (σ : cS) (n x : Int32) : Nat → cS
  | 0 => σ
  | k + 1 => gcS (hoL σ n x k) n x (nI k)
def hoP (σ : cS) (n x : Int32) : cS := va_up σ 2 (tset 1 (σ 2) x 0 (tat 1 (σ 2) n 0))
def hoS (σ : cS) (n x : Int32) : cS :=
  if tat 1 (hoL σ n x 64 2) n 0 = n then hoP (hoL σ n x 64) n x else if alv (hoP (hoL σ n x 64) n x 0) (tat 1 (hoL σ n x 64 2) n 0) = true then foS (hoP (hoL σ n x 64) n x) (tat 1 (hoL σ n x 64 2) n 0) x else hoP (hoL σ n x 64) n x
def ddS (σ : cS) (n : Int32) : cS := if alv (σ 0) (tat 1 (σ 2) n 0) = true then σ else va_up σ 2 (tset 1 (σ 2) n 0 (-1))
def ntS (σ : cS) (n x : Int32) : cS := if alv (σ 0) (tat 1 (σ 2) x 0) = true then (if btw n (tat 1 (σ 2) x 0) x = true then va_up σ 2 (tset 1 (σ 2) x 0 n) else σ) else va_up σ 2 (tset 1 (σ 2) x 0 n)
def mdN (σ : cS) (n : Int32) : Int32 := if alv (σ 0) (tat 1 (σ 2) (lsF (σ 0) (σ 1) n) 0) = true then (if btw (tat 1 (σ 2) (lsF (σ 0) (σ 1) n) 0) n (lsF (σ 0) (σ 1) n) = true then tat 1 (σ 2) (lsF (σ 0) (σ 1) n) 0 else lsF (σ 0) (σ 1) n) else lsF (σ 0) (σ 1) n
def msS (σ : cS) (n : Int32) : cS := ntS (foS σ n (mdN σ n)) n (mdN σ n)
def nxF (L U F : Nat → Int32) (key n : Int32) : Int32 := hopT L F key n (lsF L U n) 6
def fnd (L U F : Nat → Int32) (key : Int32) : Nat → Int32 → Int32
  | 0, n => n
  | d + 1, n => if upTo key n (lsF L U n) = true then lsF L U n else fnd L U F key d (nxF L U F key n)
def hpc (L U F : Nat → Int32) (key : Int32) : Nat → Int32 → Nat
  | 0, _ => 0
  | d + 1, n => if upTo key n (lsF L U n) = true then 0 else hpc L U F key d (nxF L U F key n) + 1
def pth (L U F : Nat → Int32) (key n : Int32) : Nat → Int32
  | 0 => n
  | j + 1 => nxF L U F key (pth L U F key n j)
theorem fn_route {L U F : Nat → Int32} {key n x : Int32} {k : Nat} {ρ' : cS} (hk : k < 64) (hx : x = pth L U F key n k) (hr : ∀ j, j < k → ρ' 0 j = pth L U F key n j) : ∀ j, j < k + 1 → (va_up (va_up ρ' 0 (upd (ρ' 0) (nI k).toNatClampNeg x)) 1 (fun _ => nI k)) 0 j = pth L U F key n j := by
  intro j hj
  show upd (ρ' 0) (nI k).toNatClampNeg x j = _
  rw [nI_clamp (by omega)]
  by_cases h : j = k
  · subst h
    rw [pk_us, hx]
  · rw [pk_un h]
    exact hr j (by omega)
theorem fn_end {L U F : Nat → Int32} {key n x : Int32} {k d : Nat} {ρ' : cS} (hk : k + (d + 1) = 64) (hx : x = pth L U F key n k) (hr : ∀ j, j < k → ρ' 0 j = pth L U F key n j) (hh : hpc L U F key (d + 1) x + k = hpc L U F key 64 n) (c : upTo key x (lsF L U x) = true) :
    hpc L U F key 64 n < 64 → (va_up (va_up ρ' 0 (upd (ρ' 0) (nI k).toNatClampNeg x)) 1 (fun _ => nI k)) 1 0 = nI (hpc L U F key 64 n) ∧ ∀ j, j ≤ hpc L U F key 64 n → (va_up (va_up ρ' 0 (upd (ρ' 0) (nI k).toNatClampNeg x)) 1 (fun _ => nI k)) 0 j = pth L U F key n j := by
  intro _
  have h2 : hpc L U F key (d + 1) x = 0 := by simp only [hpc, c, ↓reduceIte]
  rw [h2, Nat.zero_add] at hh
  rw [← hh]
  exact ⟨rfl, fun j hj => fn_route (by omega) hx hr j (by omega)⟩
def fnR (σ : cS) (n key : Int32) : Int32 := fnd (σ 0) (σ 1) (σ 3) key 64 n
def rfS (σ : cS) (n : Int32) : Nat → cS
  | 0 => σ
  | k + 1 => va_up (rfS σ n k) 3 (tset 6 (rfS σ n k 3) n (nI k) (fnR (rfS σ n k) n (fgs n (nI k))))
def rfC (σ : cS) (n : Int32) : Nat → Int32
  | 0 => 0
  | k + 1 => if fnR (rfS σ n k) n (fgs n (nI k)) = tat 6 (rfS σ n k 3) n (nI k) then rfC σ n k else rfC σ n k + 1
def chA (σ : cS) (n k : Int32) : cS := if heir (σ 0) (σ 1) n (-1) = -1 then σ else gcS σ n (heir (σ 0) (σ 1) n (-1)) k
def chS (σ : cS) (n k : Int32) : cS := if heir (σ 0) (σ 1) n (heir (σ 0) (σ 1) n (-1)) = -1 then chA σ n k else gcS (chA σ n k) n (heir (σ 0) (σ 1) n (heir (σ 0) (σ 1) n (-1))) k
def ccA (σ : cS) (n k : Int32) : Int32 := if heir (σ 0) (σ 1) n (-1) = -1 then 0 else 0 + gcC σ n (heir (σ 0) (σ 1) n (-1)) k
def chC (σ : cS) (n k : Int32) : Int32 := if heir (σ 0) (σ 1) n (heir (σ 0) (σ 1) n (-1)) = -1 then ccA σ n k else ccA σ n k + gcC (chA σ n k) n (heir (σ 0) (σ 1) n (heir (σ 0) (σ 1) n (-1))) k
def spS (σ : cS) (n k : Int32) : cS := if tat 1 (σ 2) n 0 = -1 then chS σ n k else if upTo k (tat 1 (σ 2) n 0) n = true then chS σ n k else gcS σ n (fnR σ n k) k
def spC (σ : cS) (n k : Int32) : Int32 := if tat 1 (σ 2) n 0 = -1 then chC σ n k else if upTo k (tat 1 (σ 2) n 0) n = true then chC σ n k else gcC σ n (fnR σ n k) k
def svS (σ : cS) (n : Int32) : Nat → cS
  | 0 => σ
  | k + 1 => if tat 64 (svS σ n k 4) n (nI k) = -1 then svS σ n k else spS (svS σ n k) n (nI k)
def svC (σ : cS) (n : Int32) : Nat → Int32
  | 0 => 0
  | k + 1 => if tat 64 (svS σ n k 4) n (nI k) = -1 then svC σ n k else svC σ n k + spC (svS σ n k) n (nI k)
def lrN (b : Bool) (σ : cS) (n : Int32) : cS := if b = true then svS (rfS (msS (ddS σ n) n) n 6) n 64 else rfS (msS (ddS σ n) n) n 6
def lrS (b : Bool) (σ : cS) : Nat → cS
  | 0 => σ
  | k + 1 => if alv (lrS b σ k 0) (nI k) = true then lrN b (lrS b σ k) (nI k) else lrS b σ k
theorem lr_no {b : Bool} {σ σ' : cS} {k : Nat} (h9 : σ' = lrS b σ k) (c : alv (σ' 0) (nI k) = false) : σ' = lrS b σ (k + 1) := by
  show σ' = if alv (lrS b σ k 0) (nI k) = true then lrN b (lrS b σ k) (nI k) else lrS b σ k
  rw [← h9, if_neg (by rw [c]; decide)]
theorem lr_f {b : Bool} {σ σ' σ1 σ2 σ3 : cS} {k : Nat} (h9 : σ' = lrS b σ k) (c : alv (σ' 0) (nI k) = true) (h1 : σ1 = ddS σ' (nI k)) (h2 : σ2 = msS σ1 (nI k)) (h3 : σ3 = rfS σ2 (nI k) 6) (hb : b = false) : σ3 = lrS b σ (k + 1) := by
  show σ3 = if alv (lrS b σ k 0) (nI k) = true then lrN b (lrS b σ k) (nI k) else lrS b σ k
  rw [← h9, if_pos c]
  show σ3 = if b = true then svS (rfS (msS (ddS σ' (nI k)) (nI k)) (nI k) 6) (nI k) 64 else rfS (msS (ddS σ' (nI k)) (nI k)) (nI k) 6
  rw [if_neg (by rw [hb]; decide), ← h1, ← h2]
  exact h3
theorem lr_t {b : Bool} {σ σ' σ1 σ2 σ3 σ4 : cS} {k : Nat} (h9 : σ' = lrS b σ k) (c : alv (σ' 0) (nI k) = true) (h1 : σ1 = ddS σ' (nI k)) (h2 : σ2 = msS σ1 (nI k)) (h3 : σ3 = rfS σ2 (nI k) 6) (hb : b = true) (h4 : σ4 = svS σ3 (nI k) 64) : σ4 = lrS b σ (k + 1) := by
  show σ4 = if alv (lrS b σ k 0) (nI k) = true then lrN b (lrS b σ k) (nI k) else lrS b σ k
  rw [← h9, if_pos c]
  show σ4 = if b = true then svS (rfS (msS (ddS σ' (nI k)) (nI k)) (nI k) 6) (nI k) 64 else rfS (msS (ddS σ' (nI k)) (nI k)) (nI k) 6
  rw [if_pos hb, ← h1, ← h2, ← h3]
  exact h4
def wT2 (G : cG) (t q t2 q2 w : Nat) (f g : Nat → Int32) : va_W := wT G t q w f ++ wT G t2 q2 w g
def lpS (σ : cS) : cS := va_up (va_up (va_up σ 9 (va_cpy (σ 1) (σ 9) 0 0 192)) 10 (va_cpy (σ 2) (σ 10) 0 0 64)) 11 (va_cpy (σ 3) (σ 11) 0 0 384)
def tbS (σ : cS) : cS := va_up (va_up (va_up σ 1 (va_cpy (σ 9) (σ 1) 0 0 192)) 2 (va_cpy (σ 10) (σ 2) 0 0 64)) 3 (va_cpy (σ 11) (σ 3) 0 0 384)
