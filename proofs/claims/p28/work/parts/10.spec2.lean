/-! what the class's readers answer -/
def cnt (L : Nat → Int32) : Nat → Int32
  | 0 => 0
  | k + 1 => if alv L (nI k) = true then cnt L k + 1 else cnt L k
def hrS (L U : Nat → Int32) (n x i r : Int32) : Int32 := if alv L (tat 3 U n i) = true then (if tat 3 U n i = n then r else if tat 3 U n i = x then r else tat 3 U n i) else r
def heir (L U : Nat → Int32) (n x : Int32) : Int32 := hrS L U n x 0 (hrS L U n x 1 (hrS L U n x 2 (-1)))
def hopT (L F : Nat → Int32) (key n nx : Int32) : Nat → Int32
  | 0 => nx
  | i + 1 => if alv L (tat 6 F n (nI i)) = true then (if btw (tat 6 F n (nI i)) n key = true then tat 6 F n (nI i) else hopT L F key n nx i) else hopT L F key n nx i
def upF (L : Nat → Int32) (x : Int32) : Nat → Nat → Int32
  | 0, _ => -1
  | d + 1, k => if alv L (onw x (nI k)) = true then onw x (nI k) else upF L x d (k + 1)
def dnF (L : Nat → Int32) (x : Int32) : Nat → Nat → Int32
  | 0, _ => -1
  | d + 1, k => if alv L (onw x (-nI k)) = true then onw x (-nI k) else dnF L x d (k + 1)
def wF (L F : Nat → Int32) (n acc : Int32) : Nat → Int32
  | 0 => acc
  | i + 1 => if tat 6 F n (nI i) = upF L (fgs n (nI i)) 64 0 then wF L F n acc i else wF L F n acc i + 1
def w1S (L U : Nat → Int32) (n : Int32) : Int32 := if lsF L U n = upF L (onw n 1) 64 0 then 0 else 1
def w2S (L P : Nat → Int32) (n x : Int32) : Int32 := if tat 1 P n 0 = dnF L (onw n (-1)) 64 0 then x else x + 1
def wrg (σ : cS) (n : Int32) : Int32 := wF (σ 0) (σ 3) n (w2S (σ 0) (σ 2) n (w1S (σ 0) (σ 1) n)) 6
def cwp (σ : cS) : Nat → Int32
  | 0 => 0
  | k + 1 => if alv (σ 0) (nI k) = true then cwp σ k + wrg σ (nI k) else cwp σ k
