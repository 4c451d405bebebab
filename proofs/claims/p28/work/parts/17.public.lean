abbrev rm_X2_requireRange : Room := { frames := 6, cells := 1, slots := 6, locals := 90 }
set_option maxHeartbeats 4000000 in
set_option maxRecDepth 100000 in
theorem c_X2_requireRange (l : Launch) (hl9 : l.stackTraces = false) (G : cG) (sa : Nat → Nat) (a : Nat → Nat) (σ ρ : cS) (x : Int32) (lo : Int32) (hi : Int32) : MetXv l yX2_requireRange wsX2_requireRange rm_X2_requireRange G sa (wO G a σ ρ) [.int x, .int lo, .int hi] (fun u : cS × cS => wO G a u.1 u.2) (fun u => okR x lo hi = true ∧ u = (σ, ρ)) (fun E u => okR x lo hi = false ∧ E = "java/lang/IllegalArgumentException" ∧ u = (σ, ρ)) 1 6 := by
  refine co_bodyXv (cc := cX2_requireRange) (maxL := 3) (ret := none) (by decide) rfl (Nat.le_of_ble_eq_true rfl) ?_
  intro p e s m args below meth c S hr hlocks hno hK A hA hP hD hS hX ls hl
  have S : CallFix p m c cX2_requireRange 3 s args wsX2_requireRange RX2 := S
  obtain ⟨hx, hb, hml, hown, hts⟩ := id S
  have hl : lv_has ls 3 [(0, .int x), (1, .int lo), (2, .int hi)] := hl
  refine lv_iload_n hx hb dX2_requireRange_0 rfl (lv_at hl 0 rfl) ?_
  refine lv_iload_n hx hb dX2_requireRange_1 rfl (lv_at hl 1 rfl) ?_
  refine lv_icmp_lt (tgt := 10) hx hb dX2_requireRange_2 (by decide) (fun c_1 => ?_) (fun c_1 => ?_)
  · exact vx_throwS hx hb hl9 hown (by decide +kernel) (by decide +kernel) (hts (.classLink RX2 142 "java/lang/IllegalArgumentException") (by decide +kernel)) (hts (.initialized "java/lang/IllegalArgumentException") (by decide +kernel)) hX.1.1 (xh_ia hX hts (by decide +kernel)) xo_ia hX.2.2.1 hX.2.2.2 hS (hl.1.trans hml.symm) dX2_requireRange_10 dX2_requireRange_13 dX2_requireRange_14 dX2_requireRange_16 dX2_requireRange_19 (fun x hx => (hno x hx).elim) (Nat.le_of_ble_eq_true rfl) (Nat.le_of_ble_eq_true rfl) (Nat.le_of_ble_eq_true rfl) (Nat.le_of_ble_eq_true rfl) hlocks (co_thrown (σ, ρ) hK hP hD hS (⟨by simp only [okR, c_1, ↓reduceIte], rfl, rfl⟩)) hS.2.2 (Nat.le_of_ble_eq_true rfl) (Nat.le_of_ble_eq_true rfl)
  · refine lv_iload_n hx hb dX2_requireRange_5 rfl (lv_at hl 0 rfl) ?_
    refine lv_iload_n hx hb dX2_requireRange_6 rfl (lv_at hl 2 rfl) ?_
    refine lv_icmp_le (tgt := 20) hx hb dX2_requireRange_7 (by decide) (fun c_2 => ?_) (fun c_2 => ?_)
    · exact co_endXv (σ, ρ) S hr hlocks dX2_requireRange_20 hK hP hD hS (by exact ⟨by simp only [okR, c_1, c_2, ↓reduceIte], rfl⟩) (Nat.le_of_ble_eq_true rfl) (Nat.le_of_ble_eq_true rfl)
    · exact vx_throwS hx hb hl9 hown (by decide +kernel) (by decide +kernel) (hts (.classLink RX2 142 "java/lang/IllegalArgumentException") (by decide +kernel)) (hts (.initialized "java/lang/IllegalArgumentException") (by decide +kernel)) hX.1.1 (xh_ia hX hts (by decide +kernel)) xo_ia hX.2.2.1 hX.2.2.2 hS (hl.1.trans hml.symm) dX2_requireRange_10 dX2_requireRange_13 dX2_requireRange_14 dX2_requireRange_16 dX2_requireRange_19 (fun x hx => (hno x hx).elim) (Nat.le_of_ble_eq_true rfl) (Nat.le_of_ble_eq_true rfl) (Nat.le_of_ble_eq_true rfl) (Nat.le_of_ble_eq_true rfl) hlocks (co_thrown (σ, ρ) hK hP hD hS (⟨by simp only [okR, c_1, c_2, ↓reduceIte], rfl, rfl⟩)) hS.2.2 (Nat.le_of_ble_eq_true rfl) (Nat.le_of_ble_eq_true rfl)

abbrev rm_X2_requireIdentifier : Room := { frames := 7, cells := 1, slots := 6, locals := 112 }
set_option maxHeartbeats 4000000 in
set_option maxRecDepth 100000 in
theorem c_X2_requireIdentifier (l : Launch) (hl9 : l.stackTraces = false) (G : cG) (sa : Nat → Nat) (a : Nat → Nat) (σ ρ : cS) (x : Int32) : MetXv l yX2_requireIdentifier wsX2_requireIdentifier rm_X2_requireIdentifier G sa (wO G a σ ρ) [.int x] (fun u : cS × cS => wO G a u.1 u.2) (fun u => okR x 0 63 = true ∧ u = (σ, ρ)) (fun E u => okR x 0 63 = false ∧ E = "java/lang/IllegalArgumentException" ∧ u = (σ, ρ)) 1 6 := by
  refine co_bodyXv (cc := cX2_requireIdentifier) (maxL := 1) (ret := none) (by decide) rfl (Nat.le_of_ble_eq_true rfl) ?_
  intro p e s m args below meth c S hr hlocks hno hK A hA hP hD hS hX ls hl
  have S : CallFix p m c cX2_requireIdentifier 1 s args wsX2_requireIdentifier RX2 := S
  obtain ⟨hx, hb, hml, hown, hts⟩ := id S
  have hl : lv_has ls 1 [(0, .int x)] := hl
  refine lv_iload_n hx hb dX2_requireIdentifier_0 rfl (lv_at hl 0 rfl) ?_
  refine lv_iconst (v := 0) hx hb dX2_requireIdentifier_1 (by decide) ?_
  refine lv_bipush (v := 63) hx hb dX2_requireIdentifier_2 (by decide) ?_
  refine co_xSv (As := [.int x, .int 0, .int 63]) (rest := []) S (c_X2_requireRange l hl9 G sa a σ ρ x 0 63) (va_cwS 3 hts gX2_requireIdentifier_X2_requireRange rfl rfl rfl (by decide +kernel) ⟨Nat.le_of_ble_eq_true rfl, Nat.le_of_ble_eq_true rfl⟩) hK hP hD hS hA hX rfl hl.1 rfl (Nat.le_of_ble_eq_true rfl) dX2_requireIdentifier_4 ⟨Nat.le_of_ble_eq_true rfl, Nat.le_of_ble_eq_true rfl⟩ (fun E9 ce9 q9 u9 H9 locs9 hp9 hP9 hD9 hS9 h19 h29 h39 => ?_) (fun u_1 H locs hu_1 hP hD hS => ?_)
  · exact co_out u9 hno hlocks hK hP9 hD9 hS9 (hp9) h19 h29 h39 (Nat.le_of_ble_eq_true rfl) (Nat.le_of_ble_eq_true rfl)
  · obtain ⟨c9_1, hu_1⟩ := hu_1
    have c9_1 : okR x 0 63 = true := c9_1
    subst hu_1
    have hP : pG G (wO G a σ ρ) H := hP
    have hD : va_D A (wO G a σ ρ) := hD
    exact co_endXv (σ, ρ) S hr hlocks dX2_requireIdentifier_7 hK hP hD hS (by exact ⟨c9_1, rfl⟩) (Nat.le_of_ble_eq_true rfl) (Nat.le_of_ble_eq_true rfl)

abbrev rm_X2_requireAlive : Room := { frames := 6, cells := 1, slots := 6, locals := 90 }
set_option maxHeartbeats 4000000 in
set_option maxRecDepth 100000 in
theorem c_X2_requireAlive (l : Launch) (hl9 : l.stackTraces = false) (G : cG) (sa : Nat → Nat) (a : Nat → Nat) (σ ρ : cS) (n : Int32) : MetXv l yX2_requireAlive wsX2_requireAlive rm_X2_requireAlive G sa (wO G a σ ρ) [.ref (a 0), .int n] (fun u : cS × cS => wO G a u.1 u.2) (fun u => alv (σ 0) n = true ∧ u = (σ, ρ)) (fun E u => alv (σ 0) n = false ∧ E = "java/lang/IllegalStateException" ∧ u = (σ, ρ)) 1 6 := by
  refine co_bodyXv (cc := cX2_requireAlive) (maxL := 2) (ret := none) (by decide) rfl (Nat.le_of_ble_eq_true rfl) ?_
  intro p e s m args below meth c S hr hlocks hno hK A hA hP hD hS hX ls hl
  have S : CallFix p m c cX2_requireAlive 2 s args wsX2_requireAlive RX2 := S
  obtain ⟨hx, hb, hml, hown, hts⟩ := id S
  have hl : lv_has ls 2 [(0, .ref (a 0)), (1, .int n)] := hl
  refine lv_aload_n hx hb dX2_requireAlive_0 rfl (lv_at hl 0 rfl) ?_
  refine lv_iload_n hx hb dX2_requireAlive_1 rfl (lv_at hl 1 rfl) ?_
  refine co_rV (As := [.int n]) (rest := []) S (c_X2_isAlive l G a σ ρ n) (cwV 1 hts gX2_requireAlive_X2_isAlive rfl rfl rfl (by decide +kernel) ⟨Nat.le_of_ble_eq_true rfl, Nat.le_of_ble_eq_true rfl⟩) hK hP (va_recv hK hP (ci := 1) (q0 := 0) rfl rfl) rfl hl.1 rfl (Nat.le_of_ble_eq_true rfl) dX2_requireAlive_2 ⟨Nat.le_of_ble_eq_true rfl, Nat.le_of_ble_eq_true rfl⟩ ?_
  refine co_ifne (tgt := 18) S dX2_requireAlive_5 (by decide) (fun c_1 => ?_) (fun c_1 => ?_)
  · exact co_endXv (σ, ρ) S hr hlocks dX2_requireAlive_18 hK hP hD hS (by exact ⟨c_1, rfl⟩) (Nat.le_of_ble_eq_true rfl) (Nat.le_of_ble_eq_true rfl)
  · exact vx_throwS hx hb hl9 hown (by decide +kernel) (by decide +kernel) (hts (.classLink RX2 61 "java/lang/IllegalStateException") (by decide +kernel)) (hts (.initialized "java/lang/IllegalStateException") (by decide +kernel)) hX.1.2.1 (xh_is hX hts (by decide +kernel)) xo_is hX.2.2.1 hX.2.2.2 hS (hl.1.trans hml.symm) dX2_requireAlive_8 dX2_requireAlive_11 dX2_requireAlive_12 dX2_requireAlive_14 dX2_requireAlive_17 (fun x hx => (hno x hx).elim) (Nat.le_of_ble_eq_true rfl) (Nat.le_of_ble_eq_true rfl) (Nat.le_of_ble_eq_true rfl) (Nat.le_of_ble_eq_true rfl) hlocks (co_thrown (σ, ρ) hK hP hD hS (⟨c_1, rfl, rfl⟩)) hS.2.2 (Nat.le_of_ble_eq_true rfl) (Nat.le_of_ble_eq_true rfl)

abbrev rm_X2_living : Room := { frames := 2, cells := 0, slots := 0, locals := 43 }
set_option maxHeartbeats 4000000 in
set_option maxRecDepth 100000 in
theorem c_X2_living (l : Launch) (G : cG) (a : Nat → Nat) (σ ρ : cS) : MetR l yX2_living wsX2_living rm_X2_living G (wO G a σ ρ) [.ref (a 0)] (cnt (σ 0) 64) := by
  refine co_bodyR (cc := cX2_living) (maxL := 1) (ret := (some .int)) (by decide) rfl (Nat.le_of_ble_eq_true rfl) ?_
  intro p e s m args below meth c S hr hlocks hK hP ls hl
  have S : CallFix p m c cX2_living 1 s args wsX2_living RX2 := S
  obtain ⟨hx, hb, hml, hown, hts⟩ := id S
  have hl : lv_has ls 1 [(0, .ref (a 0))] := hl
  refine lv_aload_n hx hb dX2_living_0 rfl (lv_at hl 0 rfl) ?_
  refine co_rV (As := []) (rest := []) S (c_X2_countLiving l G a σ ρ ) (cwV 0 hts gX2_living_X2_countLiving rfl rfl rfl (by decide +kernel) ⟨Nat.le_of_ble_eq_true rfl, Nat.le_of_ble_eq_true rfl⟩) hK hP (va_recv hK hP (ci := 1) (q0 := 0) rfl rfl) rfl hl.1 rfl (Nat.le_of_ble_eq_true rfl) dX2_living_1 ⟨Nat.zero_le _, Nat.zero_le _⟩ ?_
  exact co_endR S hr hlocks dX2_living_4 (by rfl)

abbrev rm_X2_wrongPointers : Room := { frames := 4, cells := 0, slots := 0, locals := 91 }
set_option maxHeartbeats 4000000 in
set_option maxRecDepth 100000 in
theorem c_X2_wrongPointers (l : Launch) (G : cG) (a : Nat → Nat) (σ ρ : cS) : MetR l yX2_wrongPointers wsX2_wrongPointers rm_X2_wrongPointers G (wO G a σ ρ) [.ref (a 0)] (cwp σ 64) := by
  refine co_bodyR (cc := cX2_wrongPointers) (maxL := 1) (ret := (some .int)) (by decide) rfl (Nat.le_of_ble_eq_true rfl) ?_
  intro p e s m args below meth c S hr hlocks hK hP ls hl
  have S : CallFix p m c cX2_wrongPointers 1 s args wsX2_wrongPointers RX2 := S
  obtain ⟨hx, hb, hml, hown, hts⟩ := id S
  have hl : lv_has ls 1 [(0, .ref (a 0))] := hl
  refine lv_aload_n hx hb dX2_wrongPointers_0 rfl (lv_at hl 0 rfl) ?_
  refine co_rV (As := []) (rest := []) S (c_X2_countWrongPointers l G a σ ρ ) (cwV 0 hts gX2_wrongPointers_X2_countWrongPointers rfl rfl rfl (by decide +kernel) ⟨Nat.le_of_ble_eq_true rfl, Nat.le_of_ble_eq_true rfl⟩) hK hP (va_recv hK hP (ci := 1) (q0 := 0) rfl rfl) rfl hl.1 rfl (Nat.le_of_ble_eq_true rfl) dX2_wrongPointers_1 ⟨Nat.zero_le _, Nat.zero_le _⟩ ?_
  exact co_endR S hr hlocks dX2_wrongPointers_4 (by rfl)

abbrev rm_X2_isLiving : Room := { frames := 8, cells := 1, slots := 6, locals := 132 }
set_option maxHeartbeats 4000000 in
set_option maxRecDepth 100000 in
theorem c_X2_isLiving (l : Launch) (hl9 : l.stackTraces = false) (G : cG) (sa : Nat → Nat) (a : Nat → Nat) (σ ρ : cS) (n : Int32) : MetXi l yX2_isLiving wsX2_isLiving rm_X2_isLiving G sa (wO G a σ ρ) [.ref (a 0), .int n] (fun u : cS × cS => wO G a u.1 u.2) (fun r u => (cd1 n 0 63) = 0 ∧ r = (bI (alv (σ 0) n)) ∧ u.1 = σ) (fun E u => exq (cd1 n 0 63) E ∧ u.1 = σ) 1 6 := by
  refine co_bodyXi (cc := cX2_isLiving) (maxL := 2) (ret := (some .boolean)) (by decide) rfl (Nat.le_of_ble_eq_true rfl) ?_
  intro p e s m args below meth c S hr hlocks hno hK A hA hP hD hS hX ls hl
  have S : CallFix p m c cX2_isLiving 2 s args wsX2_isLiving RX2 := S
  obtain ⟨hx, hb, hml, hown, hts⟩ := id S
  have hl : lv_has ls 2 [(0, .ref (a 0)), (1, .int n)] := hl
  refine lv_iload_n hx hb dX2_isLiving_0 rfl (lv_at hl 1 rfl) ?_
  refine co_xSv (As := [.int n]) (rest := []) S (c_X2_requireIdentifier l hl9 G sa a σ ρ n) (va_cwS 1 hts gX2_isLiving_X2_requireIdentifier rfl rfl rfl (by decide +kernel) ⟨Nat.le_of_ble_eq_true rfl, Nat.le_of_ble_eq_true rfl⟩) hK hP hD hS hA hX rfl hl.1 rfl (Nat.le_of_ble_eq_true rfl) dX2_isLiving_1 ⟨Nat.le_of_ble_eq_true rfl, Nat.le_of_ble_eq_true rfl⟩ (fun E9 ce9 q9 u9 H9 locs9 hp9 hP9 hD9 hS9 h19 h29 h39 => ?_) (fun u_1 H locs hu_1 hP hD hS => ?_)
  · exact co_out u9 hno hlocks hK hP9 hD9 hS9 (⟨exq_1 (by simp only [cd1, hp9.1, Bool.false_eq_true, ↓reduceIte]) hp9.2.1, by rw [hp9.2.2]⟩) h19 h29 h39 (Nat.le_of_ble_eq_true rfl) (Nat.le_of_ble_eq_true rfl)
  · obtain ⟨c9_1, hu_1⟩ := hu_1
    have c9_1 : okR n 0 63 = true := c9_1
    subst hu_1
    have hP : pG G (wO G a σ ρ) H := hP
    have hD : va_D A (wO G a σ ρ) := hD
    refine lv_aload_n hx hb dX2_isLiving_4 rfl (lv_at hl 0 rfl) ?_
    refine lv_iload_n hx hb dX2_isLiving_5 rfl (lv_at hl 1 rfl) ?_
    refine co_rV (As := [.int n]) (rest := []) S (c_X2_isAlive l G a σ ρ n) (cwV 1 hts gX2_isLiving_X2_isAlive rfl rfl rfl (by decide +kernel) ⟨Nat.le_of_ble_eq_true rfl, Nat.le_of_ble_eq_true rfl⟩) hK hP (va_recv hK hP (ci := 1) (q0 := 0) rfl rfl) rfl hl.1 rfl (Nat.le_of_ble_eq_true rfl) dX2_isLiving_6 ⟨Nat.le_of_ble_eq_true rfl, Nat.le_of_ble_eq_true rfl⟩ ?_
    exact co_endXiz (v := (alv (σ 0) n)) (σ, ρ) S hr hlocks dX2_isLiving_9 hK hP hD hS (by refine ⟨?_, ?_, ?_⟩; (simp only [cd1, c9_1, eq_self, Bool.false_eq_true, ↓reduceIte]); (show _ = (bI (alv (σ 0) n)); first | rfl | (simp only [c9_1, eq_self, Bool.false_eq_true, ↓reduceIte])); (show σ = σ; first | rfl | (simp only [c9_1, eq_self, Bool.false_eq_true, ↓reduceIte]))) (Nat.le_of_ble_eq_true rfl) (Nat.le_of_ble_eq_true rfl)

abbrev rm_X2_create : Room := { frames := 8, cells := 2, slots := 12, locals := 132 }
set_option maxHeartbeats 4000000 in
set_option maxRecDepth 100000 in
theorem c_X2_create (l : Launch) (hl9 : l.stackTraces = false) (G : cG) (sa : Nat → Nat) (a : Nat → Nat) (σ ρ : cS) (n : Int32) : MetXi l yX2_create wsX2_create rm_X2_create G sa (wO G a σ ρ) [.ref (a 0), .int n] (fun u : cS × cS => wO G a u.1 u.2) (fun r u => (cdC σ n) = 0 ∧ r = (cnt (blS σ n n n n 0) 64) ∧ u.1 = (blS σ n n n n)) (fun E u => exq (cdC σ n) E ∧ u.1 = σ) 2 12 := by
  refine co_bodyXi (cc := cX2_create) (maxL := 2) (ret := (some .int)) (by decide) rfl (Nat.le_of_ble_eq_true rfl) ?_
  intro p e s m args below meth c S hr hlocks hno hK A hA hP hD hS hX ls hl
  have S : CallFix p m c cX2_create 2 s args wsX2_create RX2 := S
  obtain ⟨hx, hb, hml, hown, hts⟩ := id S
  have hl : lv_has ls 2 [(0, .ref (a 0)), (1, .int n)] := hl
  refine lv_iload_n hx hb dX2_create_0 rfl (lv_at hl 1 rfl) ?_
  refine co_xSv (As := [.int n]) (rest := []) S (c_X2_requireIdentifier l hl9 G sa a σ ρ n) (va_cwS 1 hts gX2_create_X2_requireIdentifier rfl rfl rfl (by decide +kernel) ⟨Nat.le_of_ble_eq_true rfl, Nat.le_of_ble_eq_true rfl⟩) hK hP hD hS hA hX rfl hl.1 rfl (Nat.le_of_ble_eq_true rfl) dX2_create_1 ⟨Nat.le_of_ble_eq_true rfl, Nat.le_of_ble_eq_true rfl⟩ (fun E9 ce9 q9 u9 H9 locs9 hp9 hP9 hD9 hS9 h19 h29 h39 => ?_) (fun u_1 H locs hu_1 hP hD hS => ?_)
  · exact co_out u9 hno hlocks hK hP9 hD9 hS9 (⟨exq_1 (by simp only [cdC, hp9.1, Bool.false_eq_true, ↓reduceIte]) hp9.2.1, by rw [hp9.2.2]⟩) h19 h29 h39 (Nat.le_of_ble_eq_true rfl) (Nat.le_of_ble_eq_true rfl)
  · obtain ⟨c9_1, hu_1⟩ := hu_1
    have c9_1 : okR n 0 63 = true := c9_1
    subst hu_1
    have hP : pG G (wO G a σ ρ) H := hP
    have hD : va_D A (wO G a σ ρ) := hD
    refine lv_aload_n hx hb dX2_create_4 rfl (lv_at hl 0 rfl) ?_
    refine co_rV (As := []) (rest := []) S (c_X2_countLiving l G a σ ρ ) (cwV 0 hts gX2_create_X2_countLiving rfl rfl rfl (by decide +kernel) ⟨Nat.le_of_ble_eq_true rfl, Nat.le_of_ble_eq_true rfl⟩) hK hP (va_recv hK hP (ci := 1) (q0 := 0) rfl rfl) rfl hl.1 rfl (Nat.le_of_ble_eq_true rfl) dX2_create_5 ⟨Nat.le_of_ble_eq_true rfl, Nat.le_of_ble_eq_true rfl⟩ ?_
    refine lv_if_le (tgt := 21) hx hb dX2_create_8 (by decide) (fun c_2 => ?_) (fun c_2 => ?_)
    · refine lv_aload_n hx hb dX2_create_21 rfl (lv_at hl 0 rfl) ?_
      refine lv_iload_n hx hb dX2_create_22 rfl (lv_at hl 1 rfl) ?_
      refine lv_iload_n hx hb dX2_create_23 rfl (lv_at hl 1 rfl) ?_
      refine lv_iload_n hx hb dX2_create_24 rfl (lv_at hl 1 rfl) ?_
      refine lv_iload_n hx hb dX2_create_25 rfl (lv_at hl 1 rfl) ?_
      refine co_mVv (As := [.int n, .int n, .int n, .int n]) (rest := []) S (c_X2_beginLife l G a σ ρ n n n n) (cwV 4 hts gX2_create_X2_beginLife rfl rfl rfl (by decide +kernel) ⟨Nat.le_of_ble_eq_true rfl, Nat.le_of_ble_eq_true rfl⟩) hK hP hD hS hA (va_recv hK hP (ci := 1) (q0 := 0) rfl rfl) rfl hl.1 rfl (Nat.le_of_ble_eq_true rfl) dX2_create_26 ⟨Nat.le_of_ble_eq_true rfl, Nat.le_of_ble_eq_true rfl⟩ (fun u_3 H locs hu_3 hP hD hS => ?_)
      obtain ⟨σ_3, ρ_3⟩ := u_3
      have hu_3 : σ_3 = blS σ n n n n := hu_3
      have hP : pG G (wO G a σ_3 ρ_3) H := hP
      have hD : va_D A (wO G a σ_3 ρ_3) := hD
      refine lv_aload_n hx hb dX2_create_29 rfl (lv_at hl 0 rfl) ?_
      refine co_rV (As := []) (rest := []) S (c_X2_countLiving l G a σ_3 ρ_3 ) (cwV 0 hts gX2_create_X2_countLiving rfl rfl rfl (by decide +kernel) ⟨Nat.le_of_ble_eq_true rfl, Nat.le_of_ble_eq_true rfl⟩) hK hP (va_recv hK hP (ci := 1) (q0 := 0) rfl rfl) rfl hl.1 rfl (Nat.le_of_ble_eq_true rfl) dX2_create_30 ⟨Nat.le_of_ble_eq_true rfl, Nat.le_of_ble_eq_true rfl⟩ ?_
      exact co_endXi (σ_3, ρ_3) S hr hlocks dX2_create_33 hK hP hD hS (by refine ⟨?_, ?_, ?_⟩; (simp only [cdC, c9_1, c_2, eq_self, Bool.false_eq_true, ↓reduceIte]); (show _ = (cnt (blS σ n n n n 0) 64); subst hu_3; first | rfl | (simp only [c9_1, c_2, eq_self, Bool.false_eq_true, ↓reduceIte])); (show σ_3 = (blS σ n n n n); subst hu_3; first | rfl | (simp only [c9_1, c_2, eq_self, Bool.false_eq_true, ↓reduceIte]))) (Nat.le_of_ble_eq_true rfl) (Nat.le_of_ble_eq_true rfl)
    · exact vx_throwS hx hb hl9 hown (by decide +kernel) (by decide +kernel) (hts (.classLink RX2 61 "java/lang/IllegalStateException") (by decide +kernel)) (hts (.initialized "java/lang/IllegalStateException") (by decide +kernel)) hX.1.2.2.1 (xh_is hX hts (by decide +kernel)) xo_is hX.2.2.1 hX.2.2.2 hS (hl.1.trans hml.symm) dX2_create_11 dX2_create_14 dX2_create_15 dX2_create_17 dX2_create_20 (fun x hx => (hno x hx).elim) (Nat.le_of_ble_eq_true rfl) (Nat.le_of_ble_eq_true rfl) (Nat.le_of_ble_eq_true rfl) (Nat.le_of_ble_eq_true rfl) hlocks (co_thrown (σ, ρ) hK hP hD hS (⟨exq_2 (by simp only [cdC, c9_1, c_2, Bool.false_eq_true, eq_self, ↓reduceIte]) rfl, rfl⟩)) hS.2.2 (Nat.le_of_ble_eq_true rfl) (Nat.le_of_ble_eq_true rfl)

set_option maxRecDepth 20000 in
theorem uX2_X2_join : ∀ w ∈ u_ws RX2 TX2 12, w ∈ wsX2_join := by decide +kernel
abbrev rm_X2_join : Room := { frames := 8, cells := 3, slots := 18, locals := 132 }
set_option maxHeartbeats 4000000 in
set_option maxRecDepth 100000 in
theorem c_X2_join (l : Launch) (hl9 : l.stackTraces = false) (G : cG) (sa : Nat → Nat) (a : Nat → Nat) (σ ρ : cS) (n : Int32) (v : Int32) : MetXi l yX2_join wsX2_join rm_X2_join G sa (wO G a σ ρ) [.ref (a 0), .int n, .int v] (fun u : cS × cS => wO G a u.1 u.2) (fun r u => (cdJ σ n v) = 0 ∧ r = (fnR σ v n) ∧ u.1 = (jnS σ n v)) (fun E u => exq (cdJ σ n v) E ∧ u.1 = σ) 3 18 := by
  refine co_bodyXi (cc := cX2_join) (maxL := 4) (ret := (some .int)) (by decide) rfl (Nat.le_of_ble_eq_true rfl) ?_
  intro p e s m args below meth c S hr hlocks hno hK A hA hP hD hS hX ls hl
  have S : CallFix p m c cX2_join 4 s args wsX2_join RX2 := S
  obtain ⟨hx, hb, hml, hown, hts⟩ := id S
  have hl : lv_has ls 4 [(0, .ref (a 0)), (1, .int n), (2, .int v)] := hl
  have uX2 := uX2_X2_join
  refine lv_iload_n hx hb dX2_join_0 rfl (lv_at hl 1 rfl) ?_
  refine co_xSv (As := [.int n]) (rest := []) S (c_X2_requireIdentifier l hl9 G sa a σ ρ n) (va_cwS 1 hts gX2_join_X2_requireIdentifier rfl rfl rfl (by decide +kernel) ⟨Nat.le_of_ble_eq_true rfl, Nat.le_of_ble_eq_true rfl⟩) hK hP hD hS hA hX rfl hl.1 rfl (Nat.le_of_ble_eq_true rfl) dX2_join_1 ⟨Nat.le_of_ble_eq_true rfl, Nat.le_of_ble_eq_true rfl⟩ (fun E9 ce9 q9 u9 H9 locs9 hp9 hP9 hD9 hS9 h19 h29 h39 => ?_) (fun u_1 H locs hu_1 hP hD hS => ?_)
  · exact co_out u9 hno hlocks hK hP9 hD9 hS9 (⟨exq_1 (by simp only [cdJ, hp9.1, Bool.false_eq_true, ↓reduceIte]) hp9.2.1, by rw [hp9.2.2]⟩) h19 h29 h39 (Nat.le_of_ble_eq_true rfl) (Nat.le_of_ble_eq_true rfl)
  · obtain ⟨c9_1, hu_1⟩ := hu_1
    have c9_1 : okR n 0 63 = true := c9_1
    subst hu_1
    have hP : pG G (wO G a σ ρ) H := hP
    have hD : va_D A (wO G a σ ρ) := hD
    refine lv_iload_n hx hb dX2_join_4 rfl (lv_at hl 2 rfl) ?_
    refine co_xSv (As := [.int v]) (rest := []) S (c_X2_requireIdentifier l hl9 G sa a σ ρ v) (va_cwS 1 hts gX2_join_X2_requireIdentifier rfl rfl rfl (by decide +kernel) ⟨Nat.le_of_ble_eq_true rfl, Nat.le_of_ble_eq_true rfl⟩) hK hP hD hS hA hX rfl hl.1 rfl (Nat.le_of_ble_eq_true rfl) dX2_join_5 ⟨Nat.le_of_ble_eq_true rfl, Nat.le_of_ble_eq_true rfl⟩ (fun E9 ce9 q9 u9 H9 locs9 hp9 hP9 hD9 hS9 h19 h29 h39 => ?_) (fun u_2 H locs hu_2 hP hD hS => ?_)
    · exact co_out u9 hno hlocks hK hP9 hD9 hS9 (⟨exq_1 (by simp only [cdJ, c9_1, hp9.1, Bool.false_eq_true, ↓reduceIte]) hp9.2.1, by rw [hp9.2.2]⟩) h19 h29 h39 (Nat.le_of_ble_eq_true rfl) (Nat.le_of_ble_eq_true rfl)
    · obtain ⟨c9_2, hu_2⟩ := hu_2
      have c9_2 : okR v 0 63 = true := c9_2
      subst hu_2
      have hP : pG G (wO G a σ ρ) H := hP
      have hD : va_D A (wO G a σ ρ) := hD
      refine lv_aload_n hx hb dX2_join_8 rfl (lv_at hl 0 rfl) ?_
      refine lv_iload_n hx hb dX2_join_9 rfl (lv_at hl 1 rfl) ?_
      refine co_rV (As := [.int n]) (rest := []) S (c_X2_isAlive l G a σ ρ n) (cwV 1 hts gX2_join_X2_isAlive rfl rfl rfl (by decide +kernel) ⟨Nat.le_of_ble_eq_true rfl, Nat.le_of_ble_eq_true rfl⟩) hK hP (va_recv hK hP (ci := 1) (q0 := 0) rfl rfl) rfl hl.1 rfl (Nat.le_of_ble_eq_true rfl) dX2_join_10 ⟨Nat.le_of_ble_eq_true rfl, Nat.le_of_ble_eq_true rfl⟩ ?_
      refine co_ifeq (tgt := 26) S dX2_join_13 (by decide) (fun c_3 => ?_) (fun c_3 => ?_)
      · refine lv_aload_n hx hb dX2_join_26 rfl (lv_at hl 0 rfl) ?_
        refine lv_iload_n hx hb dX2_join_27 rfl (lv_at hl 2 rfl) ?_
        refine co_xVv (As := [.int v]) (rest := []) S (c_X2_requireAlive l hl9 G sa a σ ρ v) (cwV 1 hts gX2_join_X2_requireAlive rfl rfl rfl (by decide +kernel) ⟨Nat.le_of_ble_eq_true rfl, Nat.le_of_ble_eq_true rfl⟩) hK hP hD hS hA hX (va_recv hK hP (ci := 1) (q0 := 0) rfl rfl) rfl hl.1 rfl (Nat.le_of_ble_eq_true rfl) dX2_join_28 ⟨Nat.le_of_ble_eq_true rfl, Nat.le_of_ble_eq_true rfl⟩ (fun E9 ce9 q9 u9 H9 locs9 hp9 hP9 hD9 hS9 h19 h29 h39 => ?_) (fun u_4 H locs hu_4 hP hD hS => ?_)
        · exact co_out u9 hno hlocks hK hP9 hD9 hS9 (⟨exq_2 (by simp only [cdJ, c9_1, c9_2, c_3, hp9.1, Bool.false_eq_true, ↓reduceIte]) hp9.2.1, by rw [hp9.2.2]⟩) h19 h29 h39 (Nat.le_of_ble_eq_true rfl) (Nat.le_of_ble_eq_true rfl)
        · obtain ⟨c9_4, hu_4⟩ := hu_4
          have c9_4 : alv (σ 0) v = true := c9_4
          subst hu_4
          have hP : pG G (wO G a σ ρ) H := hP
          have hD : va_D A (wO G a σ ρ) := hD
          refine lv_aload_n hx hb dX2_join_31 rfl (lv_at hl 0 rfl) ?_
          refine lv_iload_n hx hb dX2_join_32 rfl (lv_at hl 2 rfl) ?_
          refine lv_iload_n hx hb dX2_join_33 rfl (lv_at hl 1 rfl) ?_
          refine co_mVi (As := [.int v, .int n]) (rest := []) S (c_X2_find l G a σ ρ v n) (cwV 2 hts gX2_join_X2_find rfl rfl rfl (by decide +kernel) ⟨Nat.le_of_ble_eq_true rfl, Nat.le_of_ble_eq_true rfl⟩) hK hP hD hS hA (va_recv hK hP (ci := 1) (q0 := 0) rfl rfl) rfl hl.1 rfl (Nat.le_of_ble_eq_true rfl) dX2_join_34 ⟨Nat.le_of_ble_eq_true rfl, Nat.le_of_ble_eq_true rfl⟩ (fun r_5 u_5 H locs hu_5 hP hD hS => ?_)
          obtain ⟨σ_5, ρ_5⟩ := u_5
          obtain ⟨hr_5, hu_5, hp_5⟩ := hu_5
          have hr_5 : r_5 = fnR σ v n := hr_5
          have hu_5 : σ_5 = σ := hu_5
          have hP : pG G (wO G a σ_5 ρ_5) H := hP
          have hD : va_D A (wO G a σ_5 ρ_5) := hD
          rw [hu_5] at hP hD
          refine lv_istore_n (lv' := [(3, .int r_5), (0, .ref (a 0)), (1, .int n), (2, .int v)]) hx hb dX2_join_37 rfl hl (by decide) rfl (fun ls hl => ?_)
          refine lv_aload_n hx hb dX2_join_38 rfl (lv_at hl 1 rfl) ?_
          refine lv_iload_n hx hb dX2_join_39 rfl (lv_at hl 2 rfl) ?_
          refine lv_iload_n hx hb dX2_join_40 rfl (lv_at hl 0 rfl) ?_
          refine lv_aload_n hx hb dX2_join_41 rfl (lv_at hl 1 rfl) ?_
          refine va_get (D := G.1) (ci := 1) (v := .ref (a 2)) (C := RX2) (T := TX2) (N := 12) hx hb hts uX2 hown hK hP 0 rfl rfl 1 (by decide) (hts (.fieldLink RX2 18 "ChordOverlay" "successors" "LChordOverlay$Table;") (by decide +kernel)) (fun _ h9 => h9) rfl dX2_join_42 ?_
          refine lv_iload_n hx hb dX2_join_45 rfl (lv_at hl 0 rfl) ?_
          refine lv_iconst (v := 0) hx hb dX2_join_46 (by decide) ?_
          refine co_rV (As := [.int r_5, .int 0]) (rest := [.int r_5, .int n, .ref (a 0)]) S (c_X1_at l G (a 2) (a 3) 3 (σ 1) r_5 0 (by decide)) (cwV 2 hts gX2_join_X1_at rfl rfl rfl (by decide +kernel) ⟨Nat.le_of_ble_eq_true rfl, Nat.le_of_ble_eq_true rfl⟩) hK (pG_perm hP [2, 3] rfl) (va_recv hK hP (ci := 0) (q0 := 2) rfl rfl) rfl hl.1 rfl (Nat.le_of_ble_eq_true rfl) dX2_join_47 ⟨Nat.le_of_ble_eq_true rfl, Nat.le_of_ble_eq_true rfl⟩ ?_
          refine lv_aload_n hx hb dX2_join_50 rfl (lv_at hl 1 rfl) ?_
          refine va_get (D := G.1) (ci := 1) (v := .ref (a 2)) (C := RX2) (T := TX2) (N := 12) hx hb hts uX2 hown hK hP 0 rfl rfl 1 (by decide) (hts (.fieldLink RX2 18 "ChordOverlay" "successors" "LChordOverlay$Table;") (by decide +kernel)) (fun _ h9 => h9) rfl dX2_join_51 ?_
          refine lv_iload_n hx hb dX2_join_54 rfl (lv_at hl 0 rfl) ?_
          refine lv_iconst (v := 1) hx hb dX2_join_55 (by decide) ?_
          refine co_rV (As := [.int r_5, .int 1]) (rest := [.int (tat 3 (σ 1) r_5 0), .int r_5, .int n, .ref (a 0)]) S (c_X1_at l G (a 2) (a 3) 3 (σ 1) r_5 1 (by decide)) (cwV 2 hts gX2_join_X1_at rfl rfl rfl (by decide +kernel) ⟨Nat.le_of_ble_eq_true rfl, Nat.le_of_ble_eq_true rfl⟩) hK (pG_perm hP [2, 3] rfl) (va_recv hK hP (ci := 0) (q0 := 2) rfl rfl) rfl hl.1 rfl (Nat.le_of_ble_eq_true rfl) dX2_join_56 ⟨Nat.le_of_ble_eq_true rfl, Nat.le_of_ble_eq_true rfl⟩ ?_
          refine co_mVv (As := [.int n, .int r_5, .int (tat 3 (σ 1) r_5 0), .int (tat 3 (σ 1) r_5 1)]) (rest := []) S (c_X2_beginLife l G a σ ρ_5 n r_5 (tat 3 (σ 1) r_5 0) (tat 3 (σ 1) r_5 1)) (cwV 4 hts gX2_join_X2_beginLife rfl rfl rfl (by decide +kernel) ⟨Nat.le_of_ble_eq_true rfl, Nat.le_of_ble_eq_true rfl⟩) hK hP hD hS hA (va_recv hK hP (ci := 1) (q0 := 0) rfl rfl) rfl hl.1 rfl (Nat.le_of_ble_eq_true rfl) dX2_join_59 ⟨Nat.le_of_ble_eq_true rfl, Nat.le_of_ble_eq_true rfl⟩ (fun u_6 H locs hu_6 hP hD hS => ?_)
          obtain ⟨σ_6, ρ_6⟩ := u_6
          have hu_6 : σ_6 = blS σ n r_5 (tat 3 (σ 1) r_5 0) (tat 3 (σ 1) r_5 1) := hu_6
          have hP : pG G (wO G a σ_6 ρ_6) H := hP
          have hD : va_D A (wO G a σ_6 ρ_6) := hD
          refine lv_iload_n hx hb dX2_join_62 rfl (lv_at hl 0 rfl) ?_
          exact co_endXi (σ_6, ρ_6) S hr hlocks dX2_join_63 hK hP hD hS (by refine ⟨?_, ?_, ?_⟩; (simp only [cdJ, c9_1, c9_2, c_3, c9_4, eq_self, Bool.false_eq_true, ↓reduceIte]); (show _ = (fnR σ v n); subst hu_6; subst hr_5; first | rfl | (simp only [c9_1, c9_2, c_3, c9_4, eq_self, Bool.false_eq_true, ↓reduceIte])); (show σ_6 = (jnS σ n v); subst hu_6; subst hr_5; first | rfl | (simp only [c9_1, c9_2, c_3, c9_4, eq_self, Bool.false_eq_true, ↓reduceIte]))) (Nat.le_of_ble_eq_true rfl) (Nat.le_of_ble_eq_true rfl)
      · exact vx_throwS hx hb hl9 hown (by decide +kernel) (by decide +kernel) (hts (.classLink RX2 61 "java/lang/IllegalStateException") (by decide +kernel)) (hts (.initialized "java/lang/IllegalStateException") (by decide +kernel)) hX.1.2.2.2.1 (xh_is hX hts (by decide +kernel)) xo_is hX.2.2.1 hX.2.2.2 hS (hl.1.trans hml.symm) dX2_join_16 dX2_join_19 dX2_join_20 dX2_join_22 dX2_join_25 (fun x hx => (hno x hx).elim) (Nat.le_of_ble_eq_true rfl) (Nat.le_of_ble_eq_true rfl) (Nat.le_of_ble_eq_true rfl) (Nat.le_of_ble_eq_true rfl) hlocks (co_thrown (σ, ρ) hK hP hD hS (⟨exq_2 (by simp only [cdJ, c9_1, c9_2, c_3, Bool.false_eq_true, eq_self, ↓reduceIte]) rfl, rfl⟩)) hS.2.2 (Nat.le_of_ble_eq_true rfl) (Nat.le_of_ble_eq_true rfl)

abbrev rm_X2_fail : Room := { frames := 8, cells := 2, slots := 12, locals := 132 }
set_option maxHeartbeats 4000000 in
set_option maxRecDepth 100000 in
theorem c_X2_fail (l : Launch) (hl9 : l.stackTraces = false) (G : cG) (sa : Nat → Nat) (a : Nat → Nat) (σ ρ : cS) (n : Int32) : MetXi l yX2_fail wsX2_fail rm_X2_fail G sa (wO G a σ ρ) [.ref (a 0), .int n] (fun u : cS × cS => wO G a u.1 u.2) (fun r u => (cdA σ n) = 0 ∧ r = (cnt (saS σ n 0 0) 64) ∧ u.1 = (saS σ n 0)) (fun E u => exq (cdA σ n) E ∧ u.1 = σ) 2 12 := by
  refine co_bodyXi (cc := cX2_fail) (maxL := 2) (ret := (some .int)) (by decide) rfl (Nat.le_of_ble_eq_true rfl) ?_
  intro p e s m args below meth c S hr hlocks hno hK A hA hP hD hS hX ls hl
  have S : CallFix p m c cX2_fail 2 s args wsX2_fail RX2 := S
  obtain ⟨hx, hb, hml, hown, hts⟩ := id S
  have hl : lv_has ls 2 [(0, .ref (a 0)), (1, .int n)] := hl
  refine lv_iload_n hx hb dX2_fail_0 rfl (lv_at hl 1 rfl) ?_
  refine co_xSv (As := [.int n]) (rest := []) S (c_X2_requireIdentifier l hl9 G sa a σ ρ n) (va_cwS 1 hts gX2_fail_X2_requireIdentifier rfl rfl rfl (by decide +kernel) ⟨Nat.le_of_ble_eq_true rfl, Nat.le_of_ble_eq_true rfl⟩) hK hP hD hS hA hX rfl hl.1 rfl (Nat.le_of_ble_eq_true rfl) dX2_fail_1 ⟨Nat.le_of_ble_eq_true rfl, Nat.le_of_ble_eq_true rfl⟩ (fun E9 ce9 q9 u9 H9 locs9 hp9 hP9 hD9 hS9 h19 h29 h39 => ?_) (fun u_1 H locs hu_1 hP hD hS => ?_)
  · exact co_out u9 hno hlocks hK hP9 hD9 hS9 (⟨exq_1 (by simp only [cdA, hp9.1, Bool.false_eq_true, ↓reduceIte]) hp9.2.1, by rw [hp9.2.2]⟩) h19 h29 h39 (Nat.le_of_ble_eq_true rfl) (Nat.le_of_ble_eq_true rfl)
  · obtain ⟨c9_1, hu_1⟩ := hu_1
    have c9_1 : okR n 0 63 = true := c9_1
    subst hu_1
    have hP : pG G (wO G a σ ρ) H := hP
    have hD : va_D A (wO G a σ ρ) := hD
    refine lv_aload_n hx hb dX2_fail_4 rfl (lv_at hl 0 rfl) ?_
    refine lv_iload_n hx hb dX2_fail_5 rfl (lv_at hl 1 rfl) ?_
    refine co_xVv (As := [.int n]) (rest := []) S (c_X2_requireAlive l hl9 G sa a σ ρ n) (cwV 1 hts gX2_fail_X2_requireAlive rfl rfl rfl (by decide +kernel) ⟨Nat.le_of_ble_eq_true rfl, Nat.le_of_ble_eq_true rfl⟩) hK hP hD hS hA hX (va_recv hK hP (ci := 1) (q0 := 0) rfl rfl) rfl hl.1 rfl (Nat.le_of_ble_eq_true rfl) dX2_fail_6 ⟨Nat.le_of_ble_eq_true rfl, Nat.le_of_ble_eq_true rfl⟩ (fun E9 ce9 q9 u9 H9 locs9 hp9 hP9 hD9 hS9 h19 h29 h39 => ?_) (fun u_2 H locs hu_2 hP hD hS => ?_)
    · exact co_out u9 hno hlocks hK hP9 hD9 hS9 (⟨exq_2 (by simp only [cdA, c9_1, hp9.1, Bool.false_eq_true, ↓reduceIte]) hp9.2.1, by rw [hp9.2.2]⟩) h19 h29 h39 (Nat.le_of_ble_eq_true rfl) (Nat.le_of_ble_eq_true rfl)
    · obtain ⟨c9_2, hu_2⟩ := hu_2
      have c9_2 : alv (σ 0) n = true := c9_2
      subst hu_2
      have hP : pG G (wO G a σ ρ) H := hP
      have hD : va_D A (wO G a σ ρ) := hD
      refine lv_aload_n hx hb dX2_fail_9 rfl (lv_at hl 0 rfl) ?_
      refine lv_iload_n hx hb dX2_fail_10 rfl (lv_at hl 1 rfl) ?_
      refine co_mVv (As := [.int n]) (rest := []) S (c_X2_endLife l G a σ ρ n) (cwV 1 hts gX2_fail_X2_endLife rfl rfl rfl (by decide +kernel) ⟨Nat.le_of_ble_eq_true rfl, Nat.le_of_ble_eq_true rfl⟩) hK hP hD hS hA (va_recv hK hP (ci := 1) (q0 := 0) rfl rfl) rfl hl.1 rfl (Nat.le_of_ble_eq_true rfl) dX2_fail_11 ⟨Nat.le_of_ble_eq_true rfl, Nat.le_of_ble_eq_true rfl⟩ (fun u_3 H locs hu_3 hP hD hS => ?_)
      obtain ⟨σ_3, ρ_3⟩ := u_3
      have hu_3 : σ_3 = saS σ n 0 := hu_3
      have hP : pG G (wO G a σ_3 ρ_3) H := hP
      have hD : va_D A (wO G a σ_3 ρ_3) := hD
      refine lv_aload_n hx hb dX2_fail_14 rfl (lv_at hl 0 rfl) ?_
      refine co_rV (As := []) (rest := []) S (c_X2_countLiving l G a σ_3 ρ_3 ) (cwV 0 hts gX2_fail_X2_countLiving rfl rfl rfl (by decide +kernel) ⟨Nat.le_of_ble_eq_true rfl, Nat.le_of_ble_eq_true rfl⟩) hK hP (va_recv hK hP (ci := 1) (q0 := 0) rfl rfl) rfl hl.1 rfl (Nat.le_of_ble_eq_true rfl) dX2_fail_15 ⟨Nat.le_of_ble_eq_true rfl, Nat.le_of_ble_eq_true rfl⟩ ?_
      exact co_endXi (σ_3, ρ_3) S hr hlocks dX2_fail_18 hK hP hD hS (by refine ⟨?_, ?_, ?_⟩; (simp only [cdA, c9_1, c9_2, eq_self, Bool.false_eq_true, ↓reduceIte]); (show _ = (cnt (saS σ n 0 0) 64); subst hu_3; first | rfl | (simp only [c9_1, c9_2, eq_self, Bool.false_eq_true, ↓reduceIte])); (show σ_3 = (saS σ n 0); subst hu_3; first | rfl | (simp only [c9_1, c9_2, eq_self, Bool.false_eq_true, ↓reduceIte]))) (Nat.le_of_ble_eq_true rfl) (Nat.le_of_ble_eq_true rfl)

abbrev rm_X2_leave : Room := { frames := 8, cells := 2, slots := 12, locals := 132 }
set_option maxHeartbeats 4000000 in
set_option maxRecDepth 100000 in
theorem c_X2_leave (l : Launch) (hl9 : l.stackTraces = false) (G : cG) (sa : Nat → Nat) (a : Nat → Nat) (σ ρ : cS) (n : Int32) : MetXi l yX2_leave wsX2_leave rm_X2_leave G sa (wO G a σ ρ) [.ref (a 0), .int n] (fun u : cS × cS => wO G a u.1 u.2) (fun r u => (cdA σ n) = 0 ∧ r = (cnt (lvS σ n 0) 64) ∧ u.1 = (lvS σ n)) (fun E u => exq (cdA σ n) E ∧ u.1 = σ) 2 12 := by
  refine co_bodyXi (cc := cX2_leave) (maxL := 3) (ret := (some .int)) (by decide) rfl (Nat.le_of_ble_eq_true rfl) ?_
  intro p e s m args below meth c S hr hlocks hno hK A hA hP hD hS hX ls hl
  have S : CallFix p m c cX2_leave 3 s args wsX2_leave RX2 := S
  obtain ⟨hx, hb, hml, hown, hts⟩ := id S
  have hl : lv_has ls 3 [(0, .ref (a 0)), (1, .int n)] := hl
  refine lv_iload_n hx hb dX2_leave_0 rfl (lv_at hl 1 rfl) ?_
  refine co_xSv (As := [.int n]) (rest := []) S (c_X2_requireIdentifier l hl9 G sa a σ ρ n) (va_cwS 1 hts gX2_leave_X2_requireIdentifier rfl rfl rfl (by decide +kernel) ⟨Nat.le_of_ble_eq_true rfl, Nat.le_of_ble_eq_true rfl⟩) hK hP hD hS hA hX rfl hl.1 rfl (Nat.le_of_ble_eq_true rfl) dX2_leave_1 ⟨Nat.le_of_ble_eq_true rfl, Nat.le_of_ble_eq_true rfl⟩ (fun E9 ce9 q9 u9 H9 locs9 hp9 hP9 hD9 hS9 h19 h29 h39 => ?_) (fun u_1 H locs hu_1 hP hD hS => ?_)
  · exact co_out u9 hno hlocks hK hP9 hD9 hS9 (⟨exq_1 (by simp only [cdA, hp9.1, Bool.false_eq_true, ↓reduceIte]) hp9.2.1, by rw [hp9.2.2]⟩) h19 h29 h39 (Nat.le_of_ble_eq_true rfl) (Nat.le_of_ble_eq_true rfl)
  · obtain ⟨c9_1, hu_1⟩ := hu_1
    have c9_1 : okR n 0 63 = true := c9_1
    subst hu_1
    have hP : pG G (wO G a σ ρ) H := hP
    have hD : va_D A (wO G a σ ρ) := hD
    refine lv_aload_n hx hb dX2_leave_4 rfl (lv_at hl 0 rfl) ?_
    refine lv_iload_n hx hb dX2_leave_5 rfl (lv_at hl 1 rfl) ?_
    refine co_xVv (As := [.int n]) (rest := []) S (c_X2_requireAlive l hl9 G sa a σ ρ n) (cwV 1 hts gX2_leave_X2_requireAlive rfl rfl rfl (by decide +kernel) ⟨Nat.le_of_ble_eq_true rfl, Nat.le_of_ble_eq_true rfl⟩) hK hP hD hS hA hX (va_recv hK hP (ci := 1) (q0 := 0) rfl rfl) rfl hl.1 rfl (Nat.le_of_ble_eq_true rfl) dX2_leave_6 ⟨Nat.le_of_ble_eq_true rfl, Nat.le_of_ble_eq_true rfl⟩ (fun E9 ce9 q9 u9 H9 locs9 hp9 hP9 hD9 hS9 h19 h29 h39 => ?_) (fun u_2 H locs hu_2 hP hD hS => ?_)
    · exact co_out u9 hno hlocks hK hP9 hD9 hS9 (⟨exq_2 (by simp only [cdA, c9_1, hp9.1, Bool.false_eq_true, ↓reduceIte]) hp9.2.1, by rw [hp9.2.2]⟩) h19 h29 h39 (Nat.le_of_ble_eq_true rfl) (Nat.le_of_ble_eq_true rfl)
    · obtain ⟨c9_2, hu_2⟩ := hu_2
      have c9_2 : alv (σ 0) n = true := c9_2
      subst hu_2
      have hP : pG G (wO G a σ ρ) H := hP
      have hD : va_D A (wO G a σ ρ) := hD
      refine lv_aload_n hx hb dX2_leave_9 rfl (lv_at hl 0 rfl) ?_
      refine lv_iload_n hx hb dX2_leave_10 rfl (lv_at hl 1 rfl) ?_
      refine co_rV (As := [.int n]) (rest := []) S (c_X2_firstLivingSuccessor l G a σ ρ n) (cwV 1 hts gX2_leave_X2_firstLivingSuccessor rfl rfl rfl (by decide +kernel) ⟨Nat.le_of_ble_eq_true rfl, Nat.le_of_ble_eq_true rfl⟩) hK hP (va_recv hK hP (ci := 1) (q0 := 0) rfl rfl) rfl hl.1 rfl (Nat.le_of_ble_eq_true rfl) dX2_leave_11 ⟨Nat.le_of_ble_eq_true rfl, Nat.le_of_ble_eq_true rfl⟩ ?_
      refine lv_istore_n (lv' := [(2, .int (lsF (σ 0) (σ 1) n)), (0, .ref (a 0)), (1, .int n)]) hx hb dX2_leave_14 rfl hl (by decide) rfl (fun ls hl => ?_)
      refine lv_iload_n hx hb dX2_leave_15 rfl (lv_at hl 0 rfl) ?_
      refine lv_iload_n hx hb dX2_leave_16 rfl (lv_at hl 2 rfl) ?_
      refine lv_icmp_eq (tgt := 26) hx hb dX2_leave_17 (by decide) (fun c_3 => ?_) (fun c_3 => ?_)
      · refine lv_aload_n hx hb dX2_leave_26 rfl (lv_at hl 1 rfl) ?_
        refine lv_iload_n hx hb dX2_leave_27 rfl (lv_at hl 2 rfl) ?_
        refine co_mVv (As := [.int n]) (rest := []) S (c_X2_endLife l G a σ ρ n) (cwV 1 hts gX2_leave_X2_endLife rfl rfl rfl (by decide +kernel) ⟨Nat.le_of_ble_eq_true rfl, Nat.le_of_ble_eq_true rfl⟩) hK hP hD hS hA (va_recv hK hP (ci := 1) (q0 := 0) rfl rfl) rfl hl.1 rfl (Nat.le_of_ble_eq_true rfl) dX2_leave_28 ⟨Nat.le_of_ble_eq_true rfl, Nat.le_of_ble_eq_true rfl⟩ (fun u_4 H locs hu_4 hP hD hS => ?_)
        obtain ⟨σ_4, ρ_4⟩ := u_4
        have hu_4 : σ_4 = saS σ n 0 := hu_4
        have hP : pG G (wO G a σ_4 ρ_4) H := hP
        have hD : va_D A (wO G a σ_4 ρ_4) := hD
        refine lv_aload_n hx hb dX2_leave_31 rfl (lv_at hl 1 rfl) ?_
        refine co_rV (As := []) (rest := []) S (c_X2_countLiving l G a σ_4 ρ_4 ) (cwV 0 hts gX2_leave_X2_countLiving rfl rfl rfl (by decide +kernel) ⟨Nat.le_of_ble_eq_true rfl, Nat.le_of_ble_eq_true rfl⟩) hK hP (va_recv hK hP (ci := 1) (q0 := 0) rfl rfl) rfl hl.1 rfl (Nat.le_of_ble_eq_true rfl) dX2_leave_32 ⟨Nat.le_of_ble_eq_true rfl, Nat.le_of_ble_eq_true rfl⟩ ?_
        exact co_endXi (σ_4, ρ_4) S hr hlocks dX2_leave_35 hK hP hD hS (by refine ⟨?_, ?_, ?_⟩; (simp only [cdA, c9_1, c9_2, (eq_true c_3), eq_self, Bool.false_eq_true, ↓reduceIte]); (show _ = (cnt (lvS σ n 0) 64); subst hu_4; first | rfl | (simp only [lvS, lvA, c9_1, c9_2, (eq_true c_3), eq_self, Bool.false_eq_true, ↓reduceIte])); (show σ_4 = (lvS σ n); subst hu_4; first | rfl | (simp only [lvS, lvA, c9_1, c9_2, (eq_true c_3), eq_self, Bool.false_eq_true, ↓reduceIte]))) (Nat.le_of_ble_eq_true rfl) (Nat.le_of_ble_eq_true rfl)
      · refine lv_aload_n hx hb dX2_leave_20 rfl (lv_at hl 1 rfl) ?_
        refine lv_iload_n hx hb dX2_leave_21 rfl (lv_at hl 2 rfl) ?_
        refine lv_iload_n hx hb dX2_leave_22 rfl (lv_at hl 0 rfl) ?_
        refine co_mVv (As := [.int n, .int (lsF (σ 0) (σ 1) n)]) (rest := []) S (c_X2_handOver l G a σ ρ n (lsF (σ 0) (σ 1) n)) (cwV 2 hts gX2_leave_X2_handOver rfl rfl rfl (by decide +kernel) ⟨Nat.le_of_ble_eq_true rfl, Nat.le_of_ble_eq_true rfl⟩) hK hP hD hS hA (va_recv hK hP (ci := 1) (q0 := 0) rfl rfl) rfl hl.1 rfl (Nat.le_of_ble_eq_true rfl) dX2_leave_23 ⟨Nat.le_of_ble_eq_true rfl, Nat.le_of_ble_eq_true rfl⟩ (fun u_5 H locs hu_5 hP hD hS => ?_)
        obtain ⟨σ_5, ρ_5⟩ := u_5
        have hu_5 : σ_5 = hoS σ n (lsF (σ 0) (σ 1) n) := hu_5
        have hP : pG G (wO G a σ_5 ρ_5) H := hP
        have hD : va_D A (wO G a σ_5 ρ_5) := hD
        refine lv_aload_n hx hb dX2_leave_26 rfl (lv_at hl 1 rfl) ?_
        refine lv_iload_n hx hb dX2_leave_27 rfl (lv_at hl 2 rfl) ?_
        refine co_mVv (As := [.int n]) (rest := []) S (c_X2_endLife l G a σ_5 ρ_5 n) (cwV 1 hts gX2_leave_X2_endLife rfl rfl rfl (by decide +kernel) ⟨Nat.le_of_ble_eq_true rfl, Nat.le_of_ble_eq_true rfl⟩) hK hP hD hS hA (va_recv hK hP (ci := 1) (q0 := 0) rfl rfl) rfl hl.1 rfl (Nat.le_of_ble_eq_true rfl) dX2_leave_28 ⟨Nat.le_of_ble_eq_true rfl, Nat.le_of_ble_eq_true rfl⟩ (fun u_6 H locs hu_6 hP hD hS => ?_)
        obtain ⟨σ_6, ρ_6⟩ := u_6
        have hu_6 : σ_6 = saS σ_5 n 0 := hu_6
        have hP : pG G (wO G a σ_6 ρ_6) H := hP
        have hD : va_D A (wO G a σ_6 ρ_6) := hD
        refine lv_aload_n hx hb dX2_leave_31 rfl (lv_at hl 1 rfl) ?_
        refine co_rV (As := []) (rest := []) S (c_X2_countLiving l G a σ_6 ρ_6 ) (cwV 0 hts gX2_leave_X2_countLiving rfl rfl rfl (by decide +kernel) ⟨Nat.le_of_ble_eq_true rfl, Nat.le_of_ble_eq_true rfl⟩) hK hP (va_recv hK hP (ci := 1) (q0 := 0) rfl rfl) rfl hl.1 rfl (Nat.le_of_ble_eq_true rfl) dX2_leave_32 ⟨Nat.le_of_ble_eq_true rfl, Nat.le_of_ble_eq_true rfl⟩ ?_
        exact co_endXi (σ_6, ρ_6) S hr hlocks dX2_leave_35 hK hP hD hS (by refine ⟨?_, ?_, ?_⟩; (simp only [cdA, c9_1, c9_2, c_3, eq_self, Bool.false_eq_true, ↓reduceIte]); (show _ = (cnt (lvS σ n 0) 64); subst hu_6; subst hu_5; first | rfl | (simp only [lvS, lvA, c9_1, c9_2, c_3, eq_self, Bool.false_eq_true, ↓reduceIte])); (show σ_6 = (lvS σ n); subst hu_6; subst hu_5; first | rfl | (simp only [lvS, lvA, c9_1, c9_2, c_3, eq_self, Bool.false_eq_true, ↓reduceIte]))) (Nat.le_of_ble_eq_true rfl) (Nat.le_of_ble_eq_true rfl)

set_option maxRecDepth 20000 in
theorem uX2_X2_successor : ∀ w ∈ u_ws RX2 TX2 12, w ∈ wsX2_successor := by decide +kernel
abbrev rm_X2_successor : Room := { frames := 8, cells := 3, slots := 18, locals := 132 }
set_option maxHeartbeats 4000000 in
set_option maxRecDepth 100000 in
theorem c_X2_successor (l : Launch) (hl9 : l.stackTraces = false) (G : cG) (sa : Nat → Nat) (a : Nat → Nat) (σ ρ : cS) (n : Int32) (i : Int32) : MetXi l yX2_successor wsX2_successor rm_X2_successor G sa (wO G a σ ρ) [.ref (a 0), .int n, .int i] (fun u : cS × cS => wO G a u.1 u.2) (fun r u => (cdP σ n i 2) = 0 ∧ r = (tat 3 (σ 1) n i) ∧ u.1 = σ) (fun E u => exq (cdP σ n i 2) E ∧ u.1 = σ) 3 18 := by
  refine co_bodyXi (cc := cX2_successor) (maxL := 3) (ret := (some .int)) (by decide) rfl (Nat.le_of_ble_eq_true rfl) ?_
  intro p e s m args below meth c S hr hlocks hno hK A hA hP hD hS hX ls hl
  have S : CallFix p m c cX2_successor 3 s args wsX2_successor RX2 := S
  obtain ⟨hx, hb, hml, hown, hts⟩ := id S
  have hl : lv_has ls 3 [(0, .ref (a 0)), (1, .int n), (2, .int i)] := hl
  have uX2 := uX2_X2_successor
  refine lv_iload_n hx hb dX2_successor_0 rfl (lv_at hl 1 rfl) ?_
  refine co_xSv (As := [.int n]) (rest := []) S (c_X2_requireIdentifier l hl9 G sa a σ ρ n) (va_cwS 1 hts gX2_successor_X2_requireIdentifier rfl rfl rfl (by decide +kernel) ⟨Nat.le_of_ble_eq_true rfl, Nat.le_of_ble_eq_true rfl⟩) hK hP hD hS hA hX rfl hl.1 rfl (Nat.le_of_ble_eq_true rfl) dX2_successor_1 ⟨Nat.le_of_ble_eq_true rfl, Nat.le_of_ble_eq_true rfl⟩ (fun E9 ce9 q9 u9 H9 locs9 hp9 hP9 hD9 hS9 h19 h29 h39 => ?_) (fun u_1 H locs hu_1 hP hD hS => ?_)
  · exact co_out u9 hno hlocks hK hP9 hD9 hS9 (⟨exq_1 (by simp only [cdP, hp9.1, Bool.false_eq_true, ↓reduceIte]) hp9.2.1, by rw [hp9.2.2]⟩) h19 h29 h39 (Nat.le_of_ble_eq_true rfl) (Nat.le_of_ble_eq_true rfl)
  · obtain ⟨c9_1, hu_1⟩ := hu_1
    have c9_1 : okR n 0 63 = true := c9_1
    subst hu_1
    have hP : pG G (wO G a σ ρ) H := hP
    have hD : va_D A (wO G a σ ρ) := hD
    refine lv_iload_n hx hb dX2_successor_4 rfl (lv_at hl 2 rfl) ?_
    refine lv_iconst (v := 0) hx hb dX2_successor_5 (by decide) ?_
    refine lv_iconst (v := 2) hx hb dX2_successor_6 (by decide) ?_
    refine co_xSv (As := [.int i, .int 0, .int 2]) (rest := []) S (c_X2_requireRange l hl9 G sa a σ ρ i 0 2) (va_cwS 3 hts gX2_successor_X2_requireRange rfl rfl rfl (by decide +kernel) ⟨Nat.le_of_ble_eq_true rfl, Nat.le_of_ble_eq_true rfl⟩) hK hP hD hS hA hX rfl hl.1 rfl (Nat.le_of_ble_eq_true rfl) dX2_successor_7 ⟨Nat.le_of_ble_eq_true rfl, Nat.le_of_ble_eq_true rfl⟩ (fun E9 ce9 q9 u9 H9 locs9 hp9 hP9 hD9 hS9 h19 h29 h39 => ?_) (fun u_2 H locs hu_2 hP hD hS => ?_)
    · exact co_out u9 hno hlocks hK hP9 hD9 hS9 (⟨exq_1 (by simp only [cdP, c9_1, hp9.1, Bool.false_eq_true, ↓reduceIte]) hp9.2.1, by rw [hp9.2.2]⟩) h19 h29 h39 (Nat.le_of_ble_eq_true rfl) (Nat.le_of_ble_eq_true rfl)
    · obtain ⟨c9_2, hu_2⟩ := hu_2
      have c9_2 : okR i 0 2 = true := c9_2
      subst hu_2
      have hP : pG G (wO G a σ ρ) H := hP
      have hD : va_D A (wO G a σ ρ) := hD
      refine lv_aload_n hx hb dX2_successor_10 rfl (lv_at hl 0 rfl) ?_
      refine lv_iload_n hx hb dX2_successor_11 rfl (lv_at hl 1 rfl) ?_
      refine co_xVv (As := [.int n]) (rest := []) S (c_X2_requireAlive l hl9 G sa a σ ρ n) (cwV 1 hts gX2_successor_X2_requireAlive rfl rfl rfl (by decide +kernel) ⟨Nat.le_of_ble_eq_true rfl, Nat.le_of_ble_eq_true rfl⟩) hK hP hD hS hA hX (va_recv hK hP (ci := 1) (q0 := 0) rfl rfl) rfl hl.1 rfl (Nat.le_of_ble_eq_true rfl) dX2_successor_12 ⟨Nat.le_of_ble_eq_true rfl, Nat.le_of_ble_eq_true rfl⟩ (fun E9 ce9 q9 u9 H9 locs9 hp9 hP9 hD9 hS9 h19 h29 h39 => ?_) (fun u_3 H locs hu_3 hP hD hS => ?_)
      · exact co_out u9 hno hlocks hK hP9 hD9 hS9 (⟨exq_2 (by simp only [cdP, c9_1, c9_2, hp9.1, Bool.false_eq_true, ↓reduceIte]) hp9.2.1, by rw [hp9.2.2]⟩) h19 h29 h39 (Nat.le_of_ble_eq_true rfl) (Nat.le_of_ble_eq_true rfl)
      · obtain ⟨c9_3, hu_3⟩ := hu_3
        have c9_3 : alv (σ 0) n = true := c9_3
        subst hu_3
        have hP : pG G (wO G a σ ρ) H := hP
        have hD : va_D A (wO G a σ ρ) := hD
        refine lv_aload_n hx hb dX2_successor_15 rfl (lv_at hl 0 rfl) ?_
        refine va_get (D := G.1) (ci := 1) (v := .ref (a 2)) (C := RX2) (T := TX2) (N := 12) hx hb hts uX2 hown hK hP 0 rfl rfl 1 (by decide) (hts (.fieldLink RX2 18 "ChordOverlay" "successors" "LChordOverlay$Table;") (by decide +kernel)) (fun _ h9 => h9) rfl dX2_successor_16 ?_
        refine lv_iload_n hx hb dX2_successor_19 rfl (lv_at hl 1 rfl) ?_
        refine lv_iload_n hx hb dX2_successor_20 rfl (lv_at hl 2 rfl) ?_
        refine co_rV (As := [.int n, .int i]) (rest := []) S (c_X1_at l G (a 2) (a 3) 3 (σ 1) n i (by decide)) (cwV 2 hts gX2_successor_X1_at rfl rfl rfl (by decide +kernel) ⟨Nat.le_of_ble_eq_true rfl, Nat.le_of_ble_eq_true rfl⟩) hK (pG_perm hP [2, 3] rfl) (va_recv hK hP (ci := 0) (q0 := 2) rfl rfl) rfl hl.1 rfl (Nat.le_of_ble_eq_true rfl) dX2_successor_21 ⟨Nat.le_of_ble_eq_true rfl, Nat.le_of_ble_eq_true rfl⟩ ?_
        exact co_endXi (σ, ρ) S hr hlocks dX2_successor_24 hK hP hD hS (by refine ⟨?_, ?_, ?_⟩; (simp only [cdP, c9_1, c9_2, c9_3, eq_self, Bool.false_eq_true, ↓reduceIte]); (show _ = (tat 3 (σ 1) n i); first | rfl | (simp only [c9_1, c9_2, c9_3, eq_self, Bool.false_eq_true, ↓reduceIte])); (show σ = σ; first | rfl | (simp only [c9_1, c9_2, c9_3, eq_self, Bool.false_eq_true, ↓reduceIte]))) (Nat.le_of_ble_eq_true rfl) (Nat.le_of_ble_eq_true rfl)

abbrev rm_X2_liveSuccessor : Room := { frames := 8, cells := 2, slots := 12, locals := 132 }
set_option maxHeartbeats 4000000 in
set_option maxRecDepth 100000 in
theorem c_X2_liveSuccessor (l : Launch) (hl9 : l.stackTraces = false) (G : cG) (sa : Nat → Nat) (a : Nat → Nat) (σ ρ : cS) (n : Int32) : MetXi l yX2_liveSuccessor wsX2_liveSuccessor rm_X2_liveSuccessor G sa (wO G a σ ρ) [.ref (a 0), .int n] (fun u : cS × cS => wO G a u.1 u.2) (fun r u => (cdA σ n) = 0 ∧ r = (lsF (σ 0) (σ 1) n) ∧ u.1 = σ) (fun E u => exq (cdA σ n) E ∧ u.1 = σ) 2 12 := by
  refine co_bodyXi (cc := cX2_liveSuccessor) (maxL := 2) (ret := (some .int)) (by decide) rfl (Nat.le_of_ble_eq_true rfl) ?_
  intro p e s m args below meth c S hr hlocks hno hK A hA hP hD hS hX ls hl
  have S : CallFix p m c cX2_liveSuccessor 2 s args wsX2_liveSuccessor RX2 := S
  obtain ⟨hx, hb, hml, hown, hts⟩ := id S
  have hl : lv_has ls 2 [(0, .ref (a 0)), (1, .int n)] := hl
  refine lv_iload_n hx hb dX2_liveSuccessor_0 rfl (lv_at hl 1 rfl) ?_
  refine co_xSv (As := [.int n]) (rest := []) S (c_X2_requireIdentifier l hl9 G sa a σ ρ n) (va_cwS 1 hts gX2_liveSuccessor_X2_requireIdentifier rfl rfl rfl (by decide +kernel) ⟨Nat.le_of_ble_eq_true rfl, Nat.le_of_ble_eq_true rfl⟩) hK hP hD hS hA hX rfl hl.1 rfl (Nat.le_of_ble_eq_true rfl) dX2_liveSuccessor_1 ⟨Nat.le_of_ble_eq_true rfl, Nat.le_of_ble_eq_true rfl⟩ (fun E9 ce9 q9 u9 H9 locs9 hp9 hP9 hD9 hS9 h19 h29 h39 => ?_) (fun u_1 H locs hu_1 hP hD hS => ?_)
  · exact co_out u9 hno hlocks hK hP9 hD9 hS9 (⟨exq_1 (by simp only [cdA, hp9.1, Bool.false_eq_true, ↓reduceIte]) hp9.2.1, by rw [hp9.2.2]⟩) h19 h29 h39 (Nat.le_of_ble_eq_true rfl) (Nat.le_of_ble_eq_true rfl)
  · obtain ⟨c9_1, hu_1⟩ := hu_1
    have c9_1 : okR n 0 63 = true := c9_1
    subst hu_1
    have hP : pG G (wO G a σ ρ) H := hP
    have hD : va_D A (wO G a σ ρ) := hD
    refine lv_aload_n hx hb dX2_liveSuccessor_4 rfl (lv_at hl 0 rfl) ?_
    refine lv_iload_n hx hb dX2_liveSuccessor_5 rfl (lv_at hl 1 rfl) ?_
    refine co_xVv (As := [.int n]) (rest := []) S (c_X2_requireAlive l hl9 G sa a σ ρ n) (cwV 1 hts gX2_liveSuccessor_X2_requireAlive rfl rfl rfl (by decide +kernel) ⟨Nat.le_of_ble_eq_true rfl, Nat.le_of_ble_eq_true rfl⟩) hK hP hD hS hA hX (va_recv hK hP (ci := 1) (q0 := 0) rfl rfl) rfl hl.1 rfl (Nat.le_of_ble_eq_true rfl) dX2_liveSuccessor_6 ⟨Nat.le_of_ble_eq_true rfl, Nat.le_of_ble_eq_true rfl⟩ (fun E9 ce9 q9 u9 H9 locs9 hp9 hP9 hD9 hS9 h19 h29 h39 => ?_) (fun u_2 H locs hu_2 hP hD hS => ?_)
    · exact co_out u9 hno hlocks hK hP9 hD9 hS9 (⟨exq_2 (by simp only [cdA, c9_1, hp9.1, Bool.false_eq_true, ↓reduceIte]) hp9.2.1, by rw [hp9.2.2]⟩) h19 h29 h39 (Nat.le_of_ble_eq_true rfl) (Nat.le_of_ble_eq_true rfl)
    · obtain ⟨c9_2, hu_2⟩ := hu_2
      have c9_2 : alv (σ 0) n = true := c9_2
      subst hu_2
      have hP : pG G (wO G a σ ρ) H := hP
      have hD : va_D A (wO G a σ ρ) := hD
      refine lv_aload_n hx hb dX2_liveSuccessor_9 rfl (lv_at hl 0 rfl) ?_
      refine lv_iload_n hx hb dX2_liveSuccessor_10 rfl (lv_at hl 1 rfl) ?_
      refine co_rV (As := [.int n]) (rest := []) S (c_X2_firstLivingSuccessor l G a σ ρ n) (cwV 1 hts gX2_liveSuccessor_X2_firstLivingSuccessor rfl rfl rfl (by decide +kernel) ⟨Nat.le_of_ble_eq_true rfl, Nat.le_of_ble_eq_true rfl⟩) hK hP (va_recv hK hP (ci := 1) (q0 := 0) rfl rfl) rfl hl.1 rfl (Nat.le_of_ble_eq_true rfl) dX2_liveSuccessor_11 ⟨Nat.le_of_ble_eq_true rfl, Nat.le_of_ble_eq_true rfl⟩ ?_
      exact co_endXi (σ, ρ) S hr hlocks dX2_liveSuccessor_14 hK hP hD hS (by refine ⟨?_, ?_, ?_⟩; (simp only [cdA, c9_1, c9_2, eq_self, Bool.false_eq_true, ↓reduceIte]); (show _ = (lsF (σ 0) (σ 1) n); first | rfl | (simp only [c9_1, c9_2, eq_self, Bool.false_eq_true, ↓reduceIte])); (show σ = σ; first | rfl | (simp only [c9_1, c9_2, eq_self, Bool.false_eq_true, ↓reduceIte]))) (Nat.le_of_ble_eq_true rfl) (Nat.le_of_ble_eq_true rfl)

set_option maxRecDepth 20000 in
theorem uX2_X2_predecessor : ∀ w ∈ u_ws RX2 TX2 12, w ∈ wsX2_predecessor := by decide +kernel
abbrev rm_X2_predecessor : Room := { frames := 8, cells := 2, slots := 12, locals := 132 }
set_option maxHeartbeats 4000000 in
set_option maxRecDepth 100000 in
theorem c_X2_predecessor (l : Launch) (hl9 : l.stackTraces = false) (G : cG) (sa : Nat → Nat) (a : Nat → Nat) (σ ρ : cS) (n : Int32) : MetXi l yX2_predecessor wsX2_predecessor rm_X2_predecessor G sa (wO G a σ ρ) [.ref (a 0), .int n] (fun u : cS × cS => wO G a u.1 u.2) (fun r u => (cdA σ n) = 0 ∧ r = (tat 1 (σ 2) n 0) ∧ u.1 = σ) (fun E u => exq (cdA σ n) E ∧ u.1 = σ) 2 12 := by
  refine co_bodyXi (cc := cX2_predecessor) (maxL := 2) (ret := (some .int)) (by decide) rfl (Nat.le_of_ble_eq_true rfl) ?_
  intro p e s m args below meth c S hr hlocks hno hK A hA hP hD hS hX ls hl
  have S : CallFix p m c cX2_predecessor 2 s args wsX2_predecessor RX2 := S
  obtain ⟨hx, hb, hml, hown, hts⟩ := id S
  have hl : lv_has ls 2 [(0, .ref (a 0)), (1, .int n)] := hl
  have uX2 := uX2_X2_predecessor
  refine lv_iload_n hx hb dX2_predecessor_0 rfl (lv_at hl 1 rfl) ?_
  refine co_xSv (As := [.int n]) (rest := []) S (c_X2_requireIdentifier l hl9 G sa a σ ρ n) (va_cwS 1 hts gX2_predecessor_X2_requireIdentifier rfl rfl rfl (by decide +kernel) ⟨Nat.le_of_ble_eq_true rfl, Nat.le_of_ble_eq_true rfl⟩) hK hP hD hS hA hX rfl hl.1 rfl (Nat.le_of_ble_eq_true rfl) dX2_predecessor_1 ⟨Nat.le_of_ble_eq_true rfl, Nat.le_of_ble_eq_true rfl⟩ (fun E9 ce9 q9 u9 H9 locs9 hp9 hP9 hD9 hS9 h19 h29 h39 => ?_) (fun u_1 H locs hu_1 hP hD hS => ?_)
  · exact co_out u9 hno hlocks hK hP9 hD9 hS9 (⟨exq_1 (by simp only [cdA, hp9.1, Bool.false_eq_true, ↓reduceIte]) hp9.2.1, by rw [hp9.2.2]⟩) h19 h29 h39 (Nat.le_of_ble_eq_true rfl) (Nat.le_of_ble_eq_true rfl)
  · obtain ⟨c9_1, hu_1⟩ := hu_1
    have c9_1 : okR n 0 63 = true := c9_1
    subst hu_1
    have hP : pG G (wO G a σ ρ) H := hP
    have hD : va_D A (wO G a σ ρ) := hD
    refine lv_aload_n hx hb dX2_predecessor_4 rfl (lv_at hl 0 rfl) ?_
    refine lv_iload_n hx hb dX2_predecessor_5 rfl (lv_at hl 1 rfl) ?_
    refine co_xVv (As := [.int n]) (rest := []) S (c_X2_requireAlive l hl9 G sa a σ ρ n) (cwV 1 hts gX2_predecessor_X2_requireAlive rfl rfl rfl (by decide +kernel) ⟨Nat.le_of_ble_eq_true rfl, Nat.le_of_ble_eq_true rfl⟩) hK hP hD hS hA hX (va_recv hK hP (ci := 1) (q0 := 0) rfl rfl) rfl hl.1 rfl (Nat.le_of_ble_eq_true rfl) dX2_predecessor_6 ⟨Nat.le_of_ble_eq_true rfl, Nat.le_of_ble_eq_true rfl⟩ (fun E9 ce9 q9 u9 H9 locs9 hp9 hP9 hD9 hS9 h19 h29 h39 => ?_) (fun u_2 H locs hu_2 hP hD hS => ?_)
    · exact co_out u9 hno hlocks hK hP9 hD9 hS9 (⟨exq_2 (by simp only [cdA, c9_1, hp9.1, Bool.false_eq_true, ↓reduceIte]) hp9.2.1, by rw [hp9.2.2]⟩) h19 h29 h39 (Nat.le_of_ble_eq_true rfl) (Nat.le_of_ble_eq_true rfl)
    · obtain ⟨c9_2, hu_2⟩ := hu_2
      have c9_2 : alv (σ 0) n = true := c9_2
      subst hu_2
      have hP : pG G (wO G a σ ρ) H := hP
      have hD : va_D A (wO G a σ ρ) := hD
      refine lv_aload_n hx hb dX2_predecessor_9 rfl (lv_at hl 0 rfl) ?_
      refine va_get (D := G.1) (ci := 1) (v := .ref (a 4)) (C := RX2) (T := TX2) (N := 12) hx hb hts uX2 hown hK hP 0 rfl rfl 2 (by decide) (hts (.fieldLink RX2 22 "ChordOverlay" "predecessors" "LChordOverlay$Table;") (by decide +kernel)) (fun _ h9 => h9) rfl dX2_predecessor_10 ?_
      refine lv_iload_n hx hb dX2_predecessor_13 rfl (lv_at hl 1 rfl) ?_
      refine lv_iconst (v := 0) hx hb dX2_predecessor_14 (by decide) ?_
      refine co_rV (As := [.int n, .int 0]) (rest := []) S (c_X1_at l G (a 4) (a 5) 1 (σ 2) n 0 (by decide)) (cwV 2 hts gX2_predecessor_X1_at rfl rfl rfl (by decide +kernel) ⟨Nat.le_of_ble_eq_true rfl, Nat.le_of_ble_eq_true rfl⟩) hK (pG_perm hP [4, 5] rfl) (va_recv hK hP (ci := 0) (q0 := 4) rfl rfl) rfl hl.1 rfl (Nat.le_of_ble_eq_true rfl) dX2_predecessor_15 ⟨Nat.le_of_ble_eq_true rfl, Nat.le_of_ble_eq_true rfl⟩ ?_
      exact co_endXi (σ, ρ) S hr hlocks dX2_predecessor_18 hK hP hD hS (by refine ⟨?_, ?_, ?_⟩; (simp only [cdA, c9_1, c9_2, eq_self, Bool.false_eq_true, ↓reduceIte]); (show _ = (tat 1 (σ 2) n 0); first | rfl | (simp only [c9_1, c9_2, eq_self, Bool.false_eq_true, ↓reduceIte])); (show σ = σ; first | rfl | (simp only [c9_1, c9_2, eq_self, Bool.false_eq_true, ↓reduceIte]))) (Nat.le_of_ble_eq_true rfl) (Nat.le_of_ble_eq_true rfl)

set_option maxRecDepth 20000 in
theorem uX2_X2_finger : ∀ w ∈ u_ws RX2 TX2 12, w ∈ wsX2_finger := by decide +kernel
abbrev rm_X2_finger : Room := { frames := 8, cells := 3, slots := 18, locals := 132 }
set_option maxHeartbeats 4000000 in
set_option maxRecDepth 100000 in
theorem c_X2_finger (l : Launch) (hl9 : l.stackTraces = false) (G : cG) (sa : Nat → Nat) (a : Nat → Nat) (σ ρ : cS) (n : Int32) (i : Int32) : MetXi l yX2_finger wsX2_finger rm_X2_finger G sa (wO G a σ ρ) [.ref (a 0), .int n, .int i] (fun u : cS × cS => wO G a u.1 u.2) (fun r u => (cdP σ n i 5) = 0 ∧ r = (tat 6 (σ 3) n i) ∧ u.1 = σ) (fun E u => exq (cdP σ n i 5) E ∧ u.1 = σ) 3 18 := by
  refine co_bodyXi (cc := cX2_finger) (maxL := 3) (ret := (some .int)) (by decide) rfl (Nat.le_of_ble_eq_true rfl) ?_
  intro p e s m args below meth c S hr hlocks hno hK A hA hP hD hS hX ls hl
  have S : CallFix p m c cX2_finger 3 s args wsX2_finger RX2 := S
  obtain ⟨hx, hb, hml, hown, hts⟩ := id S
  have hl : lv_has ls 3 [(0, .ref (a 0)), (1, .int n), (2, .int i)] := hl
  have uX2 := uX2_X2_finger
  refine lv_iload_n hx hb dX2_finger_0 rfl (lv_at hl 1 rfl) ?_
  refine co_xSv (As := [.int n]) (rest := []) S (c_X2_requireIdentifier l hl9 G sa a σ ρ n) (va_cwS 1 hts gX2_finger_X2_requireIdentifier rfl rfl rfl (by decide +kernel) ⟨Nat.le_of_ble_eq_true rfl, Nat.le_of_ble_eq_true rfl⟩) hK hP hD hS hA hX rfl hl.1 rfl (Nat.le_of_ble_eq_true rfl) dX2_finger_1 ⟨Nat.le_of_ble_eq_true rfl, Nat.le_of_ble_eq_true rfl⟩ (fun E9 ce9 q9 u9 H9 locs9 hp9 hP9 hD9 hS9 h19 h29 h39 => ?_) (fun u_1 H locs hu_1 hP hD hS => ?_)
  · exact co_out u9 hno hlocks hK hP9 hD9 hS9 (⟨exq_1 (by simp only [cdP, hp9.1, Bool.false_eq_true, ↓reduceIte]) hp9.2.1, by rw [hp9.2.2]⟩) h19 h29 h39 (Nat.le_of_ble_eq_true rfl) (Nat.le_of_ble_eq_true rfl)
  · obtain ⟨c9_1, hu_1⟩ := hu_1
    have c9_1 : okR n 0 63 = true := c9_1
    subst hu_1
    have hP : pG G (wO G a σ ρ) H := hP
    have hD : va_D A (wO G a σ ρ) := hD
    refine lv_iload_n hx hb dX2_finger_4 rfl (lv_at hl 2 rfl) ?_
    refine lv_iconst (v := 0) hx hb dX2_finger_5 (by decide) ?_
    refine lv_iconst (v := 5) hx hb dX2_finger_6 (by decide) ?_
    refine co_xSv (As := [.int i, .int 0, .int 5]) (rest := []) S (c_X2_requireRange l hl9 G sa a σ ρ i 0 5) (va_cwS 3 hts gX2_finger_X2_requireRange rfl rfl rfl (by decide +kernel) ⟨Nat.le_of_ble_eq_true rfl, Nat.le_of_ble_eq_true rfl⟩) hK hP hD hS hA hX rfl hl.1 rfl (Nat.le_of_ble_eq_true rfl) dX2_finger_7 ⟨Nat.le_of_ble_eq_true rfl, Nat.le_of_ble_eq_true rfl⟩ (fun E9 ce9 q9 u9 H9 locs9 hp9 hP9 hD9 hS9 h19 h29 h39 => ?_) (fun u_2 H locs hu_2 hP hD hS => ?_)
    · exact co_out u9 hno hlocks hK hP9 hD9 hS9 (⟨exq_1 (by simp only [cdP, c9_1, hp9.1, Bool.false_eq_true, ↓reduceIte]) hp9.2.1, by rw [hp9.2.2]⟩) h19 h29 h39 (Nat.le_of_ble_eq_true rfl) (Nat.le_of_ble_eq_true rfl)
    · obtain ⟨c9_2, hu_2⟩ := hu_2
      have c9_2 : okR i 0 5 = true := c9_2
      subst hu_2
      have hP : pG G (wO G a σ ρ) H := hP
      have hD : va_D A (wO G a σ ρ) := hD
      refine lv_aload_n hx hb dX2_finger_10 rfl (lv_at hl 0 rfl) ?_
      refine lv_iload_n hx hb dX2_finger_11 rfl (lv_at hl 1 rfl) ?_
      refine co_xVv (As := [.int n]) (rest := []) S (c_X2_requireAlive l hl9 G sa a σ ρ n) (cwV 1 hts gX2_finger_X2_requireAlive rfl rfl rfl (by decide +kernel) ⟨Nat.le_of_ble_eq_true rfl, Nat.le_of_ble_eq_true rfl⟩) hK hP hD hS hA hX (va_recv hK hP (ci := 1) (q0 := 0) rfl rfl) rfl hl.1 rfl (Nat.le_of_ble_eq_true rfl) dX2_finger_12 ⟨Nat.le_of_ble_eq_true rfl, Nat.le_of_ble_eq_true rfl⟩ (fun E9 ce9 q9 u9 H9 locs9 hp9 hP9 hD9 hS9 h19 h29 h39 => ?_) (fun u_3 H locs hu_3 hP hD hS => ?_)
      · exact co_out u9 hno hlocks hK hP9 hD9 hS9 (⟨exq_2 (by simp only [cdP, c9_1, c9_2, hp9.1, Bool.false_eq_true, ↓reduceIte]) hp9.2.1, by rw [hp9.2.2]⟩) h19 h29 h39 (Nat.le_of_ble_eq_true rfl) (Nat.le_of_ble_eq_true rfl)
      · obtain ⟨c9_3, hu_3⟩ := hu_3
        have c9_3 : alv (σ 0) n = true := c9_3
        subst hu_3
        have hP : pG G (wO G a σ ρ) H := hP
        have hD : va_D A (wO G a σ ρ) := hD
        refine lv_aload_n hx hb dX2_finger_15 rfl (lv_at hl 0 rfl) ?_
        refine va_get (D := G.1) (ci := 1) (v := .ref (a 6)) (C := RX2) (T := TX2) (N := 12) hx hb hts uX2 hown hK hP 0 rfl rfl 3 (by decide) (hts (.fieldLink RX2 25 "ChordOverlay" "fingers" "LChordOverlay$Table;") (by decide +kernel)) (fun _ h9 => h9) rfl dX2_finger_16 ?_
        refine lv_iload_n hx hb dX2_finger_19 rfl (lv_at hl 1 rfl) ?_
        refine lv_iload_n hx hb dX2_finger_20 rfl (lv_at hl 2 rfl) ?_
        refine co_rV (As := [.int n, .int i]) (rest := []) S (c_X1_at l G (a 6) (a 7) 6 (σ 3) n i (by decide)) (cwV 2 hts gX2_finger_X1_at rfl rfl rfl (by decide +kernel) ⟨Nat.le_of_ble_eq_true rfl, Nat.le_of_ble_eq_true rfl⟩) hK (pG_perm hP [6, 7] rfl) (va_recv hK hP (ci := 0) (q0 := 6) rfl rfl) rfl hl.1 rfl (Nat.le_of_ble_eq_true rfl) dX2_finger_21 ⟨Nat.le_of_ble_eq_true rfl, Nat.le_of_ble_eq_true rfl⟩ ?_
        exact co_endXi (σ, ρ) S hr hlocks dX2_finger_24 hK hP hD hS (by refine ⟨?_, ?_, ?_⟩; (simp only [cdP, c9_1, c9_2, c9_3, eq_self, Bool.false_eq_true, ↓reduceIte]); (show _ = (tat 6 (σ 3) n i); first | rfl | (simp only [c9_1, c9_2, c9_3, eq_self, Bool.false_eq_true, ↓reduceIte])); (show σ = σ; first | rfl | (simp only [c9_1, c9_2, c9_3, eq_self, Bool.false_eq_true, ↓reduceIte]))) (Nat.le_of_ble_eq_true rfl) (Nat.le_of_ble_eq_true rfl)

set_option maxRecDepth 20000 in
theorem uX2_X2_check : ∀ w ∈ u_ws RX2 TX2 12, w ∈ wsX2_check := by decide +kernel
abbrev rm_X2_check : Room := { frames := 8, cells := 2, slots := 12, locals := 132 }
set_option maxHeartbeats 4000000 in
set_option maxRecDepth 100000 in
theorem c_X2_check (l : Launch) (hl9 : l.stackTraces = false) (G : cG) (sa : Nat → Nat) (a : Nat → Nat) (σ ρ : cS) (n : Int32) : MetXi l yX2_check wsX2_check rm_X2_check G sa (wO G a σ ρ) [.ref (a 0), .int n] (fun u : cS × cS => wO G a u.1 u.2) (fun r u => (cdA σ n) = 0 ∧ r = (bI (chB σ n)) ∧ u.1 = (ddS σ n)) (fun E u => exq (cdA σ n) E ∧ u.1 = σ) 2 12 := by
  refine co_bodyXi (cc := cX2_check) (maxL := 2) (ret := (some .boolean)) (by decide) rfl (Nat.le_of_ble_eq_true rfl) ?_
  intro p e s m args below meth c S hr hlocks hno hK A hA hP hD hS hX ls hl
  have S : CallFix p m c cX2_check 2 s args wsX2_check RX2 := S
  obtain ⟨hx, hb, hml, hown, hts⟩ := id S
  have hl : lv_has ls 2 [(0, .ref (a 0)), (1, .int n)] := hl
  have uX2 := uX2_X2_check
  refine lv_iload_n hx hb dX2_check_0 rfl (lv_at hl 1 rfl) ?_
  refine co_xSv (As := [.int n]) (rest := []) S (c_X2_requireIdentifier l hl9 G sa a σ ρ n) (va_cwS 1 hts gX2_check_X2_requireIdentifier rfl rfl rfl (by decide +kernel) ⟨Nat.le_of_ble_eq_true rfl, Nat.le_of_ble_eq_true rfl⟩) hK hP hD hS hA hX rfl hl.1 rfl (Nat.le_of_ble_eq_true rfl) dX2_check_1 ⟨Nat.le_of_ble_eq_true rfl, Nat.le_of_ble_eq_true rfl⟩ (fun E9 ce9 q9 u9 H9 locs9 hp9 hP9 hD9 hS9 h19 h29 h39 => ?_) (fun u_1 H locs hu_1 hP hD hS => ?_)
  · exact co_out u9 hno hlocks hK hP9 hD9 hS9 (⟨exq_1 (by simp only [cdA, hp9.1, Bool.false_eq_true, ↓reduceIte]) hp9.2.1, by rw [hp9.2.2]⟩) h19 h29 h39 (Nat.le_of_ble_eq_true rfl) (Nat.le_of_ble_eq_true rfl)
  · obtain ⟨c9_1, hu_1⟩ := hu_1
    have c9_1 : okR n 0 63 = true := c9_1
    subst hu_1
    have hP : pG G (wO G a σ ρ) H := hP
    have hD : va_D A (wO G a σ ρ) := hD
    refine lv_aload_n hx hb dX2_check_4 rfl (lv_at hl 0 rfl) ?_
    refine lv_iload_n hx hb dX2_check_5 rfl (lv_at hl 1 rfl) ?_
    refine co_xVv (As := [.int n]) (rest := []) S (c_X2_requireAlive l hl9 G sa a σ ρ n) (cwV 1 hts gX2_check_X2_requireAlive rfl rfl rfl (by decide +kernel) ⟨Nat.le_of_ble_eq_true rfl, Nat.le_of_ble_eq_true rfl⟩) hK hP hD hS hA hX (va_recv hK hP (ci := 1) (q0 := 0) rfl rfl) rfl hl.1 rfl (Nat.le_of_ble_eq_true rfl) dX2_check_6 ⟨Nat.le_of_ble_eq_true rfl, Nat.le_of_ble_eq_true rfl⟩ (fun E9 ce9 q9 u9 H9 locs9 hp9 hP9 hD9 hS9 h19 h29 h39 => ?_) (fun u_2 H locs hu_2 hP hD hS => ?_)
    · exact co_out u9 hno hlocks hK hP9 hD9 hS9 (⟨exq_2 (by simp only [cdA, c9_1, hp9.1, Bool.false_eq_true, ↓reduceIte]) hp9.2.1, by rw [hp9.2.2]⟩) h19 h29 h39 (Nat.le_of_ble_eq_true rfl) (Nat.le_of_ble_eq_true rfl)
    · obtain ⟨c9_2, hu_2⟩ := hu_2
      have c9_2 : alv (σ 0) n = true := c9_2
      subst hu_2
      have hP : pG G (wO G a σ ρ) H := hP
      have hD : va_D A (wO G a σ ρ) := hD
      refine lv_aload_n hx hb dX2_check_9 rfl (lv_at hl 0 rfl) ?_
      refine lv_iload_n hx hb dX2_check_10 rfl (lv_at hl 1 rfl) ?_
      refine co_mVv (As := [.int n]) (rest := []) S (c_X2_dropDeadPredecessor l G a σ ρ n) (cwV 1 hts gX2_check_X2_dropDeadPredecessor rfl rfl rfl (by decide +kernel) ⟨Nat.le_of_ble_eq_true rfl, Nat.le_of_ble_eq_true rfl⟩) hK hP hD hS hA (va_recv hK hP (ci := 1) (q0 := 0) rfl rfl) rfl hl.1 rfl (Nat.le_of_ble_eq_true rfl) dX2_check_11 ⟨Nat.le_of_ble_eq_true rfl, Nat.le_of_ble_eq_true rfl⟩ (fun u_3 H locs hu_3 hP hD hS => ?_)
      obtain ⟨σ_3, ρ_3⟩ := u_3
      have hu_3 : σ_3 = ddS σ n := hu_3
      have hP : pG G (wO G a σ_3 ρ_3) H := hP
      have hD : va_D A (wO G a σ_3 ρ_3) := hD
      refine lv_aload_n hx hb dX2_check_14 rfl (lv_at hl 0 rfl) ?_
      refine va_get (D := G.1) (ci := 1) (v := .ref (a 4)) (C := RX2) (T := TX2) (N := 12) hx hb hts uX2 hown hK hP 0 rfl rfl 2 (by decide) (hts (.fieldLink RX2 22 "ChordOverlay" "predecessors" "LChordOverlay$Table;") (by decide +kernel)) (fun _ h9 => h9) rfl dX2_check_15 ?_
      refine lv_iload_n hx hb dX2_check_18 rfl (lv_at hl 1 rfl) ?_
      refine lv_iconst (v := 0) hx hb dX2_check_19 (by decide) ?_
      refine co_rV (As := [.int n, .int 0]) (rest := []) S (c_X1_at l G (a 4) (a 5) 1 (σ_3 2) n 0 (by decide)) (cwV 2 hts gX2_check_X1_at rfl rfl rfl (by decide +kernel) ⟨Nat.le_of_ble_eq_true rfl, Nat.le_of_ble_eq_true rfl⟩) hK (pG_perm hP [4, 5] rfl) (va_recv hK hP (ci := 0) (q0 := 4) rfl rfl) rfl hl.1 rfl (Nat.le_of_ble_eq_true rfl) dX2_check_20 ⟨Nat.le_of_ble_eq_true rfl, Nat.le_of_ble_eq_true rfl⟩ ?_
      refine lv_iconst (v := (-1)) hx hb dX2_check_23 (by decide) ?_
      refine lv_icmp_eq (tgt := 31) hx hb dX2_check_24 (by decide) (fun c_4 => ?_) (fun c_4 => ?_)
      · refine lv_iconst (v := 0) hx hb dX2_check_31 (by decide) ?_
        exact co_endXiz (v := false) (σ_3, ρ_3) S hr hlocks dX2_check_32 hK hP hD hS (by refine ⟨?_, ?_, ?_⟩; (simp only [cdA, c9_1, c9_2, (eq_true c_4), eq_self, Bool.false_eq_true, ↓reduceIte]); (show _ = (bI (chB σ n)); subst hu_3; first | rfl | (simp only [chB, c9_1, c9_2, (eq_true c_4), eq_self, Bool.false_eq_true, ↓reduceIte])); (show σ_3 = (ddS σ n); subst hu_3; first | rfl | (simp only [chB, c9_1, c9_2, (eq_true c_4), eq_self, Bool.false_eq_true, ↓reduceIte]))) (Nat.le_of_ble_eq_true rfl) (Nat.le_of_ble_eq_true rfl)
      · refine lv_iconst (v := 1) hx hb dX2_check_27 (by decide) ?_
        refine lv_goto (tgt := 32) hx hb dX2_check_28 (by decide) ?_
        exact co_endXiz (v := true) (σ_3, ρ_3) S hr hlocks dX2_check_32 hK hP hD hS (by refine ⟨?_, ?_, ?_⟩; (simp only [cdA, c9_1, c9_2, c_4, eq_self, Bool.false_eq_true, ↓reduceIte]); (show _ = (bI (chB σ n)); subst hu_3; first | rfl | (simp only [chB, c9_1, c9_2, c_4, eq_self, Bool.false_eq_true, ↓reduceIte])); (show σ_3 = (ddS σ n); subst hu_3; first | rfl | (simp only [chB, c9_1, c9_2, c_4, eq_self, Bool.false_eq_true, ↓reduceIte]))) (Nat.le_of_ble_eq_true rfl) (Nat.le_of_ble_eq_true rfl)

set_option maxRecDepth 20000 in
theorem uX2_X2_stabilize : ∀ w ∈ u_ws RX2 TX2 12, w ∈ wsX2_stabilize := by decide +kernel
abbrev rm_X2_stabilize : Room := { frames := 8, cells := 2, slots := 12, locals := 132 }
set_option maxHeartbeats 4000000 in
set_option maxRecDepth 100000 in
theorem c_X2_stabilize (l : Launch) (hl9 : l.stackTraces = false) (G : cG) (sa : Nat → Nat) (a : Nat → Nat) (σ ρ : cS) (n : Int32) : MetXi l yX2_stabilize wsX2_stabilize rm_X2_stabilize G sa (wO G a σ ρ) [.ref (a 0), .int n] (fun u : cS × cS => wO G a u.1 u.2) (fun r u => (cdA σ n) = 0 ∧ r = (tat 3 (msS σ n 1) n 0) ∧ u.1 = (msS σ n)) (fun E u => exq (cdA σ n) E ∧ u.1 = σ) 2 12 := by
  refine co_bodyXi (cc := cX2_stabilize) (maxL := 2) (ret := (some .int)) (by decide) rfl (Nat.le_of_ble_eq_true rfl) ?_
  intro p e s m args below meth c S hr hlocks hno hK A hA hP hD hS hX ls hl
  have S : CallFix p m c cX2_stabilize 2 s args wsX2_stabilize RX2 := S
  obtain ⟨hx, hb, hml, hown, hts⟩ := id S
  have hl : lv_has ls 2 [(0, .ref (a 0)), (1, .int n)] := hl
  have uX2 := uX2_X2_stabilize
  refine lv_iload_n hx hb dX2_stabilize_0 rfl (lv_at hl 1 rfl) ?_
  refine co_xSv (As := [.int n]) (rest := []) S (c_X2_requireIdentifier l hl9 G sa a σ ρ n) (va_cwS 1 hts gX2_stabilize_X2_requireIdentifier rfl rfl rfl (by decide +kernel) ⟨Nat.le_of_ble_eq_true rfl, Nat.le_of_ble_eq_true rfl⟩) hK hP hD hS hA hX rfl hl.1 rfl (Nat.le_of_ble_eq_true rfl) dX2_stabilize_1 ⟨Nat.le_of_ble_eq_true rfl, Nat.le_of_ble_eq_true rfl⟩ (fun E9 ce9 q9 u9 H9 locs9 hp9 hP9 hD9 hS9 h19 h29 h39 => ?_) (fun u_1 H locs hu_1 hP hD hS => ?_)
  · exact co_out u9 hno hlocks hK hP9 hD9 hS9 (⟨exq_1 (by simp only [cdA, hp9.1, Bool.false_eq_true, ↓reduceIte]) hp9.2.1, by rw [hp9.2.2]⟩) h19 h29 h39 (Nat.le_of_ble_eq_true rfl) (Nat.le_of_ble_eq_true rfl)
  · obtain ⟨c9_1, hu_1⟩ := hu_1
    have c9_1 : okR n 0 63 = true := c9_1
    subst hu_1
    have hP : pG G (wO G a σ ρ) H := hP
    have hD : va_D A (wO G a σ ρ) := hD
    refine lv_aload_n hx hb dX2_stabilize_4 rfl (lv_at hl 0 rfl) ?_
    refine lv_iload_n hx hb dX2_stabilize_5 rfl (lv_at hl 1 rfl) ?_
    refine co_xVv (As := [.int n]) (rest := []) S (c_X2_requireAlive l hl9 G sa a σ ρ n) (cwV 1 hts gX2_stabilize_X2_requireAlive rfl rfl rfl (by decide +kernel) ⟨Nat.le_of_ble_eq_true rfl, Nat.le_of_ble_eq_true rfl⟩) hK hP hD hS hA hX (va_recv hK hP (ci := 1) (q0 := 0) rfl rfl) rfl hl.1 rfl (Nat.le_of_ble_eq_true rfl) dX2_stabilize_6 ⟨Nat.le_of_ble_eq_true rfl, Nat.le_of_ble_eq_true rfl⟩ (fun E9 ce9 q9 u9 H9 locs9 hp9 hP9 hD9 hS9 h19 h29 h39 => ?_) (fun u_2 H locs hu_2 hP hD hS => ?_)
    · exact co_out u9 hno hlocks hK hP9 hD9 hS9 (⟨exq_2 (by simp only [cdA, c9_1, hp9.1, Bool.false_eq_true, ↓reduceIte]) hp9.2.1, by rw [hp9.2.2]⟩) h19 h29 h39 (Nat.le_of_ble_eq_true rfl) (Nat.le_of_ble_eq_true rfl)
    · obtain ⟨c9_2, hu_2⟩ := hu_2
      have c9_2 : alv (σ 0) n = true := c9_2
      subst hu_2
      have hP : pG G (wO G a σ ρ) H := hP
      have hD : va_D A (wO G a σ ρ) := hD
      refine lv_aload_n hx hb dX2_stabilize_9 rfl (lv_at hl 0 rfl) ?_
      refine lv_iload_n hx hb dX2_stabilize_10 rfl (lv_at hl 1 rfl) ?_
      refine co_mVv (As := [.int n]) (rest := []) S (c_X2_mendSuccessors l G a σ ρ n) (cwV 1 hts gX2_stabilize_X2_mendSuccessors rfl rfl rfl (by decide +kernel) ⟨Nat.le_of_ble_eq_true rfl, Nat.le_of_ble_eq_true rfl⟩) hK hP hD hS hA (va_recv hK hP (ci := 1) (q0 := 0) rfl rfl) rfl hl.1 rfl (Nat.le_of_ble_eq_true rfl) dX2_stabilize_11 ⟨Nat.le_of_ble_eq_true rfl, Nat.le_of_ble_eq_true rfl⟩ (fun u_3 H locs hu_3 hP hD hS => ?_)
      obtain ⟨σ_3, ρ_3⟩ := u_3
      have hu_3 : σ_3 = msS σ n := hu_3
      have hP : pG G (wO G a σ_3 ρ_3) H := hP
      have hD : va_D A (wO G a σ_3 ρ_3) := hD
      refine lv_aload_n hx hb dX2_stabilize_14 rfl (lv_at hl 0 rfl) ?_
      refine va_get (D := G.1) (ci := 1) (v := .ref (a 2)) (C := RX2) (T := TX2) (N := 12) hx hb hts uX2 hown hK hP 0 rfl rfl 1 (by decide) (hts (.fieldLink RX2 18 "ChordOverlay" "successors" "LChordOverlay$Table;") (by decide +kernel)) (fun _ h9 => h9) rfl dX2_stabilize_15 ?_
      refine lv_iload_n hx hb dX2_stabilize_18 rfl (lv_at hl 1 rfl) ?_
      refine lv_iconst (v := 0) hx hb dX2_stabilize_19 (by decide) ?_
      refine co_rV (As := [.int n, .int 0]) (rest := []) S (c_X1_at l G (a 2) (a 3) 3 (σ_3 1) n 0 (by decide)) (cwV 2 hts gX2_stabilize_X1_at rfl rfl rfl (by decide +kernel) ⟨Nat.le_of_ble_eq_true rfl, Nat.le_of_ble_eq_true rfl⟩) hK (pG_perm hP [2, 3] rfl) (va_recv hK hP (ci := 0) (q0 := 2) rfl rfl) rfl hl.1 rfl (Nat.le_of_ble_eq_true rfl) dX2_stabilize_20 ⟨Nat.le_of_ble_eq_true rfl, Nat.le_of_ble_eq_true rfl⟩ ?_
      exact co_endXi (σ_3, ρ_3) S hr hlocks dX2_stabilize_23 hK hP hD hS (by exact ⟨by simp only [cdA, c9_1, c9_2, eq_self, Bool.false_eq_true, ↓reduceIte], by rw [hu_3], hu_3⟩) (Nat.le_of_ble_eq_true rfl) (Nat.le_of_ble_eq_true rfl)

abbrev rm_X2_fix : Room := { frames := 8, cells := 2, slots := 12, locals := 132 }
set_option maxHeartbeats 4000000 in
set_option maxRecDepth 100000 in
theorem c_X2_fix (l : Launch) (hl9 : l.stackTraces = false) (G : cG) (sa : Nat → Nat) (a : Nat → Nat) (σ ρ : cS) (n : Int32) : MetXi l yX2_fix wsX2_fix rm_X2_fix G sa (wO G a σ ρ) [.ref (a 0), .int n] (fun u : cS × cS => wO G a u.1 u.2) (fun r u => (cdA σ n) = 0 ∧ r = (rfC σ n 6) ∧ u.1 = (rfS σ n 6)) (fun E u => exq (cdA σ n) E ∧ u.1 = σ) 2 12 := by
  refine co_bodyXi (cc := cX2_fix) (maxL := 2) (ret := (some .int)) (by decide) rfl (Nat.le_of_ble_eq_true rfl) ?_
  intro p e s m args below meth c S hr hlocks hno hK A hA hP hD hS hX ls hl
  have S : CallFix p m c cX2_fix 2 s args wsX2_fix RX2 := S
  obtain ⟨hx, hb, hml, hown, hts⟩ := id S
  have hl : lv_has ls 2 [(0, .ref (a 0)), (1, .int n)] := hl
  refine lv_iload_n hx hb dX2_fix_0 rfl (lv_at hl 1 rfl) ?_
  refine co_xSv (As := [.int n]) (rest := []) S (c_X2_requireIdentifier l hl9 G sa a σ ρ n) (va_cwS 1 hts gX2_fix_X2_requireIdentifier rfl rfl rfl (by decide +kernel) ⟨Nat.le_of_ble_eq_true rfl, Nat.le_of_ble_eq_true rfl⟩) hK hP hD hS hA hX rfl hl.1 rfl (Nat.le_of_ble_eq_true rfl) dX2_fix_1 ⟨Nat.le_of_ble_eq_true rfl, Nat.le_of_ble_eq_true rfl⟩ (fun E9 ce9 q9 u9 H9 locs9 hp9 hP9 hD9 hS9 h19 h29 h39 => ?_) (fun u_1 H locs hu_1 hP hD hS => ?_)
  · exact co_out u9 hno hlocks hK hP9 hD9 hS9 (⟨exq_1 (by simp only [cdA, hp9.1, Bool.false_eq_true, ↓reduceIte]) hp9.2.1, by rw [hp9.2.2]⟩) h19 h29 h39 (Nat.le_of_ble_eq_true rfl) (Nat.le_of_ble_eq_true rfl)
  · obtain ⟨c9_1, hu_1⟩ := hu_1
    have c9_1 : okR n 0 63 = true := c9_1
    subst hu_1
    have hP : pG G (wO G a σ ρ) H := hP
    have hD : va_D A (wO G a σ ρ) := hD
    refine lv_aload_n hx hb dX2_fix_4 rfl (lv_at hl 0 rfl) ?_
    refine lv_iload_n hx hb dX2_fix_5 rfl (lv_at hl 1 rfl) ?_
    refine co_xVv (As := [.int n]) (rest := []) S (c_X2_requireAlive l hl9 G sa a σ ρ n) (cwV 1 hts gX2_fix_X2_requireAlive rfl rfl rfl (by decide +kernel) ⟨Nat.le_of_ble_eq_true rfl, Nat.le_of_ble_eq_true rfl⟩) hK hP hD hS hA hX (va_recv hK hP (ci := 1) (q0 := 0) rfl rfl) rfl hl.1 rfl (Nat.le_of_ble_eq_true rfl) dX2_fix_6 ⟨Nat.le_of_ble_eq_true rfl, Nat.le_of_ble_eq_true rfl⟩ (fun E9 ce9 q9 u9 H9 locs9 hp9 hP9 hD9 hS9 h19 h29 h39 => ?_) (fun u_2 H locs hu_2 hP hD hS => ?_)
    · exact co_out u9 hno hlocks hK hP9 hD9 hS9 (⟨exq_2 (by simp only [cdA, c9_1, hp9.1, Bool.false_eq_true, ↓reduceIte]) hp9.2.1, by rw [hp9.2.2]⟩) h19 h29 h39 (Nat.le_of_ble_eq_true rfl) (Nat.le_of_ble_eq_true rfl)
    · obtain ⟨c9_2, hu_2⟩ := hu_2
      have c9_2 : alv (σ 0) n = true := c9_2
      subst hu_2
      have hP : pG G (wO G a σ ρ) H := hP
      have hD : va_D A (wO G a σ ρ) := hD
      refine lv_aload_n hx hb dX2_fix_9 rfl (lv_at hl 0 rfl) ?_
      refine lv_iload_n hx hb dX2_fix_10 rfl (lv_at hl 1 rfl) ?_
      refine co_mVi (As := [.int n]) (rest := []) S (c_X2_renewFingers l G a σ ρ n) (cwV 1 hts gX2_fix_X2_renewFingers rfl rfl rfl (by decide +kernel) ⟨Nat.le_of_ble_eq_true rfl, Nat.le_of_ble_eq_true rfl⟩) hK hP hD hS hA (va_recv hK hP (ci := 1) (q0 := 0) rfl rfl) rfl hl.1 rfl (Nat.le_of_ble_eq_true rfl) dX2_fix_11 ⟨Nat.le_of_ble_eq_true rfl, Nat.le_of_ble_eq_true rfl⟩ (fun r_3 u_3 H locs hu_3 hP hD hS => ?_)
      obtain ⟨σ_3, ρ_3⟩ := u_3
      obtain ⟨hr_3, hu_3⟩ := hu_3
      have hr_3 : r_3 = rfC σ n 6 := hr_3
      have hu_3 : σ_3 = rfS σ n 6 := hu_3
      have hP : pG G (wO G a σ_3 ρ_3) H := hP
      have hD : va_D A (wO G a σ_3 ρ_3) := hD
      exact co_endXi (σ_3, ρ_3) S hr hlocks dX2_fix_14 hK hP hD hS (by refine ⟨?_, ?_, ?_⟩; (simp only [cdA, c9_1, c9_2, eq_self, Bool.false_eq_true, ↓reduceIte]); (show _ = (rfC σ n 6); subst hu_3; subst hr_3; first | rfl | (simp only [c9_1, c9_2, eq_self, Bool.false_eq_true, ↓reduceIte])); (show σ_3 = (rfS σ n 6); subst hu_3; subst hr_3; first | rfl | (simp only [c9_1, c9_2, eq_self, Bool.false_eq_true, ↓reduceIte]))) (Nat.le_of_ble_eq_true rfl) (Nat.le_of_ble_eq_true rfl)

abbrev rm_X2_replicate : Room := { frames := 8, cells := 2, slots := 12, locals := 132 }
set_option maxHeartbeats 4000000 in
set_option maxRecDepth 100000 in
theorem c_X2_replicate (l : Launch) (hl9 : l.stackTraces = false) (G : cG) (sa : Nat → Nat) (a : Nat → Nat) (σ ρ : cS) (n : Int32) : MetXi l yX2_replicate wsX2_replicate rm_X2_replicate G sa (wO G a σ ρ) [.ref (a 0), .int n] (fun u : cS × cS => wO G a u.1 u.2) (fun r u => (cdA σ n) = 0 ∧ r = (svC σ n 64) ∧ u.1 = (svS σ n 64)) (fun E u => exq (cdA σ n) E ∧ u.1 = σ) 2 12 := by
  refine co_bodyXi (cc := cX2_replicate) (maxL := 2) (ret := (some .int)) (by decide) rfl (Nat.le_of_ble_eq_true rfl) ?_
  intro p e s m args below meth c S hr hlocks hno hK A hA hP hD hS hX ls hl
  have S : CallFix p m c cX2_replicate 2 s args wsX2_replicate RX2 := S
  obtain ⟨hx, hb, hml, hown, hts⟩ := id S
  have hl : lv_has ls 2 [(0, .ref (a 0)), (1, .int n)] := hl
  refine lv_iload_n hx hb dX2_replicate_0 rfl (lv_at hl 1 rfl) ?_
  refine co_xSv (As := [.int n]) (rest := []) S (c_X2_requireIdentifier l hl9 G sa a σ ρ n) (va_cwS 1 hts gX2_replicate_X2_requireIdentifier rfl rfl rfl (by decide +kernel) ⟨Nat.le_of_ble_eq_true rfl, Nat.le_of_ble_eq_true rfl⟩) hK hP hD hS hA hX rfl hl.1 rfl (Nat.le_of_ble_eq_true rfl) dX2_replicate_1 ⟨Nat.le_of_ble_eq_true rfl, Nat.le_of_ble_eq_true rfl⟩ (fun E9 ce9 q9 u9 H9 locs9 hp9 hP9 hD9 hS9 h19 h29 h39 => ?_) (fun u_1 H locs hu_1 hP hD hS => ?_)
  · exact co_out u9 hno hlocks hK hP9 hD9 hS9 (⟨exq_1 (by simp only [cdA, hp9.1, Bool.false_eq_true, ↓reduceIte]) hp9.2.1, by rw [hp9.2.2]⟩) h19 h29 h39 (Nat.le_of_ble_eq_true rfl) (Nat.le_of_ble_eq_true rfl)
  · obtain ⟨c9_1, hu_1⟩ := hu_1
    have c9_1 : okR n 0 63 = true := c9_1
    subst hu_1
    have hP : pG G (wO G a σ ρ) H := hP
    have hD : va_D A (wO G a σ ρ) := hD
    refine lv_aload_n hx hb dX2_replicate_4 rfl (lv_at hl 0 rfl) ?_
    refine lv_iload_n hx hb dX2_replicate_5 rfl (lv_at hl 1 rfl) ?_
    refine co_xVv (As := [.int n]) (rest := []) S (c_X2_requireAlive l hl9 G sa a σ ρ n) (cwV 1 hts gX2_replicate_X2_requireAlive rfl rfl rfl (by decide +kernel) ⟨Nat.le_of_ble_eq_true rfl, Nat.le_of_ble_eq_true rfl⟩) hK hP hD hS hA hX (va_recv hK hP (ci := 1) (q0 := 0) rfl rfl) rfl hl.1 rfl (Nat.le_of_ble_eq_true rfl) dX2_replicate_6 ⟨Nat.le_of_ble_eq_true rfl, Nat.le_of_ble_eq_true rfl⟩ (fun E9 ce9 q9 u9 H9 locs9 hp9 hP9 hD9 hS9 h19 h29 h39 => ?_) (fun u_2 H locs hu_2 hP hD hS => ?_)
    · exact co_out u9 hno hlocks hK hP9 hD9 hS9 (⟨exq_2 (by simp only [cdA, c9_1, hp9.1, Bool.false_eq_true, ↓reduceIte]) hp9.2.1, by rw [hp9.2.2]⟩) h19 h29 h39 (Nat.le_of_ble_eq_true rfl) (Nat.le_of_ble_eq_true rfl)
    · obtain ⟨c9_2, hu_2⟩ := hu_2
      have c9_2 : alv (σ 0) n = true := c9_2
      subst hu_2
      have hP : pG G (wO G a σ ρ) H := hP
      have hD : va_D A (wO G a σ ρ) := hD
      refine lv_aload_n hx hb dX2_replicate_9 rfl (lv_at hl 0 rfl) ?_
      refine lv_iload_n hx hb dX2_replicate_10 rfl (lv_at hl 1 rfl) ?_
      refine co_mVi (As := [.int n]) (rest := []) S (c_X2_spreadValues l G a σ ρ n) (cwV 1 hts gX2_replicate_X2_spreadValues rfl rfl rfl (by decide +kernel) ⟨Nat.le_of_ble_eq_true rfl, Nat.le_of_ble_eq_true rfl⟩) hK hP hD hS hA (va_recv hK hP (ci := 1) (q0 := 0) rfl rfl) rfl hl.1 rfl (Nat.le_of_ble_eq_true rfl) dX2_replicate_11 ⟨Nat.le_of_ble_eq_true rfl, Nat.le_of_ble_eq_true rfl⟩ (fun r_3 u_3 H locs hu_3 hP hD hS => ?_)
      obtain ⟨σ_3, ρ_3⟩ := u_3
      obtain ⟨hr_3, hu_3⟩ := hu_3
      have hr_3 : r_3 = svC σ n 64 := hr_3
      have hu_3 : σ_3 = svS σ n 64 := hu_3
      have hP : pG G (wO G a σ_3 ρ_3) H := hP
      have hD : va_D A (wO G a σ_3 ρ_3) := hD
      exact co_endXi (σ_3, ρ_3) S hr hlocks dX2_replicate_14 hK hP hD hS (by refine ⟨?_, ?_, ?_⟩; (simp only [cdA, c9_1, c9_2, eq_self, Bool.false_eq_true, ↓reduceIte]); (show _ = (svC σ n 64); subst hu_3; subst hr_3; first | rfl | (simp only [c9_1, c9_2, eq_self, Bool.false_eq_true, ↓reduceIte])); (show σ_3 = (svS σ n 64); subst hu_3; subst hr_3; first | rfl | (simp only [c9_1, c9_2, eq_self, Bool.false_eq_true, ↓reduceIte]))) (Nat.le_of_ble_eq_true rfl) (Nat.le_of_ble_eq_true rfl)

abbrev rm_X2_lookup : Room := { frames := 8, cells := 3, slots := 18, locals := 132 }
set_option maxHeartbeats 4000000 in
set_option maxRecDepth 100000 in
theorem c_X2_lookup (l : Launch) (hl9 : l.stackTraces = false) (G : cG) (sa : Nat → Nat) (a : Nat → Nat) (σ ρ : cS) (n : Int32) (key : Int32) : MetXi l yX2_lookup wsX2_lookup rm_X2_lookup G sa (wO G a σ ρ) [.ref (a 0), .int n, .int key] (fun u : cS × cS => wO G a u.1 u.2) (fun r u => (cdP σ n key 63) = 0 ∧ r = (fnR σ n key) ∧ u.1 = σ) (fun E u => exq (cdP σ n key 63) E ∧ u.1 = σ) 3 18 := by
  refine co_bodyXi (cc := cX2_lookup) (maxL := 3) (ret := (some .int)) (by decide) rfl (Nat.le_of_ble_eq_true rfl) ?_
  intro p e s m args below meth c S hr hlocks hno hK A hA hP hD hS hX ls hl
  have S : CallFix p m c cX2_lookup 3 s args wsX2_lookup RX2 := S
  obtain ⟨hx, hb, hml, hown, hts⟩ := id S
  have hl : lv_has ls 3 [(0, .ref (a 0)), (1, .int n), (2, .int key)] := hl
  refine lv_iload_n hx hb dX2_lookup_0 rfl (lv_at hl 1 rfl) ?_
  refine co_xSv (As := [.int n]) (rest := []) S (c_X2_requireIdentifier l hl9 G sa a σ ρ n) (va_cwS 1 hts gX2_lookup_X2_requireIdentifier rfl rfl rfl (by decide +kernel) ⟨Nat.le_of_ble_eq_true rfl, Nat.le_of_ble_eq_true rfl⟩) hK hP hD hS hA hX rfl hl.1 rfl (Nat.le_of_ble_eq_true rfl) dX2_lookup_1 ⟨Nat.le_of_ble_eq_true rfl, Nat.le_of_ble_eq_true rfl⟩ (fun E9 ce9 q9 u9 H9 locs9 hp9 hP9 hD9 hS9 h19 h29 h39 => ?_) (fun u_1 H locs hu_1 hP hD hS => ?_)
  · exact co_out u9 hno hlocks hK hP9 hD9 hS9 (⟨exq_1 (by simp only [cdP, hp9.1, Bool.false_eq_true, ↓reduceIte]) hp9.2.1, by rw [hp9.2.2]⟩) h19 h29 h39 (Nat.le_of_ble_eq_true rfl) (Nat.le_of_ble_eq_true rfl)
  · obtain ⟨c9_1, hu_1⟩ := hu_1
    have c9_1 : okR n 0 63 = true := c9_1
    subst hu_1
    have hP : pG G (wO G a σ ρ) H := hP
    have hD : va_D A (wO G a σ ρ) := hD
    refine lv_iload_n hx hb dX2_lookup_4 rfl (lv_at hl 2 rfl) ?_
    refine co_xSv (As := [.int key]) (rest := []) S (c_X2_requireIdentifier l hl9 G sa a σ ρ key) (va_cwS 1 hts gX2_lookup_X2_requireIdentifier rfl rfl rfl (by decide +kernel) ⟨Nat.le_of_ble_eq_true rfl, Nat.le_of_ble_eq_true rfl⟩) hK hP hD hS hA hX rfl hl.1 rfl (Nat.le_of_ble_eq_true rfl) dX2_lookup_5 ⟨Nat.le_of_ble_eq_true rfl, Nat.le_of_ble_eq_true rfl⟩ (fun E9 ce9 q9 u9 H9 locs9 hp9 hP9 hD9 hS9 h19 h29 h39 => ?_) (fun u_2 H locs hu_2 hP hD hS => ?_)
    · exact co_out u9 hno hlocks hK hP9 hD9 hS9 (⟨exq_1 (by simp only [cdP, c9_1, hp9.1, Bool.false_eq_true, ↓reduceIte]) hp9.2.1, by rw [hp9.2.2]⟩) h19 h29 h39 (Nat.le_of_ble_eq_true rfl) (Nat.le_of_ble_eq_true rfl)
    · obtain ⟨c9_2, hu_2⟩ := hu_2
      have c9_2 : okR key 0 63 = true := c9_2
      subst hu_2
      have hP : pG G (wO G a σ ρ) H := hP
      have hD : va_D A (wO G a σ ρ) := hD
      refine lv_aload_n hx hb dX2_lookup_8 rfl (lv_at hl 0 rfl) ?_
      refine lv_iload_n hx hb dX2_lookup_9 rfl (lv_at hl 1 rfl) ?_
      refine co_xVv (As := [.int n]) (rest := []) S (c_X2_requireAlive l hl9 G sa a σ ρ n) (cwV 1 hts gX2_lookup_X2_requireAlive rfl rfl rfl (by decide +kernel) ⟨Nat.le_of_ble_eq_true rfl, Nat.le_of_ble_eq_true rfl⟩) hK hP hD hS hA hX (va_recv hK hP (ci := 1) (q0 := 0) rfl rfl) rfl hl.1 rfl (Nat.le_of_ble_eq_true rfl) dX2_lookup_10 ⟨Nat.le_of_ble_eq_true rfl, Nat.le_of_ble_eq_true rfl⟩ (fun E9 ce9 q9 u9 H9 locs9 hp9 hP9 hD9 hS9 h19 h29 h39 => ?_) (fun u_3 H locs hu_3 hP hD hS => ?_)
      · exact co_out u9 hno hlocks hK hP9 hD9 hS9 (⟨exq_2 (by simp only [cdP, c9_1, c9_2, hp9.1, Bool.false_eq_true, ↓reduceIte]) hp9.2.1, by rw [hp9.2.2]⟩) h19 h29 h39 (Nat.le_of_ble_eq_true rfl) (Nat.le_of_ble_eq_true rfl)
      · obtain ⟨c9_3, hu_3⟩ := hu_3
        have c9_3 : alv (σ 0) n = true := c9_3
        subst hu_3
        have hP : pG G (wO G a σ ρ) H := hP
        have hD : va_D A (wO G a σ ρ) := hD
        refine lv_aload_n hx hb dX2_lookup_13 rfl (lv_at hl 0 rfl) ?_
        refine lv_iload_n hx hb dX2_lookup_14 rfl (lv_at hl 1 rfl) ?_
        refine lv_iload_n hx hb dX2_lookup_15 rfl (lv_at hl 2 rfl) ?_
        refine co_mVi (As := [.int n, .int key]) (rest := []) S (c_X2_find l G a σ ρ n key) (cwV 2 hts gX2_lookup_X2_find rfl rfl rfl (by decide +kernel) ⟨Nat.le_of_ble_eq_true rfl, Nat.le_of_ble_eq_true rfl⟩) hK hP hD hS hA (va_recv hK hP (ci := 1) (q0 := 0) rfl rfl) rfl hl.1 rfl (Nat.le_of_ble_eq_true rfl) dX2_lookup_16 ⟨Nat.le_of_ble_eq_true rfl, Nat.le_of_ble_eq_true rfl⟩ (fun r_4 u_4 H locs hu_4 hP hD hS => ?_)
        obtain ⟨σ_4, ρ_4⟩ := u_4
        obtain ⟨hr_4, hu_4, hp_4⟩ := hu_4
        have hr_4 : r_4 = fnR σ n key := hr_4
        have hu_4 : σ_4 = σ := hu_4
        have hP : pG G (wO G a σ_4 ρ_4) H := hP
        have hD : va_D A (wO G a σ_4 ρ_4) := hD
        rw [hu_4] at hP hD
        exact co_endXi (σ, ρ_4) S hr hlocks dX2_lookup_19 hK hP hD hS (by refine ⟨?_, ?_, ?_⟩; (simp only [cdP, c9_1, c9_2, c9_3, eq_self, Bool.false_eq_true, ↓reduceIte]); (show _ = (fnR σ n key); subst hr_4; first | rfl | (simp only [c9_1, c9_2, c9_3, eq_self, Bool.false_eq_true, ↓reduceIte])); (show σ = σ; subst hr_4; first | rfl | (simp only [c9_1, c9_2, c9_3, eq_self, Bool.false_eq_true, ↓reduceIte]))) (Nat.le_of_ble_eq_true rfl) (Nat.le_of_ble_eq_true rfl)

set_option maxRecDepth 20000 in
theorem uX2_X2_put : ∀ w ∈ u_ws RX2 TX2 12, w ∈ wsX2_put := by decide +kernel
abbrev rm_X2_put : Room := { frames := 8, cells := 4, slots := 24, locals := 132 }
set_option maxHeartbeats 4000000 in
set_option maxRecDepth 100000 in
theorem c_X2_put (l : Launch) (hl9 : l.stackTraces = false) (G : cG) (sa : Nat → Nat) (a : Nat → Nat) (σ ρ : cS) (n : Int32) (key : Int32) (v : Int32) : MetXi l yX2_put wsX2_put rm_X2_put G sa (wO G a σ ρ) [.ref (a 0), .int n, .int key, .int v] (fun u : cS × cS => wO G a u.1 u.2) (fun r u => (cdW σ n key v) = 0 ∧ r = (fnR σ n key) ∧ u.1 = (puS σ n key v)) (fun E u => exq (cdW σ n key v) E ∧ u.1 = σ) 4 24 := by
  refine co_bodyXi (cc := cX2_put) (maxL := 5) (ret := (some .int)) (by decide) rfl (Nat.le_of_ble_eq_true rfl) ?_
  intro p e s m args below meth c S hr hlocks hno hK A hA hP hD hS hX ls hl
  have S : CallFix p m c cX2_put 5 s args wsX2_put RX2 := S
  obtain ⟨hx, hb, hml, hown, hts⟩ := id S
  have hl : lv_has ls 5 [(0, .ref (a 0)), (1, .int n), (2, .int key), (3, .int v)] := hl
  have uX2 := uX2_X2_put
  refine lv_iload_n hx hb dX2_put_0 rfl (lv_at hl 1 rfl) ?_
  refine co_xSv (As := [.int n]) (rest := []) S (c_X2_requireIdentifier l hl9 G sa a σ ρ n) (va_cwS 1 hts gX2_put_X2_requireIdentifier rfl rfl rfl (by decide +kernel) ⟨Nat.le_of_ble_eq_true rfl, Nat.le_of_ble_eq_true rfl⟩) hK hP hD hS hA hX rfl hl.1 rfl (Nat.le_of_ble_eq_true rfl) dX2_put_1 ⟨Nat.le_of_ble_eq_true rfl, Nat.le_of_ble_eq_true rfl⟩ (fun E9 ce9 q9 u9 H9 locs9 hp9 hP9 hD9 hS9 h19 h29 h39 => ?_) (fun u_1 H locs hu_1 hP hD hS => ?_)
  · exact co_out u9 hno hlocks hK hP9 hD9 hS9 (⟨exq_1 (by simp only [cdW, hp9.1, Bool.false_eq_true, ↓reduceIte]) hp9.2.1, by rw [hp9.2.2]⟩) h19 h29 h39 (Nat.le_of_ble_eq_true rfl) (Nat.le_of_ble_eq_true rfl)
  · obtain ⟨c9_1, hu_1⟩ := hu_1
    have c9_1 : okR n 0 63 = true := c9_1
    subst hu_1
    have hP : pG G (wO G a σ ρ) H := hP
    have hD : va_D A (wO G a σ ρ) := hD
    refine lv_iload_n hx hb dX2_put_4 rfl (lv_at hl 2 rfl) ?_
    refine co_xSv (As := [.int key]) (rest := []) S (c_X2_requireIdentifier l hl9 G sa a σ ρ key) (va_cwS 1 hts gX2_put_X2_requireIdentifier rfl rfl rfl (by decide +kernel) ⟨Nat.le_of_ble_eq_true rfl, Nat.le_of_ble_eq_true rfl⟩) hK hP hD hS hA hX rfl hl.1 rfl (Nat.le_of_ble_eq_true rfl) dX2_put_5 ⟨Nat.le_of_ble_eq_true rfl, Nat.le_of_ble_eq_true rfl⟩ (fun E9 ce9 q9 u9 H9 locs9 hp9 hP9 hD9 hS9 h19 h29 h39 => ?_) (fun u_2 H locs hu_2 hP hD hS => ?_)
    · exact co_out u9 hno hlocks hK hP9 hD9 hS9 (⟨exq_1 (by simp only [cdW, c9_1, hp9.1, Bool.false_eq_true, ↓reduceIte]) hp9.2.1, by rw [hp9.2.2]⟩) h19 h29 h39 (Nat.le_of_ble_eq_true rfl) (Nat.le_of_ble_eq_true rfl)
    · obtain ⟨c9_2, hu_2⟩ := hu_2
      have c9_2 : okR key 0 63 = true := c9_2
      subst hu_2
      have hP : pG G (wO G a σ ρ) H := hP
      have hD : va_D A (wO G a σ ρ) := hD
      refine lv_iload_n hx hb dX2_put_8 rfl (lv_at hl 3 rfl) ?_
      refine lv_iconst (v := 0) hx hb dX2_put_9 (by decide) ?_
      refine lv_sipush (v := 999) hx hb dX2_put_10 (by decide) ?_
      refine co_xSv (As := [.int v, .int 0, .int 999]) (rest := []) S (c_X2_requireRange l hl9 G sa a σ ρ v 0 999) (va_cwS 3 hts gX2_put_X2_requireRange rfl rfl rfl (by decide +kernel) ⟨Nat.le_of_ble_eq_true rfl, Nat.le_of_ble_eq_true rfl⟩) hK hP hD hS hA hX rfl hl.1 rfl (Nat.le_of_ble_eq_true rfl) dX2_put_13 ⟨Nat.le_of_ble_eq_true rfl, Nat.le_of_ble_eq_true rfl⟩ (fun E9 ce9 q9 u9 H9 locs9 hp9 hP9 hD9 hS9 h19 h29 h39 => ?_) (fun u_3 H locs hu_3 hP hD hS => ?_)
      · exact co_out u9 hno hlocks hK hP9 hD9 hS9 (⟨exq_1 (by simp only [cdW, c9_1, c9_2, hp9.1, Bool.false_eq_true, ↓reduceIte]) hp9.2.1, by rw [hp9.2.2]⟩) h19 h29 h39 (Nat.le_of_ble_eq_true rfl) (Nat.le_of_ble_eq_true rfl)
      · obtain ⟨c9_3, hu_3⟩ := hu_3
        have c9_3 : okR v 0 999 = true := c9_3
        subst hu_3
        have hP : pG G (wO G a σ ρ) H := hP
        have hD : va_D A (wO G a σ ρ) := hD
        refine lv_aload_n hx hb dX2_put_16 rfl (lv_at hl 0 rfl) ?_
        refine lv_iload_n hx hb dX2_put_17 rfl (lv_at hl 1 rfl) ?_
        refine co_xVv (As := [.int n]) (rest := []) S (c_X2_requireAlive l hl9 G sa a σ ρ n) (cwV 1 hts gX2_put_X2_requireAlive rfl rfl rfl (by decide +kernel) ⟨Nat.le_of_ble_eq_true rfl, Nat.le_of_ble_eq_true rfl⟩) hK hP hD hS hA hX (va_recv hK hP (ci := 1) (q0 := 0) rfl rfl) rfl hl.1 rfl (Nat.le_of_ble_eq_true rfl) dX2_put_18 ⟨Nat.le_of_ble_eq_true rfl, Nat.le_of_ble_eq_true rfl⟩ (fun E9 ce9 q9 u9 H9 locs9 hp9 hP9 hD9 hS9 h19 h29 h39 => ?_) (fun u_4 H locs hu_4 hP hD hS => ?_)
        · exact co_out u9 hno hlocks hK hP9 hD9 hS9 (⟨exq_2 (by simp only [cdW, c9_1, c9_2, c9_3, hp9.1, Bool.false_eq_true, ↓reduceIte]) hp9.2.1, by rw [hp9.2.2]⟩) h19 h29 h39 (Nat.le_of_ble_eq_true rfl) (Nat.le_of_ble_eq_true rfl)
        · obtain ⟨c9_4, hu_4⟩ := hu_4
          have c9_4 : alv (σ 0) n = true := c9_4
          subst hu_4
          have hP : pG G (wO G a σ ρ) H := hP
          have hD : va_D A (wO G a σ ρ) := hD
          refine lv_aload_n hx hb dX2_put_21 rfl (lv_at hl 0 rfl) ?_
          refine lv_iload_n hx hb dX2_put_22 rfl (lv_at hl 1 rfl) ?_
          refine lv_iload_n hx hb dX2_put_23 rfl (lv_at hl 2 rfl) ?_
          refine co_mVi (As := [.int n, .int key]) (rest := []) S (c_X2_find l G a σ ρ n key) (cwV 2 hts gX2_put_X2_find rfl rfl rfl (by decide +kernel) ⟨Nat.le_of_ble_eq_true rfl, Nat.le_of_ble_eq_true rfl⟩) hK hP hD hS hA (va_recv hK hP (ci := 1) (q0 := 0) rfl rfl) rfl hl.1 rfl (Nat.le_of_ble_eq_true rfl) dX2_put_24 ⟨Nat.le_of_ble_eq_true rfl, Nat.le_of_ble_eq_true rfl⟩ (fun r_5 u_5 H locs hu_5 hP hD hS => ?_)
          obtain ⟨σ_5, ρ_5⟩ := u_5
          obtain ⟨hr_5, hu_5, hp_5⟩ := hu_5
          have hr_5 : r_5 = fnR σ n key := hr_5
          have hu_5 : σ_5 = σ := hu_5
          have hP : pG G (wO G a σ_5 ρ_5) H := hP
          have hD : va_D A (wO G a σ_5 ρ_5) := hD
          rw [hu_5] at hP hD
          refine lv_istore (lv' := [(4, .int r_5), (0, .ref (a 0)), (1, .int n), (2, .int key), (3, .int v)]) hx hb dX2_put_27 hl (by decide) rfl (fun ls hl => ?_)
          refine lv_aload_n hx hb dX2_put_29 rfl (lv_at hl 1 rfl) ?_
          refine lv_dup hx hb dX2_put_30 rfl ?_
          refine va_get (D := G.1) (ci := 1) (v := .int (σ 6 0)) (C := RX2) (T := TX2) (N := 12) hx hb hts uX2 hown hK hP 0 rfl rfl 6 (by decide) (hts (.fieldLink RX2 34 "ChordOverlay" "lastStamp" "I") (by decide +kernel)) (fun _ h9 => h9) rfl dX2_put_31 ?_
          refine lv_iconst (v := 1) hx hb dX2_put_34 (by decide) ?_
          refine lv_iadd hx hb dX2_put_35 ?_
          refine va_put (D := G.1) (ci := 1) (v := .int ((σ 6 0) + 1)) (ty := .int) (C := RX2) (T := TX2) (N := 12) hx hb hts uX2 tyX2 tyX2_ok nmX2 hown hK hP hD hS 0 rfl rfl 6 (by decide) (hts (.fieldLink RX2 34 "ChordOverlay" "lastStamp" "I") (by decide +kernel)) (fun _ h9 => h9) rfl (by decide +kernel) rfl rfl (Nat.le_of_ble_eq_true rfl) dX2_put_36 (fun H locs hP hD hS => ?_)
          have hP : pG G (wO G a (va_up σ 6 (fun _ => ((σ 6 0) + 1))) ρ_5) H := hP
          have hD : va_D A (wO G a (va_up σ 6 (fun _ => ((σ 6 0) + 1))) ρ_5) := hD
          refine lv_aload_n hx hb dX2_put_39 rfl (lv_at hl 1 rfl) ?_
          refine va_get (D := G.1) (ci := 1) (v := .ref (a 8)) (C := RX2) (T := TX2) (N := 12) hx hb hts uX2 hown hK hP 0 rfl rfl 4 (by decide) (hts (.fieldLink RX2 28 "ChordOverlay" "values" "LChordOverlay$Table;") (by decide +kernel)) (fun _ h9 => h9) rfl dX2_put_40 ?_
          refine lv_iload hx hb dX2_put_43 (lv_at hl 0 rfl) ?_
          refine lv_iload_n hx hb dX2_put_45 rfl (lv_at hl 3 rfl) ?_
          refine lv_iload_n hx hb dX2_put_46 rfl (lv_at hl 4 rfl) ?_
          refine co_mVvS (As := [.int r_5, .int key, .int v]) (rest := []) (wr := ([0, 1, 2, 3, 4, 5, 6, 7, 10, 11, 12, 13, 14, 15, 16, 17, 18].filterMap (fun i => (wO G a (va_up σ 6 (fun _ => ((σ 6 0) + 1))) ρ_5)[i]?))) (w' := (fun u => wO G a (va_up (va_up σ 6 (fun _ => ((σ 6 0) + 1))) 4 u) ρ_5)) [8, 9] [0, 1, 2, 3, 4, 5, 6, 7, 10, 11, 12, 13, 14, 15, 16, 17, 18] [0, 1, 2, 3, 4, 5, 6, 7, 17, 18, 8, 9, 10, 11, 12, 13, 14, 15, 16] S (c_X1_set l G (a 8) (a 9) 64 ((va_up σ 6 (fun _ => ((σ 6 0) + 1))) 4) r_5 key v (by decide)) (cwV 3 hts gX2_put_X1_set rfl rfl rfl (by decide +kernel) ⟨Nat.le_of_ble_eq_true rfl, Nat.le_of_ble_eq_true rfl⟩) hK hP hD hS hA rfl rfl (by decide) (by decide) (by decide) (by decide) (fun _ => rfl) (va_recv hK hP (ci := 0) (q0 := 8) rfl rfl) rfl hl.1 rfl (Nat.le_of_ble_eq_true rfl) dX2_put_47 ⟨Nat.le_of_ble_eq_true rfl, Nat.le_of_ble_eq_true rfl⟩ (fun u_6 H locs hu_6 hP hD hS => ?_)
          have hP : pG G (wO G a (va_up (va_up σ 6 (fun _ => ((σ 6 0) + 1))) 4 u_6) ρ_5) H := hP
          have hD : va_D A (wO G a (va_up (va_up σ 6 (fun _ => ((σ 6 0) + 1))) 4 u_6) ρ_5) := hD
          refine lv_aload_n hx hb dX2_put_50 rfl (lv_at hl 1 rfl) ?_
          refine va_get (D := G.1) (ci := 1) (v := .ref (a 10)) (C := RX2) (T := TX2) (N := 12) hx hb hts uX2 hown hK hP 0 rfl rfl 5 (by decide) (hts (.fieldLink RX2 31 "ChordOverlay" "stamps" "LChordOverlay$Table;") (by decide +kernel)) (fun _ h9 => h9) rfl dX2_put_51 ?_
          refine lv_iload hx hb dX2_put_54 (lv_at hl 0 rfl) ?_
          refine lv_iload_n hx hb dX2_put_56 rfl (lv_at hl 3 rfl) ?_
          refine lv_aload_n hx hb dX2_put_57 rfl (lv_at hl 1 rfl) ?_
          refine va_get (D := G.1) (ci := 1) (v := .int ((va_up (va_up σ 6 (fun _ => ((σ 6 0) + 1))) 4 u_6) 6 0)) (C := RX2) (T := TX2) (N := 12) hx hb hts uX2 hown hK hP 0 rfl rfl 6 (by decide) (hts (.fieldLink RX2 34 "ChordOverlay" "lastStamp" "I") (by decide +kernel)) (fun _ h9 => h9) rfl dX2_put_58 ?_
          refine co_mVvS (As := [.int r_5, .int key, .int ((va_up (va_up σ 6 (fun _ => ((σ 6 0) + 1))) 4 u_6) 6 0)]) (rest := []) (wr := ([0, 1, 2, 3, 4, 5, 6, 7, 8, 9, 12, 13, 14, 15, 16, 17, 18].filterMap (fun i => (wO G a (va_up (va_up σ 6 (fun _ => ((σ 6 0) + 1))) 4 u_6) ρ_5)[i]?))) (w' := (fun u => wO G a (va_up (va_up (va_up σ 6 (fun _ => ((σ 6 0) + 1))) 4 u_6) 5 u) ρ_5)) [10, 11] [0, 1, 2, 3, 4, 5, 6, 7, 8, 9, 12, 13, 14, 15, 16, 17, 18] [0, 1, 2, 3, 4, 5, 6, 7, 8, 9, 17, 18, 10, 11, 12, 13, 14, 15, 16] S (c_X1_set l G (a 10) (a 11) 64 ((va_up (va_up σ 6 (fun _ => ((σ 6 0) + 1))) 4 u_6) 5) r_5 key ((va_up (va_up σ 6 (fun _ => ((σ 6 0) + 1))) 4 u_6) 6 0) (by decide)) (cwV 3 hts gX2_put_X1_set rfl rfl rfl (by decide +kernel) ⟨Nat.le_of_ble_eq_true rfl, Nat.le_of_ble_eq_true rfl⟩) hK hP hD hS hA rfl rfl (by decide) (by decide) (by decide) (by decide) (fun _ => rfl) (va_recv hK hP (ci := 0) (q0 := 10) rfl rfl) rfl hl.1 rfl (Nat.le_of_ble_eq_true rfl) dX2_put_61 ⟨Nat.le_of_ble_eq_true rfl, Nat.le_of_ble_eq_true rfl⟩ (fun u_7 H locs hu_7 hP hD hS => ?_)
          have hP : pG G (wO G a (va_up (va_up (va_up σ 6 (fun _ => ((σ 6 0) + 1))) 4 u_6) 5 u_7) ρ_5) H := hP
          have hD : va_D A (wO G a (va_up (va_up (va_up σ 6 (fun _ => ((σ 6 0) + 1))) 4 u_6) 5 u_7) ρ_5) := hD
          refine lv_aload_n hx hb dX2_put_64 rfl (lv_at hl 1 rfl) ?_
          refine lv_iload hx hb dX2_put_65 (lv_at hl 0 rfl) ?_
          refine lv_iload_n hx hb dX2_put_67 rfl (lv_at hl 3 rfl) ?_
          refine co_mVi (As := [.int r_5, .int key]) (rest := []) S (c_X2_copyToHeirs l G a (va_up (va_up (va_up σ 6 (fun _ => ((σ 6 0) + 1))) 4 u_6) 5 u_7) ρ_5 r_5 key) (cwV 2 hts gX2_put_X2_copyToHeirs rfl rfl rfl (by decide +kernel) ⟨Nat.le_of_ble_eq_true rfl, Nat.le_of_ble_eq_true rfl⟩) hK hP hD hS hA (va_recv hK hP (ci := 1) (q0 := 0) rfl rfl) rfl hl.1 rfl (Nat.le_of_ble_eq_true rfl) dX2_put_68 ⟨Nat.le_of_ble_eq_true rfl, Nat.le_of_ble_eq_true rfl⟩ (fun r_8 u_8 H locs hu_8 hP hD hS => ?_)
          obtain ⟨σ_8, ρ_8⟩ := u_8
          obtain ⟨hr_8, hu_8⟩ := hu_8
          have hr_8 : r_8 = chC (va_up (va_up (va_up σ 6 (fun _ => ((σ 6 0) + 1))) 4 u_6) 5 u_7) r_5 key := hr_8
          have hu_8 : σ_8 = chS (va_up (va_up (va_up σ 6 (fun _ => ((σ 6 0) + 1))) 4 u_6) 5 u_7) r_5 key := hu_8
          have hP : pG G (wO G a σ_8 ρ_8) H := hP
          have hD : va_D A (wO G a σ_8 ρ_8) := hD
          refine lv_pop hx hb dX2_put_71 rfl ?_
          refine lv_iload hx hb dX2_put_72 (lv_at hl 0 rfl) ?_
          exact co_endXi (σ_8, ρ_8) S hr hlocks dX2_put_74 hK hP hD hS (by refine ⟨?_, ?_, ?_⟩; (simp only [cdW, c9_1, c9_2, c9_3, c9_4, eq_self, Bool.false_eq_true, ↓reduceIte]); (show _ = (fnR σ n key); subst hu_8; subst hr_8; subst hu_7; subst hu_6; subst hr_5; first | rfl | (simp only [c9_1, c9_2, c9_3, c9_4, eq_self, Bool.false_eq_true, ↓reduceIte])); (show σ_8 = (puS σ n key v); subst hu_8; subst hr_8; subst hu_7; subst hu_6; subst hr_5; first | rfl | (simp only [c9_1, c9_2, c9_3, c9_4, eq_self, Bool.false_eq_true, ↓reduceIte]))) (Nat.le_of_ble_eq_true rfl) (Nat.le_of_ble_eq_true rfl)

set_option maxRecDepth 20000 in
theorem uX2_X2_get : ∀ w ∈ u_ws RX2 TX2 12, w ∈ wsX2_get := by decide +kernel
abbrev rm_X2_get : Room := { frames := 8, cells := 3, slots := 18, locals := 132 }
set_option maxHeartbeats 4000000 in
set_option maxRecDepth 100000 in
theorem c_X2_get (l : Launch) (hl9 : l.stackTraces = false) (G : cG) (sa : Nat → Nat) (a : Nat → Nat) (σ ρ : cS) (n : Int32) (key : Int32) : MetXi l yX2_get wsX2_get rm_X2_get G sa (wO G a σ ρ) [.ref (a 0), .int n, .int key] (fun u : cS × cS => wO G a u.1 u.2) (fun r u => (cdP σ n key 63) = 0 ∧ r = (tat 64 (σ 4) (fnR σ n key) key) ∧ u.1 = σ) (fun E u => exq (cdP σ n key 63) E ∧ u.1 = σ) 3 18 := by
  refine co_bodyXi (cc := cX2_get) (maxL := 3) (ret := (some .int)) (by decide) rfl (Nat.le_of_ble_eq_true rfl) ?_
  intro p e s m args below meth c S hr hlocks hno hK A hA hP hD hS hX ls hl
  have S : CallFix p m c cX2_get 3 s args wsX2_get RX2 := S
  obtain ⟨hx, hb, hml, hown, hts⟩ := id S
  have hl : lv_has ls 3 [(0, .ref (a 0)), (1, .int n), (2, .int key)] := hl
  have uX2 := uX2_X2_get
  refine lv_iload_n hx hb dX2_get_0 rfl (lv_at hl 1 rfl) ?_
  refine co_xSv (As := [.int n]) (rest := []) S (c_X2_requireIdentifier l hl9 G sa a σ ρ n) (va_cwS 1 hts gX2_get_X2_requireIdentifier rfl rfl rfl (by decide +kernel) ⟨Nat.le_of_ble_eq_true rfl, Nat.le_of_ble_eq_true rfl⟩) hK hP hD hS hA hX rfl hl.1 rfl (Nat.le_of_ble_eq_true rfl) dX2_get_1 ⟨Nat.le_of_ble_eq_true rfl, Nat.le_of_ble_eq_true rfl⟩ (fun E9 ce9 q9 u9 H9 locs9 hp9 hP9 hD9 hS9 h19 h29 h39 => ?_) (fun u_1 H locs hu_1 hP hD hS => ?_)
  · exact co_out u9 hno hlocks hK hP9 hD9 hS9 (⟨exq_1 (by simp only [cdP, hp9.1, Bool.false_eq_true, ↓reduceIte]) hp9.2.1, by rw [hp9.2.2]⟩) h19 h29 h39 (Nat.le_of_ble_eq_true rfl) (Nat.le_of_ble_eq_true rfl)
  · obtain ⟨c9_1, hu_1⟩ := hu_1
    have c9_1 : okR n 0 63 = true := c9_1
    subst hu_1
    have hP : pG G (wO G a σ ρ) H := hP
    have hD : va_D A (wO G a σ ρ) := hD
    refine lv_iload_n hx hb dX2_get_4 rfl (lv_at hl 2 rfl) ?_
    refine co_xSv (As := [.int key]) (rest := []) S (c_X2_requireIdentifier l hl9 G sa a σ ρ key) (va_cwS 1 hts gX2_get_X2_requireIdentifier rfl rfl rfl (by decide +kernel) ⟨Nat.le_of_ble_eq_true rfl, Nat.le_of_ble_eq_true rfl⟩) hK hP hD hS hA hX rfl hl.1 rfl (Nat.le_of_ble_eq_true rfl) dX2_get_5 ⟨Nat.le_of_ble_eq_true rfl, Nat.le_of_ble_eq_true rfl⟩ (fun E9 ce9 q9 u9 H9 locs9 hp9 hP9 hD9 hS9 h19 h29 h39 => ?_) (fun u_2 H locs hu_2 hP hD hS => ?_)
    · exact co_out u9 hno hlocks hK hP9 hD9 hS9 (⟨exq_1 (by simp only [cdP, c9_1, hp9.1, Bool.false_eq_true, ↓reduceIte]) hp9.2.1, by rw [hp9.2.2]⟩) h19 h29 h39 (Nat.le_of_ble_eq_true rfl) (Nat.le_of_ble_eq_true rfl)
    · obtain ⟨c9_2, hu_2⟩ := hu_2
      have c9_2 : okR key 0 63 = true := c9_2
      subst hu_2
      have hP : pG G (wO G a σ ρ) H := hP
      have hD : va_D A (wO G a σ ρ) := hD
      refine lv_aload_n hx hb dX2_get_8 rfl (lv_at hl 0 rfl) ?_
      refine lv_iload_n hx hb dX2_get_9 rfl (lv_at hl 1 rfl) ?_
      refine co_xVv (As := [.int n]) (rest := []) S (c_X2_requireAlive l hl9 G sa a σ ρ n) (cwV 1 hts gX2_get_X2_requireAlive rfl rfl rfl (by decide +kernel) ⟨Nat.le_of_ble_eq_true rfl, Nat.le_of_ble_eq_true rfl⟩) hK hP hD hS hA hX (va_recv hK hP (ci := 1) (q0 := 0) rfl rfl) rfl hl.1 rfl (Nat.le_of_ble_eq_true rfl) dX2_get_10 ⟨Nat.le_of_ble_eq_true rfl, Nat.le_of_ble_eq_true rfl⟩ (fun E9 ce9 q9 u9 H9 locs9 hp9 hP9 hD9 hS9 h19 h29 h39 => ?_) (fun u_3 H locs hu_3 hP hD hS => ?_)
      · exact co_out u9 hno hlocks hK hP9 hD9 hS9 (⟨exq_2 (by simp only [cdP, c9_1, c9_2, hp9.1, Bool.false_eq_true, ↓reduceIte]) hp9.2.1, by rw [hp9.2.2]⟩) h19 h29 h39 (Nat.le_of_ble_eq_true rfl) (Nat.le_of_ble_eq_true rfl)
      · obtain ⟨c9_3, hu_3⟩ := hu_3
        have c9_3 : alv (σ 0) n = true := c9_3
        subst hu_3
        have hP : pG G (wO G a σ ρ) H := hP
        have hD : va_D A (wO G a σ ρ) := hD
        refine lv_aload_n hx hb dX2_get_13 rfl (lv_at hl 0 rfl) ?_
        refine va_get (D := G.1) (ci := 1) (v := .ref (a 8)) (C := RX2) (T := TX2) (N := 12) hx hb hts uX2 hown hK hP 0 rfl rfl 4 (by decide) (hts (.fieldLink RX2 28 "ChordOverlay" "values" "LChordOverlay$Table;") (by decide +kernel)) (fun _ h9 => h9) rfl dX2_get_14 ?_
        refine lv_aload_n hx hb dX2_get_17 rfl (lv_at hl 0 rfl) ?_
        refine lv_iload_n hx hb dX2_get_18 rfl (lv_at hl 1 rfl) ?_
        refine lv_iload_n hx hb dX2_get_19 rfl (lv_at hl 2 rfl) ?_
        refine co_mVi (As := [.int n, .int key]) (rest := [.ref (a 8)]) S (c_X2_find l G a σ ρ n key) (cwV 2 hts gX2_get_X2_find rfl rfl rfl (by decide +kernel) ⟨Nat.le_of_ble_eq_true rfl, Nat.le_of_ble_eq_true rfl⟩) hK hP hD hS hA (va_recv hK hP (ci := 1) (q0 := 0) rfl rfl) rfl hl.1 rfl (Nat.le_of_ble_eq_true rfl) dX2_get_20 ⟨Nat.le_of_ble_eq_true rfl, Nat.le_of_ble_eq_true rfl⟩ (fun r_4 u_4 H locs hu_4 hP hD hS => ?_)
        obtain ⟨σ_4, ρ_4⟩ := u_4
        obtain ⟨hr_4, hu_4, hp_4⟩ := hu_4
        have hr_4 : r_4 = fnR σ n key := hr_4
        have hu_4 : σ_4 = σ := hu_4
        have hP : pG G (wO G a σ_4 ρ_4) H := hP
        have hD : va_D A (wO G a σ_4 ρ_4) := hD
        rw [hu_4] at hP hD
        refine lv_iload_n hx hb dX2_get_23 rfl (lv_at hl 2 rfl) ?_
        refine co_rV (As := [.int r_4, .int key]) (rest := []) S (c_X1_at l G (a 8) (a 9) 64 (σ 4) r_4 key (by decide)) (cwV 2 hts gX2_get_X1_at rfl rfl rfl (by decide +kernel) ⟨Nat.le_of_ble_eq_true rfl, Nat.le_of_ble_eq_true rfl⟩) hK (pG_perm hP [8, 9] rfl) (va_recv hK hP (ci := 0) (q0 := 8) rfl rfl) rfl hl.1 rfl (Nat.le_of_ble_eq_true rfl) dX2_get_24 ⟨Nat.le_of_ble_eq_true rfl, Nat.le_of_ble_eq_true rfl⟩ ?_
        exact co_endXi (σ, ρ_4) S hr hlocks dX2_get_27 hK hP hD hS (by refine ⟨?_, ?_, ?_⟩; (simp only [cdP, c9_1, c9_2, c9_3, eq_self, Bool.false_eq_true, ↓reduceIte]); (show _ = (tat 64 (σ 4) (fnR σ n key) key); subst hr_4; first | rfl | (simp only [c9_1, c9_2, c9_3, eq_self, Bool.false_eq_true, ↓reduceIte])); (show σ = σ; subst hr_4; first | rfl | (simp only [c9_1, c9_2, c9_3, eq_self, Bool.false_eq_true, ↓reduceIte]))) (Nat.le_of_ble_eq_true rfl) (Nat.le_of_ble_eq_true rfl)

set_option maxRecDepth 20000 in
theorem uX2_X2_kept : ∀ w ∈ u_ws RX2 TX2 12, w ∈ wsX2_kept := by decide +kernel
abbrev rm_X2_kept : Room := { frames := 8, cells := 3, slots := 18, locals := 132 }
set_option maxHeartbeats 4000000 in
set_option maxRecDepth 100000 in
theorem c_X2_kept (l : Launch) (hl9 : l.stackTraces = false) (G : cG) (sa : Nat → Nat) (a : Nat → Nat) (σ ρ : cS) (n : Int32) (key : Int32) : MetXi l yX2_kept wsX2_kept rm_X2_kept G sa (wO G a σ ρ) [.ref (a 0), .int n, .int key] (fun u : cS × cS => wO G a u.1 u.2) (fun r u => (cdP σ n key 63) = 0 ∧ r = (tat 64 (σ 4) n key) ∧ u.1 = σ) (fun E u => exq (cdP σ n key 63) E ∧ u.1 = σ) 3 18 := by
  refine co_bodyXi (cc := cX2_kept) (maxL := 3) (ret := (some .int)) (by decide) rfl (Nat.le_of_ble_eq_true rfl) ?_
  intro p e s m args below meth c S hr hlocks hno hK A hA hP hD hS hX ls hl
  have S : CallFix p m c cX2_kept 3 s args wsX2_kept RX2 := S
  obtain ⟨hx, hb, hml, hown, hts⟩ := id S
  have hl : lv_has ls 3 [(0, .ref (a 0)), (1, .int n), (2, .int key)] := hl
  have uX2 := uX2_X2_kept
  refine lv_iload_n hx hb dX2_kept_0 rfl (lv_at hl 1 rfl) ?_
  refine co_xSv (As := [.int n]) (rest := []) S (c_X2_requireIdentifier l hl9 G sa a σ ρ n) (va_cwS 1 hts gX2_kept_X2_requireIdentifier rfl rfl rfl (by decide +kernel) ⟨Nat.le_of_ble_eq_true rfl, Nat.le_of_ble_eq_true rfl⟩) hK hP hD hS hA hX rfl hl.1 rfl (Nat.le_of_ble_eq_true rfl) dX2_kept_1 ⟨Nat.le_of_ble_eq_true rfl, Nat.le_of_ble_eq_true rfl⟩ (fun E9 ce9 q9 u9 H9 locs9 hp9 hP9 hD9 hS9 h19 h29 h39 => ?_) (fun u_1 H locs hu_1 hP hD hS => ?_)
  · exact co_out u9 hno hlocks hK hP9 hD9 hS9 (⟨exq_1 (by simp only [cdP, hp9.1, Bool.false_eq_true, ↓reduceIte]) hp9.2.1, by rw [hp9.2.2]⟩) h19 h29 h39 (Nat.le_of_ble_eq_true rfl) (Nat.le_of_ble_eq_true rfl)
  · obtain ⟨c9_1, hu_1⟩ := hu_1
    have c9_1 : okR n 0 63 = true := c9_1
    subst hu_1
    have hP : pG G (wO G a σ ρ) H := hP
    have hD : va_D A (wO G a σ ρ) := hD
    refine lv_iload_n hx hb dX2_kept_4 rfl (lv_at hl 2 rfl) ?_
    refine co_xSv (As := [.int key]) (rest := []) S (c_X2_requireIdentifier l hl9 G sa a σ ρ key) (va_cwS 1 hts gX2_kept_X2_requireIdentifier rfl rfl rfl (by decide +kernel) ⟨Nat.le_of_ble_eq_true rfl, Nat.le_of_ble_eq_true rfl⟩) hK hP hD hS hA hX rfl hl.1 rfl (Nat.le_of_ble_eq_true rfl) dX2_kept_5 ⟨Nat.le_of_ble_eq_true rfl, Nat.le_of_ble_eq_true rfl⟩ (fun E9 ce9 q9 u9 H9 locs9 hp9 hP9 hD9 hS9 h19 h29 h39 => ?_) (fun u_2 H locs hu_2 hP hD hS => ?_)
    · exact co_out u9 hno hlocks hK hP9 hD9 hS9 (⟨exq_1 (by simp only [cdP, c9_1, hp9.1, Bool.false_eq_true, ↓reduceIte]) hp9.2.1, by rw [hp9.2.2]⟩) h19 h29 h39 (Nat.le_of_ble_eq_true rfl) (Nat.le_of_ble_eq_true rfl)
    · obtain ⟨c9_2, hu_2⟩ := hu_2
      have c9_2 : okR key 0 63 = true := c9_2
      subst hu_2
      have hP : pG G (wO G a σ ρ) H := hP
      have hD : va_D A (wO G a σ ρ) := hD
      refine lv_aload_n hx hb dX2_kept_8 rfl (lv_at hl 0 rfl) ?_
      refine lv_iload_n hx hb dX2_kept_9 rfl (lv_at hl 1 rfl) ?_
      refine co_xVv (As := [.int n]) (rest := []) S (c_X2_requireAlive l hl9 G sa a σ ρ n) (cwV 1 hts gX2_kept_X2_requireAlive rfl rfl rfl (by decide +kernel) ⟨Nat.le_of_ble_eq_true rfl, Nat.le_of_ble_eq_true rfl⟩) hK hP hD hS hA hX (va_recv hK hP (ci := 1) (q0 := 0) rfl rfl) rfl hl.1 rfl (Nat.le_of_ble_eq_true rfl) dX2_kept_10 ⟨Nat.le_of_ble_eq_true rfl, Nat.le_of_ble_eq_true rfl⟩ (fun E9 ce9 q9 u9 H9 locs9 hp9 hP9 hD9 hS9 h19 h29 h39 => ?_) (fun u_3 H locs hu_3 hP hD hS => ?_)
      · exact co_out u9 hno hlocks hK hP9 hD9 hS9 (⟨exq_2 (by simp only [cdP, c9_1, c9_2, hp9.1, Bool.false_eq_true, ↓reduceIte]) hp9.2.1, by rw [hp9.2.2]⟩) h19 h29 h39 (Nat.le_of_ble_eq_true rfl) (Nat.le_of_ble_eq_true rfl)
      · obtain ⟨c9_3, hu_3⟩ := hu_3
        have c9_3 : alv (σ 0) n = true := c9_3
        subst hu_3
        have hP : pG G (wO G a σ ρ) H := hP
        have hD : va_D A (wO G a σ ρ) := hD
        refine lv_aload_n hx hb dX2_kept_13 rfl (lv_at hl 0 rfl) ?_
        refine va_get (D := G.1) (ci := 1) (v := .ref (a 8)) (C := RX2) (T := TX2) (N := 12) hx hb hts uX2 hown hK hP 0 rfl rfl 4 (by decide) (hts (.fieldLink RX2 28 "ChordOverlay" "values" "LChordOverlay$Table;") (by decide +kernel)) (fun _ h9 => h9) rfl dX2_kept_14 ?_
        refine lv_iload_n hx hb dX2_kept_17 rfl (lv_at hl 1 rfl) ?_
        refine lv_iload_n hx hb dX2_kept_18 rfl (lv_at hl 2 rfl) ?_
        refine co_rV (As := [.int n, .int key]) (rest := []) S (c_X1_at l G (a 8) (a 9) 64 (σ 4) n key (by decide)) (cwV 2 hts gX2_kept_X1_at rfl rfl rfl (by decide +kernel) ⟨Nat.le_of_ble_eq_true rfl, Nat.le_of_ble_eq_true rfl⟩) hK (pG_perm hP [8, 9] rfl) (va_recv hK hP (ci := 0) (q0 := 8) rfl rfl) rfl hl.1 rfl (Nat.le_of_ble_eq_true rfl) dX2_kept_19 ⟨Nat.le_of_ble_eq_true rfl, Nat.le_of_ble_eq_true rfl⟩ ?_
        exact co_endXi (σ, ρ) S hr hlocks dX2_kept_22 hK hP hD hS (by refine ⟨?_, ?_, ?_⟩; (simp only [cdP, c9_1, c9_2, c9_3, eq_self, Bool.false_eq_true, ↓reduceIte]); (show _ = (tat 64 (σ 4) n key); first | rfl | (simp only [c9_1, c9_2, c9_3, eq_self, Bool.false_eq_true, ↓reduceIte])); (show σ = σ; first | rfl | (simp only [c9_1, c9_2, c9_3, eq_self, Bool.false_eq_true, ↓reduceIte]))) (Nat.le_of_ble_eq_true rfl) (Nat.le_of_ble_eq_true rfl)

abbrev rm_X2_owner : Room := { frames := 8, cells := 1, slots := 6, locals := 132 }
set_option maxHeartbeats 4000000 in
set_option maxRecDepth 100000 in
theorem c_X2_owner (l : Launch) (hl9 : l.stackTraces = false) (G : cG) (sa : Nat → Nat) (a : Nat → Nat) (σ ρ : cS) (key : Int32) : MetXi l yX2_owner wsX2_owner rm_X2_owner G sa (wO G a σ ρ) [.ref (a 0), .int key] (fun u : cS × cS => wO G a u.1 u.2) (fun r u => (cd1 key 0 63) = 0 ∧ r = (upF (σ 0) key 64 0) ∧ u.1 = σ) (fun E u => exq (cd1 key 0 63) E ∧ u.1 = σ) 1 6 := by
  refine co_bodyXi (cc := cX2_owner) (maxL := 2) (ret := (some .int)) (by decide) rfl (Nat.le_of_ble_eq_true rfl) ?_
  intro p e s m args below meth c S hr hlocks hno hK A hA hP hD hS hX ls hl
  have S : CallFix p m c cX2_owner 2 s args wsX2_owner RX2 := S
  obtain ⟨hx, hb, hml, hown, hts⟩ := id S
  have hl : lv_has ls 2 [(0, .ref (a 0)), (1, .int key)] := hl
  refine lv_iload_n hx hb dX2_owner_0 rfl (lv_at hl 1 rfl) ?_
  refine co_xSv (As := [.int key]) (rest := []) S (c_X2_requireIdentifier l hl9 G sa a σ ρ key) (va_cwS 1 hts gX2_owner_X2_requireIdentifier rfl rfl rfl (by decide +kernel) ⟨Nat.le_of_ble_eq_true rfl, Nat.le_of_ble_eq_true rfl⟩) hK hP hD hS hA hX rfl hl.1 rfl (Nat.le_of_ble_eq_true rfl) dX2_owner_1 ⟨Nat.le_of_ble_eq_true rfl, Nat.le_of_ble_eq_true rfl⟩ (fun E9 ce9 q9 u9 H9 locs9 hp9 hP9 hD9 hS9 h19 h29 h39 => ?_) (fun u_1 H locs hu_1 hP hD hS => ?_)
  · exact co_out u9 hno hlocks hK hP9 hD9 hS9 (⟨exq_1 (by simp only [cd1, hp9.1, Bool.false_eq_true, ↓reduceIte]) hp9.2.1, by rw [hp9.2.2]⟩) h19 h29 h39 (Nat.le_of_ble_eq_true rfl) (Nat.le_of_ble_eq_true rfl)
  · obtain ⟨c9_1, hu_1⟩ := hu_1
    have c9_1 : okR key 0 63 = true := c9_1
    subst hu_1
    have hP : pG G (wO G a σ ρ) H := hP
    have hD : va_D A (wO G a σ ρ) := hD
    refine lv_aload_n hx hb dX2_owner_4 rfl (lv_at hl 0 rfl) ?_
    refine lv_iload_n hx hb dX2_owner_5 rfl (lv_at hl 1 rfl) ?_
    refine co_rV (As := [.int key]) (rest := []) S (c_X2_firstLivingUpFrom l G a σ ρ key) (cwV 1 hts gX2_owner_X2_firstLivingUpFrom rfl rfl rfl (by decide +kernel) ⟨Nat.le_of_ble_eq_true rfl, Nat.le_of_ble_eq_true rfl⟩) hK hP (va_recv hK hP (ci := 1) (q0 := 0) rfl rfl) rfl hl.1 rfl (Nat.le_of_ble_eq_true rfl) dX2_owner_6 ⟨Nat.le_of_ble_eq_true rfl, Nat.le_of_ble_eq_true rfl⟩ ?_
    exact co_endXi (σ, ρ) S hr hlocks dX2_owner_9 hK hP hD hS (by refine ⟨?_, ?_, ?_⟩; (simp only [cd1, c9_1, eq_self, Bool.false_eq_true, ↓reduceIte]); (show _ = (upF (σ 0) key 64 0); first | rfl | (simp only [c9_1, eq_self, Bool.false_eq_true, ↓reduceIte])); (show σ = σ; first | rfl | (simp only [c9_1, eq_self, Bool.false_eq_true, ↓reduceIte]))) (Nat.le_of_ble_eq_true rfl) (Nat.le_of_ble_eq_true rfl)
