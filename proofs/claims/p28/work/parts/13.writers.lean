set_option maxRecDepth 20000 in
theorem uX1_X1_clear : ∀ w ∈ u_ws RX1 TX1 2, w ∈ wsX1_clear := by decide +kernel
abbrev rm_X1_clear : Room := { frames := 1, cells := 0, slots := 0, locals := 24 }
set_option maxHeartbeats 4000000 in
set_option maxRecDepth 100000 in
theorem c_X1_clear (l : Launch) (G : cG) (t q w : Nat) (f : Nat → Int32) (n : Int32) (hw : w ≤ 64) : MetV l yX1_clear wsX1_clear rm_X1_clear G (wT G t q w f) [.ref t, .int n] (fun u => wT G t q w u) (fun u => u = tclr w f n w) := by
  refine co_bodyV (cc := cX1_clear) (maxL := 3) (ret := none) (by decide) rfl (Nat.le_of_ble_eq_true rfl) ?_
  intro p e s m args below meth c S hr hlocks hK A hA hP hD hS ls hl
  have S : CallFix p m c cX1_clear 3 s args wsX1_clear RX1 := S
  obtain ⟨hx, hb, hml, hown, hts⟩ := id S
  have hl : lv_has ls 3 [(0, .ref t), (1, .int n)] := hl
  have uX1 := uX1_X1_clear
  refine lv_iconst (v := 0) hx hb dX1_clear_0 (by decide) ?_
  refine lv_istore_n (lv' := [(2, .int 0), (0, .ref t), (1, .int n)]) hx hb dX1_clear_1 rfl hl (by decide) rfl (fun ls hl => ?_)
  have LP : ∀ (d : Nat) (k : Nat) (f' : Nat → Int32), k + d = w → f' = tclr w f n k → ∀ (H : Heap) (locs : List Loc), pG G (wT G t q w f') H → va_D A (wT G t q w f') → va_S A s.heap H locs → ∀ ls : Array Slot, lv_has ls 3 [(0, .ref t), (1, .int n), (2, .int (nI k))] → W p l e rm_X1_clear s m args below meth c H locs 0 0 (QV below G A (fun u => wT G t q w u) (fun u => u = tclr w f n w) args s) (F0 m 2 ls []) := by
    intro d
    induction d with
    | zero =>
      intro k f' hk h9 H locs hP hD hS ls hl
      refine lv_iload_n hx hb dX1_clear_2 rfl (lv_at hl 2 rfl) ?_
      refine lv_aload_n hx hb dX1_clear_3 rfl (lv_at hl 0 rfl) ?_
      refine va_get (D := G.1) (ci := 0) (v := .int (nI w)) (C := RX1) (T := TX1) (N := 2) hx hb hts uX1 hown hK hP 0 rfl rfl 0 (by decide) (hts (.fieldLink RX1 18 "ChordOverlay$Table" "width" "I") (by decide +kernel)) (fun _ h9 => h9) rfl dX1_clear_4 ?_
      refine lv_icmp_ge (tgt := 23) hx hb dX1_clear_7 (by decide) (fun c_1 => ?_) (fun c_1 => ?_)
      · exact co_endV f' S hr hlocks dX1_clear_23 hK hP hD hS (by show f' = tclr w f n w; rw [h9, show k = w by omega])
      · exact absurd (nI_le (a := w) (b := k) (by omega) (by omega)) c_1
    | succ d ih =>
      intro k f' hk h9 H locs hP hD hS ls hl
      refine lv_iload_n hx hb dX1_clear_2 rfl (lv_at hl 2 rfl) ?_
      refine lv_aload_n hx hb dX1_clear_3 rfl (lv_at hl 0 rfl) ?_
      refine va_get (D := G.1) (ci := 0) (v := .int (nI w)) (C := RX1) (T := TX1) (N := 2) hx hb hts uX1 hown hK hP 0 rfl rfl 0 (by decide) (hts (.fieldLink RX1 18 "ChordOverlay$Table" "width" "I") (by decide +kernel)) (fun _ h9 => h9) rfl dX1_clear_4 ?_
      refine lv_icmp_ge (tgt := 23) hx hb dX1_clear_7 (by decide) (fun c_2 => ?_) (fun c_2 => ?_)
      · exact absurd c_2 (nI_ge (a := k) (b := w) (by omega) (by omega))
      · refine lv_aload_n hx hb dX1_clear_10 rfl (lv_at hl 0 rfl) ?_
        refine lv_iload_n hx hb dX1_clear_11 rfl (lv_at hl 1 rfl) ?_
        refine lv_iload_n hx hb dX1_clear_12 rfl (lv_at hl 2 rfl) ?_
        refine lv_iconst (v := (-1)) hx hb dX1_clear_13 (by decide) ?_
        refine co_mVv (As := [.int n, .int (nI k), .int (-1)]) (rest := []) S (c_X1_set l G t q w f' n (nI k) (-1) hw) (cwV 3 hts gX1_clear_X1_set rfl rfl rfl (by decide +kernel) ⟨Nat.le_of_ble_eq_true rfl, Nat.le_of_ble_eq_true rfl⟩) hK hP hD hS hA (va_recv hK hP (ci := 0) (q0 := 0) rfl rfl) rfl hl.1 rfl (Nat.le_of_ble_eq_true rfl) dX1_clear_14 ⟨Nat.zero_le _, Nat.zero_le _⟩ (fun u_3 H locs hu_3 hP hD hS => ?_)
        have hP : pG G (wT G t q w u_3) H := hP
        have hD : va_D A (wT G t q w u_3) := hD
        refine lv_iinc (v := (nI (k + 1))) (lv' := [(2, .int (nI (k + 1))), (0, .ref t), (1, .int n)]) hx hb dX1_clear_17 hl (k := 2) rfl (nI_1 k) (by decide) rfl (fun ls hl => ?_)
        refine lv_goto (tgt := 2) hx hb dX1_clear_20 (by decide) ?_
        exact ih (k + 1) u_3 (by omega) (by rw [hu_3, h9]; rfl) _ _ hP hD hS ls (lv_sub hl [1, 2, 0] rfl)
  exact LP w 0 _ (Nat.zero_add w) rfl _ _ hP hD hS ls (lv_sub hl [1, 2, 0] rfl)

set_option maxRecDepth 20000 in
theorem uX2_X2_setAlive : ∀ w ∈ u_ws RX2 TX2 12, w ∈ wsX2_setAlive := by decide +kernel
abbrev rm_X2_setAlive : Room := { frames := 0, cells := 0, slots := 0, locals := 0 }
set_option maxHeartbeats 4000000 in
set_option maxRecDepth 100000 in
theorem c_X2_setAlive (l : Launch) (G : cG) (a : Nat → Nat) (σ ρ : cS) (n : Int32) (v : Int32) : MetV l yX2_setAlive wsX2_setAlive rm_X2_setAlive G (wO G a σ ρ) [.ref (a 0), .int n, .int v] (fun u : cS × cS => wO G a u.1 u.2) (fun u => u.1 = (saS σ n v)) := by
  refine co_bodyV (cc := cX2_setAlive) (maxL := 3) (ret := none) (by decide) rfl (Nat.le_of_ble_eq_true rfl) ?_
  intro p e s m args below meth c S hr hlocks hK A hA hP hD hS ls hl
  have S : CallFix p m c cX2_setAlive 3 s args wsX2_setAlive RX2 := S
  obtain ⟨hx, hb, hml, hown, hts⟩ := id S
  have hl : lv_has ls 3 [(0, .ref (a 0)), (1, .int n), (2, .int v)] := hl
  have uX2 := uX2_X2_setAlive
  refine lv_iload_n hx hb dX2_setAlive_0 rfl (lv_at hl 1 rfl) ?_
  refine lv_if_lt (tgt := 20) hx hb dX2_setAlive_1 (by decide) (fun c_1 => ?_) (fun c_1 => ?_)
  · exact co_endV (σ, ρ) S hr hlocks dX2_setAlive_20 hK hP hD hS (by show σ = (saS σ n v); simp only [saS, c_1, eq_self, Bool.false_eq_true, ↓reduceIte])
  · refine lv_iload_n hx hb dX2_setAlive_4 rfl (lv_at hl 1 rfl) ?_
    refine lv_aload_n hx hb dX2_setAlive_5 rfl (lv_at hl 0 rfl) ?_
    refine va_get (D := G.1) (ci := 1) (v := .ref (a 1)) (C := RX2) (T := TX2) (N := 12) hx hb hts uX2 hown hK hP 0 rfl rfl 0 (by decide) (hts (.fieldLink RX2 9 "ChordOverlay" "lives" "[Z") (by decide +kernel)) (fun _ h9 => h9) rfl dX2_setAlive_6 ?_
    refine va_alen (v := nI 64) hx hb hK hP 1 1 rfl rfl rfl dX2_setAlive_9 ?_
    refine lv_icmp_ge (tgt := 20) hx hb dX2_setAlive_10 (by decide) (fun c_2 => ?_) (fun c_2 => ?_)
    · exact co_endV (σ, ρ) S hr hlocks dX2_setAlive_20 hK hP hD hS (by show σ = (saS σ n v); simp only [saS, c_1, c_2, eq_self, Bool.false_eq_true, ↓reduceIte])
    · refine lv_aload_n hx hb dX2_setAlive_13 rfl (lv_at hl 0 rfl) ?_
      refine va_get (D := G.1) (ci := 1) (v := .ref (a 1)) (C := RX2) (T := TX2) (N := 12) hx hb hts uX2 hown hK hP 0 rfl rfl 0 (by decide) (hts (.fieldLink RX2 9 "ChordOverlay" "lives" "[Z") (by decide +kernel)) (fun _ h9 => h9) rfl dX2_setAlive_14 ?_
      refine lv_iload_n hx hb dX2_setAlive_17 rfl (lv_at hl 1 rfl) ?_
      refine lv_iload_n hx hb dX2_setAlive_18 rfl (lv_at hl 2 rfl) ?_
      refine va_zast hx hb hK hP hD hS 1 1 rfl rfl (vin_of c_1 c_2 (by decide)) dX2_setAlive_19 (fun H locs hP hD hS => ?_)
      have hP : pG G (wO G a (va_up σ 0 (upd (σ 0) n.toNatClampNeg (vp_nar .boolean v))) ρ) H := hP
      have hD : va_D A (wO G a (va_up σ 0 (upd (σ 0) n.toNatClampNeg (vp_nar .boolean v))) ρ) := hD
      exact co_endV ((va_up σ 0 (upd (σ 0) n.toNatClampNeg (vp_nar .boolean v))), ρ) S hr hlocks dX2_setAlive_20 hK hP hD hS (by show (va_up σ 0 (upd (σ 0) n.toNatClampNeg (vp_nar .boolean v))) = (saS σ n v); simp only [saS, c_1, c_2, eq_self, Bool.false_eq_true, ↓reduceIte])

abbrev rm_X2_endLife : Room := { frames := 1, cells := 0, slots := 0, locals := 22 }
set_option maxHeartbeats 4000000 in
set_option maxRecDepth 100000 in
theorem c_X2_endLife (l : Launch) (G : cG) (a : Nat → Nat) (σ ρ : cS) (n : Int32) : MetV l yX2_endLife wsX2_endLife rm_X2_endLife G (wO G a σ ρ) [.ref (a 0), .int n] (fun u : cS × cS => wO G a u.1 u.2) (fun u => u.1 = (saS σ n 0)) := by
  refine co_bodyV (cc := cX2_endLife) (maxL := 2) (ret := none) (by decide) rfl (Nat.le_of_ble_eq_true rfl) ?_
  intro p e s m args below meth c S hr hlocks hK A hA hP hD hS ls hl
  have S : CallFix p m c cX2_endLife 2 s args wsX2_endLife RX2 := S
  obtain ⟨hx, hb, hml, hown, hts⟩ := id S
  have hl : lv_has ls 2 [(0, .ref (a 0)), (1, .int n)] := hl
  refine lv_aload_n hx hb dX2_endLife_0 rfl (lv_at hl 0 rfl) ?_
  refine lv_iload_n hx hb dX2_endLife_1 rfl (lv_at hl 1 rfl) ?_
  refine lv_iconst (v := 0) hx hb dX2_endLife_2 (by decide) ?_
  refine co_mVv (As := [.int n, .int 0]) (rest := []) S (c_X2_setAlive l G a σ ρ n 0) (cwV 2 hts gX2_endLife_X2_setAlive rfl rfl rfl (by decide +kernel) ⟨Nat.le_of_ble_eq_true rfl, Nat.le_of_ble_eq_true rfl⟩) hK hP hD hS hA (va_recv hK hP (ci := 1) (q0 := 0) rfl rfl) rfl hl.1 rfl (Nat.le_of_ble_eq_true rfl) dX2_endLife_3 ⟨Nat.zero_le _, Nat.zero_le _⟩ (fun u_1 H locs hu_1 hP hD hS => ?_)
  obtain ⟨σ_1, ρ_1⟩ := u_1
  have hu_1 : σ_1 = saS σ n 0 := hu_1
  have hP : pG G (wO G a σ_1 ρ_1) H := hP
  have hD : va_D A (wO G a σ_1 ρ_1) := hD
  exact co_endV (σ_1, ρ_1) S hr hlocks dX2_endLife_6 hK hP hD hS (by show σ_1 = (saS σ n 0); subst hu_1; rfl)

set_option maxRecDepth 20000 in
theorem uX2_X2_setSuccessors : ∀ w ∈ u_ws RX2 TX2 12, w ∈ wsX2_setSuccessors := by decide +kernel
abbrev rm_X2_setSuccessors : Room := { frames := 1, cells := 0, slots := 0, locals := 24 }
set_option maxHeartbeats 4000000 in
set_option maxRecDepth 100000 in
theorem c_X2_setSuccessors (l : Launch) (G : cG) (a : Nat → Nat) (σ ρ : cS) (n : Int32) (x : Int32) (y : Int32) (z : Int32) : MetV l yX2_setSuccessors wsX2_setSuccessors rm_X2_setSuccessors G (wO G a σ ρ) [.ref (a 0), .int n, .int x, .int y, .int z] (fun u : cS × cS => wO G a u.1 u.2) (fun u => u.1 = (ssS σ n x y z)) := by
  refine co_bodyV (cc := cX2_setSuccessors) (maxL := 5) (ret := none) (by decide) rfl (Nat.le_of_ble_eq_true rfl) ?_
  intro p e s m args below meth c S hr hlocks hK A hA hP hD hS ls hl
  have S : CallFix p m c cX2_setSuccessors 5 s args wsX2_setSuccessors RX2 := S
  obtain ⟨hx, hb, hml, hown, hts⟩ := id S
  have hl : lv_has ls 5 [(0, .ref (a 0)), (1, .int n), (2, .int x), (3, .int y), (4, .int z)] := hl
  have uX2 := uX2_X2_setSuccessors
  refine lv_aload_n hx hb dX2_setSuccessors_0 rfl (lv_at hl 0 rfl) ?_
  refine va_get (D := G.1) (ci := 1) (v := .ref (a 2)) (C := RX2) (T := TX2) (N := 12) hx hb hts uX2 hown hK hP 0 rfl rfl 1 (by decide) (hts (.fieldLink RX2 18 "ChordOverlay" "successors" "LChordOverlay$Table;") (by decide +kernel)) (fun _ h9 => h9) rfl dX2_setSuccessors_1 ?_
  refine lv_iload_n hx hb dX2_setSuccessors_4 rfl (lv_at hl 1 rfl) ?_
  refine lv_iconst (v := 0) hx hb dX2_setSuccessors_5 (by decide) ?_
  refine lv_iload_n hx hb dX2_setSuccessors_6 rfl (lv_at hl 2 rfl) ?_
  refine co_mVvS (As := [.int n, .int 0, .int x]) (rest := []) (wr := ([0, 1, 4, 5, 6, 7, 8, 9, 10, 11, 12, 13, 14, 15, 16, 17, 18].filterMap (fun i => (wO G a σ ρ)[i]?))) (w' := (fun u => wO G a (va_up σ 1 u) ρ)) [2, 3] [0, 1, 4, 5, 6, 7, 8, 9, 10, 11, 12, 13, 14, 15, 16, 17, 18] [0, 1, 17, 18, 2, 3, 4, 5, 6, 7, 8, 9, 10, 11, 12, 13, 14, 15, 16] S (c_X1_set l G (a 2) (a 3) 3 (σ 1) n 0 x (by decide)) (cwV 3 hts gX2_setSuccessors_X1_set rfl rfl rfl (by decide +kernel) ⟨Nat.le_of_ble_eq_true rfl, Nat.le_of_ble_eq_true rfl⟩) hK hP hD hS hA rfl rfl (by decide) (by decide) (by decide) (by decide) (fun _ => rfl) (va_recv hK hP (ci := 0) (q0 := 2) rfl rfl) rfl hl.1 rfl (Nat.le_of_ble_eq_true rfl) dX2_setSuccessors_7 ⟨Nat.zero_le _, Nat.zero_le _⟩ (fun u_1 H locs hu_1 hP hD hS => ?_)
  have hP : pG G (wO G a (va_up σ 1 u_1) ρ) H := hP
  have hD : va_D A (wO G a (va_up σ 1 u_1) ρ) := hD
  refine lv_aload_n hx hb dX2_setSuccessors_10 rfl (lv_at hl 0 rfl) ?_
  refine va_get (D := G.1) (ci := 1) (v := .ref (a 2)) (C := RX2) (T := TX2) (N := 12) hx hb hts uX2 hown hK hP 0 rfl rfl 1 (by decide) (hts (.fieldLink RX2 18 "ChordOverlay" "successors" "LChordOverlay$Table;") (by decide +kernel)) (fun _ h9 => h9) rfl dX2_setSuccessors_11 ?_
  refine lv_iload_n hx hb dX2_setSuccessors_14 rfl (lv_at hl 1 rfl) ?_
  refine lv_iconst (v := 1) hx hb dX2_setSuccessors_15 (by decide) ?_
  refine lv_iload_n hx hb dX2_setSuccessors_16 rfl (lv_at hl 3 rfl) ?_
  refine co_mVvS (As := [.int n, .int 1, .int y]) (rest := []) (wr := ([0, 1, 4, 5, 6, 7, 8, 9, 10, 11, 12, 13, 14, 15, 16, 17, 18].filterMap (fun i => (wO G a (va_up σ 1 u_1) ρ)[i]?))) (w' := (fun u => wO G a (va_up (va_up σ 1 u_1) 1 u) ρ)) [2, 3] [0, 1, 4, 5, 6, 7, 8, 9, 10, 11, 12, 13, 14, 15, 16, 17, 18] [0, 1, 17, 18, 2, 3, 4, 5, 6, 7, 8, 9, 10, 11, 12, 13, 14, 15, 16] S (c_X1_set l G (a 2) (a 3) 3 ((va_up σ 1 u_1) 1) n 1 y (by decide)) (cwV 3 hts gX2_setSuccessors_X1_set rfl rfl rfl (by decide +kernel) ⟨Nat.le_of_ble_eq_true rfl, Nat.le_of_ble_eq_true rfl⟩) hK hP hD hS hA rfl rfl (by decide) (by decide) (by decide) (by decide) (fun _ => rfl) (va_recv hK hP (ci := 0) (q0 := 2) rfl rfl) rfl hl.1 rfl (Nat.le_of_ble_eq_true rfl) dX2_setSuccessors_17 ⟨Nat.zero_le _, Nat.zero_le _⟩ (fun u_2 H locs hu_2 hP hD hS => ?_)
  have hP : pG G (wO G a (va_up (va_up σ 1 u_1) 1 u_2) ρ) H := hP
  have hD : va_D A (wO G a (va_up (va_up σ 1 u_1) 1 u_2) ρ) := hD
  refine lv_aload_n hx hb dX2_setSuccessors_20 rfl (lv_at hl 0 rfl) ?_
  refine va_get (D := G.1) (ci := 1) (v := .ref (a 2)) (C := RX2) (T := TX2) (N := 12) hx hb hts uX2 hown hK hP 0 rfl rfl 1 (by decide) (hts (.fieldLink RX2 18 "ChordOverlay" "successors" "LChordOverlay$Table;") (by decide +kernel)) (fun _ h9 => h9) rfl dX2_setSuccessors_21 ?_
  refine lv_iload_n hx hb dX2_setSuccessors_24 rfl (lv_at hl 1 rfl) ?_
  refine lv_iconst (v := 2) hx hb dX2_setSuccessors_25 (by decide) ?_
  refine lv_iload hx hb dX2_setSuccessors_26 (lv_at hl 4 rfl) ?_
  refine co_mVvS (As := [.int n, .int 2, .int z]) (rest := []) (wr := ([0, 1, 4, 5, 6, 7, 8, 9, 10, 11, 12, 13, 14, 15, 16, 17, 18].filterMap (fun i => (wO G a (va_up (va_up σ 1 u_1) 1 u_2) ρ)[i]?))) (w' := (fun u => wO G a (va_up (va_up (va_up σ 1 u_1) 1 u_2) 1 u) ρ)) [2, 3] [0, 1, 4, 5, 6, 7, 8, 9, 10, 11, 12, 13, 14, 15, 16, 17, 18] [0, 1, 17, 18, 2, 3, 4, 5, 6, 7, 8, 9, 10, 11, 12, 13, 14, 15, 16] S (c_X1_set l G (a 2) (a 3) 3 ((va_up (va_up σ 1 u_1) 1 u_2) 1) n 2 z (by decide)) (cwV 3 hts gX2_setSuccessors_X1_set rfl rfl rfl (by decide +kernel) ⟨Nat.le_of_ble_eq_true rfl, Nat.le_of_ble_eq_true rfl⟩) hK hP hD hS hA rfl rfl (by decide) (by decide) (by decide) (by decide) (fun _ => rfl) (va_recv hK hP (ci := 0) (q0 := 2) rfl rfl) rfl hl.1 rfl (Nat.le_of_ble_eq_true rfl) dX2_setSuccessors_28 ⟨Nat.zero_le _, Nat.zero_le _⟩ (fun u_3 H locs hu_3 hP hD hS => ?_)
  have hP : pG G (wO G a (va_up (va_up (va_up σ 1 u_1) 1 u_2) 1 u_3) ρ) H := hP
  have hD : va_D A (wO G a (va_up (va_up (va_up σ 1 u_1) 1 u_2) 1 u_3) ρ) := hD
  exact co_endV ((va_up (va_up (va_up σ 1 u_1) 1 u_2) 1 u_3), ρ) S hr hlocks dX2_setSuccessors_31 hK hP hD hS (by show (va_up (va_up (va_up σ 1 u_1) 1 u_2) 1 u_3) = (ssS σ n x y z); subst hu_3; subst hu_2; subst hu_1; rfl)

set_option maxRecDepth 20000 in
theorem uX2_X2_follow : ∀ w ∈ u_ws RX2 TX2 12, w ∈ wsX2_follow := by decide +kernel
abbrev rm_X2_follow : Room := { frames := 2, cells := 0, slots := 0, locals := 48 }
set_option maxHeartbeats 4000000 in
set_option maxRecDepth 100000 in
theorem c_X2_follow (l : Launch) (G : cG) (a : Nat → Nat) (σ ρ : cS) (n : Int32) (x : Int32) : MetV l yX2_follow wsX2_follow rm_X2_follow G (wO G a σ ρ) [.ref (a 0), .int n, .int x] (fun u : cS × cS => wO G a u.1 u.2) (fun u => u.1 = (foS σ n x)) := by
  refine co_bodyV (cc := cX2_follow) (maxL := 5) (ret := none) (by decide) rfl (Nat.le_of_ble_eq_true rfl) ?_
  intro p e s m args below meth c S hr hlocks hK A hA hP hD hS ls hl
  have S : CallFix p m c cX2_follow 5 s args wsX2_follow RX2 := S
  obtain ⟨hx, hb, hml, hown, hts⟩ := id S
  have hl : lv_has ls 5 [(0, .ref (a 0)), (1, .int n), (2, .int x)] := hl
  have uX2 := uX2_X2_follow
  refine lv_aload_n hx hb dX2_follow_0 rfl (lv_at hl 0 rfl) ?_
  refine va_get (D := G.1) (ci := 1) (v := .ref (a 2)) (C := RX2) (T := TX2) (N := 12) hx hb hts uX2 hown hK hP 0 rfl rfl 1 (by decide) (hts (.fieldLink RX2 18 "ChordOverlay" "successors" "LChordOverlay$Table;") (by decide +kernel)) (fun _ h9 => h9) rfl dX2_follow_1 ?_
  refine lv_iload_n hx hb dX2_follow_4 rfl (lv_at hl 2 rfl) ?_
  refine lv_iconst (v := 0) hx hb dX2_follow_5 (by decide) ?_
  refine co_rV (As := [.int x, .int 0]) (rest := []) S (c_X1_at l G (a 2) (a 3) 3 (σ 1) x 0 (by decide)) (cwV 2 hts gX2_follow_X1_at rfl rfl rfl (by decide +kernel) ⟨Nat.le_of_ble_eq_true rfl, Nat.le_of_ble_eq_true rfl⟩) hK (pG_perm hP [2, 3] rfl) (va_recv hK hP (ci := 0) (q0 := 2) rfl rfl) rfl hl.1 rfl (Nat.le_of_ble_eq_true rfl) dX2_follow_6 ⟨Nat.zero_le _, Nat.zero_le _⟩ ?_
  refine lv_istore_n (lv' := [(3, .int (tat 3 (σ 1) x 0)), (0, .ref (a 0)), (1, .int n), (2, .int x)]) hx hb dX2_follow_9 rfl hl (by decide) rfl (fun ls hl => ?_)
  refine lv_aload_n hx hb dX2_follow_10 rfl (lv_at hl 1 rfl) ?_
  refine va_get (D := G.1) (ci := 1) (v := .ref (a 2)) (C := RX2) (T := TX2) (N := 12) hx hb hts uX2 hown hK hP 0 rfl rfl 1 (by decide) (hts (.fieldLink RX2 18 "ChordOverlay" "successors" "LChordOverlay$Table;") (by decide +kernel)) (fun _ h9 => h9) rfl dX2_follow_11 ?_
  refine lv_iload_n hx hb dX2_follow_14 rfl (lv_at hl 3 rfl) ?_
  refine lv_iconst (v := 1) hx hb dX2_follow_15 (by decide) ?_
  refine co_rV (As := [.int x, .int 1]) (rest := []) S (c_X1_at l G (a 2) (a 3) 3 (σ 1) x 1 (by decide)) (cwV 2 hts gX2_follow_X1_at rfl rfl rfl (by decide +kernel) ⟨Nat.le_of_ble_eq_true rfl, Nat.le_of_ble_eq_true rfl⟩) hK (pG_perm hP [2, 3] rfl) (va_recv hK hP (ci := 0) (q0 := 2) rfl rfl) rfl hl.1 rfl (Nat.le_of_ble_eq_true rfl) dX2_follow_16 ⟨Nat.zero_le _, Nat.zero_le _⟩ ?_
  refine lv_istore (lv' := [(4, .int (tat 3 (σ 1) x 1)), (3, .int (tat 3 (σ 1) x 0)), (0, .ref (a 0)), (1, .int n), (2, .int x)]) hx hb dX2_follow_19 hl (by decide) rfl (fun ls hl => ?_)
  refine lv_aload_n hx hb dX2_follow_21 rfl (lv_at hl 2 rfl) ?_
  refine lv_iload_n hx hb dX2_follow_22 rfl (lv_at hl 3 rfl) ?_
  refine lv_iload_n hx hb dX2_follow_23 rfl (lv_at hl 4 rfl) ?_
  refine lv_iload_n hx hb dX2_follow_24 rfl (lv_at hl 1 rfl) ?_
  refine lv_iload hx hb dX2_follow_25 (lv_at hl 0 rfl) ?_
  refine co_mVv (As := [.int n, .int x, .int (tat 3 (σ 1) x 0), .int (tat 3 (σ 1) x 1)]) (rest := []) S (c_X2_setSuccessors l G a σ ρ n x (tat 3 (σ 1) x 0) (tat 3 (σ 1) x 1)) (cwV 4 hts gX2_follow_X2_setSuccessors rfl rfl rfl (by decide +kernel) ⟨Nat.le_of_ble_eq_true rfl, Nat.le_of_ble_eq_true rfl⟩) hK hP hD hS hA (va_recv hK hP (ci := 1) (q0 := 0) rfl rfl) rfl hl.1 rfl (Nat.le_of_ble_eq_true rfl) dX2_follow_27 ⟨Nat.zero_le _, Nat.zero_le _⟩ (fun u_1 H locs hu_1 hP hD hS => ?_)
  obtain ⟨σ_1, ρ_1⟩ := u_1
  have hu_1 : σ_1 = ssS σ n x (tat 3 (σ 1) x 0) (tat 3 (σ 1) x 1) := hu_1
  have hP : pG G (wO G a σ_1 ρ_1) H := hP
  have hD : va_D A (wO G a σ_1 ρ_1) := hD
  exact co_endV (σ_1, ρ_1) S hr hlocks dX2_follow_30 hK hP hD hS (by show σ_1 = (foS σ n x); subst hu_1; rfl)

set_option maxRecDepth 20000 in
theorem uX2_X2_beginLife : ∀ w ∈ u_ws RX2 TX2 12, w ∈ wsX2_beginLife := by decide +kernel
abbrev rm_X2_beginLife : Room := { frames := 2, cells := 0, slots := 0, locals := 48 }
set_option maxHeartbeats 4000000 in
set_option maxRecDepth 100000 in
theorem c_X2_beginLife (l : Launch) (G : cG) (a : Nat → Nat) (σ ρ : cS) (n : Int32) (x : Int32) (y : Int32) (z : Int32) : MetV l yX2_beginLife wsX2_beginLife rm_X2_beginLife G (wO G a σ ρ) [.ref (a 0), .int n, .int x, .int y, .int z] (fun u : cS × cS => wO G a u.1 u.2) (fun u => u.1 = (blS σ n x y z)) := by
  refine co_bodyV (cc := cX2_beginLife) (maxL := 5) (ret := none) (by decide) rfl (Nat.le_of_ble_eq_true rfl) ?_
  intro p e s m args below meth c S hr hlocks hK A hA hP hD hS ls hl
  have S : CallFix p m c cX2_beginLife 5 s args wsX2_beginLife RX2 := S
  obtain ⟨hx, hb, hml, hown, hts⟩ := id S
  have hl : lv_has ls 5 [(0, .ref (a 0)), (1, .int n), (2, .int x), (3, .int y), (4, .int z)] := hl
  have uX2 := uX2_X2_beginLife
  refine lv_aload_n hx hb dX2_beginLife_0 rfl (lv_at hl 0 rfl) ?_
  refine lv_iload_n hx hb dX2_beginLife_1 rfl (lv_at hl 1 rfl) ?_
  refine lv_iload_n hx hb dX2_beginLife_2 rfl (lv_at hl 2 rfl) ?_
  refine lv_iload_n hx hb dX2_beginLife_3 rfl (lv_at hl 3 rfl) ?_
  refine lv_iload hx hb dX2_beginLife_4 (lv_at hl 4 rfl) ?_
  refine co_mVv (As := [.int n, .int x, .int y, .int z]) (rest := []) S (c_X2_setSuccessors l G a σ ρ n x y z) (cwV 4 hts gX2_beginLife_X2_setSuccessors rfl rfl rfl (by decide +kernel) ⟨Nat.le_of_ble_eq_true rfl, Nat.le_of_ble_eq_true rfl⟩) hK hP hD hS hA (va_recv hK hP (ci := 1) (q0 := 0) rfl rfl) rfl hl.1 rfl (Nat.le_of_ble_eq_true rfl) dX2_beginLife_6 ⟨Nat.zero_le _, Nat.zero_le _⟩ (fun u_1 H locs hu_1 hP hD hS => ?_)
  obtain ⟨σ_1, ρ_1⟩ := u_1
  have hu_1 : σ_1 = ssS σ n x y z := hu_1
  have hP : pG G (wO G a σ_1 ρ_1) H := hP
  have hD : va_D A (wO G a σ_1 ρ_1) := hD
  refine lv_aload_n hx hb dX2_beginLife_9 rfl (lv_at hl 0 rfl) ?_
  refine va_get (D := G.1) (ci := 1) (v := .ref (a 4)) (C := RX2) (T := TX2) (N := 12) hx hb hts uX2 hown hK hP 0 rfl rfl 2 (by decide) (hts (.fieldLink RX2 22 "ChordOverlay" "predecessors" "LChordOverlay$Table;") (by decide +kernel)) (fun _ h9 => h9) rfl dX2_beginLife_10 ?_
  refine lv_iload_n hx hb dX2_beginLife_13 rfl (lv_at hl 1 rfl) ?_
  refine co_mVvS (As := [.int n]) (rest := []) (wr := ([0, 1, 2, 3, 6, 7, 8, 9, 10, 11, 12, 13, 14, 15, 16, 17, 18].filterMap (fun i => (wO G a σ_1 ρ_1)[i]?))) (w' := (fun u => wO G a (va_up σ_1 2 u) ρ_1)) [4, 5] [0, 1, 2, 3, 6, 7, 8, 9, 10, 11, 12, 13, 14, 15, 16, 17, 18] [0, 1, 2, 3, 17, 18, 4, 5, 6, 7, 8, 9, 10, 11, 12, 13, 14, 15, 16] S (c_X1_clear l G (a 4) (a 5) 1 (σ_1 2) n (by decide)) (cwV 1 hts gX2_beginLife_X1_clear rfl rfl rfl (by decide +kernel) ⟨Nat.le_of_ble_eq_true rfl, Nat.le_of_ble_eq_true rfl⟩) hK hP hD hS hA rfl rfl (by decide) (by decide) (by decide) (by decide) (fun _ => rfl) (va_recv hK hP (ci := 0) (q0 := 4) rfl rfl) rfl hl.1 rfl (Nat.le_of_ble_eq_true rfl) dX2_beginLife_14 ⟨Nat.zero_le _, Nat.zero_le _⟩ (fun u_2 H locs hu_2 hP hD hS => ?_)
  have hP : pG G (wO G a (va_up σ_1 2 u_2) ρ_1) H := hP
  have hD : va_D A (wO G a (va_up σ_1 2 u_2) ρ_1) := hD
  refine lv_aload_n hx hb dX2_beginLife_17 rfl (lv_at hl 0 rfl) ?_
  refine va_get (D := G.1) (ci := 1) (v := .ref (a 6)) (C := RX2) (T := TX2) (N := 12) hx hb hts uX2 hown hK hP 0 rfl rfl 3 (by decide) (hts (.fieldLink RX2 25 "ChordOverlay" "fingers" "LChordOverlay$Table;") (by decide +kernel)) (fun _ h9 => h9) rfl dX2_beginLife_18 ?_
  refine lv_iload_n hx hb dX2_beginLife_21 rfl (lv_at hl 1 rfl) ?_
  refine co_mVvS (As := [.int n]) (rest := []) (wr := ([0, 1, 2, 3, 4, 5, 8, 9, 10, 11, 12, 13, 14, 15, 16, 17, 18].filterMap (fun i => (wO G a (va_up σ_1 2 u_2) ρ_1)[i]?))) (w' := (fun u => wO G a (va_up (va_up σ_1 2 u_2) 3 u) ρ_1)) [6, 7] [0, 1, 2, 3, 4, 5, 8, 9, 10, 11, 12, 13, 14, 15, 16, 17, 18] [0, 1, 2, 3, 4, 5, 17, 18, 6, 7, 8, 9, 10, 11, 12, 13, 14, 15, 16] S (c_X1_clear l G (a 6) (a 7) 6 ((va_up σ_1 2 u_2) 3) n (by decide)) (cwV 1 hts gX2_beginLife_X1_clear rfl rfl rfl (by decide +kernel) ⟨Nat.le_of_ble_eq_true rfl, Nat.le_of_ble_eq_true rfl⟩) hK hP hD hS hA rfl rfl (by decide) (by decide) (by decide) (by decide) (fun _ => rfl) (va_recv hK hP (ci := 0) (q0 := 6) rfl rfl) rfl hl.1 rfl (Nat.le_of_ble_eq_true rfl) dX2_beginLife_22 ⟨Nat.zero_le _, Nat.zero_le _⟩ (fun u_3 H locs hu_3 hP hD hS => ?_)
  have hP : pG G (wO G a (va_up (va_up σ_1 2 u_2) 3 u_3) ρ_1) H := hP
  have hD : va_D A (wO G a (va_up (va_up σ_1 2 u_2) 3 u_3) ρ_1) := hD
  refine lv_aload_n hx hb dX2_beginLife_25 rfl (lv_at hl 0 rfl) ?_
  refine va_get (D := G.1) (ci := 1) (v := .ref (a 8)) (C := RX2) (T := TX2) (N := 12) hx hb hts uX2 hown hK hP 0 rfl rfl 4 (by decide) (hts (.fieldLink RX2 28 "ChordOverlay" "values" "LChordOverlay$Table;") (by decide +kernel)) (fun _ h9 => h9) rfl dX2_beginLife_26 ?_
  refine lv_iload_n hx hb dX2_beginLife_29 rfl (lv_at hl 1 rfl) ?_
  refine co_mVvS (As := [.int n]) (rest := []) (wr := ([0, 1, 2, 3, 4, 5, 6, 7, 10, 11, 12, 13, 14, 15, 16, 17, 18].filterMap (fun i => (wO G a (va_up (va_up σ_1 2 u_2) 3 u_3) ρ_1)[i]?))) (w' := (fun u => wO G a (va_up (va_up (va_up σ_1 2 u_2) 3 u_3) 4 u) ρ_1)) [8, 9] [0, 1, 2, 3, 4, 5, 6, 7, 10, 11, 12, 13, 14, 15, 16, 17, 18] [0, 1, 2, 3, 4, 5, 6, 7, 17, 18, 8, 9, 10, 11, 12, 13, 14, 15, 16] S (c_X1_clear l G (a 8) (a 9) 64 ((va_up (va_up σ_1 2 u_2) 3 u_3) 4) n (by decide)) (cwV 1 hts gX2_beginLife_X1_clear rfl rfl rfl (by decide +kernel) ⟨Nat.le_of_ble_eq_true rfl, Nat.le_of_ble_eq_true rfl⟩) hK hP hD hS hA rfl rfl (by decide) (by decide) (by decide) (by decide) (fun _ => rfl) (va_recv hK hP (ci := 0) (q0 := 8) rfl rfl) rfl hl.1 rfl (Nat.le_of_ble_eq_true rfl) dX2_beginLife_30 ⟨Nat.zero_le _, Nat.zero_le _⟩ (fun u_4 H locs hu_4 hP hD hS => ?_)
  have hP : pG G (wO G a (va_up (va_up (va_up σ_1 2 u_2) 3 u_3) 4 u_4) ρ_1) H := hP
  have hD : va_D A (wO G a (va_up (va_up (va_up σ_1 2 u_2) 3 u_3) 4 u_4) ρ_1) := hD
  refine lv_aload_n hx hb dX2_beginLife_33 rfl (lv_at hl 0 rfl) ?_
  refine va_get (D := G.1) (ci := 1) (v := .ref (a 10)) (C := RX2) (T := TX2) (N := 12) hx hb hts uX2 hown hK hP 0 rfl rfl 5 (by decide) (hts (.fieldLink RX2 31 "ChordOverlay" "stamps" "LChordOverlay$Table;") (by decide +kernel)) (fun _ h9 => h9) rfl dX2_beginLife_34 ?_
  refine lv_iload_n hx hb dX2_beginLife_37 rfl (lv_at hl 1 rfl) ?_
  refine co_mVvS (As := [.int n]) (rest := []) (wr := ([0, 1, 2, 3, 4, 5, 6, 7, 8, 9, 12, 13, 14, 15, 16, 17, 18].filterMap (fun i => (wO G a (va_up (va_up (va_up σ_1 2 u_2) 3 u_3) 4 u_4) ρ_1)[i]?))) (w' := (fun u => wO G a (va_up (va_up (va_up (va_up σ_1 2 u_2) 3 u_3) 4 u_4) 5 u) ρ_1)) [10, 11] [0, 1, 2, 3, 4, 5, 6, 7, 8, 9, 12, 13, 14, 15, 16, 17, 18] [0, 1, 2, 3, 4, 5, 6, 7, 8, 9, 17, 18, 10, 11, 12, 13, 14, 15, 16] S (c_X1_clear l G (a 10) (a 11) 64 ((va_up (va_up (va_up σ_1 2 u_2) 3 u_3) 4 u_4) 5) n (by decide)) (cwV 1 hts gX2_beginLife_X1_clear rfl rfl rfl (by decide +kernel) ⟨Nat.le_of_ble_eq_true rfl, Nat.le_of_ble_eq_true rfl⟩) hK hP hD hS hA rfl rfl (by decide) (by decide) (by decide) (by decide) (fun _ => rfl) (va_recv hK hP (ci := 0) (q0 := 10) rfl rfl) rfl hl.1 rfl (Nat.le_of_ble_eq_true rfl) dX2_beginLife_38 ⟨Nat.zero_le _, Nat.zero_le _⟩ (fun u_5 H locs hu_5 hP hD hS => ?_)
  have hP : pG G (wO G a (va_up (va_up (va_up (va_up σ_1 2 u_2) 3 u_3) 4 u_4) 5 u_5) ρ_1) H := hP
  have hD : va_D A (wO G a (va_up (va_up (va_up (va_up σ_1 2 u_2) 3 u_3) 4 u_4) 5 u_5) ρ_1) := hD
  refine lv_aload_n hx hb dX2_beginLife_41 rfl (lv_at hl 0 rfl) ?_
  refine lv_iload_n hx hb dX2_beginLife_42 rfl (lv_at hl 1 rfl) ?_
  refine lv_iconst (v := 1) hx hb dX2_beginLife_43 (by decide) ?_
  refine co_mVv (As := [.int n, .int 1]) (rest := []) S (c_X2_setAlive l G a (va_up (va_up (va_up (va_up σ_1 2 u_2) 3 u_3) 4 u_4) 5 u_5) ρ_1 n 1) (cwV 2 hts gX2_beginLife_X2_setAlive rfl rfl rfl (by decide +kernel) ⟨Nat.le_of_ble_eq_true rfl, Nat.le_of_ble_eq_true rfl⟩) hK hP hD hS hA (va_recv hK hP (ci := 1) (q0 := 0) rfl rfl) rfl hl.1 rfl (Nat.le_of_ble_eq_true rfl) dX2_beginLife_44 ⟨Nat.zero_le _, Nat.zero_le _⟩ (fun u_6 H locs hu_6 hP hD hS => ?_)
  obtain ⟨σ_6, ρ_6⟩ := u_6
  have hu_6 : σ_6 = saS (va_up (va_up (va_up (va_up σ_1 2 u_2) 3 u_3) 4 u_4) 5 u_5) n 1 := hu_6
  have hP : pG G (wO G a σ_6 ρ_6) H := hP
  have hD : va_D A (wO G a σ_6 ρ_6) := hD
  exact co_endV (σ_6, ρ_6) S hr hlocks dX2_beginLife_47 hK hP hD hS (by show σ_6 = (blS σ n x y z); subst hu_6; subst hu_5; subst hu_4; subst hu_3; subst hu_2; subst hu_1; rfl)

set_option maxRecDepth 20000 in
theorem uX2_X2_giveCopy : ∀ w ∈ u_ws RX2 TX2 12, w ∈ wsX2_giveCopy := by decide +kernel
abbrev rm_X2_giveCopy : Room := { frames := 1, cells := 0, slots := 0, locals := 24 }
set_option maxHeartbeats 4000000 in
set_option maxRecDepth 100000 in
theorem c_X2_giveCopy (l : Launch) (G : cG) (a : Nat → Nat) (σ ρ : cS) (f : Int32) (t : Int32) (k : Int32) : MetI l yX2_giveCopy wsX2_giveCopy rm_X2_giveCopy G (wO G a σ ρ) [.ref (a 0), .int f, .int t, .int k] (fun u : cS × cS => wO G a u.1 u.2) (fun r u => r = (gcC σ f t k) ∧ u.1 = (gcS σ f t k)) := by
  refine co_bodyI (cc := cX2_giveCopy) (maxL := 5) (ret := (some .int)) (by decide) rfl (Nat.le_of_ble_eq_true rfl) ?_
  intro p e s m args below meth c S hr hlocks hK A hA hP hD hS ls hl
  have S : CallFix p m c cX2_giveCopy 5 s args wsX2_giveCopy RX2 := S
  obtain ⟨hx, hb, hml, hown, hts⟩ := id S
  have hl : lv_has ls 5 [(0, .ref (a 0)), (1, .int f), (2, .int t), (3, .int k)] := hl
  have uX2 := uX2_X2_giveCopy
  refine lv_aload_n hx hb dX2_giveCopy_0 rfl (lv_at hl 0 rfl) ?_
  refine va_get (D := G.1) (ci := 1) (v := .ref (a 10)) (C := RX2) (T := TX2) (N := 12) hx hb hts uX2 hown hK hP 0 rfl rfl 5 (by decide) (hts (.fieldLink RX2 31 "ChordOverlay" "stamps" "LChordOverlay$Table;") (by decide +kernel)) (fun _ h9 => h9) rfl dX2_giveCopy_1 ?_
  refine lv_iload_n hx hb dX2_giveCopy_4 rfl (lv_at hl 1 rfl) ?_
  refine lv_iload_n hx hb dX2_giveCopy_5 rfl (lv_at hl 3 rfl) ?_
  refine co_rV (As := [.int f, .int k]) (rest := []) S (c_X1_at l G (a 10) (a 11) 64 (σ 5) f k (by decide)) (cwV 2 hts gX2_giveCopy_X1_at rfl rfl rfl (by decide +kernel) ⟨Nat.le_of_ble_eq_true rfl, Nat.le_of_ble_eq_true rfl⟩) hK (pG_perm hP [10, 11] rfl) (va_recv hK hP (ci := 0) (q0 := 10) rfl rfl) rfl hl.1 rfl (Nat.le_of_ble_eq_true rfl) dX2_giveCopy_6 ⟨Nat.zero_le _, Nat.zero_le _⟩ ?_
  refine lv_istore (lv' := [(4, .int (tat 64 (σ 5) f k)), (0, .ref (a 0)), (1, .int f), (2, .int t), (3, .int k)]) hx hb dX2_giveCopy_9 hl (by decide) rfl (fun ls hl => ?_)
  refine lv_iload hx hb dX2_giveCopy_11 (lv_at hl 0 rfl) ?_
  refine lv_aload_n hx hb dX2_giveCopy_13 rfl (lv_at hl 1 rfl) ?_
  refine va_get (D := G.1) (ci := 1) (v := .ref (a 10)) (C := RX2) (T := TX2) (N := 12) hx hb hts uX2 hown hK hP 0 rfl rfl 5 (by decide) (hts (.fieldLink RX2 31 "ChordOverlay" "stamps" "LChordOverlay$Table;") (by decide +kernel)) (fun _ h9 => h9) rfl dX2_giveCopy_14 ?_
  refine lv_iload_n hx hb dX2_giveCopy_17 rfl (lv_at hl 3 rfl) ?_
  refine lv_iload_n hx hb dX2_giveCopy_18 rfl (lv_at hl 4 rfl) ?_
  refine co_rV (As := [.int t, .int k]) (rest := [.int (tat 64 (σ 5) f k)]) S (c_X1_at l G (a 10) (a 11) 64 (σ 5) t k (by decide)) (cwV 2 hts gX2_giveCopy_X1_at rfl rfl rfl (by decide +kernel) ⟨Nat.le_of_ble_eq_true rfl, Nat.le_of_ble_eq_true rfl⟩) hK (pG_perm hP [10, 11] rfl) (va_recv hK hP (ci := 0) (q0 := 10) rfl rfl) rfl hl.1 rfl (Nat.le_of_ble_eq_true rfl) dX2_giveCopy_19 ⟨Nat.zero_le _, Nat.zero_le _⟩ ?_
  refine lv_icmp_gt (tgt := 27) hx hb dX2_giveCopy_22 (by decide) (fun c_1 => ?_) (fun c_1 => ?_)
  · refine lv_aload_n hx hb dX2_giveCopy_27 rfl (lv_at hl 1 rfl) ?_
    refine va_get (D := G.1) (ci := 1) (v := .ref (a 8)) (C := RX2) (T := TX2) (N := 12) hx hb hts uX2 hown hK hP 0 rfl rfl 4 (by decide) (hts (.fieldLink RX2 28 "ChordOverlay" "values" "LChordOverlay$Table;") (by decide +kernel)) (fun _ h9 => h9) rfl dX2_giveCopy_28 ?_
    refine lv_iload_n hx hb dX2_giveCopy_31 rfl (lv_at hl 3 rfl) ?_
    refine lv_iload_n hx hb dX2_giveCopy_32 rfl (lv_at hl 4 rfl) ?_
    refine lv_aload_n hx hb dX2_giveCopy_33 rfl (lv_at hl 1 rfl) ?_
    refine va_get (D := G.1) (ci := 1) (v := .ref (a 8)) (C := RX2) (T := TX2) (N := 12) hx hb hts uX2 hown hK hP 0 rfl rfl 4 (by decide) (hts (.fieldLink RX2 28 "ChordOverlay" "values" "LChordOverlay$Table;") (by decide +kernel)) (fun _ h9 => h9) rfl dX2_giveCopy_34 ?_
    refine lv_iload_n hx hb dX2_giveCopy_37 rfl (lv_at hl 2 rfl) ?_
    refine lv_iload_n hx hb dX2_giveCopy_38 rfl (lv_at hl 4 rfl) ?_
    refine co_rV (As := [.int f, .int k]) (rest := [.int k, .int t, .ref (a 8)]) S (c_X1_at l G (a 8) (a 9) 64 (σ 4) f k (by decide)) (cwV 2 hts gX2_giveCopy_X1_at rfl rfl rfl (by decide +kernel) ⟨Nat.le_of_ble_eq_true rfl, Nat.le_of_ble_eq_true rfl⟩) hK (pG_perm hP [8, 9] rfl) (va_recv hK hP (ci := 0) (q0 := 8) rfl rfl) rfl hl.1 rfl (Nat.le_of_ble_eq_true rfl) dX2_giveCopy_39 ⟨Nat.zero_le _, Nat.zero_le _⟩ ?_
    refine co_mVvS (As := [.int t, .int k, .int (tat 64 (σ 4) f k)]) (rest := []) (wr := ([0, 1, 2, 3, 4, 5, 6, 7, 10, 11, 12, 13, 14, 15, 16, 17, 18].filterMap (fun i => (wO G a σ ρ)[i]?))) (w' := (fun u => wO G a (va_up σ 4 u) ρ)) [8, 9] [0, 1, 2, 3, 4, 5, 6, 7, 10, 11, 12, 13, 14, 15, 16, 17, 18] [0, 1, 2, 3, 4, 5, 6, 7, 17, 18, 8, 9, 10, 11, 12, 13, 14, 15, 16] S (c_X1_set l G (a 8) (a 9) 64 (σ 4) t k (tat 64 (σ 4) f k) (by decide)) (cwV 3 hts gX2_giveCopy_X1_set rfl rfl rfl (by decide +kernel) ⟨Nat.le_of_ble_eq_true rfl, Nat.le_of_ble_eq_true rfl⟩) hK hP hD hS hA rfl rfl (by decide) (by decide) (by decide) (by decide) (fun _ => rfl) (va_recv hK hP (ci := 0) (q0 := 8) rfl rfl) rfl hl.1 rfl (Nat.le_of_ble_eq_true rfl) dX2_giveCopy_42 ⟨Nat.zero_le _, Nat.zero_le _⟩ (fun u_2 H locs hu_2 hP hD hS => ?_)
    have hP : pG G (wO G a (va_up σ 4 u_2) ρ) H := hP
    have hD : va_D A (wO G a (va_up σ 4 u_2) ρ) := hD
    refine lv_aload_n hx hb dX2_giveCopy_45 rfl (lv_at hl 1 rfl) ?_
    refine va_get (D := G.1) (ci := 1) (v := .ref (a 10)) (C := RX2) (T := TX2) (N := 12) hx hb hts uX2 hown hK hP 0 rfl rfl 5 (by decide) (hts (.fieldLink RX2 31 "ChordOverlay" "stamps" "LChordOverlay$Table;") (by decide +kernel)) (fun _ h9 => h9) rfl dX2_giveCopy_46 ?_
    refine lv_iload_n hx hb dX2_giveCopy_49 rfl (lv_at hl 3 rfl) ?_
    refine lv_iload_n hx hb dX2_giveCopy_50 rfl (lv_at hl 4 rfl) ?_
    refine lv_iload hx hb dX2_giveCopy_51 (lv_at hl 0 rfl) ?_
    refine co_mVvS (As := [.int t, .int k, .int (tat 64 (σ 5) f k)]) (rest := []) (wr := ([0, 1, 2, 3, 4, 5, 6, 7, 8, 9, 12, 13, 14, 15, 16, 17, 18].filterMap (fun i => (wO G a (va_up σ 4 u_2) ρ)[i]?))) (w' := (fun u => wO G a (va_up (va_up σ 4 u_2) 5 u) ρ)) [10, 11] [0, 1, 2, 3, 4, 5, 6, 7, 8, 9, 12, 13, 14, 15, 16, 17, 18] [0, 1, 2, 3, 4, 5, 6, 7, 8, 9, 17, 18, 10, 11, 12, 13, 14, 15, 16] S (c_X1_set l G (a 10) (a 11) 64 ((va_up σ 4 u_2) 5) t k (tat 64 (σ 5) f k) (by decide)) (cwV 3 hts gX2_giveCopy_X1_set rfl rfl rfl (by decide +kernel) ⟨Nat.le_of_ble_eq_true rfl, Nat.le_of_ble_eq_true rfl⟩) hK hP hD hS hA rfl rfl (by decide) (by decide) (by decide) (by decide) (fun _ => rfl) (va_recv hK hP (ci := 0) (q0 := 10) rfl rfl) rfl hl.1 rfl (Nat.le_of_ble_eq_true rfl) dX2_giveCopy_53 ⟨Nat.zero_le _, Nat.zero_le _⟩ (fun u_3 H locs hu_3 hP hD hS => ?_)
    have hP : pG G (wO G a (va_up (va_up σ 4 u_2) 5 u_3) ρ) H := hP
    have hD : va_D A (wO G a (va_up (va_up σ 4 u_2) 5 u_3) ρ) := hD
    refine lv_iconst (v := 1) hx hb dX2_giveCopy_56 (by decide) ?_
    exact co_endI ((va_up (va_up σ 4 u_2) 5 u_3), ρ) S hr hlocks dX2_giveCopy_57 hK hP hD hS (by refine ⟨?_, ?_⟩; (subst hu_3; subst hu_2; simp only [gcC, c_1, ↓reduceIte]); (show (va_up (va_up σ 4 u_2) 5 u_3) = (gcS σ f t k); subst hu_3; subst hu_2; simp only [gcS, c_1, ↓reduceIte] <;> rfl))
  · refine lv_iconst (v := 0) hx hb dX2_giveCopy_25 (by decide) ?_
    exact co_endI (σ, ρ) S hr hlocks dX2_giveCopy_26 hK hP hD hS (by refine ⟨?_, ?_⟩; (simp only [gcC, c_1, ↓reduceIte]); (show σ = (gcS σ f t k); simp only [gcS, c_1, ↓reduceIte] <;> rfl))

set_option maxRecDepth 20000 in
theorem uX2_X2_dropDeadPredecessor : ∀ w ∈ u_ws RX2 TX2 12, w ∈ wsX2_dropDeadPredecessor := by decide +kernel
abbrev rm_X2_dropDeadPredecessor : Room := { frames := 1, cells := 0, slots := 0, locals := 24 }
set_option maxHeartbeats 4000000 in
set_option maxRecDepth 100000 in
theorem c_X2_dropDeadPredecessor (l : Launch) (G : cG) (a : Nat → Nat) (σ ρ : cS) (n : Int32) : MetV l yX2_dropDeadPredecessor wsX2_dropDeadPredecessor rm_X2_dropDeadPredecessor G (wO G a σ ρ) [.ref (a 0), .int n] (fun u : cS × cS => wO G a u.1 u.2) (fun u => u.1 = (ddS σ n)) := by
  refine co_bodyV (cc := cX2_dropDeadPredecessor) (maxL := 2) (ret := none) (by decide) rfl (Nat.le_of_ble_eq_true rfl) ?_
  intro p e s m args below meth c S hr hlocks hK A hA hP hD hS ls hl
  have S : CallFix p m c cX2_dropDeadPredecessor 2 s args wsX2_dropDeadPredecessor RX2 := S
  obtain ⟨hx, hb, hml, hown, hts⟩ := id S
  have hl : lv_has ls 2 [(0, .ref (a 0)), (1, .int n)] := hl
  have uX2 := uX2_X2_dropDeadPredecessor
  refine lv_aload_n hx hb dX2_dropDeadPredecessor_0 rfl (lv_at hl 0 rfl) ?_
  refine lv_aload_n hx hb dX2_dropDeadPredecessor_1 rfl (lv_at hl 0 rfl) ?_
  refine va_get (D := G.1) (ci := 1) (v := .ref (a 4)) (C := RX2) (T := TX2) (N := 12) hx hb hts uX2 hown hK hP 0 rfl rfl 2 (by decide) (hts (.fieldLink RX2 22 "ChordOverlay" "predecessors" "LChordOverlay$Table;") (by decide +kernel)) (fun _ h9 => h9) rfl dX2_dropDeadPredecessor_2 ?_
  refine lv_iload_n hx hb dX2_dropDeadPredecessor_5 rfl (lv_at hl 1 rfl) ?_
  refine lv_iconst (v := 0) hx hb dX2_dropDeadPredecessor_6 (by decide) ?_
  refine co_rV (As := [.int n, .int 0]) (rest := [.ref (a 0)]) S (c_X1_at l G (a 4) (a 5) 1 (σ 2) n 0 (by decide)) (cwV 2 hts gX2_dropDeadPredecessor_X1_at rfl rfl rfl (by decide +kernel) ⟨Nat.le_of_ble_eq_true rfl, Nat.le_of_ble_eq_true rfl⟩) hK (pG_perm hP [4, 5] rfl) (va_recv hK hP (ci := 0) (q0 := 4) rfl rfl) rfl hl.1 rfl (Nat.le_of_ble_eq_true rfl) dX2_dropDeadPredecessor_7 ⟨Nat.zero_le _, Nat.zero_le _⟩ ?_
  refine co_rV (As := [.int (tat 1 (σ 2) n 0)]) (rest := []) S (c_X2_isAlive l G a σ ρ (tat 1 (σ 2) n 0)) (cwV 1 hts gX2_dropDeadPredecessor_X2_isAlive rfl rfl rfl (by decide +kernel) ⟨Nat.le_of_ble_eq_true rfl, Nat.le_of_ble_eq_true rfl⟩) hK hP (va_recv hK hP (ci := 1) (q0 := 0) rfl rfl) rfl hl.1 rfl (Nat.le_of_ble_eq_true rfl) dX2_dropDeadPredecessor_10 ⟨Nat.zero_le _, Nat.zero_le _⟩ ?_
  refine co_ifne (tgt := 26) S dX2_dropDeadPredecessor_13 (by decide) (fun c_1 => ?_) (fun c_1 => ?_)
  · exact co_endV (σ, ρ) S hr hlocks dX2_dropDeadPredecessor_26 hK hP hD hS (by show σ = (ddS σ n); simp only [ddS, c_1, eq_self, Bool.false_eq_true, ↓reduceIte])
  · refine lv_aload_n hx hb dX2_dropDeadPredecessor_16 rfl (lv_at hl 0 rfl) ?_
    refine va_get (D := G.1) (ci := 1) (v := .ref (a 4)) (C := RX2) (T := TX2) (N := 12) hx hb hts uX2 hown hK hP 0 rfl rfl 2 (by decide) (hts (.fieldLink RX2 22 "ChordOverlay" "predecessors" "LChordOverlay$Table;") (by decide +kernel)) (fun _ h9 => h9) rfl dX2_dropDeadPredecessor_17 ?_
    refine lv_iload_n hx hb dX2_dropDeadPredecessor_20 rfl (lv_at hl 1 rfl) ?_
    refine lv_iconst (v := 0) hx hb dX2_dropDeadPredecessor_21 (by decide) ?_
    refine lv_iconst (v := (-1)) hx hb dX2_dropDeadPredecessor_22 (by decide) ?_
    refine co_mVvS (As := [.int n, .int 0, .int (-1)]) (rest := []) (wr := ([0, 1, 2, 3, 6, 7, 8, 9, 10, 11, 12, 13, 14, 15, 16, 17, 18].filterMap (fun i => (wO G a σ ρ)[i]?))) (w' := (fun u => wO G a (va_up σ 2 u) ρ)) [4, 5] [0, 1, 2, 3, 6, 7, 8, 9, 10, 11, 12, 13, 14, 15, 16, 17, 18] [0, 1, 2, 3, 17, 18, 4, 5, 6, 7, 8, 9, 10, 11, 12, 13, 14, 15, 16] S (c_X1_set l G (a 4) (a 5) 1 (σ 2) n 0 (-1) (by decide)) (cwV 3 hts gX2_dropDeadPredecessor_X1_set rfl rfl rfl (by decide +kernel) ⟨Nat.le_of_ble_eq_true rfl, Nat.le_of_ble_eq_true rfl⟩) hK hP hD hS hA rfl rfl (by decide) (by decide) (by decide) (by decide) (fun _ => rfl) (va_recv hK hP (ci := 0) (q0 := 4) rfl rfl) rfl hl.1 rfl (Nat.le_of_ble_eq_true rfl) dX2_dropDeadPredecessor_23 ⟨Nat.zero_le _, Nat.zero_le _⟩ (fun u_2 H locs hu_2 hP hD hS => ?_)
    have hP : pG G (wO G a (va_up σ 2 u_2) ρ) H := hP
    have hD : va_D A (wO G a (va_up σ 2 u_2) ρ) := hD
    exact co_endV ((va_up σ 2 u_2), ρ) S hr hlocks dX2_dropDeadPredecessor_26 hK hP hD hS (by show (va_up σ 2 u_2) = (ddS σ n); subst hu_2; simp only [ddS, c_1, eq_self, Bool.false_eq_true, ↓reduceIte])

set_option maxRecDepth 20000 in
theorem uX2_X2_notifyOf : ∀ w ∈ u_ws RX2 TX2 12, w ∈ wsX2_notifyOf := by decide +kernel
abbrev rm_X2_notifyOf : Room := { frames := 1, cells := 0, slots := 0, locals := 24 }
set_option maxHeartbeats 4000000 in
set_option maxRecDepth 100000 in
theorem c_X2_notifyOf (l : Launch) (G : cG) (a : Nat → Nat) (σ ρ : cS) (n : Int32) (x : Int32) : MetV l yX2_notifyOf wsX2_notifyOf rm_X2_notifyOf G (wO G a σ ρ) [.ref (a 0), .int n, .int x] (fun u : cS × cS => wO G a u.1 u.2) (fun u => u.1 = (ntS σ n x)) := by
  refine co_bodyV (cc := cX2_notifyOf) (maxL := 4) (ret := none) (by decide) rfl (Nat.le_of_ble_eq_true rfl) ?_
  intro p e s m args below meth c S hr hlocks hK A hA hP hD hS ls hl
  have S : CallFix p m c cX2_notifyOf 4 s args wsX2_notifyOf RX2 := S
  obtain ⟨hx, hb, hml, hown, hts⟩ := id S
  have hl : lv_has ls 4 [(0, .ref (a 0)), (1, .int n), (2, .int x)] := hl
  have uX2 := uX2_X2_notifyOf
  refine lv_aload_n hx hb dX2_notifyOf_0 rfl (lv_at hl 0 rfl) ?_
  refine va_get (D := G.1) (ci := 1) (v := .ref (a 4)) (C := RX2) (T := TX2) (N := 12) hx hb hts uX2 hown hK hP 0 rfl rfl 2 (by decide) (hts (.fieldLink RX2 22 "ChordOverlay" "predecessors" "LChordOverlay$Table;") (by decide +kernel)) (fun _ h9 => h9) rfl dX2_notifyOf_1 ?_
  refine lv_iload_n hx hb dX2_notifyOf_4 rfl (lv_at hl 2 rfl) ?_
  refine lv_iconst (v := 0) hx hb dX2_notifyOf_5 (by decide) ?_
  refine co_rV (As := [.int x, .int 0]) (rest := []) S (c_X1_at l G (a 4) (a 5) 1 (σ 2) x 0 (by decide)) (cwV 2 hts gX2_notifyOf_X1_at rfl rfl rfl (by decide +kernel) ⟨Nat.le_of_ble_eq_true rfl, Nat.le_of_ble_eq_true rfl⟩) hK (pG_perm hP [4, 5] rfl) (va_recv hK hP (ci := 0) (q0 := 4) rfl rfl) rfl hl.1 rfl (Nat.le_of_ble_eq_true rfl) dX2_notifyOf_6 ⟨Nat.zero_le _, Nat.zero_le _⟩ ?_
  refine lv_istore_n (lv' := [(3, .int (tat 1 (σ 2) x 0)), (0, .ref (a 0)), (1, .int n), (2, .int x)]) hx hb dX2_notifyOf_9 rfl hl (by decide) rfl (fun ls hl => ?_)
  refine lv_aload_n hx hb dX2_notifyOf_10 rfl (lv_at hl 1 rfl) ?_
  refine lv_iload_n hx hb dX2_notifyOf_11 rfl (lv_at hl 0 rfl) ?_
  refine co_rV (As := [.int (tat 1 (σ 2) x 0)]) (rest := []) S (c_X2_isAlive l G a σ ρ (tat 1 (σ 2) x 0)) (cwV 1 hts gX2_notifyOf_X2_isAlive rfl rfl rfl (by decide +kernel) ⟨Nat.le_of_ble_eq_true rfl, Nat.le_of_ble_eq_true rfl⟩) hK hP (va_recv hK hP (ci := 1) (q0 := 0) rfl rfl) rfl hl.1 rfl (Nat.le_of_ble_eq_true rfl) dX2_notifyOf_12 ⟨Nat.zero_le _, Nat.zero_le _⟩ ?_
  refine co_ifeq (tgt := 27) S dX2_notifyOf_15 (by decide) (fun c_1 => ?_) (fun c_1 => ?_)
  · refine lv_aload_n hx hb dX2_notifyOf_27 rfl (lv_at hl 1 rfl) ?_
    refine va_get (D := G.1) (ci := 1) (v := .ref (a 4)) (C := RX2) (T := TX2) (N := 12) hx hb hts uX2 hown hK hP 0 rfl rfl 2 (by decide) (hts (.fieldLink RX2 22 "ChordOverlay" "predecessors" "LChordOverlay$Table;") (by decide +kernel)) (fun _ h9 => h9) rfl dX2_notifyOf_28 ?_
    refine lv_iload_n hx hb dX2_notifyOf_31 rfl (lv_at hl 3 rfl) ?_
    refine lv_iconst (v := 0) hx hb dX2_notifyOf_32 (by decide) ?_
    refine lv_iload_n hx hb dX2_notifyOf_33 rfl (lv_at hl 2 rfl) ?_
    refine co_mVvS (As := [.int x, .int 0, .int n]) (rest := []) (wr := ([0, 1, 2, 3, 6, 7, 8, 9, 10, 11, 12, 13, 14, 15, 16, 17, 18].filterMap (fun i => (wO G a σ ρ)[i]?))) (w' := (fun u => wO G a (va_up σ 2 u) ρ)) [4, 5] [0, 1, 2, 3, 6, 7, 8, 9, 10, 11, 12, 13, 14, 15, 16, 17, 18] [0, 1, 2, 3, 17, 18, 4, 5, 6, 7, 8, 9, 10, 11, 12, 13, 14, 15, 16] S (c_X1_set l G (a 4) (a 5) 1 (σ 2) x 0 n (by decide)) (cwV 3 hts gX2_notifyOf_X1_set rfl rfl rfl (by decide +kernel) ⟨Nat.le_of_ble_eq_true rfl, Nat.le_of_ble_eq_true rfl⟩) hK hP hD hS hA rfl rfl (by decide) (by decide) (by decide) (by decide) (fun _ => rfl) (va_recv hK hP (ci := 0) (q0 := 4) rfl rfl) rfl hl.1 rfl (Nat.le_of_ble_eq_true rfl) dX2_notifyOf_34 ⟨Nat.zero_le _, Nat.zero_le _⟩ (fun u_2 H locs hu_2 hP hD hS => ?_)
    have hP : pG G (wO G a (va_up σ 2 u_2) ρ) H := hP
    have hD : va_D A (wO G a (va_up σ 2 u_2) ρ) := hD
    exact co_endV ((va_up σ 2 u_2), ρ) S hr hlocks dX2_notifyOf_37 hK hP hD hS (by show (va_up σ 2 u_2) = (ntS σ n x); subst hu_2; simp only [ntS, c_1, eq_self, Bool.false_eq_true, ↓reduceIte])
  · refine lv_iload_n hx hb dX2_notifyOf_18 rfl (lv_at hl 2 rfl) ?_
    refine lv_iload_n hx hb dX2_notifyOf_19 rfl (lv_at hl 0 rfl) ?_
    refine lv_iload_n hx hb dX2_notifyOf_20 rfl (lv_at hl 3 rfl) ?_
    refine co_rS (As := [.int n, .int (tat 1 (σ 2) x 0), .int x]) (rest := []) S (c_X0_isBetween l G n (tat 1 (σ 2) x 0) x) (va_cwS 3 hts gX2_notifyOf_X0_isBetween rfl rfl rfl (by decide +kernel) ⟨Nat.le_of_ble_eq_true rfl, Nat.le_of_ble_eq_true rfl⟩) hK (pG_nil) rfl hl.1 rfl (Nat.le_of_ble_eq_true rfl) dX2_notifyOf_21 ⟨Nat.zero_le _, Nat.zero_le _⟩ ?_
    refine co_ifeq (tgt := 37) S dX2_notifyOf_24 (by decide) (fun c_3 => ?_) (fun c_3 => ?_)
    · exact co_endV (σ, ρ) S hr hlocks dX2_notifyOf_37 hK hP hD hS (by show σ = (ntS σ n x); simp only [ntS, c_1, c_3, eq_self, Bool.false_eq_true, ↓reduceIte])
    · refine lv_aload_n hx hb dX2_notifyOf_27 rfl (lv_at hl 1 rfl) ?_
      refine va_get (D := G.1) (ci := 1) (v := .ref (a 4)) (C := RX2) (T := TX2) (N := 12) hx hb hts uX2 hown hK hP 0 rfl rfl 2 (by decide) (hts (.fieldLink RX2 22 "ChordOverlay" "predecessors" "LChordOverlay$Table;") (by decide +kernel)) (fun _ h9 => h9) rfl dX2_notifyOf_28 ?_
      refine lv_iload_n hx hb dX2_notifyOf_31 rfl (lv_at hl 3 rfl) ?_
      refine lv_iconst (v := 0) hx hb dX2_notifyOf_32 (by decide) ?_
      refine lv_iload_n hx hb dX2_notifyOf_33 rfl (lv_at hl 2 rfl) ?_
      refine co_mVvS (As := [.int x, .int 0, .int n]) (rest := []) (wr := ([0, 1, 2, 3, 6, 7, 8, 9, 10, 11, 12, 13, 14, 15, 16, 17, 18].filterMap (fun i => (wO G a σ ρ)[i]?))) (w' := (fun u => wO G a (va_up σ 2 u) ρ)) [4, 5] [0, 1, 2, 3, 6, 7, 8, 9, 10, 11, 12, 13, 14, 15, 16, 17, 18] [0, 1, 2, 3, 17, 18, 4, 5, 6, 7, 8, 9, 10, 11, 12, 13, 14, 15, 16] S (c_X1_set l G (a 4) (a 5) 1 (σ 2) x 0 n (by decide)) (cwV 3 hts gX2_notifyOf_X1_set rfl rfl rfl (by decide +kernel) ⟨Nat.le_of_ble_eq_true rfl, Nat.le_of_ble_eq_true rfl⟩) hK hP hD hS hA rfl rfl (by decide) (by decide) (by decide) (by decide) (fun _ => rfl) (va_recv hK hP (ci := 0) (q0 := 4) rfl rfl) rfl hl.1 rfl (Nat.le_of_ble_eq_true rfl) dX2_notifyOf_34 ⟨Nat.zero_le _, Nat.zero_le _⟩ (fun u_4 H locs hu_4 hP hD hS => ?_)
      have hP : pG G (wO G a (va_up σ 2 u_4) ρ) H := hP
      have hD : va_D A (wO G a (va_up σ 2 u_4) ρ) := hD
      exact co_endV ((va_up σ 2 u_4), ρ) S hr hlocks dX2_notifyOf_37 hK hP hD hS (by show (va_up σ 2 u_4) = (ntS σ n x); subst hu_4; simp only [ntS, c_1, c_3, eq_self, Bool.false_eq_true, ↓reduceIte])

set_option maxRecDepth 20000 in
theorem uX2_X2_mendSuccessors : ∀ w ∈ u_ws RX2 TX2 12, w ∈ wsX2_mendSuccessors := by decide +kernel
abbrev rm_X2_mendSuccessors : Room := { frames := 3, cells := 0, slots := 0, locals := 72 }
set_option maxHeartbeats 4000000 in
set_option maxRecDepth 100000 in
theorem c_X2_mendSuccessors (l : Launch) (G : cG) (a : Nat → Nat) (σ ρ : cS) (n : Int32) : MetV l yX2_mendSuccessors wsX2_mendSuccessors rm_X2_mendSuccessors G (wO G a σ ρ) [.ref (a 0), .int n] (fun u : cS × cS => wO G a u.1 u.2) (fun u => u.1 = (msS σ n)) := by
  refine co_bodyV (cc := cX2_mendSuccessors) (maxL := 4) (ret := none) (by decide) rfl (Nat.le_of_ble_eq_true rfl) ?_
  intro p e s m args below meth c S hr hlocks hK A hA hP hD hS ls hl
  have S : CallFix p m c cX2_mendSuccessors 4 s args wsX2_mendSuccessors RX2 := S
  obtain ⟨hx, hb, hml, hown, hts⟩ := id S
  have hl : lv_has ls 4 [(0, .ref (a 0)), (1, .int n)] := hl
  have uX2 := uX2_X2_mendSuccessors
  refine lv_aload_n hx hb dX2_mendSuccessors_0 rfl (lv_at hl 0 rfl) ?_
  refine lv_iload_n hx hb dX2_mendSuccessors_1 rfl (lv_at hl 1 rfl) ?_
  refine co_rV (As := [.int n]) (rest := []) S (c_X2_firstLivingSuccessor l G a σ ρ n) (cwV 1 hts gX2_mendSuccessors_X2_firstLivingSuccessor rfl rfl rfl (by decide +kernel) ⟨Nat.le_of_ble_eq_true rfl, Nat.le_of_ble_eq_true rfl⟩) hK hP (va_recv hK hP (ci := 1) (q0 := 0) rfl rfl) rfl hl.1 rfl (Nat.le_of_ble_eq_true rfl) dX2_mendSuccessors_2 ⟨Nat.zero_le _, Nat.zero_le _⟩ ?_
  refine lv_istore_n (lv' := [(2, .int (lsF (σ 0) (σ 1) n)), (0, .ref (a 0)), (1, .int n)]) hx hb dX2_mendSuccessors_5 rfl hl (by decide) rfl (fun ls hl => ?_)
  refine lv_aload_n hx hb dX2_mendSuccessors_6 rfl (lv_at hl 1 rfl) ?_
  refine va_get (D := G.1) (ci := 1) (v := .ref (a 4)) (C := RX2) (T := TX2) (N := 12) hx hb hts uX2 hown hK hP 0 rfl rfl 2 (by decide) (hts (.fieldLink RX2 22 "ChordOverlay" "predecessors" "LChordOverlay$Table;") (by decide +kernel)) (fun _ h9 => h9) rfl dX2_mendSuccessors_7 ?_
  refine lv_iload_n hx hb dX2_mendSuccessors_10 rfl (lv_at hl 0 rfl) ?_
  refine lv_iconst (v := 0) hx hb dX2_mendSuccessors_11 (by decide) ?_
  refine co_rV (As := [.int (lsF (σ 0) (σ 1) n), .int 0]) (rest := []) S (c_X1_at l G (a 4) (a 5) 1 (σ 2) (lsF (σ 0) (σ 1) n) 0 (by decide)) (cwV 2 hts gX2_mendSuccessors_X1_at rfl rfl rfl (by decide +kernel) ⟨Nat.le_of_ble_eq_true rfl, Nat.le_of_ble_eq_true rfl⟩) hK (pG_perm hP [4, 5] rfl) (va_recv hK hP (ci := 0) (q0 := 4) rfl rfl) rfl hl.1 rfl (Nat.le_of_ble_eq_true rfl) dX2_mendSuccessors_12 ⟨Nat.zero_le _, Nat.zero_le _⟩ ?_
  refine lv_istore_n (lv' := [(3, .int (tat 1 (σ 2) (lsF (σ 0) (σ 1) n) 0)), (2, .int (lsF (σ 0) (σ 1) n)), (0, .ref (a 0)), (1, .int n)]) hx hb dX2_mendSuccessors_15 rfl hl (by decide) rfl (fun ls hl => ?_)
  refine lv_aload_n hx hb dX2_mendSuccessors_16 rfl (lv_at hl 2 rfl) ?_
  refine lv_iload_n hx hb dX2_mendSuccessors_17 rfl (lv_at hl 0 rfl) ?_
  refine co_rV (As := [.int (tat 1 (σ 2) (lsF (σ 0) (σ 1) n) 0)]) (rest := []) S (c_X2_isAlive l G a σ ρ (tat 1 (σ 2) (lsF (σ 0) (σ 1) n) 0)) (cwV 1 hts gX2_mendSuccessors_X2_isAlive rfl rfl rfl (by decide +kernel) ⟨Nat.le_of_ble_eq_true rfl, Nat.le_of_ble_eq_true rfl⟩) hK hP (va_recv hK hP (ci := 1) (q0 := 0) rfl rfl) rfl hl.1 rfl (Nat.le_of_ble_eq_true rfl) dX2_mendSuccessors_18 ⟨Nat.zero_le _, Nat.zero_le _⟩ ?_
  refine co_ifeq (tgt := 35) S dX2_mendSuccessors_21 (by decide) (fun c_1 => ?_) (fun c_1 => ?_)
  · refine lv_aload_n hx hb dX2_mendSuccessors_35 rfl (lv_at hl 2 rfl) ?_
    refine lv_iload_n hx hb dX2_mendSuccessors_36 rfl (lv_at hl 3 rfl) ?_
    refine lv_iload_n hx hb dX2_mendSuccessors_37 rfl (lv_at hl 1 rfl) ?_
    refine co_mVv (As := [.int n, .int (lsF (σ 0) (σ 1) n)]) (rest := []) S (c_X2_follow l G a σ ρ n (lsF (σ 0) (σ 1) n)) (cwV 2 hts gX2_mendSuccessors_X2_follow rfl rfl rfl (by decide +kernel) ⟨Nat.le_of_ble_eq_true rfl, Nat.le_of_ble_eq_true rfl⟩) hK hP hD hS hA (va_recv hK hP (ci := 1) (q0 := 0) rfl rfl) rfl hl.1 rfl (Nat.le_of_ble_eq_true rfl) dX2_mendSuccessors_38 ⟨Nat.zero_le _, Nat.zero_le _⟩ (fun u_2 H locs hu_2 hP hD hS => ?_)
    obtain ⟨σ_2, ρ_2⟩ := u_2
    have hu_2 : σ_2 = foS σ n (lsF (σ 0) (σ 1) n) := hu_2
    have hP : pG G (wO G a σ_2 ρ_2) H := hP
    have hD : va_D A (wO G a σ_2 ρ_2) := hD
    refine lv_aload_n hx hb dX2_mendSuccessors_41 rfl (lv_at hl 2 rfl) ?_
    refine lv_iload_n hx hb dX2_mendSuccessors_42 rfl (lv_at hl 3 rfl) ?_
    refine lv_iload_n hx hb dX2_mendSuccessors_43 rfl (lv_at hl 1 rfl) ?_
    refine co_mVv (As := [.int n, .int (lsF (σ 0) (σ 1) n)]) (rest := []) S (c_X2_notifyOf l G a σ_2 ρ_2 n (lsF (σ 0) (σ 1) n)) (cwV 2 hts gX2_mendSuccessors_X2_notifyOf rfl rfl rfl (by decide +kernel) ⟨Nat.le_of_ble_eq_true rfl, Nat.le_of_ble_eq_true rfl⟩) hK hP hD hS hA (va_recv hK hP (ci := 1) (q0 := 0) rfl rfl) rfl hl.1 rfl (Nat.le_of_ble_eq_true rfl) dX2_mendSuccessors_44 ⟨Nat.zero_le _, Nat.zero_le _⟩ (fun u_3 H locs hu_3 hP hD hS => ?_)
    obtain ⟨σ_3, ρ_3⟩ := u_3
    have hu_3 : σ_3 = ntS σ_2 n (lsF (σ 0) (σ 1) n) := hu_3
    have hP : pG G (wO G a σ_3 ρ_3) H := hP
    have hD : va_D A (wO G a σ_3 ρ_3) := hD
    exact co_endV (σ_3, ρ_3) S hr hlocks dX2_mendSuccessors_47 hK hP hD hS (by show σ_3 = (msS σ n); subst hu_3; subst hu_2; simp only [msS, mdN, c_1, eq_self, Bool.false_eq_true, ↓reduceIte])
  · refine lv_iload_n hx hb dX2_mendSuccessors_24 rfl (lv_at hl 0 rfl) ?_
    refine lv_iload_n hx hb dX2_mendSuccessors_25 rfl (lv_at hl 3 rfl) ?_
    refine lv_iload_n hx hb dX2_mendSuccessors_26 rfl (lv_at hl 1 rfl) ?_
    refine co_rS (As := [.int (tat 1 (σ 2) (lsF (σ 0) (σ 1) n) 0), .int n, .int (lsF (σ 0) (σ 1) n)]) (rest := []) S (c_X0_isBetween l G (tat 1 (σ 2) (lsF (σ 0) (σ 1) n) 0) n (lsF (σ 0) (σ 1) n)) (va_cwS 3 hts gX2_mendSuccessors_X0_isBetween rfl rfl rfl (by decide +kernel) ⟨Nat.le_of_ble_eq_true rfl, Nat.le_of_ble_eq_true rfl⟩) hK (pG_nil) rfl hl.1 rfl (Nat.le_of_ble_eq_true rfl) dX2_mendSuccessors_27 ⟨Nat.zero_le _, Nat.zero_le _⟩ ?_
    refine co_ifeq (tgt := 35) S dX2_mendSuccessors_30 (by decide) (fun c_4 => ?_) (fun c_4 => ?_)
    · refine lv_aload_n hx hb dX2_mendSuccessors_35 rfl (lv_at hl 2 rfl) ?_
      refine lv_iload_n hx hb dX2_mendSuccessors_36 rfl (lv_at hl 3 rfl) ?_
      refine lv_iload_n hx hb dX2_mendSuccessors_37 rfl (lv_at hl 1 rfl) ?_
      refine co_mVv (As := [.int n, .int (lsF (σ 0) (σ 1) n)]) (rest := []) S (c_X2_follow l G a σ ρ n (lsF (σ 0) (σ 1) n)) (cwV 2 hts gX2_mendSuccessors_X2_follow rfl rfl rfl (by decide +kernel) ⟨Nat.le_of_ble_eq_true rfl, Nat.le_of_ble_eq_true rfl⟩) hK hP hD hS hA (va_recv hK hP (ci := 1) (q0 := 0) rfl rfl) rfl hl.1 rfl (Nat.le_of_ble_eq_true rfl) dX2_mendSuccessors_38 ⟨Nat.zero_le _, Nat.zero_le _⟩ (fun u_5 H locs hu_5 hP hD hS => ?_)
      obtain ⟨σ_5, ρ_5⟩ := u_5
      have hu_5 : σ_5 = foS σ n (lsF (σ 0) (σ 1) n) := hu_5
      have hP : pG G (wO G a σ_5 ρ_5) H := hP
      have hD : va_D A (wO G a σ_5 ρ_5) := hD
      refine lv_aload_n hx hb dX2_mendSuccessors_41 rfl (lv_at hl 2 rfl) ?_
      refine lv_iload_n hx hb dX2_mendSuccessors_42 rfl (lv_at hl 3 rfl) ?_
      refine lv_iload_n hx hb dX2_mendSuccessors_43 rfl (lv_at hl 1 rfl) ?_
      refine co_mVv (As := [.int n, .int (lsF (σ 0) (σ 1) n)]) (rest := []) S (c_X2_notifyOf l G a σ_5 ρ_5 n (lsF (σ 0) (σ 1) n)) (cwV 2 hts gX2_mendSuccessors_X2_notifyOf rfl rfl rfl (by decide +kernel) ⟨Nat.le_of_ble_eq_true rfl, Nat.le_of_ble_eq_true rfl⟩) hK hP hD hS hA (va_recv hK hP (ci := 1) (q0 := 0) rfl rfl) rfl hl.1 rfl (Nat.le_of_ble_eq_true rfl) dX2_mendSuccessors_44 ⟨Nat.zero_le _, Nat.zero_le _⟩ (fun u_6 H locs hu_6 hP hD hS => ?_)
      obtain ⟨σ_6, ρ_6⟩ := u_6
      have hu_6 : σ_6 = ntS σ_5 n (lsF (σ 0) (σ 1) n) := hu_6
      have hP : pG G (wO G a σ_6 ρ_6) H := hP
      have hD : va_D A (wO G a σ_6 ρ_6) := hD
      exact co_endV (σ_6, ρ_6) S hr hlocks dX2_mendSuccessors_47 hK hP hD hS (by show σ_6 = (msS σ n); subst hu_6; subst hu_5; simp only [msS, mdN, c_1, c_4, eq_self, Bool.false_eq_true, ↓reduceIte])
    · refine lv_iload_n hx hb dX2_mendSuccessors_33 rfl (lv_at hl 0 rfl) ?_
      refine lv_istore_n (lv' := [(2, .int (tat 1 (σ 2) (lsF (σ 0) (σ 1) n) 0)), (3, .int (tat 1 (σ 2) (lsF (σ 0) (σ 1) n) 0)), (0, .ref (a 0)), (1, .int n)]) hx hb dX2_mendSuccessors_34 rfl hl (by decide) rfl (fun ls hl => ?_)
      refine lv_aload_n hx hb dX2_mendSuccessors_35 rfl (lv_at hl 2 rfl) ?_
      refine lv_iload_n hx hb dX2_mendSuccessors_36 rfl (lv_at hl 3 rfl) ?_
      refine lv_iload_n hx hb dX2_mendSuccessors_37 rfl (lv_at hl 0 rfl) ?_
      refine co_mVv (As := [.int n, .int (tat 1 (σ 2) (lsF (σ 0) (σ 1) n) 0)]) (rest := []) S (c_X2_follow l G a σ ρ n (tat 1 (σ 2) (lsF (σ 0) (σ 1) n) 0)) (cwV 2 hts gX2_mendSuccessors_X2_follow rfl rfl rfl (by decide +kernel) ⟨Nat.le_of_ble_eq_true rfl, Nat.le_of_ble_eq_true rfl⟩) hK hP hD hS hA (va_recv hK hP (ci := 1) (q0 := 0) rfl rfl) rfl hl.1 rfl (Nat.le_of_ble_eq_true rfl) dX2_mendSuccessors_38 ⟨Nat.zero_le _, Nat.zero_le _⟩ (fun u_7 H locs hu_7 hP hD hS => ?_)
      obtain ⟨σ_7, ρ_7⟩ := u_7
      have hu_7 : σ_7 = foS σ n (tat 1 (σ 2) (lsF (σ 0) (σ 1) n) 0) := hu_7
      have hP : pG G (wO G a σ_7 ρ_7) H := hP
      have hD : va_D A (wO G a σ_7 ρ_7) := hD
      refine lv_aload_n hx hb dX2_mendSuccessors_41 rfl (lv_at hl 2 rfl) ?_
      refine lv_iload_n hx hb dX2_mendSuccessors_42 rfl (lv_at hl 3 rfl) ?_
      refine lv_iload_n hx hb dX2_mendSuccessors_43 rfl (lv_at hl 0 rfl) ?_
      refine co_mVv (As := [.int n, .int (tat 1 (σ 2) (lsF (σ 0) (σ 1) n) 0)]) (rest := []) S (c_X2_notifyOf l G a σ_7 ρ_7 n (tat 1 (σ 2) (lsF (σ 0) (σ 1) n) 0)) (cwV 2 hts gX2_mendSuccessors_X2_notifyOf rfl rfl rfl (by decide +kernel) ⟨Nat.le_of_ble_eq_true rfl, Nat.le_of_ble_eq_true rfl⟩) hK hP hD hS hA (va_recv hK hP (ci := 1) (q0 := 0) rfl rfl) rfl hl.1 rfl (Nat.le_of_ble_eq_true rfl) dX2_mendSuccessors_44 ⟨Nat.zero_le _, Nat.zero_le _⟩ (fun u_8 H locs hu_8 hP hD hS => ?_)
      obtain ⟨σ_8, ρ_8⟩ := u_8
      have hu_8 : σ_8 = ntS σ_7 n (tat 1 (σ 2) (lsF (σ 0) (σ 1) n) 0) := hu_8
      have hP : pG G (wO G a σ_8 ρ_8) H := hP
      have hD : va_D A (wO G a σ_8 ρ_8) := hD
      exact co_endV (σ_8, ρ_8) S hr hlocks dX2_mendSuccessors_47 hK hP hD hS (by show σ_8 = (msS σ n); subst hu_8; subst hu_7; simp only [msS, mdN, c_1, c_4, eq_self, Bool.false_eq_true, ↓reduceIte])

set_option maxRecDepth 20000 in
theorem uX2_X2_handOver : ∀ w ∈ u_ws RX2 TX2 12, w ∈ wsX2_handOver := by decide +kernel
abbrev rm_X2_handOver : Room := { frames := 3, cells := 0, slots := 0, locals := 72 }
set_option maxHeartbeats 4000000 in
set_option maxRecDepth 100000 in
theorem c_X2_handOver (l : Launch) (G : cG) (a : Nat → Nat) (σ ρ : cS) (n : Int32) (x : Int32) : MetV l yX2_handOver wsX2_handOver rm_X2_handOver G (wO G a σ ρ) [.ref (a 0), .int n, .int x] (fun u : cS × cS => wO G a u.1 u.2) (fun u => u.1 = (hoS σ n x)) := by
  refine co_bodyV (cc := cX2_handOver) (maxL := 4) (ret := none) (by decide) rfl (Nat.le_of_ble_eq_true rfl) ?_
  intro p e s m args below meth c S hr hlocks hK A hA hP hD hS ls hl
  have S : CallFix p m c cX2_handOver 4 s args wsX2_handOver RX2 := S
  obtain ⟨hx, hb, hml, hown, hts⟩ := id S
  have hl : lv_has ls 4 [(0, .ref (a 0)), (1, .int n), (2, .int x)] := hl
  have uX2 := uX2_X2_handOver
  refine lv_iconst (v := 0) hx hb dX2_handOver_0 (by decide) ?_
  refine lv_istore_n (lv' := [(3, .int 0), (0, .ref (a 0)), (1, .int n), (2, .int x)]) hx hb dX2_handOver_1 rfl hl (by decide) rfl (fun ls hl => ?_)
  have LP : ∀ (d : Nat) (k : Nat) (σ' ρ' : cS), k + d = 64 → σ' = hoL σ n x k → ∀ (H : Heap) (locs : List Loc), pG G (wO G a σ' ρ') H → va_D A (wO G a σ' ρ') → va_S A s.heap H locs → ∀ ls : Array Slot, lv_has ls 4 [(0, .ref (a 0)), (1, .int n), (2, .int x), (3, .int (nI k))] → W p l e rm_X2_handOver s m args below meth c H locs 0 0 (QV below G A (fun u : cS × cS => wO G a u.1 u.2) (fun u => u.1 = (hoS σ n x)) args s) (F0 m 2 ls []) := by
    intro d
    induction d with
    | zero =>
      intro k σ' ρ' hk h9 H locs hP hD hS ls hl
      obtain rfl : k = 64 := by omega
      refine lv_iload_n hx hb dX2_handOver_2 rfl (lv_at hl 3 rfl) ?_
      refine lv_bipush (v := 64) hx hb dX2_handOver_3 (by decide) ?_
      refine lv_icmp_ge (tgt := 22) hx hb dX2_handOver_5 (by decide) (fun c_1 => ?_) (fun c_1 => ?_)
      · refine lv_aload_n hx hb dX2_handOver_22 rfl (lv_at hl 0 rfl) ?_
        refine va_get (D := G.1) (ci := 1) (v := .ref (a 4)) (C := RX2) (T := TX2) (N := 12) hx hb hts uX2 hown hK hP 0 rfl rfl 2 (by decide) (hts (.fieldLink RX2 22 "ChordOverlay" "predecessors" "LChordOverlay$Table;") (by decide +kernel)) (fun _ h9 => h9) rfl dX2_handOver_23 ?_
        refine lv_iload_n hx hb dX2_handOver_26 rfl (lv_at hl 1 rfl) ?_
        refine lv_iconst (v := 0) hx hb dX2_handOver_27 (by decide) ?_
        refine co_rV (As := [.int n, .int 0]) (rest := []) S (c_X1_at l G (a 4) (a 5) 1 (σ' 2) n 0 (by decide)) (cwV 2 hts gX2_handOver_X1_at rfl rfl rfl (by decide +kernel) ⟨Nat.le_of_ble_eq_true rfl, Nat.le_of_ble_eq_true rfl⟩) hK (pG_perm hP [4, 5] rfl) (va_recv hK hP (ci := 0) (q0 := 4) rfl rfl) rfl hl.1 rfl (Nat.le_of_ble_eq_true rfl) dX2_handOver_28 ⟨Nat.zero_le _, Nat.zero_le _⟩ ?_
        refine lv_istore_n (lv' := [(3, .int (tat 1 (σ' 2) n 0)), (0, .ref (a 0)), (1, .int n), (2, .int x)]) hx hb dX2_handOver_31 rfl hl (by decide) rfl (fun ls hl => ?_)
        refine lv_aload_n hx hb dX2_handOver_32 rfl (lv_at hl 1 rfl) ?_
        refine va_get (D := G.1) (ci := 1) (v := .ref (a 4)) (C := RX2) (T := TX2) (N := 12) hx hb hts uX2 hown hK hP 0 rfl rfl 2 (by decide) (hts (.fieldLink RX2 22 "ChordOverlay" "predecessors" "LChordOverlay$Table;") (by decide +kernel)) (fun _ h9 => h9) rfl dX2_handOver_33 ?_
        refine lv_iload_n hx hb dX2_handOver_36 rfl (lv_at hl 3 rfl) ?_
        refine lv_iconst (v := 0) hx hb dX2_handOver_37 (by decide) ?_
        refine lv_iload_n hx hb dX2_handOver_38 rfl (lv_at hl 0 rfl) ?_
        refine co_mVvS (As := [.int x, .int 0, .int (tat 1 (σ' 2) n 0)]) (rest := []) (wr := ([0, 1, 2, 3, 6, 7, 8, 9, 10, 11, 12, 13, 14, 15, 16, 17, 18].filterMap (fun i => (wO G a σ' ρ')[i]?))) (w' := (fun u => wO G a (va_up σ' 2 u) ρ')) [4, 5] [0, 1, 2, 3, 6, 7, 8, 9, 10, 11, 12, 13, 14, 15, 16, 17, 18] [0, 1, 2, 3, 17, 18, 4, 5, 6, 7, 8, 9, 10, 11, 12, 13, 14, 15, 16] S (c_X1_set l G (a 4) (a 5) 1 (σ' 2) x 0 (tat 1 (σ' 2) n 0) (by decide)) (cwV 3 hts gX2_handOver_X1_set rfl rfl rfl (by decide +kernel) ⟨Nat.le_of_ble_eq_true rfl, Nat.le_of_ble_eq_true rfl⟩) hK hP hD hS hA rfl rfl (by decide) (by decide) (by decide) (by decide) (fun _ => rfl) (va_recv hK hP (ci := 0) (q0 := 4) rfl rfl) rfl hl.1 rfl (Nat.le_of_ble_eq_true rfl) dX2_handOver_39 ⟨Nat.zero_le _, Nat.zero_le _⟩ (fun u_2 H locs hu_2 hP hD hS => ?_)
        have hP : pG G (wO G a (va_up σ' 2 u_2) ρ') H := hP
        have hD : va_D A (wO G a (va_up σ' 2 u_2) ρ') := hD
        refine lv_iload_n hx hb dX2_handOver_42 rfl (lv_at hl 0 rfl) ?_
        refine lv_iload_n hx hb dX2_handOver_43 rfl (lv_at hl 2 rfl) ?_
        refine lv_icmp_eq (tgt := 61) hx hb dX2_handOver_44 (by decide) (fun c_3 => ?_) (fun c_3 => ?_)
        · exact co_endV ((va_up σ' 2 u_2), ρ') S hr hlocks dX2_handOver_61 hK hP hD hS (by show (va_up σ' 2 u_2) = (hoS σ n x); subst hu_2; subst h9; simp only [hoS, hoP, c_1, (eq_true c_3), eq_self, Bool.false_eq_true, ↓reduceIte] <;> rfl)
        · refine lv_aload_n hx hb dX2_handOver_47 rfl (lv_at hl 1 rfl) ?_
          refine lv_iload_n hx hb dX2_handOver_48 rfl (lv_at hl 0 rfl) ?_
          refine co_rV (As := [.int (tat 1 (σ' 2) n 0)]) (rest := []) S (c_X2_isAlive l G a (va_up σ' 2 u_2) ρ' (tat 1 (σ' 2) n 0)) (cwV 1 hts gX2_handOver_X2_isAlive rfl rfl rfl (by decide +kernel) ⟨Nat.le_of_ble_eq_true rfl, Nat.le_of_ble_eq_true rfl⟩) hK hP (va_recv hK hP (ci := 1) (q0 := 0) rfl rfl) rfl hl.1 rfl (Nat.le_of_ble_eq_true rfl) dX2_handOver_49 ⟨Nat.zero_le _, Nat.zero_le _⟩ ?_
          refine co_ifeq (tgt := 61) S dX2_handOver_52 (by decide) (fun c_4 => ?_) (fun c_4 => ?_)
          · exact co_endV ((va_up σ' 2 u_2), ρ') S hr hlocks dX2_handOver_61 hK hP hD hS (by show (va_up σ' 2 u_2) = (hoS σ n x); subst hu_2; subst h9; simp only [hoS, hoP, c_1, c_3, c_4, eq_self, Bool.false_eq_true, ↓reduceIte] <;> rfl)
          · refine lv_aload_n hx hb dX2_handOver_55 rfl (lv_at hl 1 rfl) ?_
            refine lv_iload_n hx hb dX2_handOver_56 rfl (lv_at hl 0 rfl) ?_
            refine lv_iload_n hx hb dX2_handOver_57 rfl (lv_at hl 3 rfl) ?_
            refine co_mVv (As := [.int (tat 1 (σ' 2) n 0), .int x]) (rest := []) S (c_X2_follow l G a (va_up σ' 2 u_2) ρ' (tat 1 (σ' 2) n 0) x) (cwV 2 hts gX2_handOver_X2_follow rfl rfl rfl (by decide +kernel) ⟨Nat.le_of_ble_eq_true rfl, Nat.le_of_ble_eq_true rfl⟩) hK hP hD hS hA (va_recv hK hP (ci := 1) (q0 := 0) rfl rfl) rfl hl.1 rfl (Nat.le_of_ble_eq_true rfl) dX2_handOver_58 ⟨Nat.zero_le _, Nat.zero_le _⟩ (fun u_5 H locs hu_5 hP hD hS => ?_)
            obtain ⟨σ_5, ρ_5⟩ := u_5
            have hu_5 : σ_5 = foS (va_up σ' 2 u_2) (tat 1 (σ' 2) n 0) x := hu_5
            have hP : pG G (wO G a σ_5 ρ_5) H := hP
            have hD : va_D A (wO G a σ_5 ρ_5) := hD
            exact co_endV (σ_5, ρ_5) S hr hlocks dX2_handOver_61 hK hP hD hS (by show σ_5 = (hoS σ n x); subst hu_5; subst hu_2; subst h9; simp only [hoS, hoP, c_1, c_3, c_4, eq_self, Bool.false_eq_true, ↓reduceIte] <;> rfl)
      · exact absurd (nI_le (a := 64) (b := 64) (by omega) (by omega)) c_1
    | succ d ih =>
      intro k σ' ρ' hk h9 H locs hP hD hS ls hl
      refine lv_iload_n hx hb dX2_handOver_2 rfl (lv_at hl 3 rfl) ?_
      refine lv_bipush (v := 64) hx hb dX2_handOver_3 (by decide) ?_
      refine lv_icmp_ge (tgt := 22) hx hb dX2_handOver_5 (by decide) (fun c_6 => ?_) (fun c_6 => ?_)
      · exact absurd c_6 (nI_ge (a := k) (b := 64) (by omega) (by omega))
      · refine lv_aload_n hx hb dX2_handOver_8 rfl (lv_at hl 0 rfl) ?_
        refine lv_iload_n hx hb dX2_handOver_9 rfl (lv_at hl 1 rfl) ?_
        refine lv_iload_n hx hb dX2_handOver_10 rfl (lv_at hl 2 rfl) ?_
        refine lv_iload_n hx hb dX2_handOver_11 rfl (lv_at hl 3 rfl) ?_
        refine co_mVi (As := [.int n, .int x, .int (nI k)]) (rest := []) S (c_X2_giveCopy l G a σ' ρ' n x (nI k)) (cwV 3 hts gX2_handOver_X2_giveCopy rfl rfl rfl (by decide +kernel) ⟨Nat.le_of_ble_eq_true rfl, Nat.le_of_ble_eq_true rfl⟩) hK hP hD hS hA (va_recv hK hP (ci := 1) (q0 := 0) rfl rfl) rfl hl.1 rfl (Nat.le_of_ble_eq_true rfl) dX2_handOver_12 ⟨Nat.zero_le _, Nat.zero_le _⟩ (fun r_7 u_7 H locs hu_7 hP hD hS => ?_)
        obtain ⟨σ_7, ρ_7⟩ := u_7
        obtain ⟨hr_7, hu_7⟩ := hu_7
        have hr_7 : r_7 = gcC σ' n x (nI k) := hr_7
        have hu_7 : σ_7 = gcS σ' n x (nI k) := hu_7
        have hP : pG G (wO G a σ_7 ρ_7) H := hP
        have hD : va_D A (wO G a σ_7 ρ_7) := hD
        refine lv_pop hx hb dX2_handOver_15 rfl ?_
        refine lv_iinc (v := (nI (k + 1))) (lv' := [(3, .int (nI (k + 1))), (0, .ref (a 0)), (1, .int n), (2, .int x)]) hx hb dX2_handOver_16 hl (k := 3) rfl (nI_1 k) (by decide) rfl (fun ls hl => ?_)
        refine lv_goto (tgt := 2) hx hb dX2_handOver_19 (by decide) ?_
        exact ih (k + 1) σ_7 ρ_7 (by omega) (by rw [hu_7, h9]; rfl) _ _ hP hD hS ls (lv_sub hl [1, 2, 3, 0] rfl)
  exact LP 64 0 _ _ rfl rfl _ _ hP hD hS ls (lv_sub hl [1, 2, 3, 0] rfl)
