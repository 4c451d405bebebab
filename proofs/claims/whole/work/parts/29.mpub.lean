set_option maxRecDepth 20000 in
theorem uX3_X3_thrown : ∀ w ∈ u_ws RX3 TX3 13, w ∈ wsX3_thrown := by decide +kernel
abbrev rm_X3_thrown : Room := { frames := 0, cells := 0, slots := 0, locals := 0 }
set_option maxHeartbeats 4000000 in
set_option maxRecDepth 100000 in
theorem c_X3_thrown (l : Launch) (G : cG) (Z : Nat) (b : Nat → Nat) (σ μ : cS) (hR : Rl Z σ μ) : MetR l yX3_thrown wsX3_thrown rm_X3_thrown G (wM G b μ) [.ref (b 0)] (μ 0 0) := by
  refine co_bodyR (cc := cX3_thrown) (maxL := 1) (ret := (some .int)) (by decide) rfl (Nat.le_of_ble_eq_true rfl) ?_
  intro p e s m args below meth c S hr hlocks hK hP ls hl
  have S : CallFix p m c cX3_thrown 1 s args wsX3_thrown RX3 := S
  obtain ⟨hx, hb, hml, hown, hts⟩ := id S
  have hl : lv_has ls 1 [(0, .ref (b 0))] := hl
  have uX3 := uX3_X3_thrown
  refine lv_aload_n hx hb dX3_thrown_0 rfl (lv_at hl 0 rfl) ?_
  refine va_get (D := G.1) (ci := 2) (v := .int (μ 0 0)) (C := RX3) (T := TX3) (N := 13) hx hb hts uX3 hown hK hP 0 rfl rfl 0 (by decide) (hts (.fieldLink RX3 41 "ChordOverlayModel" "thrown" "I") (by decide +kernel)) (fun _ h9 => h9) rfl dX3_thrown_1 ?_
  exact co_endR S hr hlocks dX3_thrown_4 (by rfl)

set_option maxRecDepth 20000 in
theorem uX3_X3_fails : ∀ w ∈ u_ws RX3 TX3 13, w ∈ wsX3_fails := by decide +kernel
abbrev rm_X3_fails : Room := { frames := 0, cells := 0, slots := 0, locals := 0 }
set_option maxHeartbeats 4000000 in
set_option maxRecDepth 100000 in
theorem c_X3_fails (l : Launch) (G : cG) (Z : Nat) (b : Nat → Nat) (σ μ : cS) (hR : Rl Z σ μ)(c₀ : Int32) : MetI l yX3_fails wsX3_fails rm_X3_fails G (wM G b μ) [.ref (b 0), .int c₀] (fun u : cS => wM G b u) (fun r u => r = 0 ∧ u = va_up μ 0 (fun _ => c₀)) := by
  refine co_bodyI (cc := cX3_fails) (maxL := 2) (ret := (some .int)) (by decide) rfl (Nat.le_of_ble_eq_true rfl) ?_
  intro p e s m args below meth c S hr hlocks hK A hA hP hD hS ls hl
  have S : CallFix p m c cX3_fails 2 s args wsX3_fails RX3 := S
  obtain ⟨hx, hb, hml, hown, hts⟩ := id S
  have hl : lv_has ls 2 [(0, .ref (b 0)), (1, .int c₀)] := hl
  have uX3 := uX3_X3_fails
  refine lv_aload_n hx hb dX3_fails_0 rfl (lv_at hl 0 rfl) ?_
  refine lv_iload_n hx hb dX3_fails_1 rfl (lv_at hl 1 rfl) ?_
  refine va_put (D := G.1) (ci := 2) (v := .int c₀) (ty := .int) (C := RX3) (T := TX3) (N := 13) hx hb hts uX3 tyX3 tyX3_ok nmX3 hown hK hP hD hS 0 rfl rfl 0 (by decide) (hts (.fieldLink RX3 41 "ChordOverlayModel" "thrown" "I") (by decide +kernel)) (fun _ h9 => h9) rfl (by decide +kernel) rfl rfl (Nat.le_of_ble_eq_true rfl) dX3_fails_2 (fun H locs hP hD hS => ?_)
  have hP : pG G (wM G b (va_up μ 0 (fun _ => c₀))) H := hP
  have hD : va_D A (wM G b (va_up μ 0 (fun _ => c₀))) := hD
  refine lv_iconst (v := 0) hx hb dX3_fails_5 (by decide) ?_
  exact co_endI (va_up μ 0 (fun _ => c₀)) S hr hlocks dX3_fails_6 hK hP hD hS (by exact ⟨rfl, rfl⟩)

set_option maxRecDepth 20000 in
theorem uX3_X3_refuses : ∀ w ∈ u_ws RX3 TX3 13, w ∈ wsX3_refuses := by decide +kernel
abbrev rm_X3_refuses : Room := { frames := 1, cells := 0, slots := 0, locals := 20 }
set_option maxHeartbeats 4000000 in
set_option maxRecDepth 100000 in
theorem c_X3_refuses (l : Launch) (G : cG) (Z : Nat) (b : Nat → Nat) (σ μ : cS) (hR : Rl Z σ μ) (x : Int32) : MetR l yX3_refuses wsX3_refuses rm_X3_refuses G (wM G b μ) [.ref (b 0), .int x] (nI (cdA σ x)) := by
  rcases id_or x with ⟨n, hn0, rfl⟩ | ⟨hin0, hon0⟩
  · cases haln : alv (σ 0) (nI n) with
    | false =>
      refine co_bodyR (cc := cX3_refuses) (maxL := 2) (ret := (some .int)) (by decide) rfl (Nat.le_of_ble_eq_true rfl) ?_
      intro p e s m args below meth c S hr hlocks hK hP ls hl
      have S : CallFix p m c cX3_refuses 2 s args wsX3_refuses RX3 := S
      obtain ⟨hx, hb, hml, hown, hts⟩ := id S
      have hl : lv_has ls 2 [(0, .ref (b 0)), (1, .int (nI n))] := hl
      have uX3 := uX3_X3_refuses
      refine lv_iload_n hx hb dX3_refuses_0 rfl (lv_at hl 1 rfl) ?_
      refine co_rS (As := [.int (nI n)]) (rest := []) S (c_X3_isId l G (nI n)) (va_cwS 1 hts gX3_refuses_X3_isId rfl rfl rfl (by decide +kernel) ⟨Nat.le_of_ble_eq_true rfl, Nat.le_of_ble_eq_true rfl⟩) hK (pG_nil) rfl hl.1 rfl (Nat.le_of_ble_eq_true rfl) dX3_refuses_1 ⟨Nat.zero_le _, Nat.zero_le _⟩ ?_
      refine co_ifne (tgt := 11) S dX3_refuses_4 (by decide) (fun c_1 => ?_) (fun c_1 => ?_)
      · refine lv_aload_n hx hb dX3_refuses_11 rfl (lv_at hl 0 rfl) ?_
        refine va_get (D := G.1) (ci := 2) (v := .ref (b 1)) (C := RX3) (T := TX3) (N := 13) hx hb hts uX3 hown hK hP 0 rfl rfl 2 (by decide) (hts (.fieldLink RX3 7 "ChordOverlayModel" "lives" "[Z") (by decide +kernel)) (fun _ h9 => h9) rfl dX3_refuses_12 ?_
        refine lv_iload_n hx hb dX3_refuses_15 rfl (lv_at hl 1 rfl) ?_
        refine va_zald hx hb hK hP 1 1 rfl rfl (vi_1 hn0) dX3_refuses_16 ?_
        refine co_eq (y := bI (alv (σ 0) (nI n))) (rl_l hR hn0) ?_
        refine co_ifeq (tgt := 24) S dX3_refuses_17 (by decide) (fun c_2 => ?_) (fun c_2 => ?_)
        · refine lv_iconst (v := 2) hx hb dX3_refuses_24 (by decide) ?_
          exact co_endR S hr hlocks dX3_refuses_25 (by exact (show nI 2 = nI (cdA σ (nI n)) from congrArg nI (show 2 = cdA σ (nI n) by simp only [cdA, okR_id hn0, haln, eq_self, Bool.false_eq_true, ite_self, ↓reduceIte])))
        · exact absurd (c_2.symm.trans haln) (by decide)
      · exact absurd (c_1.symm.trans (idB_nI hn0)) (by decide)
    | true =>
      refine co_bodyR (cc := cX3_refuses) (maxL := 2) (ret := (some .int)) (by decide) rfl (Nat.le_of_ble_eq_true rfl) ?_
      intro p e s m args below meth c S hr hlocks hK hP ls hl
      have S : CallFix p m c cX3_refuses 2 s args wsX3_refuses RX3 := S
      obtain ⟨hx, hb, hml, hown, hts⟩ := id S
      have hl : lv_has ls 2 [(0, .ref (b 0)), (1, .int (nI n))] := hl
      have uX3 := uX3_X3_refuses
      refine lv_iload_n hx hb dX3_refuses_0 rfl (lv_at hl 1 rfl) ?_
      refine co_rS (As := [.int (nI n)]) (rest := []) S (c_X3_isId l G (nI n)) (va_cwS 1 hts gX3_refuses_X3_isId rfl rfl rfl (by decide +kernel) ⟨Nat.le_of_ble_eq_true rfl, Nat.le_of_ble_eq_true rfl⟩) hK (pG_nil) rfl hl.1 rfl (Nat.le_of_ble_eq_true rfl) dX3_refuses_1 ⟨Nat.zero_le _, Nat.zero_le _⟩ ?_
      refine co_ifne (tgt := 11) S dX3_refuses_4 (by decide) (fun c_1 => ?_) (fun c_1 => ?_)
      · refine lv_aload_n hx hb dX3_refuses_11 rfl (lv_at hl 0 rfl) ?_
        refine va_get (D := G.1) (ci := 2) (v := .ref (b 1)) (C := RX3) (T := TX3) (N := 13) hx hb hts uX3 hown hK hP 0 rfl rfl 2 (by decide) (hts (.fieldLink RX3 7 "ChordOverlayModel" "lives" "[Z") (by decide +kernel)) (fun _ h9 => h9) rfl dX3_refuses_12 ?_
        refine lv_iload_n hx hb dX3_refuses_15 rfl (lv_at hl 1 rfl) ?_
        refine va_zald hx hb hK hP 1 1 rfl rfl (vi_1 hn0) dX3_refuses_16 ?_
        refine co_eq (y := bI (alv (σ 0) (nI n))) (rl_l hR hn0) ?_
        refine co_ifeq (tgt := 24) S dX3_refuses_17 (by decide) (fun c_2 => ?_) (fun c_2 => ?_)
        · exact absurd (c_2.symm.trans haln) (by decide)
        · refine lv_iconst (v := 0) hx hb dX3_refuses_20 (by decide) ?_
          refine lv_goto (tgt := 25) hx hb dX3_refuses_21 (by decide) ?_
          exact co_endR S hr hlocks dX3_refuses_25 (by exact (show nI 0 = nI (cdA σ (nI n)) from congrArg nI (show 0 = cdA σ (nI n) by simp only [cdA, okR_id hn0, haln, eq_self, Bool.false_eq_true, ite_self, ↓reduceIte])))
      · exact absurd (c_1.symm.trans (idB_nI hn0)) (by decide)
  · refine co_bodyR (cc := cX3_refuses) (maxL := 2) (ret := (some .int)) (by decide) rfl (Nat.le_of_ble_eq_true rfl) ?_
    intro p e s m args below meth c S hr hlocks hK hP ls hl
    have S : CallFix p m c cX3_refuses 2 s args wsX3_refuses RX3 := S
    obtain ⟨hx, hb, hml, hown, hts⟩ := id S
    have hl : lv_has ls 2 [(0, .ref (b 0)), (1, .int x)] := hl
    have uX3 := uX3_X3_refuses
    refine lv_iload_n hx hb dX3_refuses_0 rfl (lv_at hl 1 rfl) ?_
    refine co_rS (As := [.int x]) (rest := []) S (c_X3_isId l G x) (va_cwS 1 hts gX3_refuses_X3_isId rfl rfl rfl (by decide +kernel) ⟨Nat.le_of_ble_eq_true rfl, Nat.le_of_ble_eq_true rfl⟩) hK (pG_nil) rfl hl.1 rfl (Nat.le_of_ble_eq_true rfl) dX3_refuses_1 ⟨Nat.zero_le _, Nat.zero_le _⟩ ?_
    refine co_ifne (tgt := 11) S dX3_refuses_4 (by decide) (fun c_1 => ?_) (fun c_1 => ?_)
    · exact absurd (c_1.symm.trans hin0) (by decide)
    · refine lv_iconst (v := 1) hx hb dX3_refuses_7 (by decide) ?_
      refine lv_goto (tgt := 25) hx hb dX3_refuses_8 (by decide) ?_
      exact co_endR S hr hlocks dX3_refuses_25 (by exact (show nI 1 = nI (cdA σ x) from congrArg nI (show 1 = cdA σ x by simp only [cdA, hon0, eq_self, Bool.false_eq_true, ite_self, ↓reduceIte])))

set_option maxRecDepth 20000 in
theorem uX3_X3_refusesLookup : ∀ w ∈ u_ws RX3 TX3 13, w ∈ wsX3_refusesLookup := by decide +kernel
abbrev rm_X3_refusesLookup : Room := { frames := 2, cells := 0, slots := 0, locals := 41 }
set_option maxHeartbeats 4000000 in
set_option maxRecDepth 100000 in
theorem c_X3_refusesLookup (l : Launch) (G : cG) (Z : Nat) (b : Nat → Nat) (σ μ : cS) (hR : Rl Z σ μ) (x : Int32) (y : Int32) : MetR l yX3_refusesLookup wsX3_refusesLookup rm_X3_refusesLookup G (wM G b μ) [.ref (b 0), .int x, .int y] (nI (cdP σ x y 63)) := by
  rcases id_or x with ⟨n, hn0, rfl⟩ | ⟨hin0, hon0⟩
  · rcases id_or y with ⟨k, hk0, rfl⟩ | ⟨hik0, hok0⟩
    · cases haln : alv (σ 0) (nI n) with
      | false =>
        refine co_bodyR (cc := cX3_refusesLookup) (maxL := 3) (ret := (some .int)) (by decide) rfl (Nat.le_of_ble_eq_true rfl) ?_
        intro p e s m args below meth c S hr hlocks hK hP ls hl
        have S : CallFix p m c cX3_refusesLookup 3 s args wsX3_refusesLookup RX3 := S
        obtain ⟨hx, hb, hml, hown, hts⟩ := id S
        have hl : lv_has ls 3 [(0, .ref (b 0)), (1, .int (nI n)), (2, .int (nI k))] := hl
        have uX3 := uX3_X3_refusesLookup
        refine lv_iload_n hx hb dX3_refusesLookup_0 rfl (lv_at hl 1 rfl) ?_
        refine co_rS (As := [.int (nI n)]) (rest := []) S (c_X3_isId l G (nI n)) (va_cwS 1 hts gX3_refusesLookup_X3_isId rfl rfl rfl (by decide +kernel) ⟨Nat.le_of_ble_eq_true rfl, Nat.le_of_ble_eq_true rfl⟩) hK (pG_nil) rfl hl.1 rfl (Nat.le_of_ble_eq_true rfl) dX3_refusesLookup_1 ⟨Nat.zero_le _, Nat.zero_le _⟩ ?_
        refine co_ifeq (tgt := 22) S dX3_refusesLookup_4 (by decide) (fun c_1 => ?_) (fun c_1 => ?_)
        · exact absurd (c_1.symm.trans (idB_nI hn0)) (by decide)
        · refine lv_iload_n hx hb dX3_refusesLookup_7 rfl (lv_at hl 2 rfl) ?_
          refine co_rS (As := [.int (nI k)]) (rest := []) S (c_X3_isId l G (nI k)) (va_cwS 1 hts gX3_refusesLookup_X3_isId rfl rfl rfl (by decide +kernel) ⟨Nat.le_of_ble_eq_true rfl, Nat.le_of_ble_eq_true rfl⟩) hK (pG_nil) rfl hl.1 rfl (Nat.le_of_ble_eq_true rfl) dX3_refusesLookup_8 ⟨Nat.zero_le _, Nat.zero_le _⟩ ?_
          refine co_ifeq (tgt := 22) S dX3_refusesLookup_11 (by decide) (fun c_2 => ?_) (fun c_2 => ?_)
          · exact absurd (c_2.symm.trans (idB_nI hk0)) (by decide)
          · refine lv_aload_n hx hb dX3_refusesLookup_14 rfl (lv_at hl 0 rfl) ?_
            refine lv_iload_n hx hb dX3_refusesLookup_15 rfl (lv_at hl 1 rfl) ?_
            refine co_rV (As := [.int (nI n)]) (rest := []) S (c_X3_refuses l G Z b σ μ hR (nI n)) (cwV 1 hts gX3_refusesLookup_X3_refuses rfl rfl rfl (by decide +kernel) ⟨Nat.le_of_ble_eq_true rfl, Nat.le_of_ble_eq_true rfl⟩) hK hP (va_recv hK hP (ci := 2) (q0 := 0) rfl rfl) rfl hl.1 rfl (Nat.le_of_ble_eq_true rfl) dX3_refusesLookup_16 ⟨Nat.zero_le _, Nat.zero_le _⟩ ?_
            refine co_eq (show nI (cdA σ (nI n)) = 2 from congrArg nI (show cdA σ (nI n) = 2 by simp only [cdA, okR_id hn0, okR_id hk0, haln, eq_self, Bool.false_eq_true, ite_self, ↓reduceIte])) ?_
            refine lv_goto (tgt := 23) hx hb dX3_refusesLookup_19 (by decide) ?_
            exact co_endR S hr hlocks dX3_refusesLookup_23 (by exact (show nI 2 = nI (cdP σ (nI n) (nI k) 63) from congrArg nI (show 2 = cdP σ (nI n) (nI k) 63 by simp only [cdP, okR_id hn0, okR_id hk0, haln, eq_self, Bool.false_eq_true, ite_self, ↓reduceIte])))
      | true =>
        refine co_bodyR (cc := cX3_refusesLookup) (maxL := 3) (ret := (some .int)) (by decide) rfl (Nat.le_of_ble_eq_true rfl) ?_
        intro p e s m args below meth c S hr hlocks hK hP ls hl
        have S : CallFix p m c cX3_refusesLookup 3 s args wsX3_refusesLookup RX3 := S
        obtain ⟨hx, hb, hml, hown, hts⟩ := id S
        have hl : lv_has ls 3 [(0, .ref (b 0)), (1, .int (nI n)), (2, .int (nI k))] := hl
        have uX3 := uX3_X3_refusesLookup
        refine lv_iload_n hx hb dX3_refusesLookup_0 rfl (lv_at hl 1 rfl) ?_
        refine co_rS (As := [.int (nI n)]) (rest := []) S (c_X3_isId l G (nI n)) (va_cwS 1 hts gX3_refusesLookup_X3_isId rfl rfl rfl (by decide +kernel) ⟨Nat.le_of_ble_eq_true rfl, Nat.le_of_ble_eq_true rfl⟩) hK (pG_nil) rfl hl.1 rfl (Nat.le_of_ble_eq_true rfl) dX3_refusesLookup_1 ⟨Nat.zero_le _, Nat.zero_le _⟩ ?_
        refine co_ifeq (tgt := 22) S dX3_refusesLookup_4 (by decide) (fun c_1 => ?_) (fun c_1 => ?_)
        · exact absurd (c_1.symm.trans (idB_nI hn0)) (by decide)
        · refine lv_iload_n hx hb dX3_refusesLookup_7 rfl (lv_at hl 2 rfl) ?_
          refine co_rS (As := [.int (nI k)]) (rest := []) S (c_X3_isId l G (nI k)) (va_cwS 1 hts gX3_refusesLookup_X3_isId rfl rfl rfl (by decide +kernel) ⟨Nat.le_of_ble_eq_true rfl, Nat.le_of_ble_eq_true rfl⟩) hK (pG_nil) rfl hl.1 rfl (Nat.le_of_ble_eq_true rfl) dX3_refusesLookup_8 ⟨Nat.zero_le _, Nat.zero_le _⟩ ?_
          refine co_ifeq (tgt := 22) S dX3_refusesLookup_11 (by decide) (fun c_2 => ?_) (fun c_2 => ?_)
          · exact absurd (c_2.symm.trans (idB_nI hk0)) (by decide)
          · refine lv_aload_n hx hb dX3_refusesLookup_14 rfl (lv_at hl 0 rfl) ?_
            refine lv_iload_n hx hb dX3_refusesLookup_15 rfl (lv_at hl 1 rfl) ?_
            refine co_rV (As := [.int (nI n)]) (rest := []) S (c_X3_refuses l G Z b σ μ hR (nI n)) (cwV 1 hts gX3_refusesLookup_X3_refuses rfl rfl rfl (by decide +kernel) ⟨Nat.le_of_ble_eq_true rfl, Nat.le_of_ble_eq_true rfl⟩) hK hP (va_recv hK hP (ci := 2) (q0 := 0) rfl rfl) rfl hl.1 rfl (Nat.le_of_ble_eq_true rfl) dX3_refusesLookup_16 ⟨Nat.zero_le _, Nat.zero_le _⟩ ?_
            refine co_eq (show nI (cdA σ (nI n)) = 0 from congrArg nI (show cdA σ (nI n) = 0 by simp only [cdA, okR_id hn0, okR_id hk0, haln, eq_self, Bool.false_eq_true, ite_self, ↓reduceIte])) ?_
            refine lv_goto (tgt := 23) hx hb dX3_refusesLookup_19 (by decide) ?_
            exact co_endR S hr hlocks dX3_refusesLookup_23 (by exact (show nI 0 = nI (cdP σ (nI n) (nI k) 63) from congrArg nI (show 0 = cdP σ (nI n) (nI k) 63 by simp only [cdP, okR_id hn0, okR_id hk0, haln, eq_self, Bool.false_eq_true, ite_self, ↓reduceIte])))
    · cases haln : alv (σ 0) (nI n) with
      | false =>
        refine co_bodyR (cc := cX3_refusesLookup) (maxL := 3) (ret := (some .int)) (by decide) rfl (Nat.le_of_ble_eq_true rfl) ?_
        intro p e s m args below meth c S hr hlocks hK hP ls hl
        have S : CallFix p m c cX3_refusesLookup 3 s args wsX3_refusesLookup RX3 := S
        obtain ⟨hx, hb, hml, hown, hts⟩ := id S
        have hl : lv_has ls 3 [(0, .ref (b 0)), (1, .int (nI n)), (2, .int y)] := hl
        have uX3 := uX3_X3_refusesLookup
        refine lv_iload_n hx hb dX3_refusesLookup_0 rfl (lv_at hl 1 rfl) ?_
        refine co_rS (As := [.int (nI n)]) (rest := []) S (c_X3_isId l G (nI n)) (va_cwS 1 hts gX3_refusesLookup_X3_isId rfl rfl rfl (by decide +kernel) ⟨Nat.le_of_ble_eq_true rfl, Nat.le_of_ble_eq_true rfl⟩) hK (pG_nil) rfl hl.1 rfl (Nat.le_of_ble_eq_true rfl) dX3_refusesLookup_1 ⟨Nat.zero_le _, Nat.zero_le _⟩ ?_
        refine co_ifeq (tgt := 22) S dX3_refusesLookup_4 (by decide) (fun c_1 => ?_) (fun c_1 => ?_)
        · exact absurd (c_1.symm.trans (idB_nI hn0)) (by decide)
        · refine lv_iload_n hx hb dX3_refusesLookup_7 rfl (lv_at hl 2 rfl) ?_
          refine co_rS (As := [.int y]) (rest := []) S (c_X3_isId l G y) (va_cwS 1 hts gX3_refusesLookup_X3_isId rfl rfl rfl (by decide +kernel) ⟨Nat.le_of_ble_eq_true rfl, Nat.le_of_ble_eq_true rfl⟩) hK (pG_nil) rfl hl.1 rfl (Nat.le_of_ble_eq_true rfl) dX3_refusesLookup_8 ⟨Nat.zero_le _, Nat.zero_le _⟩ ?_
          refine co_ifeq (tgt := 22) S dX3_refusesLookup_11 (by decide) (fun c_2 => ?_) (fun c_2 => ?_)
          · refine lv_iconst (v := 1) hx hb dX3_refusesLookup_22 (by decide) ?_
            exact co_endR S hr hlocks dX3_refusesLookup_23 (by exact (show nI 1 = nI (cdP σ (nI n) y 63) from congrArg nI (show 1 = cdP σ (nI n) y 63 by simp only [cdP, okR_id hn0, hok0, haln, eq_self, Bool.false_eq_true, ite_self, ↓reduceIte])))
          · exact absurd (c_2.symm.trans hik0) (by decide)
      | true =>
        refine co_bodyR (cc := cX3_refusesLookup) (maxL := 3) (ret := (some .int)) (by decide) rfl (Nat.le_of_ble_eq_true rfl) ?_
        intro p e s m args below meth c S hr hlocks hK hP ls hl
        have S : CallFix p m c cX3_refusesLookup 3 s args wsX3_refusesLookup RX3 := S
        obtain ⟨hx, hb, hml, hown, hts⟩ := id S
        have hl : lv_has ls 3 [(0, .ref (b 0)), (1, .int (nI n)), (2, .int y)] := hl
        have uX3 := uX3_X3_refusesLookup
        refine lv_iload_n hx hb dX3_refusesLookup_0 rfl (lv_at hl 1 rfl) ?_
        refine co_rS (As := [.int (nI n)]) (rest := []) S (c_X3_isId l G (nI n)) (va_cwS 1 hts gX3_refusesLookup_X3_isId rfl rfl rfl (by decide +kernel) ⟨Nat.le_of_ble_eq_true rfl, Nat.le_of_ble_eq_true rfl⟩) hK (pG_nil) rfl hl.1 rfl (Nat.le_of_ble_eq_true rfl) dX3_refusesLookup_1 ⟨Nat.zero_le _, Nat.zero_le _⟩ ?_
        refine co_ifeq (tgt := 22) S dX3_refusesLookup_4 (by decide) (fun c_1 => ?_) (fun c_1 => ?_)
        · exact absurd (c_1.symm.trans (idB_nI hn0)) (by decide)
        · refine lv_iload_n hx hb dX3_refusesLookup_7 rfl (lv_at hl 2 rfl) ?_
          refine co_rS (As := [.int y]) (rest := []) S (c_X3_isId l G y) (va_cwS 1 hts gX3_refusesLookup_X3_isId rfl rfl rfl (by decide +kernel) ⟨Nat.le_of_ble_eq_true rfl, Nat.le_of_ble_eq_true rfl⟩) hK (pG_nil) rfl hl.1 rfl (Nat.le_of_ble_eq_true rfl) dX3_refusesLookup_8 ⟨Nat.zero_le _, Nat.zero_le _⟩ ?_
          refine co_ifeq (tgt := 22) S dX3_refusesLookup_11 (by decide) (fun c_2 => ?_) (fun c_2 => ?_)
          · refine lv_iconst (v := 1) hx hb dX3_refusesLookup_22 (by decide) ?_
            exact co_endR S hr hlocks dX3_refusesLookup_23 (by exact (show nI 1 = nI (cdP σ (nI n) y 63) from congrArg nI (show 1 = cdP σ (nI n) y 63 by simp only [cdP, okR_id hn0, hok0, haln, eq_self, Bool.false_eq_true, ite_self, ↓reduceIte])))
          · exact absurd (c_2.symm.trans hik0) (by decide)
  · rcases id_or y with ⟨k, hk0, rfl⟩ | ⟨hik0, hok0⟩
    · refine co_bodyR (cc := cX3_refusesLookup) (maxL := 3) (ret := (some .int)) (by decide) rfl (Nat.le_of_ble_eq_true rfl) ?_
      intro p e s m args below meth c S hr hlocks hK hP ls hl
      have S : CallFix p m c cX3_refusesLookup 3 s args wsX3_refusesLookup RX3 := S
      obtain ⟨hx, hb, hml, hown, hts⟩ := id S
      have hl : lv_has ls 3 [(0, .ref (b 0)), (1, .int x), (2, .int (nI k))] := hl
      have uX3 := uX3_X3_refusesLookup
      refine lv_iload_n hx hb dX3_refusesLookup_0 rfl (lv_at hl 1 rfl) ?_
      refine co_rS (As := [.int x]) (rest := []) S (c_X3_isId l G x) (va_cwS 1 hts gX3_refusesLookup_X3_isId rfl rfl rfl (by decide +kernel) ⟨Nat.le_of_ble_eq_true rfl, Nat.le_of_ble_eq_true rfl⟩) hK (pG_nil) rfl hl.1 rfl (Nat.le_of_ble_eq_true rfl) dX3_refusesLookup_1 ⟨Nat.zero_le _, Nat.zero_le _⟩ ?_
      refine co_ifeq (tgt := 22) S dX3_refusesLookup_4 (by decide) (fun c_1 => ?_) (fun c_1 => ?_)
      · refine lv_iconst (v := 1) hx hb dX3_refusesLookup_22 (by decide) ?_
        exact co_endR S hr hlocks dX3_refusesLookup_23 (by exact (show nI 1 = nI (cdP σ x (nI k) 63) from congrArg nI (show 1 = cdP σ x (nI k) 63 by simp only [cdP, hon0, okR_id hk0, eq_self, Bool.false_eq_true, ite_self, ↓reduceIte])))
      · exact absurd (c_1.symm.trans hin0) (by decide)
    · refine co_bodyR (cc := cX3_refusesLookup) (maxL := 3) (ret := (some .int)) (by decide) rfl (Nat.le_of_ble_eq_true rfl) ?_
      intro p e s m args below meth c S hr hlocks hK hP ls hl
      have S : CallFix p m c cX3_refusesLookup 3 s args wsX3_refusesLookup RX3 := S
      obtain ⟨hx, hb, hml, hown, hts⟩ := id S
      have hl : lv_has ls 3 [(0, .ref (b 0)), (1, .int x), (2, .int y)] := hl
      have uX3 := uX3_X3_refusesLookup
      refine lv_iload_n hx hb dX3_refusesLookup_0 rfl (lv_at hl 1 rfl) ?_
      refine co_rS (As := [.int x]) (rest := []) S (c_X3_isId l G x) (va_cwS 1 hts gX3_refusesLookup_X3_isId rfl rfl rfl (by decide +kernel) ⟨Nat.le_of_ble_eq_true rfl, Nat.le_of_ble_eq_true rfl⟩) hK (pG_nil) rfl hl.1 rfl (Nat.le_of_ble_eq_true rfl) dX3_refusesLookup_1 ⟨Nat.zero_le _, Nat.zero_le _⟩ ?_
      refine co_ifeq (tgt := 22) S dX3_refusesLookup_4 (by decide) (fun c_1 => ?_) (fun c_1 => ?_)
      · refine lv_iconst (v := 1) hx hb dX3_refusesLookup_22 (by decide) ?_
        exact co_endR S hr hlocks dX3_refusesLookup_23 (by exact (show nI 1 = nI (cdP σ x y 63) from congrArg nI (show 1 = cdP σ x y 63 by simp only [cdP, hon0, hok0, eq_self, Bool.false_eq_true, ite_self, ↓reduceIte])))
      · exact absurd (c_1.symm.trans hin0) (by decide)

set_option maxRecDepth 20000 in
theorem uX3_X3_keptAt : ∀ w ∈ u_ws RX3 TX3 13, w ∈ wsX3_keptAt := by decide +kernel
abbrev rm_X3_keptAt : Room := { frames := 0, cells := 0, slots := 0, locals := 0 }
set_option maxHeartbeats 4000000 in
set_option maxRecDepth 100000 in
theorem c_X3_keptAt (l : Launch) (G : cG) (Z : Nat) (b : Nat → Nat) (σ μ : cS) (hR : Rl Z σ μ)(n k : Nat) (hn : Lv σ n) (hk0 : k < 64) : MetR l yX3_keptAt wsX3_keptAt rm_X3_keptAt G (wM G b μ) [.ref (b 0), .int (nI n), .int (nI k)] (tat 64 (σ 4) (nI n) (nI k)) := by
  refine co_bodyR (cc := cX3_keptAt) (maxL := 3) (ret := (some .int)) (by decide) rfl (Nat.le_of_ble_eq_true rfl) ?_
  intro p e s m args below meth c S hr hlocks hK hP ls hl
  have S : CallFix p m c cX3_keptAt 3 s args wsX3_keptAt RX3 := S
  obtain ⟨hx, hb, hml, hown, hts⟩ := id S
  have hl : lv_has ls 3 [(0, .ref (b 0)), (1, .int (nI n)), (2, .int (nI k))] := hl
  have uX3 := uX3_X3_keptAt
  refine lv_aload_n hx hb dX3_keptAt_0 rfl (lv_at hl 0 rfl) ?_
  refine va_get (D := G.1) (ci := 2) (v := .ref (b 6)) (C := RX3) (T := TX3) (N := 13) hx hb hts uX3 hown hK hP 0 rfl rfl 7 (by decide) (hts (.fieldLink RX3 26 "ChordOverlayModel" "stamp" "[I") (by decide +kernel)) (fun _ h9 => h9) rfl dX3_keptAt_1 ?_
  refine lv_bipush (v := 64) hx hb dX3_keptAt_4 (by decide) ?_
  refine lv_iload_n hx hb dX3_keptAt_6 rfl (lv_at hl 1 rfl) ?_
  refine lv_imul hx hb dX3_keptAt_7 ?_
  refine lv_iload_n hx hb dX3_keptAt_8 rfl (lv_at hl 2 rfl) ?_
  refine lv_iadd hx hb dX3_keptAt_9 ?_
  refine va_iald hx hb hK hP 6 0 rfl rfl (vi_w (w := 64) (p := k) (by decide) hn.1 hk0) dX3_keptAt_10 ?_
  rcases rl_v hR hn k hk0 with ⟨at_1, bt_1, mt_1⟩ | ⟨tt_1, vt_1, gt_1, ht_1, it_1, at_1, bt_1, mt_1, nt_1⟩
  · have at_1 : tat 64 (σ 5) (nI n) (nI k) = -1 := at_1
    have bt_1 : tat 64 (σ 4) (nI n) (nI k) = -1 := bt_1
    refine co_eq mt_1 ?_
    refine lv_if_le (tgt := 28) hx hb dX3_keptAt_11 (by decide) (fun c_2 => ?_) (fun c_2 => ?_)
    · refine lv_iconst (v := (-1)) hx hb dX3_keptAt_28 (by decide) ?_
      exact co_endR S hr hlocks dX3_keptAt_29 (by simp only [at_1, bt_1, c_2, eq_self, Bool.false_eq_true, ite_self, ↓reduceIte])
    · exact absurd (by decide) c_2
  · have at_1 : tat 64 (σ 5) (nI n) (nI k) = nI tt_1 := at_1
    have bt_1 : tat 64 (σ 4) (nI n) (nI k) = nI vt_1 := bt_1
    refine co_eq mt_1 ?_
    refine lv_if_le (tgt := 28) hx hb dX3_keptAt_11 (by decide) (fun c_3 => ?_) (fun c_3 => ?_)
    · exact absurd c_3 (nI_nle (by omega) (by omega))
    · refine lv_aload_n hx hb dX3_keptAt_14 rfl (lv_at hl 0 rfl) ?_
      refine va_get (D := G.1) (ci := 2) (v := .ref (b 5)) (C := RX3) (T := TX3) (N := 13) hx hb hts uX3 hown hK hP 0 rfl rfl 6 (by decide) (hts (.fieldLink RX3 23 "ChordOverlayModel" "value" "[I") (by decide +kernel)) (fun _ h9 => h9) rfl dX3_keptAt_15 ?_
      refine lv_bipush (v := 64) hx hb dX3_keptAt_18 (by decide) ?_
      refine lv_iload_n hx hb dX3_keptAt_20 rfl (lv_at hl 1 rfl) ?_
      refine lv_imul hx hb dX3_keptAt_21 ?_
      refine lv_iload_n hx hb dX3_keptAt_22 rfl (lv_at hl 2 rfl) ?_
      refine lv_iadd hx hb dX3_keptAt_23 ?_
      refine va_iald hx hb hK hP 5 0 rfl rfl (vi_w (w := 64) (p := k) (by decide) hn.1 hk0) dX3_keptAt_24 ?_
      refine co_eq nt_1 ?_
      refine lv_goto (tgt := 29) hx hb dX3_keptAt_25 (by decide) ?_
      exact co_endR S hr hlocks dX3_keptAt_29 (by simp only [at_1, bt_1, c_3, eq_self, Bool.false_eq_true, ite_self, ↓reduceIte])

set_option maxRecDepth 20000 in
theorem uX3_X3_living : ∀ w ∈ u_ws RX3 TX3 13, w ∈ wsX3_living := by decide +kernel
abbrev rm_X3_living : Room := { frames := 1, cells := 0, slots := 0, locals := 22 }
set_option maxHeartbeats 4000000 in
set_option maxRecDepth 100000 in
theorem c_X3_living (l : Launch) (G : cG) (Z : Nat) (b : Nat → Nat) (σ μ : cS) (hR : Rl Z σ μ) : MetI l yX3_living wsX3_living rm_X3_living G (wM G b μ) [.ref (b 0)] (fun u : cS => wM G b u) (fun r u => u 0 0 = nI (0) ∧ (0 = 0 → r = cnt (σ 0) 64 ∧ Rl Z σ u) ∧ (0 ≠ 0 → Rl Z σ u)) := by
  refine co_bodyI (cc := cX3_living) (maxL := 1) (ret := (some .int)) (by decide) rfl (Nat.le_of_ble_eq_true rfl) ?_
  intro p e s m args below meth c S hr hlocks hK A hA hP hD hS ls hl
  have S : CallFix p m c cX3_living 1 s args wsX3_living RX3 := S
  obtain ⟨hx, hb, hml, hown, hts⟩ := id S
  have hl : lv_has ls 1 [(0, .ref (b 0))] := hl
  have uX3 := uX3_X3_living
  refine lv_aload_n hx hb dX3_living_0 rfl (lv_at hl 0 rfl) ?_
  refine lv_iconst (v := 0) hx hb dX3_living_1 (by decide) ?_
  refine va_put (D := G.1) (ci := 2) (v := .int 0) (ty := .int) (C := RX3) (T := TX3) (N := 13) hx hb hts uX3 tyX3 tyX3_ok nmX3 hown hK hP hD hS 0 rfl rfl 0 (by decide) (hts (.fieldLink RX3 41 "ChordOverlayModel" "thrown" "I") (by decide +kernel)) (fun _ h9 => h9) rfl (by decide +kernel) rfl rfl (Nat.le_of_ble_eq_true rfl) dX3_living_2 (fun H locs hP hD hS => ?_)
  have hP : pG G (wM G b (va_up μ 0 (fun _ => 0))) H := hP
  have hD : va_D A (wM G b (va_up μ 0 (fun _ => 0))) := hD
  have hz_1 : Rl Z σ (va_up μ 0 (fun _ => 0)) := Rl.s0 (f := fun _ => 0) hR
  refine lv_aload_n hx hb dX3_living_5 rfl (lv_at hl 0 rfl) ?_
  refine co_rV (As := []) (rest := []) S (c_X3_countLiving l G Z b σ (va_up μ 0 (fun _ => 0)) hz_1) (cwV 0 hts gX3_living_X3_countLiving rfl rfl rfl (by decide +kernel) ⟨Nat.le_of_ble_eq_true rfl, Nat.le_of_ble_eq_true rfl⟩) hK hP (va_recv hK hP (ci := 2) (q0 := 0) rfl rfl) rfl hl.1 rfl (Nat.le_of_ble_eq_true rfl) dX3_living_6 ⟨Nat.zero_le _, Nat.zero_le _⟩ ?_
  exact co_endI (va_up μ 0 (fun _ => 0)) S hr hlocks dX3_living_9 hK hP hD hS (by have hcd : 0 = 0 := (rfl); exact ⟨by rw [hcd]; exact rfl, fun _ => ⟨by first | with_reducible rfl | with_reducible assumption | simp only [eq_self, Bool.false_eq_true, ite_self, ↓reduceIte], by exact hz_1⟩, fun h => absurd hcd h⟩)

set_option maxRecDepth 20000 in
theorem uX3_X3_wrongPointers : ∀ w ∈ u_ws RX3 TX3 13, w ∈ wsX3_wrongPointers := by decide +kernel
abbrev rm_X3_wrongPointers : Room := { frames := 3, cells := 0, slots := 0, locals := 68 }
set_option maxHeartbeats 4000000 in
set_option maxRecDepth 100000 in
theorem c_X3_wrongPointers (l : Launch) (G : cG) (Z : Nat) (b : Nat → Nat) (σ μ : cS) (hR : Rl Z σ μ) : MetI l yX3_wrongPointers wsX3_wrongPointers rm_X3_wrongPointers G (wM G b μ) [.ref (b 0)] (fun u : cS => wM G b u) (fun r u => u 0 0 = nI (0) ∧ (0 = 0 → r = cwp σ 64 ∧ Rl Z σ u) ∧ (0 ≠ 0 → Rl Z σ u)) := by
  refine co_bodyI (cc := cX3_wrongPointers) (maxL := 1) (ret := (some .int)) (by decide) rfl (Nat.le_of_ble_eq_true rfl) ?_
  intro p e s m args below meth c S hr hlocks hK A hA hP hD hS ls hl
  have S : CallFix p m c cX3_wrongPointers 1 s args wsX3_wrongPointers RX3 := S
  obtain ⟨hx, hb, hml, hown, hts⟩ := id S
  have hl : lv_has ls 1 [(0, .ref (b 0))] := hl
  have uX3 := uX3_X3_wrongPointers
  refine lv_aload_n hx hb dX3_wrongPointers_0 rfl (lv_at hl 0 rfl) ?_
  refine lv_iconst (v := 0) hx hb dX3_wrongPointers_1 (by decide) ?_
  refine va_put (D := G.1) (ci := 2) (v := .int 0) (ty := .int) (C := RX3) (T := TX3) (N := 13) hx hb hts uX3 tyX3 tyX3_ok nmX3 hown hK hP hD hS 0 rfl rfl 0 (by decide) (hts (.fieldLink RX3 41 "ChordOverlayModel" "thrown" "I") (by decide +kernel)) (fun _ h9 => h9) rfl (by decide +kernel) rfl rfl (Nat.le_of_ble_eq_true rfl) dX3_wrongPointers_2 (fun H locs hP hD hS => ?_)
  have hP : pG G (wM G b (va_up μ 0 (fun _ => 0))) H := hP
  have hD : va_D A (wM G b (va_up μ 0 (fun _ => 0))) := hD
  have hz_1 : Rl Z σ (va_up μ 0 (fun _ => 0)) := Rl.s0 (f := fun _ => 0) hR
  refine lv_aload_n hx hb dX3_wrongPointers_5 rfl (lv_at hl 0 rfl) ?_
  refine co_rV (As := []) (rest := []) S (c_X3_countWrong l G Z b σ (va_up μ 0 (fun _ => 0)) hz_1) (cwV 0 hts gX3_wrongPointers_X3_countWrong rfl rfl rfl (by decide +kernel) ⟨Nat.le_of_ble_eq_true rfl, Nat.le_of_ble_eq_true rfl⟩) hK hP (va_recv hK hP (ci := 2) (q0 := 0) rfl rfl) rfl hl.1 rfl (Nat.le_of_ble_eq_true rfl) dX3_wrongPointers_6 ⟨Nat.zero_le _, Nat.zero_le _⟩ ?_
  exact co_endI (va_up μ 0 (fun _ => 0)) S hr hlocks dX3_wrongPointers_9 hK hP hD hS (by have hcd : 0 = 0 := (rfl); exact ⟨by rw [hcd]; exact rfl, fun _ => ⟨by first | with_reducible rfl | with_reducible assumption | simp only [eq_self, Bool.false_eq_true, ite_self, ↓reduceIte], by exact hz_1⟩, fun h => absurd hcd h⟩)

set_option maxRecDepth 20000 in
theorem uX3_X3_isLiving : ∀ w ∈ u_ws RX3 TX3 13, w ∈ wsX3_isLiving := by decide +kernel
abbrev rm_X3_isLiving : Room := { frames := 1, cells := 0, slots := 0, locals := 20 }
set_option maxHeartbeats 4000000 in
set_option maxRecDepth 100000 in
theorem c_X3_isLiving (l : Launch) (G : cG) (Z : Nat) (b : Nat → Nat) (σ μ : cS) (hR : Rl Z σ μ) (x : Int32) : MetI l yX3_isLiving wsX3_isLiving rm_X3_isLiving G (wM G b μ) [.ref (b 0), .int x] (fun u : cS => wM G b u) (fun r u => u 0 0 = nI (cd1 x 0 63) ∧ (cd1 x 0 63 = 0 → r = bI (alv (σ 0) x) ∧ Rl Z σ u) ∧ (cd1 x 0 63 ≠ 0 → Rl Z σ u)) := by
  rcases id_or x with ⟨n, hn0, rfl⟩ | ⟨hin0, hon0⟩
  · cases haln : alv (σ 0) (nI n) with
    | false =>
      refine co_bodyI (cc := cX3_isLiving) (maxL := 2) (ret := (some .boolean)) (by decide) rfl (Nat.le_of_ble_eq_true rfl) ?_
      intro p e s m args below meth c S hr hlocks hK A hA hP hD hS ls hl
      have S : CallFix p m c cX3_isLiving 2 s args wsX3_isLiving RX3 := S
      obtain ⟨hx, hb, hml, hown, hts⟩ := id S
      have hl : lv_has ls 2 [(0, .ref (b 0)), (1, .int (nI n))] := hl
      have uX3 := uX3_X3_isLiving
      refine lv_aload_n hx hb dX3_isLiving_0 rfl (lv_at hl 0 rfl) ?_
      refine lv_iload_n hx hb dX3_isLiving_1 rfl (lv_at hl 1 rfl) ?_
      refine co_rS (As := [.int (nI n)]) (rest := [.ref (b 0)]) S (c_X3_isId l G (nI n)) (va_cwS 1 hts gX3_isLiving_X3_isId rfl rfl rfl (by decide +kernel) ⟨Nat.le_of_ble_eq_true rfl, Nat.le_of_ble_eq_true rfl⟩) hK (pG_nil) rfl hl.1 rfl (Nat.le_of_ble_eq_true rfl) dX3_isLiving_2 ⟨Nat.zero_le _, Nat.zero_le _⟩ ?_
      refine co_ifeq (tgt := 12) S dX3_isLiving_5 (by decide) (fun c_1 => ?_) (fun c_1 => ?_)
      · exact absurd (c_1.symm.trans (idB_nI hn0)) (by decide)
      · refine lv_iconst (v := 0) hx hb dX3_isLiving_8 (by decide) ?_
        refine lv_goto (tgt := 13) hx hb dX3_isLiving_9 (by decide) ?_
        refine va_put (D := G.1) (ci := 2) (v := .int 0) (ty := .int) (C := RX3) (T := TX3) (N := 13) hx hb hts uX3 tyX3 tyX3_ok nmX3 hown hK hP hD hS 0 rfl rfl 0 (by decide) (hts (.fieldLink RX3 41 "ChordOverlayModel" "thrown" "I") (by decide +kernel)) (fun _ h9 => h9) rfl (by decide +kernel) rfl rfl (Nat.le_of_ble_eq_true rfl) dX3_isLiving_13 (fun H locs hP hD hS => ?_)
        have hP : pG G (wM G b (va_up μ 0 (fun _ => 0))) H := hP
        have hD : va_D A (wM G b (va_up μ 0 (fun _ => 0))) := hD
        have hz_2 : Rl Z σ (va_up μ 0 (fun _ => 0)) := Rl.s0 (f := fun _ => 0) hR
        refine lv_aload_n hx hb dX3_isLiving_16 rfl (lv_at hl 0 rfl) ?_
        refine va_get (D := G.1) (ci := 2) (v := .int 0) (C := RX3) (T := TX3) (N := 13) hx hb hts uX3 hown hK hP 0 rfl rfl 0 (by decide) (hts (.fieldLink RX3 41 "ChordOverlayModel" "thrown" "I") (by decide +kernel)) (fun _ h9 => h9) rfl dX3_isLiving_17 ?_
        refine lv_if_ne (tgt := 36) hx hb dX3_isLiving_20 (by decide) (fun c_3 => ?_) (fun c_3 => ?_)
        · exact absurd (by decide) c_3
        · refine lv_aload_n hx hb dX3_isLiving_23 rfl (lv_at hl 0 rfl) ?_
          refine va_get (D := G.1) (ci := 2) (v := .ref (b 1)) (C := RX3) (T := TX3) (N := 13) hx hb hts uX3 hown hK hP 0 rfl rfl 2 (by decide) (hts (.fieldLink RX3 7 "ChordOverlayModel" "lives" "[Z") (by decide +kernel)) (fun _ h9 => h9) rfl dX3_isLiving_24 ?_
          refine lv_iload_n hx hb dX3_isLiving_27 rfl (lv_at hl 1 rfl) ?_
          refine va_zald hx hb hK hP 1 1 rfl rfl (vi_1 hn0) dX3_isLiving_28 ?_
          refine co_eq (y := bI (alv (σ 0) (nI n))) (rl_l hz_2 hn0) ?_
          refine co_ifeq (tgt := 36) S dX3_isLiving_29 (by decide) (fun c_4 => ?_) (fun c_4 => ?_)
          · refine lv_iconst (v := 0) hx hb dX3_isLiving_36 (by decide) ?_
            exact co_endIz (v := false) (va_up μ 0 (fun _ => 0)) S hr hlocks dX3_isLiving_37 hK hP hD hS (by have hcd : cd1 (nI n) 0 63 = 0 := (by simp only [cd1, okR_id hn0, haln, c_1, (eq_true c_3), c_4, eq_self, Bool.false_eq_true, ite_self, ↓reduceIte]); exact ⟨by rw [hcd]; exact rfl, fun _ => ⟨by first | with_reducible rfl | with_reducible assumption | simp only [c_1, (eq_true c_3), c_4, okR_id hn0, haln, eq_self, Bool.false_eq_true, ite_self, ↓reduceIte], by exact hz_2⟩, fun h => absurd hcd h⟩)
          · exact absurd (c_4.symm.trans haln) (by decide)
    | true =>
      refine co_bodyI (cc := cX3_isLiving) (maxL := 2) (ret := (some .boolean)) (by decide) rfl (Nat.le_of_ble_eq_true rfl) ?_
      intro p e s m args below meth c S hr hlocks hK A hA hP hD hS ls hl
      have S : CallFix p m c cX3_isLiving 2 s args wsX3_isLiving RX3 := S
      obtain ⟨hx, hb, hml, hown, hts⟩ := id S
      have hl : lv_has ls 2 [(0, .ref (b 0)), (1, .int (nI n))] := hl
      have uX3 := uX3_X3_isLiving
      refine lv_aload_n hx hb dX3_isLiving_0 rfl (lv_at hl 0 rfl) ?_
      refine lv_iload_n hx hb dX3_isLiving_1 rfl (lv_at hl 1 rfl) ?_
      refine co_rS (As := [.int (nI n)]) (rest := [.ref (b 0)]) S (c_X3_isId l G (nI n)) (va_cwS 1 hts gX3_isLiving_X3_isId rfl rfl rfl (by decide +kernel) ⟨Nat.le_of_ble_eq_true rfl, Nat.le_of_ble_eq_true rfl⟩) hK (pG_nil) rfl hl.1 rfl (Nat.le_of_ble_eq_true rfl) dX3_isLiving_2 ⟨Nat.zero_le _, Nat.zero_le _⟩ ?_
      refine co_ifeq (tgt := 12) S dX3_isLiving_5 (by decide) (fun c_1 => ?_) (fun c_1 => ?_)
      · exact absurd (c_1.symm.trans (idB_nI hn0)) (by decide)
      · refine lv_iconst (v := 0) hx hb dX3_isLiving_8 (by decide) ?_
        refine lv_goto (tgt := 13) hx hb dX3_isLiving_9 (by decide) ?_
        refine va_put (D := G.1) (ci := 2) (v := .int 0) (ty := .int) (C := RX3) (T := TX3) (N := 13) hx hb hts uX3 tyX3 tyX3_ok nmX3 hown hK hP hD hS 0 rfl rfl 0 (by decide) (hts (.fieldLink RX3 41 "ChordOverlayModel" "thrown" "I") (by decide +kernel)) (fun _ h9 => h9) rfl (by decide +kernel) rfl rfl (Nat.le_of_ble_eq_true rfl) dX3_isLiving_13 (fun H locs hP hD hS => ?_)
        have hP : pG G (wM G b (va_up μ 0 (fun _ => 0))) H := hP
        have hD : va_D A (wM G b (va_up μ 0 (fun _ => 0))) := hD
        have hz_2 : Rl Z σ (va_up μ 0 (fun _ => 0)) := Rl.s0 (f := fun _ => 0) hR
        refine lv_aload_n hx hb dX3_isLiving_16 rfl (lv_at hl 0 rfl) ?_
        refine va_get (D := G.1) (ci := 2) (v := .int 0) (C := RX3) (T := TX3) (N := 13) hx hb hts uX3 hown hK hP 0 rfl rfl 0 (by decide) (hts (.fieldLink RX3 41 "ChordOverlayModel" "thrown" "I") (by decide +kernel)) (fun _ h9 => h9) rfl dX3_isLiving_17 ?_
        refine lv_if_ne (tgt := 36) hx hb dX3_isLiving_20 (by decide) (fun c_3 => ?_) (fun c_3 => ?_)
        · exact absurd (by decide) c_3
        · refine lv_aload_n hx hb dX3_isLiving_23 rfl (lv_at hl 0 rfl) ?_
          refine va_get (D := G.1) (ci := 2) (v := .ref (b 1)) (C := RX3) (T := TX3) (N := 13) hx hb hts uX3 hown hK hP 0 rfl rfl 2 (by decide) (hts (.fieldLink RX3 7 "ChordOverlayModel" "lives" "[Z") (by decide +kernel)) (fun _ h9 => h9) rfl dX3_isLiving_24 ?_
          refine lv_iload_n hx hb dX3_isLiving_27 rfl (lv_at hl 1 rfl) ?_
          refine va_zald hx hb hK hP 1 1 rfl rfl (vi_1 hn0) dX3_isLiving_28 ?_
          refine co_eq (y := bI (alv (σ 0) (nI n))) (rl_l hz_2 hn0) ?_
          refine co_ifeq (tgt := 36) S dX3_isLiving_29 (by decide) (fun c_4 => ?_) (fun c_4 => ?_)
          · exact absurd (c_4.symm.trans haln) (by decide)
          · refine lv_iconst (v := 1) hx hb dX3_isLiving_32 (by decide) ?_
            refine lv_goto (tgt := 37) hx hb dX3_isLiving_33 (by decide) ?_
            exact co_endIz (v := true) (va_up μ 0 (fun _ => 0)) S hr hlocks dX3_isLiving_37 hK hP hD hS (by have hcd : cd1 (nI n) 0 63 = 0 := (by simp only [cd1, okR_id hn0, haln, c_1, (eq_true c_3), c_4, eq_self, Bool.false_eq_true, ite_self, ↓reduceIte]); exact ⟨by rw [hcd]; exact rfl, fun _ => ⟨by first | with_reducible rfl | with_reducible assumption | simp only [c_1, (eq_true c_3), c_4, okR_id hn0, haln, eq_self, Bool.false_eq_true, ite_self, ↓reduceIte], by exact hz_2⟩, fun h => absurd hcd h⟩)
  · refine co_bodyI (cc := cX3_isLiving) (maxL := 2) (ret := (some .boolean)) (by decide) rfl (Nat.le_of_ble_eq_true rfl) ?_
    intro p e s m args below meth c S hr hlocks hK A hA hP hD hS ls hl
    have S : CallFix p m c cX3_isLiving 2 s args wsX3_isLiving RX3 := S
    obtain ⟨hx, hb, hml, hown, hts⟩ := id S
    have hl : lv_has ls 2 [(0, .ref (b 0)), (1, .int x)] := hl
    have uX3 := uX3_X3_isLiving
    refine lv_aload_n hx hb dX3_isLiving_0 rfl (lv_at hl 0 rfl) ?_
    refine lv_iload_n hx hb dX3_isLiving_1 rfl (lv_at hl 1 rfl) ?_
    refine co_rS (As := [.int x]) (rest := [.ref (b 0)]) S (c_X3_isId l G x) (va_cwS 1 hts gX3_isLiving_X3_isId rfl rfl rfl (by decide +kernel) ⟨Nat.le_of_ble_eq_true rfl, Nat.le_of_ble_eq_true rfl⟩) hK (pG_nil) rfl hl.1 rfl (Nat.le_of_ble_eq_true rfl) dX3_isLiving_2 ⟨Nat.zero_le _, Nat.zero_le _⟩ ?_
    refine co_ifeq (tgt := 12) S dX3_isLiving_5 (by decide) (fun c_1 => ?_) (fun c_1 => ?_)
    · refine lv_iconst (v := 1) hx hb dX3_isLiving_12 (by decide) ?_
      refine va_put (D := G.1) (ci := 2) (v := .int 1) (ty := .int) (C := RX3) (T := TX3) (N := 13) hx hb hts uX3 tyX3 tyX3_ok nmX3 hown hK hP hD hS 0 rfl rfl 0 (by decide) (hts (.fieldLink RX3 41 "ChordOverlayModel" "thrown" "I") (by decide +kernel)) (fun _ h9 => h9) rfl (by decide +kernel) rfl rfl (Nat.le_of_ble_eq_true rfl) dX3_isLiving_13 (fun H locs hP hD hS => ?_)
      have hP : pG G (wM G b (va_up μ 0 (fun _ => 1))) H := hP
      have hD : va_D A (wM G b (va_up μ 0 (fun _ => 1))) := hD
      have hz_2 : Rl Z σ (va_up μ 0 (fun _ => 1)) := Rl.s0 (f := fun _ => 1) hR
      refine lv_aload_n hx hb dX3_isLiving_16 rfl (lv_at hl 0 rfl) ?_
      refine va_get (D := G.1) (ci := 2) (v := .int 1) (C := RX3) (T := TX3) (N := 13) hx hb hts uX3 hown hK hP 0 rfl rfl 0 (by decide) (hts (.fieldLink RX3 41 "ChordOverlayModel" "thrown" "I") (by decide +kernel)) (fun _ h9 => h9) rfl dX3_isLiving_17 ?_
      refine lv_if_ne (tgt := 36) hx hb dX3_isLiving_20 (by decide) (fun c_3 => ?_) (fun c_3 => ?_)
      · refine lv_iconst (v := 0) hx hb dX3_isLiving_36 (by decide) ?_
        exact co_endIz (v := false) (va_up μ 0 (fun _ => 1)) S hr hlocks dX3_isLiving_37 hK hP hD hS (by have hcd : cd1 x 0 63 = 1 := (by simp only [cd1, hon0, c_1, c_3, eq_self, Bool.false_eq_true, ite_self, ↓reduceIte]); exact ⟨by rw [hcd]; exact rfl, fun h => absurd (hcd.symm.trans h) (by decide), fun _ => hz_2⟩)
      · exact absurd c_3 (by decide)
    · exact absurd (c_1.symm.trans hin0) (by decide)

set_option maxRecDepth 20000 in
theorem uX3_X3_successor : ∀ w ∈ u_ws RX3 TX3 13, w ∈ wsX3_successor := by decide +kernel
abbrev rm_X3_successor : Room := { frames := 2, cells := 0, slots := 0, locals := 41 }
set_option maxHeartbeats 4000000 in
set_option maxRecDepth 100000 in
theorem c_X3_successor (l : Launch) (G : cG) (Z : Nat) (b : Nat → Nat) (σ μ : cS) (hR : Rl Z σ μ) (x : Int32) (i : Int32) : MetI l yX3_successor wsX3_successor rm_X3_successor G (wM G b μ) [.ref (b 0), .int x, .int i] (fun u : cS => wM G b u) (fun r u => u 0 0 = nI (cdP σ x i 2) ∧ (cdP σ x i 2 = 0 → r = tat 3 (σ 1) x i ∧ Rl Z σ u) ∧ (cdP σ x i 2 ≠ 0 → Rl Z σ u)) := by
  rcases id_or x with ⟨n, hn0, rfl⟩ | ⟨hin0, hon0⟩
  · rcases rg_or i (N := 2) (by decide) with ⟨q, hq0, rfl⟩ | ⟨hzq0, hoq0⟩ | ⟨hzq0, hyq0, hoq0⟩
    · cases haln : alv (σ 0) (nI n) with
      | false =>
        refine co_bodyI (cc := cX3_successor) (maxL := 3) (ret := (some .int)) (by decide) rfl (Nat.le_of_ble_eq_true rfl) ?_
        intro p e s m args below meth c S hr hlocks hK A hA hP hD hS ls hl
        have S : CallFix p m c cX3_successor 3 s args wsX3_successor RX3 := S
        obtain ⟨hx, hb, hml, hown, hts⟩ := id S
        have hl : lv_has ls 3 [(0, .ref (b 0)), (1, .int (nI n)), (2, .int (nI q))] := hl
        have uX3 := uX3_X3_successor
        refine lv_aload_n hx hb dX3_successor_0 rfl (lv_at hl 0 rfl) ?_
        refine lv_iload_n hx hb dX3_successor_1 rfl (lv_at hl 1 rfl) ?_
        refine co_rS (As := [.int (nI n)]) (rest := [.ref (b 0)]) S (c_X3_isId l G (nI n)) (va_cwS 1 hts gX3_successor_X3_isId rfl rfl rfl (by decide +kernel) ⟨Nat.le_of_ble_eq_true rfl, Nat.le_of_ble_eq_true rfl⟩) hK (pG_nil) rfl hl.1 rfl (Nat.le_of_ble_eq_true rfl) dX3_successor_2 ⟨Nat.zero_le _, Nat.zero_le _⟩ ?_
        refine co_ifeq (tgt := 25) S dX3_successor_5 (by decide) (fun c_1 => ?_) (fun c_1 => ?_)
        · exact absurd (c_1.symm.trans (idB_nI hn0)) (by decide)
        · refine lv_iload_n hx hb dX3_successor_8 rfl (lv_at hl 2 rfl) ?_
          refine lv_if_lt (tgt := 25) hx hb dX3_successor_9 (by decide) (fun c_2 => ?_) (fun c_2 => ?_)
          · exact absurd c_2 (nI_pos (by omega))
          · refine lv_iload_n hx hb dX3_successor_12 rfl (lv_at hl 2 rfl) ?_
            refine lv_iconst (v := 3) hx hb dX3_successor_13 (by decide) ?_
            refine lv_icmp_ge (tgt := 25) hx hb dX3_successor_14 (by decide) (fun c_3 => ?_) (fun c_3 => ?_)
            · exact absurd c_3 (nI_ge (a := q) (b := 3) (by omega) (by decide))
            · refine lv_aload_n hx hb dX3_successor_17 rfl (lv_at hl 0 rfl) ?_
              refine lv_iload_n hx hb dX3_successor_18 rfl (lv_at hl 1 rfl) ?_
              refine co_rV (As := [.int (nI n)]) (rest := [.ref (b 0)]) S (c_X3_refuses l G Z b σ μ hR (nI n)) (cwV 1 hts gX3_successor_X3_refuses rfl rfl rfl (by decide +kernel) ⟨Nat.le_of_ble_eq_true rfl, Nat.le_of_ble_eq_true rfl⟩) hK hP (va_recv hK hP (ci := 2) (q0 := 0) rfl rfl) rfl hl.1 rfl (Nat.le_of_ble_eq_true rfl) dX3_successor_19 ⟨Nat.zero_le _, Nat.zero_le _⟩ ?_
              refine co_eq (show nI (cdA σ (nI n)) = 2 from congrArg nI (show cdA σ (nI n) = 2 by simp only [cdA, okR_id hn0, show okR (nI q) 0 2 = true from okR_rg (N := 2) hq0 (by decide), haln, eq_self, Bool.false_eq_true, ite_self, ↓reduceIte])) ?_
              refine lv_goto (tgt := 26) hx hb dX3_successor_22 (by decide) ?_
              refine va_put (D := G.1) (ci := 2) (v := .int 2) (ty := .int) (C := RX3) (T := TX3) (N := 13) hx hb hts uX3 tyX3 tyX3_ok nmX3 hown hK hP hD hS 0 rfl rfl 0 (by decide) (hts (.fieldLink RX3 41 "ChordOverlayModel" "thrown" "I") (by decide +kernel)) (fun _ h9 => h9) rfl (by decide +kernel) rfl rfl (Nat.le_of_ble_eq_true rfl) dX3_successor_26 (fun H locs hP hD hS => ?_)
              have hP : pG G (wM G b (va_up μ 0 (fun _ => 2))) H := hP
              have hD : va_D A (wM G b (va_up μ 0 (fun _ => 2))) := hD
              have hz_4 : Rl Z σ (va_up μ 0 (fun _ => 2)) := Rl.s0 (f := fun _ => 2) hR
              refine lv_aload_n hx hb dX3_successor_29 rfl (lv_at hl 0 rfl) ?_
              refine va_get (D := G.1) (ci := 2) (v := .int 2) (C := RX3) (T := TX3) (N := 13) hx hb hts uX3 hown hK hP 0 rfl rfl 0 (by decide) (hts (.fieldLink RX3 41 "ChordOverlayModel" "thrown" "I") (by decide +kernel)) (fun _ h9 => h9) rfl dX3_successor_30 ?_
              refine lv_if_ne (tgt := 49) hx hb dX3_successor_33 (by decide) (fun c_5 => ?_) (fun c_5 => ?_)
              · refine lv_iconst (v := 0) hx hb dX3_successor_49 (by decide) ?_
                exact co_endI (va_up μ 0 (fun _ => 2)) S hr hlocks dX3_successor_50 hK hP hD hS (by have hcd : cdP σ (nI n) (nI q) 2 = 2 := (by simp only [cdP, okR_id hn0, show okR (nI q) 0 2 = true from okR_rg (N := 2) hq0 (by decide), haln, c_1, c_2, c_3, c_5, eq_self, Bool.false_eq_true, ite_self, ↓reduceIte]); exact ⟨by rw [hcd]; exact rfl, fun h => absurd (hcd.symm.trans h) (by decide), fun _ => hz_4⟩)
              · exact absurd c_5 (by decide)
      | true =>
        refine co_bodyI (cc := cX3_successor) (maxL := 3) (ret := (some .int)) (by decide) rfl (Nat.le_of_ble_eq_true rfl) ?_
        intro p e s m args below meth c S hr hlocks hK A hA hP hD hS ls hl
        have S : CallFix p m c cX3_successor 3 s args wsX3_successor RX3 := S
        obtain ⟨hx, hb, hml, hown, hts⟩ := id S
        have hl : lv_has ls 3 [(0, .ref (b 0)), (1, .int (nI n)), (2, .int (nI q))] := hl
        have uX3 := uX3_X3_successor
        refine lv_aload_n hx hb dX3_successor_0 rfl (lv_at hl 0 rfl) ?_
        refine lv_iload_n hx hb dX3_successor_1 rfl (lv_at hl 1 rfl) ?_
        refine co_rS (As := [.int (nI n)]) (rest := [.ref (b 0)]) S (c_X3_isId l G (nI n)) (va_cwS 1 hts gX3_successor_X3_isId rfl rfl rfl (by decide +kernel) ⟨Nat.le_of_ble_eq_true rfl, Nat.le_of_ble_eq_true rfl⟩) hK (pG_nil) rfl hl.1 rfl (Nat.le_of_ble_eq_true rfl) dX3_successor_2 ⟨Nat.zero_le _, Nat.zero_le _⟩ ?_
        refine co_ifeq (tgt := 25) S dX3_successor_5 (by decide) (fun c_1 => ?_) (fun c_1 => ?_)
        · exact absurd (c_1.symm.trans (idB_nI hn0)) (by decide)
        · refine lv_iload_n hx hb dX3_successor_8 rfl (lv_at hl 2 rfl) ?_
          refine lv_if_lt (tgt := 25) hx hb dX3_successor_9 (by decide) (fun c_2 => ?_) (fun c_2 => ?_)
          · exact absurd c_2 (nI_pos (by omega))
          · refine lv_iload_n hx hb dX3_successor_12 rfl (lv_at hl 2 rfl) ?_
            refine lv_iconst (v := 3) hx hb dX3_successor_13 (by decide) ?_
            refine lv_icmp_ge (tgt := 25) hx hb dX3_successor_14 (by decide) (fun c_3 => ?_) (fun c_3 => ?_)
            · exact absurd c_3 (nI_ge (a := q) (b := 3) (by omega) (by decide))
            · refine lv_aload_n hx hb dX3_successor_17 rfl (lv_at hl 0 rfl) ?_
              refine lv_iload_n hx hb dX3_successor_18 rfl (lv_at hl 1 rfl) ?_
              refine co_rV (As := [.int (nI n)]) (rest := [.ref (b 0)]) S (c_X3_refuses l G Z b σ μ hR (nI n)) (cwV 1 hts gX3_successor_X3_refuses rfl rfl rfl (by decide +kernel) ⟨Nat.le_of_ble_eq_true rfl, Nat.le_of_ble_eq_true rfl⟩) hK hP (va_recv hK hP (ci := 2) (q0 := 0) rfl rfl) rfl hl.1 rfl (Nat.le_of_ble_eq_true rfl) dX3_successor_19 ⟨Nat.zero_le _, Nat.zero_le _⟩ ?_
              refine co_eq (show nI (cdA σ (nI n)) = 0 from congrArg nI (show cdA σ (nI n) = 0 by simp only [cdA, okR_id hn0, show okR (nI q) 0 2 = true from okR_rg (N := 2) hq0 (by decide), haln, eq_self, Bool.false_eq_true, ite_self, ↓reduceIte])) ?_
              refine lv_goto (tgt := 26) hx hb dX3_successor_22 (by decide) ?_
              refine va_put (D := G.1) (ci := 2) (v := .int 0) (ty := .int) (C := RX3) (T := TX3) (N := 13) hx hb hts uX3 tyX3 tyX3_ok nmX3 hown hK hP hD hS 0 rfl rfl 0 (by decide) (hts (.fieldLink RX3 41 "ChordOverlayModel" "thrown" "I") (by decide +kernel)) (fun _ h9 => h9) rfl (by decide +kernel) rfl rfl (Nat.le_of_ble_eq_true rfl) dX3_successor_26 (fun H locs hP hD hS => ?_)
              have hP : pG G (wM G b (va_up μ 0 (fun _ => 0))) H := hP
              have hD : va_D A (wM G b (va_up μ 0 (fun _ => 0))) := hD
              have hz_4 : Rl Z σ (va_up μ 0 (fun _ => 0)) := Rl.s0 (f := fun _ => 0) hR
              refine lv_aload_n hx hb dX3_successor_29 rfl (lv_at hl 0 rfl) ?_
              refine va_get (D := G.1) (ci := 2) (v := .int 0) (C := RX3) (T := TX3) (N := 13) hx hb hts uX3 hown hK hP 0 rfl rfl 0 (by decide) (hts (.fieldLink RX3 41 "ChordOverlayModel" "thrown" "I") (by decide +kernel)) (fun _ h9 => h9) rfl dX3_successor_30 ?_
              refine lv_if_ne (tgt := 49) hx hb dX3_successor_33 (by decide) (fun c_5 => ?_) (fun c_5 => ?_)
              · exact absurd (by decide) c_5
              · refine lv_aload_n hx hb dX3_successor_36 rfl (lv_at hl 0 rfl) ?_
                refine va_get (D := G.1) (ci := 2) (v := .ref (b 2)) (C := RX3) (T := TX3) (N := 13) hx hb hts uX3 hown hK hP 0 rfl rfl 3 (by decide) (hts (.fieldLink RX3 13 "ChordOverlayModel" "successor" "[I") (by decide +kernel)) (fun _ h9 => h9) rfl dX3_successor_37 ?_
                refine lv_iconst (v := 3) hx hb dX3_successor_40 (by decide) ?_
                refine lv_iload_n hx hb dX3_successor_41 rfl (lv_at hl 1 rfl) ?_
                refine lv_imul hx hb dX3_successor_42 ?_
                refine lv_iload_n hx hb dX3_successor_43 rfl (lv_at hl 2 rfl) ?_
                refine lv_iadd hx hb dX3_successor_44 ?_
                refine va_iald hx hb hK hP 2 0 rfl rfl (vi_w (w := 3) (p := q) (by decide) hn0 hq0) dX3_successor_45 ?_
                obtain ⟨j_6, hj_6, ej_6, mj_6⟩ := rl_s hz_4 ⟨hn0, haln⟩ q hq0
                have ej_6 : tat 3 (σ 1) (nI n) (nI q) = nI j_6 := ej_6
                refine co_eq mj_6 ?_
                refine lv_goto (tgt := 50) hx hb dX3_successor_46 (by decide) ?_
                exact co_endI (va_up μ 0 (fun _ => 0)) S hr hlocks dX3_successor_50 hK hP hD hS (by have hcd : cdP σ (nI n) (nI q) 2 = 0 := (by simp only [cdP, okR_id hn0, show okR (nI q) 0 2 = true from okR_rg (N := 2) hq0 (by decide), haln, c_1, c_2, c_3, (eq_true c_5), eq_self, Bool.false_eq_true, ite_self, ↓reduceIte]); exact ⟨by rw [hcd]; exact rfl, fun _ => ⟨by first | with_reducible rfl | with_reducible assumption | simp only [ej_6, c_1, c_2, c_3, (eq_true c_5), okR_id hn0, show okR (nI q) 0 2 = true from okR_rg (N := 2) hq0 (by decide), haln, nI_nem hj_6, eq_self, Bool.false_eq_true, ite_self, ↓reduceIte], by exact hz_4⟩, fun h => absurd hcd h⟩)
    · cases haln : alv (σ 0) (nI n) with
      | false =>
        refine co_bodyI (cc := cX3_successor) (maxL := 3) (ret := (some .int)) (by decide) rfl (Nat.le_of_ble_eq_true rfl) ?_
        intro p e s m args below meth c S hr hlocks hK A hA hP hD hS ls hl
        have S : CallFix p m c cX3_successor 3 s args wsX3_successor RX3 := S
        obtain ⟨hx, hb, hml, hown, hts⟩ := id S
        have hl : lv_has ls 3 [(0, .ref (b 0)), (1, .int (nI n)), (2, .int i)] := hl
        have uX3 := uX3_X3_successor
        refine lv_aload_n hx hb dX3_successor_0 rfl (lv_at hl 0 rfl) ?_
        refine lv_iload_n hx hb dX3_successor_1 rfl (lv_at hl 1 rfl) ?_
        refine co_rS (As := [.int (nI n)]) (rest := [.ref (b 0)]) S (c_X3_isId l G (nI n)) (va_cwS 1 hts gX3_successor_X3_isId rfl rfl rfl (by decide +kernel) ⟨Nat.le_of_ble_eq_true rfl, Nat.le_of_ble_eq_true rfl⟩) hK (pG_nil) rfl hl.1 rfl (Nat.le_of_ble_eq_true rfl) dX3_successor_2 ⟨Nat.zero_le _, Nat.zero_le _⟩ ?_
        refine co_ifeq (tgt := 25) S dX3_successor_5 (by decide) (fun c_1 => ?_) (fun c_1 => ?_)
        · exact absurd (c_1.symm.trans (idB_nI hn0)) (by decide)
        · refine lv_iload_n hx hb dX3_successor_8 rfl (lv_at hl 2 rfl) ?_
          refine lv_if_lt (tgt := 25) hx hb dX3_successor_9 (by decide) (fun c_2 => ?_) (fun c_2 => ?_)
          · refine lv_iconst (v := 1) hx hb dX3_successor_25 (by decide) ?_
            refine va_put (D := G.1) (ci := 2) (v := .int 1) (ty := .int) (C := RX3) (T := TX3) (N := 13) hx hb hts uX3 tyX3 tyX3_ok nmX3 hown hK hP hD hS 0 rfl rfl 0 (by decide) (hts (.fieldLink RX3 41 "ChordOverlayModel" "thrown" "I") (by decide +kernel)) (fun _ h9 => h9) rfl (by decide +kernel) rfl rfl (Nat.le_of_ble_eq_true rfl) dX3_successor_26 (fun H locs hP hD hS => ?_)
            have hP : pG G (wM G b (va_up μ 0 (fun _ => 1))) H := hP
            have hD : va_D A (wM G b (va_up μ 0 (fun _ => 1))) := hD
            have hz_3 : Rl Z σ (va_up μ 0 (fun _ => 1)) := Rl.s0 (f := fun _ => 1) hR
            refine lv_aload_n hx hb dX3_successor_29 rfl (lv_at hl 0 rfl) ?_
            refine va_get (D := G.1) (ci := 2) (v := .int 1) (C := RX3) (T := TX3) (N := 13) hx hb hts uX3 hown hK hP 0 rfl rfl 0 (by decide) (hts (.fieldLink RX3 41 "ChordOverlayModel" "thrown" "I") (by decide +kernel)) (fun _ h9 => h9) rfl dX3_successor_30 ?_
            refine lv_if_ne (tgt := 49) hx hb dX3_successor_33 (by decide) (fun c_4 => ?_) (fun c_4 => ?_)
            · refine lv_iconst (v := 0) hx hb dX3_successor_49 (by decide) ?_
              exact co_endI (va_up μ 0 (fun _ => 1)) S hr hlocks dX3_successor_50 hK hP hD hS (by have hcd : cdP σ (nI n) i 2 = 1 := (by simp only [cdP, okR_id hn0, show okR i 0 2 = false from hoq0, haln, c_1, c_2, c_4, eq_self, Bool.false_eq_true, ite_self, ↓reduceIte]); exact ⟨by rw [hcd]; exact rfl, fun h => absurd (hcd.symm.trans h) (by decide), fun _ => hz_3⟩)
            · exact absurd c_4 (by decide)
          · exact absurd hzq0 c_2
      | true =>
        refine co_bodyI (cc := cX3_successor) (maxL := 3) (ret := (some .int)) (by decide) rfl (Nat.le_of_ble_eq_true rfl) ?_
        intro p e s m args below meth c S hr hlocks hK A hA hP hD hS ls hl
        have S : CallFix p m c cX3_successor 3 s args wsX3_successor RX3 := S
        obtain ⟨hx, hb, hml, hown, hts⟩ := id S
        have hl : lv_has ls 3 [(0, .ref (b 0)), (1, .int (nI n)), (2, .int i)] := hl
        have uX3 := uX3_X3_successor
        refine lv_aload_n hx hb dX3_successor_0 rfl (lv_at hl 0 rfl) ?_
        refine lv_iload_n hx hb dX3_successor_1 rfl (lv_at hl 1 rfl) ?_
        refine co_rS (As := [.int (nI n)]) (rest := [.ref (b 0)]) S (c_X3_isId l G (nI n)) (va_cwS 1 hts gX3_successor_X3_isId rfl rfl rfl (by decide +kernel) ⟨Nat.le_of_ble_eq_true rfl, Nat.le_of_ble_eq_true rfl⟩) hK (pG_nil) rfl hl.1 rfl (Nat.le_of_ble_eq_true rfl) dX3_successor_2 ⟨Nat.zero_le _, Nat.zero_le _⟩ ?_
        refine co_ifeq (tgt := 25) S dX3_successor_5 (by decide) (fun c_1 => ?_) (fun c_1 => ?_)
        · exact absurd (c_1.symm.trans (idB_nI hn0)) (by decide)
        · refine lv_iload_n hx hb dX3_successor_8 rfl (lv_at hl 2 rfl) ?_
          refine lv_if_lt (tgt := 25) hx hb dX3_successor_9 (by decide) (fun c_2 => ?_) (fun c_2 => ?_)
          · refine lv_iconst (v := 1) hx hb dX3_successor_25 (by decide) ?_
            refine va_put (D := G.1) (ci := 2) (v := .int 1) (ty := .int) (C := RX3) (T := TX3) (N := 13) hx hb hts uX3 tyX3 tyX3_ok nmX3 hown hK hP hD hS 0 rfl rfl 0 (by decide) (hts (.fieldLink RX3 41 "ChordOverlayModel" "thrown" "I") (by decide +kernel)) (fun _ h9 => h9) rfl (by decide +kernel) rfl rfl (Nat.le_of_ble_eq_true rfl) dX3_successor_26 (fun H locs hP hD hS => ?_)
            have hP : pG G (wM G b (va_up μ 0 (fun _ => 1))) H := hP
            have hD : va_D A (wM G b (va_up μ 0 (fun _ => 1))) := hD
            have hz_3 : Rl Z σ (va_up μ 0 (fun _ => 1)) := Rl.s0 (f := fun _ => 1) hR
            refine lv_aload_n hx hb dX3_successor_29 rfl (lv_at hl 0 rfl) ?_
            refine va_get (D := G.1) (ci := 2) (v := .int 1) (C := RX3) (T := TX3) (N := 13) hx hb hts uX3 hown hK hP 0 rfl rfl 0 (by decide) (hts (.fieldLink RX3 41 "ChordOverlayModel" "thrown" "I") (by decide +kernel)) (fun _ h9 => h9) rfl dX3_successor_30 ?_
            refine lv_if_ne (tgt := 49) hx hb dX3_successor_33 (by decide) (fun c_4 => ?_) (fun c_4 => ?_)
            · refine lv_iconst (v := 0) hx hb dX3_successor_49 (by decide) ?_
              exact co_endI (va_up μ 0 (fun _ => 1)) S hr hlocks dX3_successor_50 hK hP hD hS (by have hcd : cdP σ (nI n) i 2 = 1 := (by simp only [cdP, okR_id hn0, show okR i 0 2 = false from hoq0, haln, c_1, c_2, c_4, eq_self, Bool.false_eq_true, ite_self, ↓reduceIte]); exact ⟨by rw [hcd]; exact rfl, fun h => absurd (hcd.symm.trans h) (by decide), fun _ => hz_3⟩)
            · exact absurd c_4 (by decide)
          · exact absurd hzq0 c_2
    · cases haln : alv (σ 0) (nI n) with
      | false =>
        refine co_bodyI (cc := cX3_successor) (maxL := 3) (ret := (some .int)) (by decide) rfl (Nat.le_of_ble_eq_true rfl) ?_
        intro p e s m args below meth c S hr hlocks hK A hA hP hD hS ls hl
        have S : CallFix p m c cX3_successor 3 s args wsX3_successor RX3 := S
        obtain ⟨hx, hb, hml, hown, hts⟩ := id S
        have hl : lv_has ls 3 [(0, .ref (b 0)), (1, .int (nI n)), (2, .int i)] := hl
        have uX3 := uX3_X3_successor
        refine lv_aload_n hx hb dX3_successor_0 rfl (lv_at hl 0 rfl) ?_
        refine lv_iload_n hx hb dX3_successor_1 rfl (lv_at hl 1 rfl) ?_
        refine co_rS (As := [.int (nI n)]) (rest := [.ref (b 0)]) S (c_X3_isId l G (nI n)) (va_cwS 1 hts gX3_successor_X3_isId rfl rfl rfl (by decide +kernel) ⟨Nat.le_of_ble_eq_true rfl, Nat.le_of_ble_eq_true rfl⟩) hK (pG_nil) rfl hl.1 rfl (Nat.le_of_ble_eq_true rfl) dX3_successor_2 ⟨Nat.zero_le _, Nat.zero_le _⟩ ?_
        refine co_ifeq (tgt := 25) S dX3_successor_5 (by decide) (fun c_1 => ?_) (fun c_1 => ?_)
        · exact absurd (c_1.symm.trans (idB_nI hn0)) (by decide)
        · refine lv_iload_n hx hb dX3_successor_8 rfl (lv_at hl 2 rfl) ?_
          refine lv_if_lt (tgt := 25) hx hb dX3_successor_9 (by decide) (fun c_2 => ?_) (fun c_2 => ?_)
          · exact absurd c_2 hzq0
          · refine lv_iload_n hx hb dX3_successor_12 rfl (lv_at hl 2 rfl) ?_
            refine lv_iconst (v := 3) hx hb dX3_successor_13 (by decide) ?_
            refine lv_icmp_ge (tgt := 25) hx hb dX3_successor_14 (by decide) (fun c_3 => ?_) (fun c_3 => ?_)
            · refine lv_iconst (v := 1) hx hb dX3_successor_25 (by decide) ?_
              refine va_put (D := G.1) (ci := 2) (v := .int 1) (ty := .int) (C := RX3) (T := TX3) (N := 13) hx hb hts uX3 tyX3 tyX3_ok nmX3 hown hK hP hD hS 0 rfl rfl 0 (by decide) (hts (.fieldLink RX3 41 "ChordOverlayModel" "thrown" "I") (by decide +kernel)) (fun _ h9 => h9) rfl (by decide +kernel) rfl rfl (Nat.le_of_ble_eq_true rfl) dX3_successor_26 (fun H locs hP hD hS => ?_)
              have hP : pG G (wM G b (va_up μ 0 (fun _ => 1))) H := hP
              have hD : va_D A (wM G b (va_up μ 0 (fun _ => 1))) := hD
              have hz_4 : Rl Z σ (va_up μ 0 (fun _ => 1)) := Rl.s0 (f := fun _ => 1) hR
              refine lv_aload_n hx hb dX3_successor_29 rfl (lv_at hl 0 rfl) ?_
              refine va_get (D := G.1) (ci := 2) (v := .int 1) (C := RX3) (T := TX3) (N := 13) hx hb hts uX3 hown hK hP 0 rfl rfl 0 (by decide) (hts (.fieldLink RX3 41 "ChordOverlayModel" "thrown" "I") (by decide +kernel)) (fun _ h9 => h9) rfl dX3_successor_30 ?_
              refine lv_if_ne (tgt := 49) hx hb dX3_successor_33 (by decide) (fun c_5 => ?_) (fun c_5 => ?_)
              · refine lv_iconst (v := 0) hx hb dX3_successor_49 (by decide) ?_
                exact co_endI (va_up μ 0 (fun _ => 1)) S hr hlocks dX3_successor_50 hK hP hD hS (by have hcd : cdP σ (nI n) i 2 = 1 := (by simp only [cdP, okR_id hn0, show okR i 0 2 = false from hoq0, haln, c_1, c_2, c_3, c_5, eq_self, Bool.false_eq_true, ite_self, ↓reduceIte]); exact ⟨by rw [hcd]; exact rfl, fun h => absurd (hcd.symm.trans h) (by decide), fun _ => hz_4⟩)
              · exact absurd c_5 (by decide)
            · exact absurd (show (3 : Int32) ≤ i from hyq0) c_3
      | true =>
        refine co_bodyI (cc := cX3_successor) (maxL := 3) (ret := (some .int)) (by decide) rfl (Nat.le_of_ble_eq_true rfl) ?_
        intro p e s m args below meth c S hr hlocks hK A hA hP hD hS ls hl
        have S : CallFix p m c cX3_successor 3 s args wsX3_successor RX3 := S
        obtain ⟨hx, hb, hml, hown, hts⟩ := id S
        have hl : lv_has ls 3 [(0, .ref (b 0)), (1, .int (nI n)), (2, .int i)] := hl
        have uX3 := uX3_X3_successor
        refine lv_aload_n hx hb dX3_successor_0 rfl (lv_at hl 0 rfl) ?_
        refine lv_iload_n hx hb dX3_successor_1 rfl (lv_at hl 1 rfl) ?_
        refine co_rS (As := [.int (nI n)]) (rest := [.ref (b 0)]) S (c_X3_isId l G (nI n)) (va_cwS 1 hts gX3_successor_X3_isId rfl rfl rfl (by decide +kernel) ⟨Nat.le_of_ble_eq_true rfl, Nat.le_of_ble_eq_true rfl⟩) hK (pG_nil) rfl hl.1 rfl (Nat.le_of_ble_eq_true rfl) dX3_successor_2 ⟨Nat.zero_le _, Nat.zero_le _⟩ ?_
        refine co_ifeq (tgt := 25) S dX3_successor_5 (by decide) (fun c_1 => ?_) (fun c_1 => ?_)
        · exact absurd (c_1.symm.trans (idB_nI hn0)) (by decide)
        · refine lv_iload_n hx hb dX3_successor_8 rfl (lv_at hl 2 rfl) ?_
          refine lv_if_lt (tgt := 25) hx hb dX3_successor_9 (by decide) (fun c_2 => ?_) (fun c_2 => ?_)
          · exact absurd c_2 hzq0
          · refine lv_iload_n hx hb dX3_successor_12 rfl (lv_at hl 2 rfl) ?_
            refine lv_iconst (v := 3) hx hb dX3_successor_13 (by decide) ?_
            refine lv_icmp_ge (tgt := 25) hx hb dX3_successor_14 (by decide) (fun c_3 => ?_) (fun c_3 => ?_)
            · refine lv_iconst (v := 1) hx hb dX3_successor_25 (by decide) ?_
              refine va_put (D := G.1) (ci := 2) (v := .int 1) (ty := .int) (C := RX3) (T := TX3) (N := 13) hx hb hts uX3 tyX3 tyX3_ok nmX3 hown hK hP hD hS 0 rfl rfl 0 (by decide) (hts (.fieldLink RX3 41 "ChordOverlayModel" "thrown" "I") (by decide +kernel)) (fun _ h9 => h9) rfl (by decide +kernel) rfl rfl (Nat.le_of_ble_eq_true rfl) dX3_successor_26 (fun H locs hP hD hS => ?_)
              have hP : pG G (wM G b (va_up μ 0 (fun _ => 1))) H := hP
              have hD : va_D A (wM G b (va_up μ 0 (fun _ => 1))) := hD
              have hz_4 : Rl Z σ (va_up μ 0 (fun _ => 1)) := Rl.s0 (f := fun _ => 1) hR
              refine lv_aload_n hx hb dX3_successor_29 rfl (lv_at hl 0 rfl) ?_
              refine va_get (D := G.1) (ci := 2) (v := .int 1) (C := RX3) (T := TX3) (N := 13) hx hb hts uX3 hown hK hP 0 rfl rfl 0 (by decide) (hts (.fieldLink RX3 41 "ChordOverlayModel" "thrown" "I") (by decide +kernel)) (fun _ h9 => h9) rfl dX3_successor_30 ?_
              refine lv_if_ne (tgt := 49) hx hb dX3_successor_33 (by decide) (fun c_5 => ?_) (fun c_5 => ?_)
              · refine lv_iconst (v := 0) hx hb dX3_successor_49 (by decide) ?_
                exact co_endI (va_up μ 0 (fun _ => 1)) S hr hlocks dX3_successor_50 hK hP hD hS (by have hcd : cdP σ (nI n) i 2 = 1 := (by simp only [cdP, okR_id hn0, show okR i 0 2 = false from hoq0, haln, c_1, c_2, c_3, c_5, eq_self, Bool.false_eq_true, ite_self, ↓reduceIte]); exact ⟨by rw [hcd]; exact rfl, fun h => absurd (hcd.symm.trans h) (by decide), fun _ => hz_4⟩)
              · exact absurd c_5 (by decide)
            · exact absurd (show (3 : Int32) ≤ i from hyq0) c_3
  · rcases rg_or i (N := 2) (by decide) with ⟨q, hq0, rfl⟩ | ⟨hzq0, hoq0⟩ | ⟨hzq0, hyq0, hoq0⟩
    · refine co_bodyI (cc := cX3_successor) (maxL := 3) (ret := (some .int)) (by decide) rfl (Nat.le_of_ble_eq_true rfl) ?_
      intro p e s m args below meth c S hr hlocks hK A hA hP hD hS ls hl
      have S : CallFix p m c cX3_successor 3 s args wsX3_successor RX3 := S
      obtain ⟨hx, hb, hml, hown, hts⟩ := id S
      have hl : lv_has ls 3 [(0, .ref (b 0)), (1, .int x), (2, .int (nI q))] := hl
      have uX3 := uX3_X3_successor
      refine lv_aload_n hx hb dX3_successor_0 rfl (lv_at hl 0 rfl) ?_
      refine lv_iload_n hx hb dX3_successor_1 rfl (lv_at hl 1 rfl) ?_
      refine co_rS (As := [.int x]) (rest := [.ref (b 0)]) S (c_X3_isId l G x) (va_cwS 1 hts gX3_successor_X3_isId rfl rfl rfl (by decide +kernel) ⟨Nat.le_of_ble_eq_true rfl, Nat.le_of_ble_eq_true rfl⟩) hK (pG_nil) rfl hl.1 rfl (Nat.le_of_ble_eq_true rfl) dX3_successor_2 ⟨Nat.zero_le _, Nat.zero_le _⟩ ?_
      refine co_ifeq (tgt := 25) S dX3_successor_5 (by decide) (fun c_1 => ?_) (fun c_1 => ?_)
      · refine lv_iconst (v := 1) hx hb dX3_successor_25 (by decide) ?_
        refine va_put (D := G.1) (ci := 2) (v := .int 1) (ty := .int) (C := RX3) (T := TX3) (N := 13) hx hb hts uX3 tyX3 tyX3_ok nmX3 hown hK hP hD hS 0 rfl rfl 0 (by decide) (hts (.fieldLink RX3 41 "ChordOverlayModel" "thrown" "I") (by decide +kernel)) (fun _ h9 => h9) rfl (by decide +kernel) rfl rfl (Nat.le_of_ble_eq_true rfl) dX3_successor_26 (fun H locs hP hD hS => ?_)
        have hP : pG G (wM G b (va_up μ 0 (fun _ => 1))) H := hP
        have hD : va_D A (wM G b (va_up μ 0 (fun _ => 1))) := hD
        have hz_2 : Rl Z σ (va_up μ 0 (fun _ => 1)) := Rl.s0 (f := fun _ => 1) hR
        refine lv_aload_n hx hb dX3_successor_29 rfl (lv_at hl 0 rfl) ?_
        refine va_get (D := G.1) (ci := 2) (v := .int 1) (C := RX3) (T := TX3) (N := 13) hx hb hts uX3 hown hK hP 0 rfl rfl 0 (by decide) (hts (.fieldLink RX3 41 "ChordOverlayModel" "thrown" "I") (by decide +kernel)) (fun _ h9 => h9) rfl dX3_successor_30 ?_
        refine lv_if_ne (tgt := 49) hx hb dX3_successor_33 (by decide) (fun c_3 => ?_) (fun c_3 => ?_)
        · refine lv_iconst (v := 0) hx hb dX3_successor_49 (by decide) ?_
          exact co_endI (va_up μ 0 (fun _ => 1)) S hr hlocks dX3_successor_50 hK hP hD hS (by have hcd : cdP σ x (nI q) 2 = 1 := (by simp only [cdP, hon0, show okR (nI q) 0 2 = true from okR_rg (N := 2) hq0 (by decide), c_1, c_3, eq_self, Bool.false_eq_true, ite_self, ↓reduceIte]); exact ⟨by rw [hcd]; exact rfl, fun h => absurd (hcd.symm.trans h) (by decide), fun _ => hz_2⟩)
        · exact absurd c_3 (by decide)
      · exact absurd (c_1.symm.trans hin0) (by decide)
    · refine co_bodyI (cc := cX3_successor) (maxL := 3) (ret := (some .int)) (by decide) rfl (Nat.le_of_ble_eq_true rfl) ?_
      intro p e s m args below meth c S hr hlocks hK A hA hP hD hS ls hl
      have S : CallFix p m c cX3_successor 3 s args wsX3_successor RX3 := S
      obtain ⟨hx, hb, hml, hown, hts⟩ := id S
      have hl : lv_has ls 3 [(0, .ref (b 0)), (1, .int x), (2, .int i)] := hl
      have uX3 := uX3_X3_successor
      refine lv_aload_n hx hb dX3_successor_0 rfl (lv_at hl 0 rfl) ?_
      refine lv_iload_n hx hb dX3_successor_1 rfl (lv_at hl 1 rfl) ?_
      refine co_rS (As := [.int x]) (rest := [.ref (b 0)]) S (c_X3_isId l G x) (va_cwS 1 hts gX3_successor_X3_isId rfl rfl rfl (by decide +kernel) ⟨Nat.le_of_ble_eq_true rfl, Nat.le_of_ble_eq_true rfl⟩) hK (pG_nil) rfl hl.1 rfl (Nat.le_of_ble_eq_true rfl) dX3_successor_2 ⟨Nat.zero_le _, Nat.zero_le _⟩ ?_
      refine co_ifeq (tgt := 25) S dX3_successor_5 (by decide) (fun c_1 => ?_) (fun c_1 => ?_)
      · refine lv_iconst (v := 1) hx hb dX3_successor_25 (by decide) ?_
        refine va_put (D := G.1) (ci := 2) (v := .int 1) (ty := .int) (C := RX3) (T := TX3) (N := 13) hx hb hts uX3 tyX3 tyX3_ok nmX3 hown hK hP hD hS 0 rfl rfl 0 (by decide) (hts (.fieldLink RX3 41 "ChordOverlayModel" "thrown" "I") (by decide +kernel)) (fun _ h9 => h9) rfl (by decide +kernel) rfl rfl (Nat.le_of_ble_eq_true rfl) dX3_successor_26 (fun H locs hP hD hS => ?_)
        have hP : pG G (wM G b (va_up μ 0 (fun _ => 1))) H := hP
        have hD : va_D A (wM G b (va_up μ 0 (fun _ => 1))) := hD
        have hz_2 : Rl Z σ (va_up μ 0 (fun _ => 1)) := Rl.s0 (f := fun _ => 1) hR
        refine lv_aload_n hx hb dX3_successor_29 rfl (lv_at hl 0 rfl) ?_
        refine va_get (D := G.1) (ci := 2) (v := .int 1) (C := RX3) (T := TX3) (N := 13) hx hb hts uX3 hown hK hP 0 rfl rfl 0 (by decide) (hts (.fieldLink RX3 41 "ChordOverlayModel" "thrown" "I") (by decide +kernel)) (fun _ h9 => h9) rfl dX3_successor_30 ?_
        refine lv_if_ne (tgt := 49) hx hb dX3_successor_33 (by decide) (fun c_3 => ?_) (fun c_3 => ?_)
        · refine lv_iconst (v := 0) hx hb dX3_successor_49 (by decide) ?_
          exact co_endI (va_up μ 0 (fun _ => 1)) S hr hlocks dX3_successor_50 hK hP hD hS (by have hcd : cdP σ x i 2 = 1 := (by simp only [cdP, hon0, show okR i 0 2 = false from hoq0, c_1, c_3, eq_self, Bool.false_eq_true, ite_self, ↓reduceIte]); exact ⟨by rw [hcd]; exact rfl, fun h => absurd (hcd.symm.trans h) (by decide), fun _ => hz_2⟩)
        · exact absurd c_3 (by decide)
      · exact absurd (c_1.symm.trans hin0) (by decide)
    · refine co_bodyI (cc := cX3_successor) (maxL := 3) (ret := (some .int)) (by decide) rfl (Nat.le_of_ble_eq_true rfl) ?_
      intro p e s m args below meth c S hr hlocks hK A hA hP hD hS ls hl
      have S : CallFix p m c cX3_successor 3 s args wsX3_successor RX3 := S
      obtain ⟨hx, hb, hml, hown, hts⟩ := id S
      have hl : lv_has ls 3 [(0, .ref (b 0)), (1, .int x), (2, .int i)] := hl
      have uX3 := uX3_X3_successor
      refine lv_aload_n hx hb dX3_successor_0 rfl (lv_at hl 0 rfl) ?_
      refine lv_iload_n hx hb dX3_successor_1 rfl (lv_at hl 1 rfl) ?_
      refine co_rS (As := [.int x]) (rest := [.ref (b 0)]) S (c_X3_isId l G x) (va_cwS 1 hts gX3_successor_X3_isId rfl rfl rfl (by decide +kernel) ⟨Nat.le_of_ble_eq_true rfl, Nat.le_of_ble_eq_true rfl⟩) hK (pG_nil) rfl hl.1 rfl (Nat.le_of_ble_eq_true rfl) dX3_successor_2 ⟨Nat.zero_le _, Nat.zero_le _⟩ ?_
      refine co_ifeq (tgt := 25) S dX3_successor_5 (by decide) (fun c_1 => ?_) (fun c_1 => ?_)
      · refine lv_iconst (v := 1) hx hb dX3_successor_25 (by decide) ?_
        refine va_put (D := G.1) (ci := 2) (v := .int 1) (ty := .int) (C := RX3) (T := TX3) (N := 13) hx hb hts uX3 tyX3 tyX3_ok nmX3 hown hK hP hD hS 0 rfl rfl 0 (by decide) (hts (.fieldLink RX3 41 "ChordOverlayModel" "thrown" "I") (by decide +kernel)) (fun _ h9 => h9) rfl (by decide +kernel) rfl rfl (Nat.le_of_ble_eq_true rfl) dX3_successor_26 (fun H locs hP hD hS => ?_)
        have hP : pG G (wM G b (va_up μ 0 (fun _ => 1))) H := hP
        have hD : va_D A (wM G b (va_up μ 0 (fun _ => 1))) := hD
        have hz_2 : Rl Z σ (va_up μ 0 (fun _ => 1)) := Rl.s0 (f := fun _ => 1) hR
        refine lv_aload_n hx hb dX3_successor_29 rfl (lv_at hl 0 rfl) ?_
        refine va_get (D := G.1) (ci := 2) (v := .int 1) (C := RX3) (T := TX3) (N := 13) hx hb hts uX3 hown hK hP 0 rfl rfl 0 (by decide) (hts (.fieldLink RX3 41 "ChordOverlayModel" "thrown" "I") (by decide +kernel)) (fun _ h9 => h9) rfl dX3_successor_30 ?_
        refine lv_if_ne (tgt := 49) hx hb dX3_successor_33 (by decide) (fun c_3 => ?_) (fun c_3 => ?_)
        · refine lv_iconst (v := 0) hx hb dX3_successor_49 (by decide) ?_
          exact co_endI (va_up μ 0 (fun _ => 1)) S hr hlocks dX3_successor_50 hK hP hD hS (by have hcd : cdP σ x i 2 = 1 := (by simp only [cdP, hon0, show okR i 0 2 = false from hoq0, c_1, c_3, eq_self, Bool.false_eq_true, ite_self, ↓reduceIte]); exact ⟨by rw [hcd]; exact rfl, fun h => absurd (hcd.symm.trans h) (by decide), fun _ => hz_2⟩)
        · exact absurd c_3 (by decide)
      · exact absurd (c_1.symm.trans hin0) (by decide)

set_option maxRecDepth 20000 in
theorem uX3_X3_finger : ∀ w ∈ u_ws RX3 TX3 13, w ∈ wsX3_finger := by decide +kernel
abbrev rm_X3_finger : Room := { frames := 2, cells := 0, slots := 0, locals := 41 }
set_option maxHeartbeats 4000000 in
set_option maxRecDepth 100000 in
theorem c_X3_finger (l : Launch) (G : cG) (Z : Nat) (b : Nat → Nat) (σ μ : cS) (hR : Rl Z σ μ) (x : Int32) (i : Int32) : MetI l yX3_finger wsX3_finger rm_X3_finger G (wM G b μ) [.ref (b 0), .int x, .int i] (fun u : cS => wM G b u) (fun r u => u 0 0 = nI (cdP σ x i 5) ∧ (cdP σ x i 5 = 0 → r = tat 6 (σ 3) x i ∧ Rl Z σ u) ∧ (cdP σ x i 5 ≠ 0 → Rl Z σ u)) := by
  rcases id_or x with ⟨n, hn0, rfl⟩ | ⟨hin0, hon0⟩
  · rcases rg_or i (N := 5) (by decide) with ⟨q, hq0, rfl⟩ | ⟨hzq0, hoq0⟩ | ⟨hzq0, hyq0, hoq0⟩
    · cases haln : alv (σ 0) (nI n) with
      | false =>
        refine co_bodyI (cc := cX3_finger) (maxL := 3) (ret := (some .int)) (by decide) rfl (Nat.le_of_ble_eq_true rfl) ?_
        intro p e s m args below meth c S hr hlocks hK A hA hP hD hS ls hl
        have S : CallFix p m c cX3_finger 3 s args wsX3_finger RX3 := S
        obtain ⟨hx, hb, hml, hown, hts⟩ := id S
        have hl : lv_has ls 3 [(0, .ref (b 0)), (1, .int (nI n)), (2, .int (nI q))] := hl
        have uX3 := uX3_X3_finger
        refine lv_aload_n hx hb dX3_finger_0 rfl (lv_at hl 0 rfl) ?_
        refine lv_iload_n hx hb dX3_finger_1 rfl (lv_at hl 1 rfl) ?_
        refine co_rS (As := [.int (nI n)]) (rest := [.ref (b 0)]) S (c_X3_isId l G (nI n)) (va_cwS 1 hts gX3_finger_X3_isId rfl rfl rfl (by decide +kernel) ⟨Nat.le_of_ble_eq_true rfl, Nat.le_of_ble_eq_true rfl⟩) hK (pG_nil) rfl hl.1 rfl (Nat.le_of_ble_eq_true rfl) dX3_finger_2 ⟨Nat.zero_le _, Nat.zero_le _⟩ ?_
        refine co_ifeq (tgt := 26) S dX3_finger_5 (by decide) (fun c_1 => ?_) (fun c_1 => ?_)
        · exact absurd (c_1.symm.trans (idB_nI hn0)) (by decide)
        · refine lv_iload_n hx hb dX3_finger_8 rfl (lv_at hl 2 rfl) ?_
          refine lv_if_lt (tgt := 26) hx hb dX3_finger_9 (by decide) (fun c_2 => ?_) (fun c_2 => ?_)
          · exact absurd c_2 (nI_pos (by omega))
          · refine lv_iload_n hx hb dX3_finger_12 rfl (lv_at hl 2 rfl) ?_
            refine lv_bipush (v := 6) hx hb dX3_finger_13 (by decide) ?_
            refine lv_icmp_ge (tgt := 26) hx hb dX3_finger_15 (by decide) (fun c_3 => ?_) (fun c_3 => ?_)
            · exact absurd c_3 (nI_ge (a := q) (b := 6) (by omega) (by decide))
            · refine lv_aload_n hx hb dX3_finger_18 rfl (lv_at hl 0 rfl) ?_
              refine lv_iload_n hx hb dX3_finger_19 rfl (lv_at hl 1 rfl) ?_
              refine co_rV (As := [.int (nI n)]) (rest := [.ref (b 0)]) S (c_X3_refuses l G Z b σ μ hR (nI n)) (cwV 1 hts gX3_finger_X3_refuses rfl rfl rfl (by decide +kernel) ⟨Nat.le_of_ble_eq_true rfl, Nat.le_of_ble_eq_true rfl⟩) hK hP (va_recv hK hP (ci := 2) (q0 := 0) rfl rfl) rfl hl.1 rfl (Nat.le_of_ble_eq_true rfl) dX3_finger_20 ⟨Nat.zero_le _, Nat.zero_le _⟩ ?_
              refine co_eq (show nI (cdA σ (nI n)) = 2 from congrArg nI (show cdA σ (nI n) = 2 by simp only [cdA, okR_id hn0, show okR (nI q) 0 5 = true from okR_rg (N := 5) hq0 (by decide), haln, eq_self, Bool.false_eq_true, ite_self, ↓reduceIte])) ?_
              refine lv_goto (tgt := 27) hx hb dX3_finger_23 (by decide) ?_
              refine va_put (D := G.1) (ci := 2) (v := .int 2) (ty := .int) (C := RX3) (T := TX3) (N := 13) hx hb hts uX3 tyX3 tyX3_ok nmX3 hown hK hP hD hS 0 rfl rfl 0 (by decide) (hts (.fieldLink RX3 41 "ChordOverlayModel" "thrown" "I") (by decide +kernel)) (fun _ h9 => h9) rfl (by decide +kernel) rfl rfl (Nat.le_of_ble_eq_true rfl) dX3_finger_27 (fun H locs hP hD hS => ?_)
              have hP : pG G (wM G b (va_up μ 0 (fun _ => 2))) H := hP
              have hD : va_D A (wM G b (va_up μ 0 (fun _ => 2))) := hD
              have hz_4 : Rl Z σ (va_up μ 0 (fun _ => 2)) := Rl.s0 (f := fun _ => 2) hR
              refine lv_aload_n hx hb dX3_finger_30 rfl (lv_at hl 0 rfl) ?_
              refine va_get (D := G.1) (ci := 2) (v := .int 2) (C := RX3) (T := TX3) (N := 13) hx hb hts uX3 hown hK hP 0 rfl rfl 0 (by decide) (hts (.fieldLink RX3 41 "ChordOverlayModel" "thrown" "I") (by decide +kernel)) (fun _ h9 => h9) rfl dX3_finger_31 ?_
              refine lv_if_ne (tgt := 51) hx hb dX3_finger_34 (by decide) (fun c_5 => ?_) (fun c_5 => ?_)
              · refine lv_iconst (v := 0) hx hb dX3_finger_51 (by decide) ?_
                exact co_endI (va_up μ 0 (fun _ => 2)) S hr hlocks dX3_finger_52 hK hP hD hS (by have hcd : cdP σ (nI n) (nI q) 5 = 2 := (by simp only [cdP, okR_id hn0, show okR (nI q) 0 5 = true from okR_rg (N := 5) hq0 (by decide), haln, c_1, c_2, c_3, c_5, eq_self, Bool.false_eq_true, ite_self, ↓reduceIte]); exact ⟨by rw [hcd]; exact rfl, fun h => absurd (hcd.symm.trans h) (by decide), fun _ => hz_4⟩)
              · exact absurd c_5 (by decide)
      | true =>
        refine co_bodyI (cc := cX3_finger) (maxL := 3) (ret := (some .int)) (by decide) rfl (Nat.le_of_ble_eq_true rfl) ?_
        intro p e s m args below meth c S hr hlocks hK A hA hP hD hS ls hl
        have S : CallFix p m c cX3_finger 3 s args wsX3_finger RX3 := S
        obtain ⟨hx, hb, hml, hown, hts⟩ := id S
        have hl : lv_has ls 3 [(0, .ref (b 0)), (1, .int (nI n)), (2, .int (nI q))] := hl
        have uX3 := uX3_X3_finger
        refine lv_aload_n hx hb dX3_finger_0 rfl (lv_at hl 0 rfl) ?_
        refine lv_iload_n hx hb dX3_finger_1 rfl (lv_at hl 1 rfl) ?_
        refine co_rS (As := [.int (nI n)]) (rest := [.ref (b 0)]) S (c_X3_isId l G (nI n)) (va_cwS 1 hts gX3_finger_X3_isId rfl rfl rfl (by decide +kernel) ⟨Nat.le_of_ble_eq_true rfl, Nat.le_of_ble_eq_true rfl⟩) hK (pG_nil) rfl hl.1 rfl (Nat.le_of_ble_eq_true rfl) dX3_finger_2 ⟨Nat.zero_le _, Nat.zero_le _⟩ ?_
        refine co_ifeq (tgt := 26) S dX3_finger_5 (by decide) (fun c_1 => ?_) (fun c_1 => ?_)
        · exact absurd (c_1.symm.trans (idB_nI hn0)) (by decide)
        · refine lv_iload_n hx hb dX3_finger_8 rfl (lv_at hl 2 rfl) ?_
          refine lv_if_lt (tgt := 26) hx hb dX3_finger_9 (by decide) (fun c_2 => ?_) (fun c_2 => ?_)
          · exact absurd c_2 (nI_pos (by omega))
          · refine lv_iload_n hx hb dX3_finger_12 rfl (lv_at hl 2 rfl) ?_
            refine lv_bipush (v := 6) hx hb dX3_finger_13 (by decide) ?_
            refine lv_icmp_ge (tgt := 26) hx hb dX3_finger_15 (by decide) (fun c_3 => ?_) (fun c_3 => ?_)
            · exact absurd c_3 (nI_ge (a := q) (b := 6) (by omega) (by decide))
            · refine lv_aload_n hx hb dX3_finger_18 rfl (lv_at hl 0 rfl) ?_
              refine lv_iload_n hx hb dX3_finger_19 rfl (lv_at hl 1 rfl) ?_
              refine co_rV (As := [.int (nI n)]) (rest := [.ref (b 0)]) S (c_X3_refuses l G Z b σ μ hR (nI n)) (cwV 1 hts gX3_finger_X3_refuses rfl rfl rfl (by decide +kernel) ⟨Nat.le_of_ble_eq_true rfl, Nat.le_of_ble_eq_true rfl⟩) hK hP (va_recv hK hP (ci := 2) (q0 := 0) rfl rfl) rfl hl.1 rfl (Nat.le_of_ble_eq_true rfl) dX3_finger_20 ⟨Nat.zero_le _, Nat.zero_le _⟩ ?_
              refine co_eq (show nI (cdA σ (nI n)) = 0 from congrArg nI (show cdA σ (nI n) = 0 by simp only [cdA, okR_id hn0, show okR (nI q) 0 5 = true from okR_rg (N := 5) hq0 (by decide), haln, eq_self, Bool.false_eq_true, ite_self, ↓reduceIte])) ?_
              refine lv_goto (tgt := 27) hx hb dX3_finger_23 (by decide) ?_
              refine va_put (D := G.1) (ci := 2) (v := .int 0) (ty := .int) (C := RX3) (T := TX3) (N := 13) hx hb hts uX3 tyX3 tyX3_ok nmX3 hown hK hP hD hS 0 rfl rfl 0 (by decide) (hts (.fieldLink RX3 41 "ChordOverlayModel" "thrown" "I") (by decide +kernel)) (fun _ h9 => h9) rfl (by decide +kernel) rfl rfl (Nat.le_of_ble_eq_true rfl) dX3_finger_27 (fun H locs hP hD hS => ?_)
              have hP : pG G (wM G b (va_up μ 0 (fun _ => 0))) H := hP
              have hD : va_D A (wM G b (va_up μ 0 (fun _ => 0))) := hD
              have hz_4 : Rl Z σ (va_up μ 0 (fun _ => 0)) := Rl.s0 (f := fun _ => 0) hR
              refine lv_aload_n hx hb dX3_finger_30 rfl (lv_at hl 0 rfl) ?_
              refine va_get (D := G.1) (ci := 2) (v := .int 0) (C := RX3) (T := TX3) (N := 13) hx hb hts uX3 hown hK hP 0 rfl rfl 0 (by decide) (hts (.fieldLink RX3 41 "ChordOverlayModel" "thrown" "I") (by decide +kernel)) (fun _ h9 => h9) rfl dX3_finger_31 ?_
              refine lv_if_ne (tgt := 51) hx hb dX3_finger_34 (by decide) (fun c_5 => ?_) (fun c_5 => ?_)
              · exact absurd (by decide) c_5
              · refine lv_aload_n hx hb dX3_finger_37 rfl (lv_at hl 0 rfl) ?_
                refine va_get (D := G.1) (ci := 2) (v := .ref (b 4)) (C := RX3) (T := TX3) (N := 13) hx hb hts uX3 hown hK hP 0 rfl rfl 5 (by decide) (hts (.fieldLink RX3 20 "ChordOverlayModel" "finger" "[I") (by decide +kernel)) (fun _ h9 => h9) rfl dX3_finger_38 ?_
                refine lv_bipush (v := 6) hx hb dX3_finger_41 (by decide) ?_
                refine lv_iload_n hx hb dX3_finger_43 rfl (lv_at hl 1 rfl) ?_
                refine lv_imul hx hb dX3_finger_44 ?_
                refine lv_iload_n hx hb dX3_finger_45 rfl (lv_at hl 2 rfl) ?_
                refine lv_iadd hx hb dX3_finger_46 ?_
                refine va_iald hx hb hK hP 4 0 rfl rfl (vi_w (w := 6) (p := q) (by decide) hn0 hq0) dX3_finger_47 ?_
                rcases rl_f hz_4 ⟨hn0, haln⟩ q hq0 with ⟨ej_6, mj_6⟩ | ⟨j_6, hj_6, ej_6, mj_6⟩
                · have ej_6 : tat 6 (σ 3) (nI n) (nI q) = (-1) := ej_6
                  refine co_eq mj_6 ?_
                  refine lv_goto (tgt := 52) hx hb dX3_finger_48 (by decide) ?_
                  exact co_endI (va_up μ 0 (fun _ => 0)) S hr hlocks dX3_finger_52 hK hP hD hS (by have hcd : cdP σ (nI n) (nI q) 5 = 0 := (by simp only [cdP, okR_id hn0, show okR (nI q) 0 5 = true from okR_rg (N := 5) hq0 (by decide), haln, c_1, c_2, c_3, (eq_true c_5), eq_self, Bool.false_eq_true, ite_self, ↓reduceIte]); exact ⟨by rw [hcd]; exact rfl, fun _ => ⟨by first | with_reducible rfl | with_reducible assumption | simp only [ej_6, c_1, c_2, c_3, (eq_true c_5), okR_id hn0, show okR (nI q) 0 5 = true from okR_rg (N := 5) hq0 (by decide), haln, eq_self, Bool.false_eq_true, ite_self, ↓reduceIte], by exact hz_4⟩, fun h => absurd hcd h⟩)
                · have ej_6 : tat 6 (σ 3) (nI n) (nI q) = (nI j_6) := ej_6
                  refine co_eq mj_6 ?_
                  refine lv_goto (tgt := 52) hx hb dX3_finger_48 (by decide) ?_
                  exact co_endI (va_up μ 0 (fun _ => 0)) S hr hlocks dX3_finger_52 hK hP hD hS (by have hcd : cdP σ (nI n) (nI q) 5 = 0 := (by simp only [cdP, okR_id hn0, show okR (nI q) 0 5 = true from okR_rg (N := 5) hq0 (by decide), haln, c_1, c_2, c_3, (eq_true c_5), eq_self, Bool.false_eq_true, ite_self, ↓reduceIte]); exact ⟨by rw [hcd]; exact rfl, fun _ => ⟨by first | with_reducible rfl | with_reducible assumption | simp only [ej_6, c_1, c_2, c_3, (eq_true c_5), okR_id hn0, show okR (nI q) 0 5 = true from okR_rg (N := 5) hq0 (by decide), haln, nI_nem hj_6, eq_self, Bool.false_eq_true, ite_self, ↓reduceIte], by exact hz_4⟩, fun h => absurd hcd h⟩)
    · cases haln : alv (σ 0) (nI n) with
      | false =>
        refine co_bodyI (cc := cX3_finger) (maxL := 3) (ret := (some .int)) (by decide) rfl (Nat.le_of_ble_eq_true rfl) ?_
        intro p e s m args below meth c S hr hlocks hK A hA hP hD hS ls hl
        have S : CallFix p m c cX3_finger 3 s args wsX3_finger RX3 := S
        obtain ⟨hx, hb, hml, hown, hts⟩ := id S
        have hl : lv_has ls 3 [(0, .ref (b 0)), (1, .int (nI n)), (2, .int i)] := hl
        have uX3 := uX3_X3_finger
        refine lv_aload_n hx hb dX3_finger_0 rfl (lv_at hl 0 rfl) ?_
        refine lv_iload_n hx hb dX3_finger_1 rfl (lv_at hl 1 rfl) ?_
        refine co_rS (As := [.int (nI n)]) (rest := [.ref (b 0)]) S (c_X3_isId l G (nI n)) (va_cwS 1 hts gX3_finger_X3_isId rfl rfl rfl (by decide +kernel) ⟨Nat.le_of_ble_eq_true rfl, Nat.le_of_ble_eq_true rfl⟩) hK (pG_nil) rfl hl.1 rfl (Nat.le_of_ble_eq_true rfl) dX3_finger_2 ⟨Nat.zero_le _, Nat.zero_le _⟩ ?_
        refine co_ifeq (tgt := 26) S dX3_finger_5 (by decide) (fun c_1 => ?_) (fun c_1 => ?_)
        · exact absurd (c_1.symm.trans (idB_nI hn0)) (by decide)
        · refine lv_iload_n hx hb dX3_finger_8 rfl (lv_at hl 2 rfl) ?_
          refine lv_if_lt (tgt := 26) hx hb dX3_finger_9 (by decide) (fun c_2 => ?_) (fun c_2 => ?_)
          · refine lv_iconst (v := 1) hx hb dX3_finger_26 (by decide) ?_
            refine va_put (D := G.1) (ci := 2) (v := .int 1) (ty := .int) (C := RX3) (T := TX3) (N := 13) hx hb hts uX3 tyX3 tyX3_ok nmX3 hown hK hP hD hS 0 rfl rfl 0 (by decide) (hts (.fieldLink RX3 41 "ChordOverlayModel" "thrown" "I") (by decide +kernel)) (fun _ h9 => h9) rfl (by decide +kernel) rfl rfl (Nat.le_of_ble_eq_true rfl) dX3_finger_27 (fun H locs hP hD hS => ?_)
            have hP : pG G (wM G b (va_up μ 0 (fun _ => 1))) H := hP
            have hD : va_D A (wM G b (va_up μ 0 (fun _ => 1))) := hD
            have hz_3 : Rl Z σ (va_up μ 0 (fun _ => 1)) := Rl.s0 (f := fun _ => 1) hR
            refine lv_aload_n hx hb dX3_finger_30 rfl (lv_at hl 0 rfl) ?_
            refine va_get (D := G.1) (ci := 2) (v := .int 1) (C := RX3) (T := TX3) (N := 13) hx hb hts uX3 hown hK hP 0 rfl rfl 0 (by decide) (hts (.fieldLink RX3 41 "ChordOverlayModel" "thrown" "I") (by decide +kernel)) (fun _ h9 => h9) rfl dX3_finger_31 ?_
            refine lv_if_ne (tgt := 51) hx hb dX3_finger_34 (by decide) (fun c_4 => ?_) (fun c_4 => ?_)
            · refine lv_iconst (v := 0) hx hb dX3_finger_51 (by decide) ?_
              exact co_endI (va_up μ 0 (fun _ => 1)) S hr hlocks dX3_finger_52 hK hP hD hS (by have hcd : cdP σ (nI n) i 5 = 1 := (by simp only [cdP, okR_id hn0, show okR i 0 5 = false from hoq0, haln, c_1, c_2, c_4, eq_self, Bool.false_eq_true, ite_self, ↓reduceIte]); exact ⟨by rw [hcd]; exact rfl, fun h => absurd (hcd.symm.trans h) (by decide), fun _ => hz_3⟩)
            · exact absurd c_4 (by decide)
          · exact absurd hzq0 c_2
      | true =>
        refine co_bodyI (cc := cX3_finger) (maxL := 3) (ret := (some .int)) (by decide) rfl (Nat.le_of_ble_eq_true rfl) ?_
        intro p e s m args below meth c S hr hlocks hK A hA hP hD hS ls hl
        have S : CallFix p m c cX3_finger 3 s args wsX3_finger RX3 := S
        obtain ⟨hx, hb, hml, hown, hts⟩ := id S
        have hl : lv_has ls 3 [(0, .ref (b 0)), (1, .int (nI n)), (2, .int i)] := hl
        have uX3 := uX3_X3_finger
        refine lv_aload_n hx hb dX3_finger_0 rfl (lv_at hl 0 rfl) ?_
        refine lv_iload_n hx hb dX3_finger_1 rfl (lv_at hl 1 rfl) ?_
        refine co_rS (As := [.int (nI n)]) (rest := [.ref (b 0)]) S (c_X3_isId l G (nI n)) (va_cwS 1 hts gX3_finger_X3_isId rfl rfl rfl (by decide +kernel) ⟨Nat.le_of_ble_eq_true rfl, Nat.le_of_ble_eq_true rfl⟩) hK (pG_nil) rfl hl.1 rfl (Nat.le_of_ble_eq_true rfl) dX3_finger_2 ⟨Nat.zero_le _, Nat.zero_le _⟩ ?_
        refine co_ifeq (tgt := 26) S dX3_finger_5 (by decide) (fun c_1 => ?_) (fun c_1 => ?_)
        · exact absurd (c_1.symm.trans (idB_nI hn0)) (by decide)
        · refine lv_iload_n hx hb dX3_finger_8 rfl (lv_at hl 2 rfl) ?_
          refine lv_if_lt (tgt := 26) hx hb dX3_finger_9 (by decide) (fun c_2 => ?_) (fun c_2 => ?_)
          · refine lv_iconst (v := 1) hx hb dX3_finger_26 (by decide) ?_
            refine va_put (D := G.1) (ci := 2) (v := .int 1) (ty := .int) (C := RX3) (T := TX3) (N := 13) hx hb hts uX3 tyX3 tyX3_ok nmX3 hown hK hP hD hS 0 rfl rfl 0 (by decide) (hts (.fieldLink RX3 41 "ChordOverlayModel" "thrown" "I") (by decide +kernel)) (fun _ h9 => h9) rfl (by decide +kernel) rfl rfl (Nat.le_of_ble_eq_true rfl) dX3_finger_27 (fun H locs hP hD hS => ?_)
            have hP : pG G (wM G b (va_up μ 0 (fun _ => 1))) H := hP
            have hD : va_D A (wM G b (va_up μ 0 (fun _ => 1))) := hD
            have hz_3 : Rl Z σ (va_up μ 0 (fun _ => 1)) := Rl.s0 (f := fun _ => 1) hR
            refine lv_aload_n hx hb dX3_finger_30 rfl (lv_at hl 0 rfl) ?_
            refine va_get (D := G.1) (ci := 2) (v := .int 1) (C := RX3) (T := TX3) (N := 13) hx hb hts uX3 hown hK hP 0 rfl rfl 0 (by decide) (hts (.fieldLink RX3 41 "ChordOverlayModel" "thrown" "I") (by decide +kernel)) (fun _ h9 => h9) rfl dX3_finger_31 ?_
            refine lv_if_ne (tgt := 51) hx hb dX3_finger_34 (by decide) (fun c_4 => ?_) (fun c_4 => ?_)
            · refine lv_iconst (v := 0) hx hb dX3_finger_51 (by decide) ?_
              exact co_endI (va_up μ 0 (fun _ => 1)) S hr hlocks dX3_finger_52 hK hP hD hS (by have hcd : cdP σ (nI n) i 5 = 1 := (by simp only [cdP, okR_id hn0, show okR i 0 5 = false from hoq0, haln, c_1, c_2, c_4, eq_self, Bool.false_eq_true, ite_self, ↓reduceIte]); exact ⟨by rw [hcd]; exact rfl, fun h => absurd (hcd.symm.trans h) (by decide), fun _ => hz_3⟩)
            · exact absurd c_4 (by decide)
          · exact absurd hzq0 c_2
    · cases haln : alv (σ 0) (nI n) with
      | false =>
        refine co_bodyI (cc := cX3_finger) (maxL := 3) (ret := (some .int)) (by decide) rfl (Nat.le_of_ble_eq_true rfl) ?_
        intro p e s m args below meth c S hr hlocks hK A hA hP hD hS ls hl
        have S : CallFix p m c cX3_finger 3 s args wsX3_finger RX3 := S
        obtain ⟨hx, hb, hml, hown, hts⟩ := id S
        have hl : lv_has ls 3 [(0, .ref (b 0)), (1, .int (nI n)), (2, .int i)] := hl
        have uX3 := uX3_X3_finger
        refine lv_aload_n hx hb dX3_finger_0 rfl (lv_at hl 0 rfl) ?_
        refine lv_iload_n hx hb dX3_finger_1 rfl (lv_at hl 1 rfl) ?_
        refine co_rS (As := [.int (nI n)]) (rest := [.ref (b 0)]) S (c_X3_isId l G (nI n)) (va_cwS 1 hts gX3_finger_X3_isId rfl rfl rfl (by decide +kernel) ⟨Nat.le_of_ble_eq_true rfl, Nat.le_of_ble_eq_true rfl⟩) hK (pG_nil) rfl hl.1 rfl (Nat.le_of_ble_eq_true rfl) dX3_finger_2 ⟨Nat.zero_le _, Nat.zero_le _⟩ ?_
        refine co_ifeq (tgt := 26) S dX3_finger_5 (by decide) (fun c_1 => ?_) (fun c_1 => ?_)
        · exact absurd (c_1.symm.trans (idB_nI hn0)) (by decide)
        · refine lv_iload_n hx hb dX3_finger_8 rfl (lv_at hl 2 rfl) ?_
          refine lv_if_lt (tgt := 26) hx hb dX3_finger_9 (by decide) (fun c_2 => ?_) (fun c_2 => ?_)
          · exact absurd c_2 hzq0
          · refine lv_iload_n hx hb dX3_finger_12 rfl (lv_at hl 2 rfl) ?_
            refine lv_bipush (v := 6) hx hb dX3_finger_13 (by decide) ?_
            refine lv_icmp_ge (tgt := 26) hx hb dX3_finger_15 (by decide) (fun c_3 => ?_) (fun c_3 => ?_)
            · refine lv_iconst (v := 1) hx hb dX3_finger_26 (by decide) ?_
              refine va_put (D := G.1) (ci := 2) (v := .int 1) (ty := .int) (C := RX3) (T := TX3) (N := 13) hx hb hts uX3 tyX3 tyX3_ok nmX3 hown hK hP hD hS 0 rfl rfl 0 (by decide) (hts (.fieldLink RX3 41 "ChordOverlayModel" "thrown" "I") (by decide +kernel)) (fun _ h9 => h9) rfl (by decide +kernel) rfl rfl (Nat.le_of_ble_eq_true rfl) dX3_finger_27 (fun H locs hP hD hS => ?_)
              have hP : pG G (wM G b (va_up μ 0 (fun _ => 1))) H := hP
              have hD : va_D A (wM G b (va_up μ 0 (fun _ => 1))) := hD
              have hz_4 : Rl Z σ (va_up μ 0 (fun _ => 1)) := Rl.s0 (f := fun _ => 1) hR
              refine lv_aload_n hx hb dX3_finger_30 rfl (lv_at hl 0 rfl) ?_
              refine va_get (D := G.1) (ci := 2) (v := .int 1) (C := RX3) (T := TX3) (N := 13) hx hb hts uX3 hown hK hP 0 rfl rfl 0 (by decide) (hts (.fieldLink RX3 41 "ChordOverlayModel" "thrown" "I") (by decide +kernel)) (fun _ h9 => h9) rfl dX3_finger_31 ?_
              refine lv_if_ne (tgt := 51) hx hb dX3_finger_34 (by decide) (fun c_5 => ?_) (fun c_5 => ?_)
              · refine lv_iconst (v := 0) hx hb dX3_finger_51 (by decide) ?_
                exact co_endI (va_up μ 0 (fun _ => 1)) S hr hlocks dX3_finger_52 hK hP hD hS (by have hcd : cdP σ (nI n) i 5 = 1 := (by simp only [cdP, okR_id hn0, show okR i 0 5 = false from hoq0, haln, c_1, c_2, c_3, c_5, eq_self, Bool.false_eq_true, ite_self, ↓reduceIte]); exact ⟨by rw [hcd]; exact rfl, fun h => absurd (hcd.symm.trans h) (by decide), fun _ => hz_4⟩)
              · exact absurd c_5 (by decide)
            · exact absurd (show (6 : Int32) ≤ i from hyq0) c_3
      | true =>
        refine co_bodyI (cc := cX3_finger) (maxL := 3) (ret := (some .int)) (by decide) rfl (Nat.le_of_ble_eq_true rfl) ?_
        intro p e s m args below meth c S hr hlocks hK A hA hP hD hS ls hl
        have S : CallFix p m c cX3_finger 3 s args wsX3_finger RX3 := S
        obtain ⟨hx, hb, hml, hown, hts⟩ := id S
        have hl : lv_has ls 3 [(0, .ref (b 0)), (1, .int (nI n)), (2, .int i)] := hl
        have uX3 := uX3_X3_finger
        refine lv_aload_n hx hb dX3_finger_0 rfl (lv_at hl 0 rfl) ?_
        refine lv_iload_n hx hb dX3_finger_1 rfl (lv_at hl 1 rfl) ?_
        refine co_rS (As := [.int (nI n)]) (rest := [.ref (b 0)]) S (c_X3_isId l G (nI n)) (va_cwS 1 hts gX3_finger_X3_isId rfl rfl rfl (by decide +kernel) ⟨Nat.le_of_ble_eq_true rfl, Nat.le_of_ble_eq_true rfl⟩) hK (pG_nil) rfl hl.1 rfl (Nat.le_of_ble_eq_true rfl) dX3_finger_2 ⟨Nat.zero_le _, Nat.zero_le _⟩ ?_
        refine co_ifeq (tgt := 26) S dX3_finger_5 (by decide) (fun c_1 => ?_) (fun c_1 => ?_)
        · exact absurd (c_1.symm.trans (idB_nI hn0)) (by decide)
        · refine lv_iload_n hx hb dX3_finger_8 rfl (lv_at hl 2 rfl) ?_
          refine lv_if_lt (tgt := 26) hx hb dX3_finger_9 (by decide) (fun c_2 => ?_) (fun c_2 => ?_)
          · exact absurd c_2 hzq0
          · refine lv_iload_n hx hb dX3_finger_12 rfl (lv_at hl 2 rfl) ?_
            refine lv_bipush (v := 6) hx hb dX3_finger_13 (by decide) ?_
            refine lv_icmp_ge (tgt := 26) hx hb dX3_finger_15 (by decide) (fun c_3 => ?_) (fun c_3 => ?_)
            · refine lv_iconst (v := 1) hx hb dX3_finger_26 (by decide) ?_
              refine va_put (D := G.1) (ci := 2) (v := .int 1) (ty := .int) (C := RX3) (T := TX3) (N := 13) hx hb hts uX3 tyX3 tyX3_ok nmX3 hown hK hP hD hS 0 rfl rfl 0 (by decide) (hts (.fieldLink RX3 41 "ChordOverlayModel" "thrown" "I") (by decide +kernel)) (fun _ h9 => h9) rfl (by decide +kernel) rfl rfl (Nat.le_of_ble_eq_true rfl) dX3_finger_27 (fun H locs hP hD hS => ?_)
              have hP : pG G (wM G b (va_up μ 0 (fun _ => 1))) H := hP
              have hD : va_D A (wM G b (va_up μ 0 (fun _ => 1))) := hD
              have hz_4 : Rl Z σ (va_up μ 0 (fun _ => 1)) := Rl.s0 (f := fun _ => 1) hR
              refine lv_aload_n hx hb dX3_finger_30 rfl (lv_at hl 0 rfl) ?_
              refine va_get (D := G.1) (ci := 2) (v := .int 1) (C := RX3) (T := TX3) (N := 13) hx hb hts uX3 hown hK hP 0 rfl rfl 0 (by decide) (hts (.fieldLink RX3 41 "ChordOverlayModel" "thrown" "I") (by decide +kernel)) (fun _ h9 => h9) rfl dX3_finger_31 ?_
              refine lv_if_ne (tgt := 51) hx hb dX3_finger_34 (by decide) (fun c_5 => ?_) (fun c_5 => ?_)
              · refine lv_iconst (v := 0) hx hb dX3_finger_51 (by decide) ?_
                exact co_endI (va_up μ 0 (fun _ => 1)) S hr hlocks dX3_finger_52 hK hP hD hS (by have hcd : cdP σ (nI n) i 5 = 1 := (by simp only [cdP, okR_id hn0, show okR i 0 5 = false from hoq0, haln, c_1, c_2, c_3, c_5, eq_self, Bool.false_eq_true, ite_self, ↓reduceIte]); exact ⟨by rw [hcd]; exact rfl, fun h => absurd (hcd.symm.trans h) (by decide), fun _ => hz_4⟩)
              · exact absurd c_5 (by decide)
            · exact absurd (show (6 : Int32) ≤ i from hyq0) c_3
  · rcases rg_or i (N := 5) (by decide) with ⟨q, hq0, rfl⟩ | ⟨hzq0, hoq0⟩ | ⟨hzq0, hyq0, hoq0⟩
    · refine co_bodyI (cc := cX3_finger) (maxL := 3) (ret := (some .int)) (by decide) rfl (Nat.le_of_ble_eq_true rfl) ?_
      intro p e s m args below meth c S hr hlocks hK A hA hP hD hS ls hl
      have S : CallFix p m c cX3_finger 3 s args wsX3_finger RX3 := S
      obtain ⟨hx, hb, hml, hown, hts⟩ := id S
      have hl : lv_has ls 3 [(0, .ref (b 0)), (1, .int x), (2, .int (nI q))] := hl
      have uX3 := uX3_X3_finger
      refine lv_aload_n hx hb dX3_finger_0 rfl (lv_at hl 0 rfl) ?_
      refine lv_iload_n hx hb dX3_finger_1 rfl (lv_at hl 1 rfl) ?_
      refine co_rS (As := [.int x]) (rest := [.ref (b 0)]) S (c_X3_isId l G x) (va_cwS 1 hts gX3_finger_X3_isId rfl rfl rfl (by decide +kernel) ⟨Nat.le_of_ble_eq_true rfl, Nat.le_of_ble_eq_true rfl⟩) hK (pG_nil) rfl hl.1 rfl (Nat.le_of_ble_eq_true rfl) dX3_finger_2 ⟨Nat.zero_le _, Nat.zero_le _⟩ ?_
      refine co_ifeq (tgt := 26) S dX3_finger_5 (by decide) (fun c_1 => ?_) (fun c_1 => ?_)
      · refine lv_iconst (v := 1) hx hb dX3_finger_26 (by decide) ?_
        refine va_put (D := G.1) (ci := 2) (v := .int 1) (ty := .int) (C := RX3) (T := TX3) (N := 13) hx hb hts uX3 tyX3 tyX3_ok nmX3 hown hK hP hD hS 0 rfl rfl 0 (by decide) (hts (.fieldLink RX3 41 "ChordOverlayModel" "thrown" "I") (by decide +kernel)) (fun _ h9 => h9) rfl (by decide +kernel) rfl rfl (Nat.le_of_ble_eq_true rfl) dX3_finger_27 (fun H locs hP hD hS => ?_)
        have hP : pG G (wM G b (va_up μ 0 (fun _ => 1))) H := hP
        have hD : va_D A (wM G b (va_up μ 0 (fun _ => 1))) := hD
        have hz_2 : Rl Z σ (va_up μ 0 (fun _ => 1)) := Rl.s0 (f := fun _ => 1) hR
        refine lv_aload_n hx hb dX3_finger_30 rfl (lv_at hl 0 rfl) ?_
        refine va_get (D := G.1) (ci := 2) (v := .int 1) (C := RX3) (T := TX3) (N := 13) hx hb hts uX3 hown hK hP 0 rfl rfl 0 (by decide) (hts (.fieldLink RX3 41 "ChordOverlayModel" "thrown" "I") (by decide +kernel)) (fun _ h9 => h9) rfl dX3_finger_31 ?_
        refine lv_if_ne (tgt := 51) hx hb dX3_finger_34 (by decide) (fun c_3 => ?_) (fun c_3 => ?_)
        · refine lv_iconst (v := 0) hx hb dX3_finger_51 (by decide) ?_
          exact co_endI (va_up μ 0 (fun _ => 1)) S hr hlocks dX3_finger_52 hK hP hD hS (by have hcd : cdP σ x (nI q) 5 = 1 := (by simp only [cdP, hon0, show okR (nI q) 0 5 = true from okR_rg (N := 5) hq0 (by decide), c_1, c_3, eq_self, Bool.false_eq_true, ite_self, ↓reduceIte]); exact ⟨by rw [hcd]; exact rfl, fun h => absurd (hcd.symm.trans h) (by decide), fun _ => hz_2⟩)
        · exact absurd c_3 (by decide)
      · exact absurd (c_1.symm.trans hin0) (by decide)
    · refine co_bodyI (cc := cX3_finger) (maxL := 3) (ret := (some .int)) (by decide) rfl (Nat.le_of_ble_eq_true rfl) ?_
      intro p e s m args below meth c S hr hlocks hK A hA hP hD hS ls hl
      have S : CallFix p m c cX3_finger 3 s args wsX3_finger RX3 := S
      obtain ⟨hx, hb, hml, hown, hts⟩ := id S
      have hl : lv_has ls 3 [(0, .ref (b 0)), (1, .int x), (2, .int i)] := hl
      have uX3 := uX3_X3_finger
      refine lv_aload_n hx hb dX3_finger_0 rfl (lv_at hl 0 rfl) ?_
      refine lv_iload_n hx hb dX3_finger_1 rfl (lv_at hl 1 rfl) ?_
      refine co_rS (As := [.int x]) (rest := [.ref (b 0)]) S (c_X3_isId l G x) (va_cwS 1 hts gX3_finger_X3_isId rfl rfl rfl (by decide +kernel) ⟨Nat.le_of_ble_eq_true rfl, Nat.le_of_ble_eq_true rfl⟩) hK (pG_nil) rfl hl.1 rfl (Nat.le_of_ble_eq_true rfl) dX3_finger_2 ⟨Nat.zero_le _, Nat.zero_le _⟩ ?_
      refine co_ifeq (tgt := 26) S dX3_finger_5 (by decide) (fun c_1 => ?_) (fun c_1 => ?_)
      · refine lv_iconst (v := 1) hx hb dX3_finger_26 (by decide) ?_
        refine va_put (D := G.1) (ci := 2) (v := .int 1) (ty := .int) (C := RX3) (T := TX3) (N := 13) hx hb hts uX3 tyX3 tyX3_ok nmX3 hown hK hP hD hS 0 rfl rfl 0 (by decide) (hts (.fieldLink RX3 41 "ChordOverlayModel" "thrown" "I") (by decide +kernel)) (fun _ h9 => h9) rfl (by decide +kernel) rfl rfl (Nat.le_of_ble_eq_true rfl) dX3_finger_27 (fun H locs hP hD hS => ?_)
        have hP : pG G (wM G b (va_up μ 0 (fun _ => 1))) H := hP
        have hD : va_D A (wM G b (va_up μ 0 (fun _ => 1))) := hD
        have hz_2 : Rl Z σ (va_up μ 0 (fun _ => 1)) := Rl.s0 (f := fun _ => 1) hR
        refine lv_aload_n hx hb dX3_finger_30 rfl (lv_at hl 0 rfl) ?_
        refine va_get (D := G.1) (ci := 2) (v := .int 1) (C := RX3) (T := TX3) (N := 13) hx hb hts uX3 hown hK hP 0 rfl rfl 0 (by decide) (hts (.fieldLink RX3 41 "ChordOverlayModel" "thrown" "I") (by decide +kernel)) (fun _ h9 => h9) rfl dX3_finger_31 ?_
        refine lv_if_ne (tgt := 51) hx hb dX3_finger_34 (by decide) (fun c_3 => ?_) (fun c_3 => ?_)
        · refine lv_iconst (v := 0) hx hb dX3_finger_51 (by decide) ?_
          exact co_endI (va_up μ 0 (fun _ => 1)) S hr hlocks dX3_finger_52 hK hP hD hS (by have hcd : cdP σ x i 5 = 1 := (by simp only [cdP, hon0, show okR i 0 5 = false from hoq0, c_1, c_3, eq_self, Bool.false_eq_true, ite_self, ↓reduceIte]); exact ⟨by rw [hcd]; exact rfl, fun h => absurd (hcd.symm.trans h) (by decide), fun _ => hz_2⟩)
        · exact absurd c_3 (by decide)
      · exact absurd (c_1.symm.trans hin0) (by decide)
    · refine co_bodyI (cc := cX3_finger) (maxL := 3) (ret := (some .int)) (by decide) rfl (Nat.le_of_ble_eq_true rfl) ?_
      intro p e s m args below meth c S hr hlocks hK A hA hP hD hS ls hl
      have S : CallFix p m c cX3_finger 3 s args wsX3_finger RX3 := S
      obtain ⟨hx, hb, hml, hown, hts⟩ := id S
      have hl : lv_has ls 3 [(0, .ref (b 0)), (1, .int x), (2, .int i)] := hl
      have uX3 := uX3_X3_finger
      refine lv_aload_n hx hb dX3_finger_0 rfl (lv_at hl 0 rfl) ?_
      refine lv_iload_n hx hb dX3_finger_1 rfl (lv_at hl 1 rfl) ?_
      refine co_rS (As := [.int x]) (rest := [.ref (b 0)]) S (c_X3_isId l G x) (va_cwS 1 hts gX3_finger_X3_isId rfl rfl rfl (by decide +kernel) ⟨Nat.le_of_ble_eq_true rfl, Nat.le_of_ble_eq_true rfl⟩) hK (pG_nil) rfl hl.1 rfl (Nat.le_of_ble_eq_true rfl) dX3_finger_2 ⟨Nat.zero_le _, Nat.zero_le _⟩ ?_
      refine co_ifeq (tgt := 26) S dX3_finger_5 (by decide) (fun c_1 => ?_) (fun c_1 => ?_)
      · refine lv_iconst (v := 1) hx hb dX3_finger_26 (by decide) ?_
        refine va_put (D := G.1) (ci := 2) (v := .int 1) (ty := .int) (C := RX3) (T := TX3) (N := 13) hx hb hts uX3 tyX3 tyX3_ok nmX3 hown hK hP hD hS 0 rfl rfl 0 (by decide) (hts (.fieldLink RX3 41 "ChordOverlayModel" "thrown" "I") (by decide +kernel)) (fun _ h9 => h9) rfl (by decide +kernel) rfl rfl (Nat.le_of_ble_eq_true rfl) dX3_finger_27 (fun H locs hP hD hS => ?_)
        have hP : pG G (wM G b (va_up μ 0 (fun _ => 1))) H := hP
        have hD : va_D A (wM G b (va_up μ 0 (fun _ => 1))) := hD
        have hz_2 : Rl Z σ (va_up μ 0 (fun _ => 1)) := Rl.s0 (f := fun _ => 1) hR
        refine lv_aload_n hx hb dX3_finger_30 rfl (lv_at hl 0 rfl) ?_
        refine va_get (D := G.1) (ci := 2) (v := .int 1) (C := RX3) (T := TX3) (N := 13) hx hb hts uX3 hown hK hP 0 rfl rfl 0 (by decide) (hts (.fieldLink RX3 41 "ChordOverlayModel" "thrown" "I") (by decide +kernel)) (fun _ h9 => h9) rfl dX3_finger_31 ?_
        refine lv_if_ne (tgt := 51) hx hb dX3_finger_34 (by decide) (fun c_3 => ?_) (fun c_3 => ?_)
        · refine lv_iconst (v := 0) hx hb dX3_finger_51 (by decide) ?_
          exact co_endI (va_up μ 0 (fun _ => 1)) S hr hlocks dX3_finger_52 hK hP hD hS (by have hcd : cdP σ x i 5 = 1 := (by simp only [cdP, hon0, show okR i 0 5 = false from hoq0, c_1, c_3, eq_self, Bool.false_eq_true, ite_self, ↓reduceIte]); exact ⟨by rw [hcd]; exact rfl, fun h => absurd (hcd.symm.trans h) (by decide), fun _ => hz_2⟩)
        · exact absurd c_3 (by decide)
      · exact absurd (c_1.symm.trans hin0) (by decide)

set_option maxRecDepth 20000 in
theorem uX3_X3_liveSuccessor : ∀ w ∈ u_ws RX3 TX3 13, w ∈ wsX3_liveSuccessor := by decide +kernel
abbrev rm_X3_liveSuccessor : Room := { frames := 2, cells := 0, slots := 0, locals := 41 }
set_option maxHeartbeats 4000000 in
set_option maxRecDepth 100000 in
theorem c_X3_liveSuccessor (l : Launch) (G : cG) (Z : Nat) (b : Nat → Nat) (σ μ : cS) (hR : Rl Z σ μ) (x : Int32) : MetI l yX3_liveSuccessor wsX3_liveSuccessor rm_X3_liveSuccessor G (wM G b μ) [.ref (b 0), .int x] (fun u : cS => wM G b u) (fun r u => u 0 0 = nI (cdA σ x) ∧ (cdA σ x = 0 → r = lsF (σ 0) (σ 1) x ∧ Rl Z σ u) ∧ (cdA σ x ≠ 0 → Rl Z σ u)) := by
  rcases id_or x with ⟨n, hn0, rfl⟩ | ⟨hin0, hon0⟩
  · cases haln : alv (σ 0) (nI n) with
    | false =>
      refine co_bodyI (cc := cX3_liveSuccessor) (maxL := 2) (ret := (some .int)) (by decide) rfl (Nat.le_of_ble_eq_true rfl) ?_
      intro p e s m args below meth c S hr hlocks hK A hA hP hD hS ls hl
      have S : CallFix p m c cX3_liveSuccessor 2 s args wsX3_liveSuccessor RX3 := S
      obtain ⟨hx, hb, hml, hown, hts⟩ := id S
      have hl : lv_has ls 2 [(0, .ref (b 0)), (1, .int (nI n))] := hl
      have uX3 := uX3_X3_liveSuccessor
      refine lv_aload_n hx hb dX3_liveSuccessor_0 rfl (lv_at hl 0 rfl) ?_
      refine lv_aload_n hx hb dX3_liveSuccessor_1 rfl (lv_at hl 0 rfl) ?_
      refine lv_iload_n hx hb dX3_liveSuccessor_2 rfl (lv_at hl 1 rfl) ?_
      refine co_rV (As := [.int (nI n)]) (rest := [.ref (b 0)]) S (c_X3_refuses l G Z b σ μ hR (nI n)) (cwV 1 hts gX3_liveSuccessor_X3_refuses rfl rfl rfl (by decide +kernel) ⟨Nat.le_of_ble_eq_true rfl, Nat.le_of_ble_eq_true rfl⟩) hK hP (va_recv hK hP (ci := 2) (q0 := 0) rfl rfl) rfl hl.1 rfl (Nat.le_of_ble_eq_true rfl) dX3_liveSuccessor_3 ⟨Nat.zero_le _, Nat.zero_le _⟩ ?_
      refine co_eq (show nI (cdA σ (nI n)) = 2 from congrArg nI (show cdA σ (nI n) = 2 by simp only [cdA, okR_id hn0, haln, eq_self, Bool.false_eq_true, ite_self, ↓reduceIte])) ?_
      refine va_put (D := G.1) (ci := 2) (v := .int 2) (ty := .int) (C := RX3) (T := TX3) (N := 13) hx hb hts uX3 tyX3 tyX3_ok nmX3 hown hK hP hD hS 0 rfl rfl 0 (by decide) (hts (.fieldLink RX3 41 "ChordOverlayModel" "thrown" "I") (by decide +kernel)) (fun _ h9 => h9) rfl (by decide +kernel) rfl rfl (Nat.le_of_ble_eq_true rfl) dX3_liveSuccessor_6 (fun H locs hP hD hS => ?_)
      have hP : pG G (wM G b (va_up μ 0 (fun _ => 2))) H := hP
      have hD : va_D A (wM G b (va_up μ 0 (fun _ => 2))) := hD
      have hz_1 : Rl Z σ (va_up μ 0 (fun _ => 2)) := Rl.s0 (f := fun _ => 2) hR
      refine lv_aload_n hx hb dX3_liveSuccessor_9 rfl (lv_at hl 0 rfl) ?_
      refine va_get (D := G.1) (ci := 2) (v := .int 2) (C := RX3) (T := TX3) (N := 13) hx hb hts uX3 hown hK hP 0 rfl rfl 0 (by decide) (hts (.fieldLink RX3 41 "ChordOverlayModel" "thrown" "I") (by decide +kernel)) (fun _ h9 => h9) rfl dX3_liveSuccessor_10 ?_
      refine lv_if_ne (tgt := 24) hx hb dX3_liveSuccessor_13 (by decide) (fun c_2 => ?_) (fun c_2 => ?_)
      · refine lv_iconst (v := 0) hx hb dX3_liveSuccessor_24 (by decide) ?_
        exact co_endI (va_up μ 0 (fun _ => 2)) S hr hlocks dX3_liveSuccessor_25 hK hP hD hS (by have hcd : cdA σ (nI n) = 2 := (by simp only [cdA, okR_id hn0, haln, c_2, eq_self, Bool.false_eq_true, ite_self, ↓reduceIte]); exact ⟨by rw [hcd]; exact rfl, fun h => absurd (hcd.symm.trans h) (by decide), fun _ => hz_1⟩)
      · exact absurd c_2 (by decide)
    | true =>
      refine co_bodyI (cc := cX3_liveSuccessor) (maxL := 2) (ret := (some .int)) (by decide) rfl (Nat.le_of_ble_eq_true rfl) ?_
      intro p e s m args below meth c S hr hlocks hK A hA hP hD hS ls hl
      have S : CallFix p m c cX3_liveSuccessor 2 s args wsX3_liveSuccessor RX3 := S
      obtain ⟨hx, hb, hml, hown, hts⟩ := id S
      have hl : lv_has ls 2 [(0, .ref (b 0)), (1, .int (nI n))] := hl
      have uX3 := uX3_X3_liveSuccessor
      refine lv_aload_n hx hb dX3_liveSuccessor_0 rfl (lv_at hl 0 rfl) ?_
      refine lv_aload_n hx hb dX3_liveSuccessor_1 rfl (lv_at hl 0 rfl) ?_
      refine lv_iload_n hx hb dX3_liveSuccessor_2 rfl (lv_at hl 1 rfl) ?_
      refine co_rV (As := [.int (nI n)]) (rest := [.ref (b 0)]) S (c_X3_refuses l G Z b σ μ hR (nI n)) (cwV 1 hts gX3_liveSuccessor_X3_refuses rfl rfl rfl (by decide +kernel) ⟨Nat.le_of_ble_eq_true rfl, Nat.le_of_ble_eq_true rfl⟩) hK hP (va_recv hK hP (ci := 2) (q0 := 0) rfl rfl) rfl hl.1 rfl (Nat.le_of_ble_eq_true rfl) dX3_liveSuccessor_3 ⟨Nat.zero_le _, Nat.zero_le _⟩ ?_
      refine co_eq (show nI (cdA σ (nI n)) = 0 from congrArg nI (show cdA σ (nI n) = 0 by simp only [cdA, okR_id hn0, haln, eq_self, Bool.false_eq_true, ite_self, ↓reduceIte])) ?_
      refine va_put (D := G.1) (ci := 2) (v := .int 0) (ty := .int) (C := RX3) (T := TX3) (N := 13) hx hb hts uX3 tyX3 tyX3_ok nmX3 hown hK hP hD hS 0 rfl rfl 0 (by decide) (hts (.fieldLink RX3 41 "ChordOverlayModel" "thrown" "I") (by decide +kernel)) (fun _ h9 => h9) rfl (by decide +kernel) rfl rfl (Nat.le_of_ble_eq_true rfl) dX3_liveSuccessor_6 (fun H locs hP hD hS => ?_)
      have hP : pG G (wM G b (va_up μ 0 (fun _ => 0))) H := hP
      have hD : va_D A (wM G b (va_up μ 0 (fun _ => 0))) := hD
      have hz_1 : Rl Z σ (va_up μ 0 (fun _ => 0)) := Rl.s0 (f := fun _ => 0) hR
      refine lv_aload_n hx hb dX3_liveSuccessor_9 rfl (lv_at hl 0 rfl) ?_
      refine va_get (D := G.1) (ci := 2) (v := .int 0) (C := RX3) (T := TX3) (N := 13) hx hb hts uX3 hown hK hP 0 rfl rfl 0 (by decide) (hts (.fieldLink RX3 41 "ChordOverlayModel" "thrown" "I") (by decide +kernel)) (fun _ h9 => h9) rfl dX3_liveSuccessor_10 ?_
      refine lv_if_ne (tgt := 24) hx hb dX3_liveSuccessor_13 (by decide) (fun c_2 => ?_) (fun c_2 => ?_)
      · exact absurd (by decide) c_2
      · refine lv_aload_n hx hb dX3_liveSuccessor_16 rfl (lv_at hl 0 rfl) ?_
        refine lv_iload_n hx hb dX3_liveSuccessor_17 rfl (lv_at hl 1 rfl) ?_
        obtain ⟨j_3, ej_3, lj_3⟩ := Lv.ls hz_1 ⟨hn0, haln⟩
        refine co_rV (As := [.int (nI n)]) (rest := []) S (c_X3_liveSuccessorOf l G Z b σ (va_up μ 0 (fun _ => 0)) hz_1 n ⟨hn0, haln⟩) (cwV 1 hts gX3_liveSuccessor_X3_liveSuccessorOf rfl rfl rfl (by decide +kernel) ⟨Nat.le_of_ble_eq_true rfl, Nat.le_of_ble_eq_true rfl⟩) hK hP (va_recv hK hP (ci := 2) (q0 := 0) rfl rfl) rfl hl.1 rfl (Nat.le_of_ble_eq_true rfl) dX3_liveSuccessor_18 ⟨Nat.zero_le _, Nat.zero_le _⟩ ?_
        refine co_eq ej_3 ?_
        refine lv_goto (tgt := 25) hx hb dX3_liveSuccessor_21 (by decide) ?_
        exact co_endI (va_up μ 0 (fun _ => 0)) S hr hlocks dX3_liveSuccessor_25 hK hP hD hS (by have hcd : cdA σ (nI n) = 0 := (by simp only [cdA, okR_id hn0, haln, (eq_true c_2), eq_self, Bool.false_eq_true, ite_self, ↓reduceIte]); exact ⟨by rw [hcd]; exact rfl, fun _ => ⟨by first | with_reducible rfl | with_reducible assumption | simp only [ej_3, (eq_true c_2), okR_id hn0, haln, nI_nem lj_3.1, eq_self, Bool.false_eq_true, ite_self, ↓reduceIte], by exact hz_1⟩, fun h => absurd hcd h⟩)
  · refine co_bodyI (cc := cX3_liveSuccessor) (maxL := 2) (ret := (some .int)) (by decide) rfl (Nat.le_of_ble_eq_true rfl) ?_
    intro p e s m args below meth c S hr hlocks hK A hA hP hD hS ls hl
    have S : CallFix p m c cX3_liveSuccessor 2 s args wsX3_liveSuccessor RX3 := S
    obtain ⟨hx, hb, hml, hown, hts⟩ := id S
    have hl : lv_has ls 2 [(0, .ref (b 0)), (1, .int x)] := hl
    have uX3 := uX3_X3_liveSuccessor
    refine lv_aload_n hx hb dX3_liveSuccessor_0 rfl (lv_at hl 0 rfl) ?_
    refine lv_aload_n hx hb dX3_liveSuccessor_1 rfl (lv_at hl 0 rfl) ?_
    refine lv_iload_n hx hb dX3_liveSuccessor_2 rfl (lv_at hl 1 rfl) ?_
    refine co_rV (As := [.int x]) (rest := [.ref (b 0)]) S (c_X3_refuses l G Z b σ μ hR x) (cwV 1 hts gX3_liveSuccessor_X3_refuses rfl rfl rfl (by decide +kernel) ⟨Nat.le_of_ble_eq_true rfl, Nat.le_of_ble_eq_true rfl⟩) hK hP (va_recv hK hP (ci := 2) (q0 := 0) rfl rfl) rfl hl.1 rfl (Nat.le_of_ble_eq_true rfl) dX3_liveSuccessor_3 ⟨Nat.zero_le _, Nat.zero_le _⟩ ?_
    refine co_eq (show nI (cdA σ x) = 1 from congrArg nI (show cdA σ x = 1 by simp only [cdA, hon0, eq_self, Bool.false_eq_true, ite_self, ↓reduceIte])) ?_
    refine va_put (D := G.1) (ci := 2) (v := .int 1) (ty := .int) (C := RX3) (T := TX3) (N := 13) hx hb hts uX3 tyX3 tyX3_ok nmX3 hown hK hP hD hS 0 rfl rfl 0 (by decide) (hts (.fieldLink RX3 41 "ChordOverlayModel" "thrown" "I") (by decide +kernel)) (fun _ h9 => h9) rfl (by decide +kernel) rfl rfl (Nat.le_of_ble_eq_true rfl) dX3_liveSuccessor_6 (fun H locs hP hD hS => ?_)
    have hP : pG G (wM G b (va_up μ 0 (fun _ => 1))) H := hP
    have hD : va_D A (wM G b (va_up μ 0 (fun _ => 1))) := hD
    have hz_1 : Rl Z σ (va_up μ 0 (fun _ => 1)) := Rl.s0 (f := fun _ => 1) hR
    refine lv_aload_n hx hb dX3_liveSuccessor_9 rfl (lv_at hl 0 rfl) ?_
    refine va_get (D := G.1) (ci := 2) (v := .int 1) (C := RX3) (T := TX3) (N := 13) hx hb hts uX3 hown hK hP 0 rfl rfl 0 (by decide) (hts (.fieldLink RX3 41 "ChordOverlayModel" "thrown" "I") (by decide +kernel)) (fun _ h9 => h9) rfl dX3_liveSuccessor_10 ?_
    refine lv_if_ne (tgt := 24) hx hb dX3_liveSuccessor_13 (by decide) (fun c_2 => ?_) (fun c_2 => ?_)
    · refine lv_iconst (v := 0) hx hb dX3_liveSuccessor_24 (by decide) ?_
      exact co_endI (va_up μ 0 (fun _ => 1)) S hr hlocks dX3_liveSuccessor_25 hK hP hD hS (by have hcd : cdA σ x = 1 := (by simp only [cdA, hon0, c_2, eq_self, Bool.false_eq_true, ite_self, ↓reduceIte]); exact ⟨by rw [hcd]; exact rfl, fun h => absurd (hcd.symm.trans h) (by decide), fun _ => hz_1⟩)
    · exact absurd c_2 (by decide)

set_option maxRecDepth 20000 in
theorem uX3_X3_predecessor : ∀ w ∈ u_ws RX3 TX3 13, w ∈ wsX3_predecessor := by decide +kernel
abbrev rm_X3_predecessor : Room := { frames := 2, cells := 0, slots := 0, locals := 41 }
set_option maxHeartbeats 4000000 in
set_option maxRecDepth 100000 in
theorem c_X3_predecessor (l : Launch) (G : cG) (Z : Nat) (b : Nat → Nat) (σ μ : cS) (hR : Rl Z σ μ) (x : Int32) : MetI l yX3_predecessor wsX3_predecessor rm_X3_predecessor G (wM G b μ) [.ref (b 0), .int x] (fun u : cS => wM G b u) (fun r u => u 0 0 = nI (cdA σ x) ∧ (cdA σ x = 0 → r = tat 1 (σ 2) x 0 ∧ Rl Z σ u) ∧ (cdA σ x ≠ 0 → Rl Z σ u)) := by
  rcases id_or x with ⟨n, hn0, rfl⟩ | ⟨hin0, hon0⟩
  · cases haln : alv (σ 0) (nI n) with
    | false =>
      refine co_bodyI (cc := cX3_predecessor) (maxL := 2) (ret := (some .int)) (by decide) rfl (Nat.le_of_ble_eq_true rfl) ?_
      intro p e s m args below meth c S hr hlocks hK A hA hP hD hS ls hl
      have S : CallFix p m c cX3_predecessor 2 s args wsX3_predecessor RX3 := S
      obtain ⟨hx, hb, hml, hown, hts⟩ := id S
      have hl : lv_has ls 2 [(0, .ref (b 0)), (1, .int (nI n))] := hl
      have uX3 := uX3_X3_predecessor
      refine lv_aload_n hx hb dX3_predecessor_0 rfl (lv_at hl 0 rfl) ?_
      refine lv_aload_n hx hb dX3_predecessor_1 rfl (lv_at hl 0 rfl) ?_
      refine lv_iload_n hx hb dX3_predecessor_2 rfl (lv_at hl 1 rfl) ?_
      refine co_rV (As := [.int (nI n)]) (rest := [.ref (b 0)]) S (c_X3_refuses l G Z b σ μ hR (nI n)) (cwV 1 hts gX3_predecessor_X3_refuses rfl rfl rfl (by decide +kernel) ⟨Nat.le_of_ble_eq_true rfl, Nat.le_of_ble_eq_true rfl⟩) hK hP (va_recv hK hP (ci := 2) (q0 := 0) rfl rfl) rfl hl.1 rfl (Nat.le_of_ble_eq_true rfl) dX3_predecessor_3 ⟨Nat.zero_le _, Nat.zero_le _⟩ ?_
      refine co_eq (show nI (cdA σ (nI n)) = 2 from congrArg nI (show cdA σ (nI n) = 2 by simp only [cdA, okR_id hn0, haln, eq_self, Bool.false_eq_true, ite_self, ↓reduceIte])) ?_
      refine va_put (D := G.1) (ci := 2) (v := .int 2) (ty := .int) (C := RX3) (T := TX3) (N := 13) hx hb hts uX3 tyX3 tyX3_ok nmX3 hown hK hP hD hS 0 rfl rfl 0 (by decide) (hts (.fieldLink RX3 41 "ChordOverlayModel" "thrown" "I") (by decide +kernel)) (fun _ h9 => h9) rfl (by decide +kernel) rfl rfl (Nat.le_of_ble_eq_true rfl) dX3_predecessor_6 (fun H locs hP hD hS => ?_)
      have hP : pG G (wM G b (va_up μ 0 (fun _ => 2))) H := hP
      have hD : va_D A (wM G b (va_up μ 0 (fun _ => 2))) := hD
      have hz_1 : Rl Z σ (va_up μ 0 (fun _ => 2)) := Rl.s0 (f := fun _ => 2) hR
      refine lv_aload_n hx hb dX3_predecessor_9 rfl (lv_at hl 0 rfl) ?_
      refine va_get (D := G.1) (ci := 2) (v := .int 2) (C := RX3) (T := TX3) (N := 13) hx hb hts uX3 hown hK hP 0 rfl rfl 0 (by decide) (hts (.fieldLink RX3 41 "ChordOverlayModel" "thrown" "I") (by decide +kernel)) (fun _ h9 => h9) rfl dX3_predecessor_10 ?_
      refine lv_if_ne (tgt := 25) hx hb dX3_predecessor_13 (by decide) (fun c_2 => ?_) (fun c_2 => ?_)
      · refine lv_iconst (v := 0) hx hb dX3_predecessor_25 (by decide) ?_
        exact co_endI (va_up μ 0 (fun _ => 2)) S hr hlocks dX3_predecessor_26 hK hP hD hS (by have hcd : cdA σ (nI n) = 2 := (by simp only [cdA, okR_id hn0, haln, c_2, eq_self, Bool.false_eq_true, ite_self, ↓reduceIte]); exact ⟨by rw [hcd]; exact rfl, fun h => absurd (hcd.symm.trans h) (by decide), fun _ => hz_1⟩)
      · exact absurd c_2 (by decide)
    | true =>
      refine co_bodyI (cc := cX3_predecessor) (maxL := 2) (ret := (some .int)) (by decide) rfl (Nat.le_of_ble_eq_true rfl) ?_
      intro p e s m args below meth c S hr hlocks hK A hA hP hD hS ls hl
      have S : CallFix p m c cX3_predecessor 2 s args wsX3_predecessor RX3 := S
      obtain ⟨hx, hb, hml, hown, hts⟩ := id S
      have hl : lv_has ls 2 [(0, .ref (b 0)), (1, .int (nI n))] := hl
      have uX3 := uX3_X3_predecessor
      refine lv_aload_n hx hb dX3_predecessor_0 rfl (lv_at hl 0 rfl) ?_
      refine lv_aload_n hx hb dX3_predecessor_1 rfl (lv_at hl 0 rfl) ?_
      refine lv_iload_n hx hb dX3_predecessor_2 rfl (lv_at hl 1 rfl) ?_
      refine co_rV (As := [.int (nI n)]) (rest := [.ref (b 0)]) S (c_X3_refuses l G Z b σ μ hR (nI n)) (cwV 1 hts gX3_predecessor_X3_refuses rfl rfl rfl (by decide +kernel) ⟨Nat.le_of_ble_eq_true rfl, Nat.le_of_ble_eq_true rfl⟩) hK hP (va_recv hK hP (ci := 2) (q0 := 0) rfl rfl) rfl hl.1 rfl (Nat.le_of_ble_eq_true rfl) dX3_predecessor_3 ⟨Nat.zero_le _, Nat.zero_le _⟩ ?_
      refine co_eq (show nI (cdA σ (nI n)) = 0 from congrArg nI (show cdA σ (nI n) = 0 by simp only [cdA, okR_id hn0, haln, eq_self, Bool.false_eq_true, ite_self, ↓reduceIte])) ?_
      refine va_put (D := G.1) (ci := 2) (v := .int 0) (ty := .int) (C := RX3) (T := TX3) (N := 13) hx hb hts uX3 tyX3 tyX3_ok nmX3 hown hK hP hD hS 0 rfl rfl 0 (by decide) (hts (.fieldLink RX3 41 "ChordOverlayModel" "thrown" "I") (by decide +kernel)) (fun _ h9 => h9) rfl (by decide +kernel) rfl rfl (Nat.le_of_ble_eq_true rfl) dX3_predecessor_6 (fun H locs hP hD hS => ?_)
      have hP : pG G (wM G b (va_up μ 0 (fun _ => 0))) H := hP
      have hD : va_D A (wM G b (va_up μ 0 (fun _ => 0))) := hD
      have hz_1 : Rl Z σ (va_up μ 0 (fun _ => 0)) := Rl.s0 (f := fun _ => 0) hR
      refine lv_aload_n hx hb dX3_predecessor_9 rfl (lv_at hl 0 rfl) ?_
      refine va_get (D := G.1) (ci := 2) (v := .int 0) (C := RX3) (T := TX3) (N := 13) hx hb hts uX3 hown hK hP 0 rfl rfl 0 (by decide) (hts (.fieldLink RX3 41 "ChordOverlayModel" "thrown" "I") (by decide +kernel)) (fun _ h9 => h9) rfl dX3_predecessor_10 ?_
      refine lv_if_ne (tgt := 25) hx hb dX3_predecessor_13 (by decide) (fun c_2 => ?_) (fun c_2 => ?_)
      · exact absurd (by decide) c_2
      · refine lv_aload_n hx hb dX3_predecessor_16 rfl (lv_at hl 0 rfl) ?_
        refine va_get (D := G.1) (ci := 2) (v := .ref (b 3)) (C := RX3) (T := TX3) (N := 13) hx hb hts uX3 hown hK hP 0 rfl rfl 4 (by decide) (hts (.fieldLink RX3 17 "ChordOverlayModel" "predecessor" "[I") (by decide +kernel)) (fun _ h9 => h9) rfl dX3_predecessor_17 ?_
        refine lv_iload_n hx hb dX3_predecessor_20 rfl (lv_at hl 1 rfl) ?_
        refine va_iald hx hb hK hP 3 0 rfl rfl (vi_1 hn0) dX3_predecessor_21 ?_
        rcases rl_p hz_1 ⟨hn0, haln⟩ with ⟨ej_3, mj_3⟩ | ⟨j_3, hj_3, ej_3, mj_3⟩
        · have ej_3 : tat 1 (σ 2) (nI n) 0 = (-1) := ej_3
          refine co_eq mj_3 ?_
          refine lv_goto (tgt := 26) hx hb dX3_predecessor_22 (by decide) ?_
          exact co_endI (va_up μ 0 (fun _ => 0)) S hr hlocks dX3_predecessor_26 hK hP hD hS (by have hcd : cdA σ (nI n) = 0 := (by simp only [cdA, okR_id hn0, haln, (eq_true c_2), eq_self, Bool.false_eq_true, ite_self, ↓reduceIte]); exact ⟨by rw [hcd]; exact rfl, fun _ => ⟨by first | with_reducible rfl | with_reducible assumption | simp only [ej_3, (eq_true c_2), okR_id hn0, haln, eq_self, Bool.false_eq_true, ite_self, ↓reduceIte], by exact hz_1⟩, fun h => absurd hcd h⟩)
        · have ej_3 : tat 1 (σ 2) (nI n) 0 = (nI j_3) := ej_3
          refine co_eq mj_3 ?_
          refine lv_goto (tgt := 26) hx hb dX3_predecessor_22 (by decide) ?_
          exact co_endI (va_up μ 0 (fun _ => 0)) S hr hlocks dX3_predecessor_26 hK hP hD hS (by have hcd : cdA σ (nI n) = 0 := (by simp only [cdA, okR_id hn0, haln, (eq_true c_2), eq_self, Bool.false_eq_true, ite_self, ↓reduceIte]); exact ⟨by rw [hcd]; exact rfl, fun _ => ⟨by first | with_reducible rfl | with_reducible assumption | simp only [ej_3, (eq_true c_2), okR_id hn0, haln, nI_nem hj_3, eq_self, Bool.false_eq_true, ite_self, ↓reduceIte], by exact hz_1⟩, fun h => absurd hcd h⟩)
  · refine co_bodyI (cc := cX3_predecessor) (maxL := 2) (ret := (some .int)) (by decide) rfl (Nat.le_of_ble_eq_true rfl) ?_
    intro p e s m args below meth c S hr hlocks hK A hA hP hD hS ls hl
    have S : CallFix p m c cX3_predecessor 2 s args wsX3_predecessor RX3 := S
    obtain ⟨hx, hb, hml, hown, hts⟩ := id S
    have hl : lv_has ls 2 [(0, .ref (b 0)), (1, .int x)] := hl
    have uX3 := uX3_X3_predecessor
    refine lv_aload_n hx hb dX3_predecessor_0 rfl (lv_at hl 0 rfl) ?_
    refine lv_aload_n hx hb dX3_predecessor_1 rfl (lv_at hl 0 rfl) ?_
    refine lv_iload_n hx hb dX3_predecessor_2 rfl (lv_at hl 1 rfl) ?_
    refine co_rV (As := [.int x]) (rest := [.ref (b 0)]) S (c_X3_refuses l G Z b σ μ hR x) (cwV 1 hts gX3_predecessor_X3_refuses rfl rfl rfl (by decide +kernel) ⟨Nat.le_of_ble_eq_true rfl, Nat.le_of_ble_eq_true rfl⟩) hK hP (va_recv hK hP (ci := 2) (q0 := 0) rfl rfl) rfl hl.1 rfl (Nat.le_of_ble_eq_true rfl) dX3_predecessor_3 ⟨Nat.zero_le _, Nat.zero_le _⟩ ?_
    refine co_eq (show nI (cdA σ x) = 1 from congrArg nI (show cdA σ x = 1 by simp only [cdA, hon0, eq_self, Bool.false_eq_true, ite_self, ↓reduceIte])) ?_
    refine va_put (D := G.1) (ci := 2) (v := .int 1) (ty := .int) (C := RX3) (T := TX3) (N := 13) hx hb hts uX3 tyX3 tyX3_ok nmX3 hown hK hP hD hS 0 rfl rfl 0 (by decide) (hts (.fieldLink RX3 41 "ChordOverlayModel" "thrown" "I") (by decide +kernel)) (fun _ h9 => h9) rfl (by decide +kernel) rfl rfl (Nat.le_of_ble_eq_true rfl) dX3_predecessor_6 (fun H locs hP hD hS => ?_)
    have hP : pG G (wM G b (va_up μ 0 (fun _ => 1))) H := hP
    have hD : va_D A (wM G b (va_up μ 0 (fun _ => 1))) := hD
    have hz_1 : Rl Z σ (va_up μ 0 (fun _ => 1)) := Rl.s0 (f := fun _ => 1) hR
    refine lv_aload_n hx hb dX3_predecessor_9 rfl (lv_at hl 0 rfl) ?_
    refine va_get (D := G.1) (ci := 2) (v := .int 1) (C := RX3) (T := TX3) (N := 13) hx hb hts uX3 hown hK hP 0 rfl rfl 0 (by decide) (hts (.fieldLink RX3 41 "ChordOverlayModel" "thrown" "I") (by decide +kernel)) (fun _ h9 => h9) rfl dX3_predecessor_10 ?_
    refine lv_if_ne (tgt := 25) hx hb dX3_predecessor_13 (by decide) (fun c_2 => ?_) (fun c_2 => ?_)
    · refine lv_iconst (v := 0) hx hb dX3_predecessor_25 (by decide) ?_
      exact co_endI (va_up μ 0 (fun _ => 1)) S hr hlocks dX3_predecessor_26 hK hP hD hS (by have hcd : cdA σ x = 1 := (by simp only [cdA, hon0, c_2, eq_self, Bool.false_eq_true, ite_self, ↓reduceIte]); exact ⟨by rw [hcd]; exact rfl, fun h => absurd (hcd.symm.trans h) (by decide), fun _ => hz_1⟩)
    · exact absurd c_2 (by decide)

set_option maxRecDepth 20000 in
theorem uX3_X3_check : ∀ w ∈ u_ws RX3 TX3 13, w ∈ wsX3_check := by decide +kernel
abbrev rm_X3_check : Room := { frames := 2, cells := 0, slots := 0, locals := 41 }
set_option maxHeartbeats 4000000 in
set_option maxRecDepth 100000 in
theorem c_X3_check (l : Launch) (G : cG) (Z : Nat) (b : Nat → Nat) (σ μ : cS) (hR : Rl Z σ μ) (x : Int32) : MetI l yX3_check wsX3_check rm_X3_check G (wM G b μ) [.ref (b 0), .int x] (fun u : cS => wM G b u) (fun r u => u 0 0 = nI (cdA σ x) ∧ (cdA σ x = 0 → r = bI (chB σ x) ∧ Rl Z (ddS σ x) u) ∧ (cdA σ x ≠ 0 → Rl Z σ u)) := by
  rcases id_or x with ⟨n, hn0, rfl⟩ | ⟨hin0, hon0⟩
  · cases haln : alv (σ 0) (nI n) with
    | false =>
      refine co_bodyI (cc := cX3_check) (maxL := 2) (ret := (some .boolean)) (by decide) rfl (Nat.le_of_ble_eq_true rfl) ?_
      intro p e s m args below meth c S hr hlocks hK A hA hP hD hS ls hl
      have S : CallFix p m c cX3_check 2 s args wsX3_check RX3 := S
      obtain ⟨hx, hb, hml, hown, hts⟩ := id S
      have hl : lv_has ls 2 [(0, .ref (b 0)), (1, .int (nI n))] := hl
      have uX3 := uX3_X3_check
      refine lv_aload_n hx hb dX3_check_0 rfl (lv_at hl 0 rfl) ?_
      refine lv_aload_n hx hb dX3_check_1 rfl (lv_at hl 0 rfl) ?_
      refine lv_iload_n hx hb dX3_check_2 rfl (lv_at hl 1 rfl) ?_
      refine co_rV (As := [.int (nI n)]) (rest := [.ref (b 0)]) S (c_X3_refuses l G Z b σ μ hR (nI n)) (cwV 1 hts gX3_check_X3_refuses rfl rfl rfl (by decide +kernel) ⟨Nat.le_of_ble_eq_true rfl, Nat.le_of_ble_eq_true rfl⟩) hK hP (va_recv hK hP (ci := 2) (q0 := 0) rfl rfl) rfl hl.1 rfl (Nat.le_of_ble_eq_true rfl) dX3_check_3 ⟨Nat.zero_le _, Nat.zero_le _⟩ ?_
      refine co_eq (show nI (cdA σ (nI n)) = 2 from congrArg nI (show cdA σ (nI n) = 2 by simp only [cdA, okR_id hn0, haln, eq_self, Bool.false_eq_true, ite_self, ↓reduceIte])) ?_
      refine va_put (D := G.1) (ci := 2) (v := .int 2) (ty := .int) (C := RX3) (T := TX3) (N := 13) hx hb hts uX3 tyX3 tyX3_ok nmX3 hown hK hP hD hS 0 rfl rfl 0 (by decide) (hts (.fieldLink RX3 41 "ChordOverlayModel" "thrown" "I") (by decide +kernel)) (fun _ h9 => h9) rfl (by decide +kernel) rfl rfl (Nat.le_of_ble_eq_true rfl) dX3_check_6 (fun H locs hP hD hS => ?_)
      have hP : pG G (wM G b (va_up μ 0 (fun _ => 2))) H := hP
      have hD : va_D A (wM G b (va_up μ 0 (fun _ => 2))) := hD
      have hz_1 : Rl Z σ (va_up μ 0 (fun _ => 2)) := Rl.s0 (f := fun _ => 2) hR
      refine lv_aload_n hx hb dX3_check_9 rfl (lv_at hl 0 rfl) ?_
      refine va_get (D := G.1) (ci := 2) (v := .int 2) (C := RX3) (T := TX3) (N := 13) hx hb hts uX3 hown hK hP 0 rfl rfl 0 (by decide) (hts (.fieldLink RX3 41 "ChordOverlayModel" "thrown" "I") (by decide +kernel)) (fun _ h9 => h9) rfl dX3_check_10 ?_
      refine lv_if_ne (tgt := 21) hx hb dX3_check_13 (by decide) (fun c_2 => ?_) (fun c_2 => ?_)
      · refine lv_aload_n hx hb dX3_check_21 rfl (lv_at hl 0 rfl) ?_
        refine va_get (D := G.1) (ci := 2) (v := .int 2) (C := RX3) (T := TX3) (N := 13) hx hb hts uX3 hown hK hP 0 rfl rfl 0 (by decide) (hts (.fieldLink RX3 41 "ChordOverlayModel" "thrown" "I") (by decide +kernel)) (fun _ h9 => h9) rfl dX3_check_22 ?_
        refine lv_if_ne (tgt := 42) hx hb dX3_check_25 (by decide) (fun c_3 => ?_) (fun c_3 => ?_)
        · refine lv_iconst (v := 0) hx hb dX3_check_42 (by decide) ?_
          exact co_endIz (v := false) (va_up μ 0 (fun _ => 2)) S hr hlocks dX3_check_43 hK hP hD hS (by have hcd : cdA σ (nI n) = 2 := (by simp only [cdA, okR_id hn0, haln, c_2, c_3, eq_self, Bool.false_eq_true, ite_self, ↓reduceIte]); exact ⟨by rw [hcd]; exact rfl, fun h => absurd (hcd.symm.trans h) (by decide), fun _ => hz_1⟩)
        · exact absurd c_3 (by decide)
      · exact absurd c_2 (by decide)
    | true =>
      refine co_bodyI (cc := cX3_check) (maxL := 2) (ret := (some .boolean)) (by decide) rfl (Nat.le_of_ble_eq_true rfl) ?_
      intro p e s m args below meth c S hr hlocks hK A hA hP hD hS ls hl
      have S : CallFix p m c cX3_check 2 s args wsX3_check RX3 := S
      obtain ⟨hx, hb, hml, hown, hts⟩ := id S
      have hl : lv_has ls 2 [(0, .ref (b 0)), (1, .int (nI n))] := hl
      have uX3 := uX3_X3_check
      refine lv_aload_n hx hb dX3_check_0 rfl (lv_at hl 0 rfl) ?_
      refine lv_aload_n hx hb dX3_check_1 rfl (lv_at hl 0 rfl) ?_
      refine lv_iload_n hx hb dX3_check_2 rfl (lv_at hl 1 rfl) ?_
      refine co_rV (As := [.int (nI n)]) (rest := [.ref (b 0)]) S (c_X3_refuses l G Z b σ μ hR (nI n)) (cwV 1 hts gX3_check_X3_refuses rfl rfl rfl (by decide +kernel) ⟨Nat.le_of_ble_eq_true rfl, Nat.le_of_ble_eq_true rfl⟩) hK hP (va_recv hK hP (ci := 2) (q0 := 0) rfl rfl) rfl hl.1 rfl (Nat.le_of_ble_eq_true rfl) dX3_check_3 ⟨Nat.zero_le _, Nat.zero_le _⟩ ?_
      refine co_eq (show nI (cdA σ (nI n)) = 0 from congrArg nI (show cdA σ (nI n) = 0 by simp only [cdA, okR_id hn0, haln, eq_self, Bool.false_eq_true, ite_self, ↓reduceIte])) ?_
      refine va_put (D := G.1) (ci := 2) (v := .int 0) (ty := .int) (C := RX3) (T := TX3) (N := 13) hx hb hts uX3 tyX3 tyX3_ok nmX3 hown hK hP hD hS 0 rfl rfl 0 (by decide) (hts (.fieldLink RX3 41 "ChordOverlayModel" "thrown" "I") (by decide +kernel)) (fun _ h9 => h9) rfl (by decide +kernel) rfl rfl (Nat.le_of_ble_eq_true rfl) dX3_check_6 (fun H locs hP hD hS => ?_)
      have hP : pG G (wM G b (va_up μ 0 (fun _ => 0))) H := hP
      have hD : va_D A (wM G b (va_up μ 0 (fun _ => 0))) := hD
      have hz_1 : Rl Z σ (va_up μ 0 (fun _ => 0)) := Rl.s0 (f := fun _ => 0) hR
      refine lv_aload_n hx hb dX3_check_9 rfl (lv_at hl 0 rfl) ?_
      refine va_get (D := G.1) (ci := 2) (v := .int 0) (C := RX3) (T := TX3) (N := 13) hx hb hts uX3 hown hK hP 0 rfl rfl 0 (by decide) (hts (.fieldLink RX3 41 "ChordOverlayModel" "thrown" "I") (by decide +kernel)) (fun _ h9 => h9) rfl dX3_check_10 ?_
      refine lv_if_ne (tgt := 21) hx hb dX3_check_13 (by decide) (fun c_2 => ?_) (fun c_2 => ?_)
      · exact absurd (by decide) c_2
      · refine lv_aload_n hx hb dX3_check_16 rfl (lv_at hl 0 rfl) ?_
        refine lv_iload_n hx hb dX3_check_17 rfl (lv_at hl 1 rfl) ?_
        refine co_mVv (As := [.int (nI n)]) (rest := []) S (c_X3_checks l G Z b σ (va_up μ 0 (fun _ => 0)) hz_1 n ⟨hn0, haln⟩) (cwV 1 hts gX3_check_X3_checks rfl rfl rfl (by decide +kernel) ⟨Nat.le_of_ble_eq_true rfl, Nat.le_of_ble_eq_true rfl⟩) hK hP hD hS hA (va_recv hK hP (ci := 2) (q0 := 0) rfl rfl) rfl hl.1 rfl (Nat.le_of_ble_eq_true rfl) dX3_check_18 ⟨Nat.zero_le _, Nat.zero_le _⟩ (fun u_3 H locs hu_3 hP hD hS => ?_)
        obtain ⟨hq_3, hk_3⟩ := hu_3
        obtain ⟨σ_3, eσ_3⟩ : ∃ z9, z9 = (ddS σ (nI n)) := ⟨_, rfl⟩
        have hq_3 : Rl Z σ_3 u_3 := (by rw [eσ_3]; exact hq_3)
        have hc0_3 : σ_3 0 = (σ 0) := (by rw [eσ_3]; exact ddS_0)
        have hP : pG G (wM G b u_3) H := hP
        have hD : va_D A (wM G b u_3) := hD
        refine lv_aload_n hx hb dX3_check_21 rfl (lv_at hl 0 rfl) ?_
        refine va_get (D := G.1) (ci := 2) (v := .int (u_3 0 0)) (C := RX3) (T := TX3) (N := 13) hx hb hts uX3 hown hK hP 0 rfl rfl 0 (by decide) (hts (.fieldLink RX3 41 "ChordOverlayModel" "thrown" "I") (by decide +kernel)) (fun _ h9 => h9) rfl dX3_check_22 ?_
        refine co_eq (show u_3 0 0 = 0 from congrFun hk_3.1 0) ?_
        refine lv_if_ne (tgt := 42) hx hb dX3_check_25 (by decide) (fun c_4 => ?_) (fun c_4 => ?_)
        · exact absurd (by decide) c_4
        · refine lv_aload_n hx hb dX3_check_28 rfl (lv_at hl 0 rfl) ?_
          refine va_get (D := G.1) (ci := 2) (v := .ref (b 3)) (C := RX3) (T := TX3) (N := 13) hx hb hts uX3 hown hK hP 0 rfl rfl 4 (by decide) (hts (.fieldLink RX3 17 "ChordOverlayModel" "predecessor" "[I") (by decide +kernel)) (fun _ h9 => h9) rfl dX3_check_29 ?_
          refine lv_iload_n hx hb dX3_check_32 rfl (lv_at hl 1 rfl) ?_
          refine va_iald hx hb hK hP 3 0 rfl rfl (vi_1 hn0) dX3_check_33 ?_
          rcases rl_p hq_3 (Lv.tr hc0_3 ⟨hn0, haln⟩) with ⟨ej_5, mj_5⟩ | ⟨j_5, hj_5, ej_5, mj_5⟩
          · have ej_5 : tat 1 (σ_3 2) (nI n) 0 = (-1) := ej_5
            refine co_eq mj_5 ?_
            refine lv_iconst (v := (-1)) hx hb dX3_check_34 (by decide) ?_
            refine lv_icmp_eq (tgt := 42) hx hb dX3_check_35 (by decide) (fun c_6 => ?_) (fun c_6 => ?_)
            · refine lv_iconst (v := 0) hx hb dX3_check_42 (by decide) ?_
              exact co_endIz (v := false) u_3 S hr hlocks dX3_check_43 hK hP hD hS (by have hcd : cdA σ (nI n) = 0 := (by simp only [cdA, okR_id hn0, haln, (eq_true c_2), (eq_true c_4), (eq_true c_6), eq_self, Bool.false_eq_true, ite_self, ↓reduceIte]); exact ⟨by rw [hcd]; exact (congrFun hk_3.1 0), fun _ => ⟨by first | with_reducible rfl | with_reducible assumption | simp only [← eσ_3, chB, ej_5, (eq_true c_2), (eq_true c_4), (eq_true c_6), okR_id hn0, haln, eq_self, Bool.false_eq_true, ite_self, ↓reduceIte], by first | with_reducible exact hq_3 | (simp only [← eσ_3, chB, ej_5, (eq_true c_2), (eq_true c_4), (eq_true c_6), okR_id hn0, haln, eq_self, Bool.false_eq_true, ite_self, ↓reduceIte]; with_reducible exact hq_3)⟩, fun h => absurd hcd h⟩)
            · exact absurd (by decide) c_6
          · have ej_5 : tat 1 (σ_3 2) (nI n) 0 = (nI j_5) := ej_5
            refine co_eq mj_5 ?_
            refine lv_iconst (v := (-1)) hx hb dX3_check_34 (by decide) ?_
            refine lv_icmp_eq (tgt := 42) hx hb dX3_check_35 (by decide) (fun c_7 => ?_) (fun c_7 => ?_)
            · exact absurd c_7 (nI_nem hj_5)
            · refine lv_iconst (v := 1) hx hb dX3_check_38 (by decide) ?_
              refine lv_goto (tgt := 43) hx hb dX3_check_39 (by decide) ?_
              exact co_endIz (v := true) u_3 S hr hlocks dX3_check_43 hK hP hD hS (by have hcd : cdA σ (nI n) = 0 := (by simp only [cdA, okR_id hn0, haln, (eq_true c_2), (eq_true c_4), eq_self, Bool.false_eq_true, ite_self, ↓reduceIte]); exact ⟨by rw [hcd]; exact (congrFun hk_3.1 0), fun _ => ⟨by first | with_reducible rfl | with_reducible assumption | simp only [← eσ_3, chB, ej_5, (eq_true c_2), (eq_true c_4), okR_id hn0, haln, nI_nem hj_5, eq_self, Bool.false_eq_true, ite_self, ↓reduceIte], by first | with_reducible exact hq_3 | (simp only [← eσ_3, chB, ej_5, (eq_true c_2), (eq_true c_4), okR_id hn0, haln, nI_nem hj_5, eq_self, Bool.false_eq_true, ite_self, ↓reduceIte]; with_reducible exact hq_3)⟩, fun h => absurd hcd h⟩)
  · refine co_bodyI (cc := cX3_check) (maxL := 2) (ret := (some .boolean)) (by decide) rfl (Nat.le_of_ble_eq_true rfl) ?_
    intro p e s m args below meth c S hr hlocks hK A hA hP hD hS ls hl
    have S : CallFix p m c cX3_check 2 s args wsX3_check RX3 := S
    obtain ⟨hx, hb, hml, hown, hts⟩ := id S
    have hl : lv_has ls 2 [(0, .ref (b 0)), (1, .int x)] := hl
    have uX3 := uX3_X3_check
    refine lv_aload_n hx hb dX3_check_0 rfl (lv_at hl 0 rfl) ?_
    refine lv_aload_n hx hb dX3_check_1 rfl (lv_at hl 0 rfl) ?_
    refine lv_iload_n hx hb dX3_check_2 rfl (lv_at hl 1 rfl) ?_
    refine co_rV (As := [.int x]) (rest := [.ref (b 0)]) S (c_X3_refuses l G Z b σ μ hR x) (cwV 1 hts gX3_check_X3_refuses rfl rfl rfl (by decide +kernel) ⟨Nat.le_of_ble_eq_true rfl, Nat.le_of_ble_eq_true rfl⟩) hK hP (va_recv hK hP (ci := 2) (q0 := 0) rfl rfl) rfl hl.1 rfl (Nat.le_of_ble_eq_true rfl) dX3_check_3 ⟨Nat.zero_le _, Nat.zero_le _⟩ ?_
    refine co_eq (show nI (cdA σ x) = 1 from congrArg nI (show cdA σ x = 1 by simp only [cdA, hon0, eq_self, Bool.false_eq_true, ite_self, ↓reduceIte])) ?_
    refine va_put (D := G.1) (ci := 2) (v := .int 1) (ty := .int) (C := RX3) (T := TX3) (N := 13) hx hb hts uX3 tyX3 tyX3_ok nmX3 hown hK hP hD hS 0 rfl rfl 0 (by decide) (hts (.fieldLink RX3 41 "ChordOverlayModel" "thrown" "I") (by decide +kernel)) (fun _ h9 => h9) rfl (by decide +kernel) rfl rfl (Nat.le_of_ble_eq_true rfl) dX3_check_6 (fun H locs hP hD hS => ?_)
    have hP : pG G (wM G b (va_up μ 0 (fun _ => 1))) H := hP
    have hD : va_D A (wM G b (va_up μ 0 (fun _ => 1))) := hD
    have hz_1 : Rl Z σ (va_up μ 0 (fun _ => 1)) := Rl.s0 (f := fun _ => 1) hR
    refine lv_aload_n hx hb dX3_check_9 rfl (lv_at hl 0 rfl) ?_
    refine va_get (D := G.1) (ci := 2) (v := .int 1) (C := RX3) (T := TX3) (N := 13) hx hb hts uX3 hown hK hP 0 rfl rfl 0 (by decide) (hts (.fieldLink RX3 41 "ChordOverlayModel" "thrown" "I") (by decide +kernel)) (fun _ h9 => h9) rfl dX3_check_10 ?_
    refine lv_if_ne (tgt := 21) hx hb dX3_check_13 (by decide) (fun c_2 => ?_) (fun c_2 => ?_)
    · refine lv_aload_n hx hb dX3_check_21 rfl (lv_at hl 0 rfl) ?_
      refine va_get (D := G.1) (ci := 2) (v := .int 1) (C := RX3) (T := TX3) (N := 13) hx hb hts uX3 hown hK hP 0 rfl rfl 0 (by decide) (hts (.fieldLink RX3 41 "ChordOverlayModel" "thrown" "I") (by decide +kernel)) (fun _ h9 => h9) rfl dX3_check_22 ?_
      refine lv_if_ne (tgt := 42) hx hb dX3_check_25 (by decide) (fun c_3 => ?_) (fun c_3 => ?_)
      · refine lv_iconst (v := 0) hx hb dX3_check_42 (by decide) ?_
        exact co_endIz (v := false) (va_up μ 0 (fun _ => 1)) S hr hlocks dX3_check_43 hK hP hD hS (by have hcd : cdA σ x = 1 := (by simp only [cdA, hon0, c_2, c_3, eq_self, Bool.false_eq_true, ite_self, ↓reduceIte]); exact ⟨by rw [hcd]; exact rfl, fun h => absurd (hcd.symm.trans h) (by decide), fun _ => hz_1⟩)
      · exact absurd c_3 (by decide)
    · exact absurd c_2 (by decide)

set_option maxRecDepth 20000 in
theorem uX3_X3_stabilize : ∀ w ∈ u_ws RX3 TX3 13, w ∈ wsX3_stabilize := by decide +kernel
abbrev rm_X3_stabilize : Room := { frames := 4, cells := 0, slots := 0, locals := 91 }
set_option maxHeartbeats 4000000 in
set_option maxRecDepth 100000 in
theorem c_X3_stabilize (l : Launch) (G : cG) (Z : Nat) (b : Nat → Nat) (σ μ : cS) (hR : Rl Z σ μ) (x : Int32) : MetI l yX3_stabilize wsX3_stabilize rm_X3_stabilize G (wM G b μ) [.ref (b 0), .int x] (fun u : cS => wM G b u) (fun r u => u 0 0 = nI (cdA σ x) ∧ (cdA σ x = 0 → r = tat 3 (msS σ x 1) x 0 ∧ Rl Z (msS σ x) u) ∧ (cdA σ x ≠ 0 → Rl Z σ u)) := by
  rcases id_or x with ⟨n, hn0, rfl⟩ | ⟨hin0, hon0⟩
  · cases haln : alv (σ 0) (nI n) with
    | false =>
      refine co_bodyI (cc := cX3_stabilize) (maxL := 2) (ret := (some .int)) (by decide) rfl (Nat.le_of_ble_eq_true rfl) ?_
      intro p e s m args below meth c S hr hlocks hK A hA hP hD hS ls hl
      have S : CallFix p m c cX3_stabilize 2 s args wsX3_stabilize RX3 := S
      obtain ⟨hx, hb, hml, hown, hts⟩ := id S
      have hl : lv_has ls 2 [(0, .ref (b 0)), (1, .int (nI n))] := hl
      have uX3 := uX3_X3_stabilize
      refine lv_aload_n hx hb dX3_stabilize_0 rfl (lv_at hl 0 rfl) ?_
      refine lv_aload_n hx hb dX3_stabilize_1 rfl (lv_at hl 0 rfl) ?_
      refine lv_iload_n hx hb dX3_stabilize_2 rfl (lv_at hl 1 rfl) ?_
      refine co_rV (As := [.int (nI n)]) (rest := [.ref (b 0)]) S (c_X3_refuses l G Z b σ μ hR (nI n)) (cwV 1 hts gX3_stabilize_X3_refuses rfl rfl rfl (by decide +kernel) ⟨Nat.le_of_ble_eq_true rfl, Nat.le_of_ble_eq_true rfl⟩) hK hP (va_recv hK hP (ci := 2) (q0 := 0) rfl rfl) rfl hl.1 rfl (Nat.le_of_ble_eq_true rfl) dX3_stabilize_3 ⟨Nat.zero_le _, Nat.zero_le _⟩ ?_
      refine co_eq (show nI (cdA σ (nI n)) = 2 from congrArg nI (show cdA σ (nI n) = 2 by simp only [cdA, okR_id hn0, haln, eq_self, Bool.false_eq_true, ite_self, ↓reduceIte])) ?_
      refine va_put (D := G.1) (ci := 2) (v := .int 2) (ty := .int) (C := RX3) (T := TX3) (N := 13) hx hb hts uX3 tyX3 tyX3_ok nmX3 hown hK hP hD hS 0 rfl rfl 0 (by decide) (hts (.fieldLink RX3 41 "ChordOverlayModel" "thrown" "I") (by decide +kernel)) (fun _ h9 => h9) rfl (by decide +kernel) rfl rfl (Nat.le_of_ble_eq_true rfl) dX3_stabilize_6 (fun H locs hP hD hS => ?_)
      have hP : pG G (wM G b (va_up μ 0 (fun _ => 2))) H := hP
      have hD : va_D A (wM G b (va_up μ 0 (fun _ => 2))) := hD
      have hz_1 : Rl Z σ (va_up μ 0 (fun _ => 2)) := Rl.s0 (f := fun _ => 2) hR
      refine lv_aload_n hx hb dX3_stabilize_9 rfl (lv_at hl 0 rfl) ?_
      refine va_get (D := G.1) (ci := 2) (v := .int 2) (C := RX3) (T := TX3) (N := 13) hx hb hts uX3 hown hK hP 0 rfl rfl 0 (by decide) (hts (.fieldLink RX3 41 "ChordOverlayModel" "thrown" "I") (by decide +kernel)) (fun _ h9 => h9) rfl dX3_stabilize_10 ?_
      refine lv_if_le (tgt := 18) hx hb dX3_stabilize_13 (by decide) (fun c_2 => ?_) (fun c_2 => ?_)
      · exact absurd c_2 (by decide)
      · refine lv_iconst (v := 0) hx hb dX3_stabilize_16 (by decide) ?_
        exact co_endI (va_up μ 0 (fun _ => 2)) S hr hlocks dX3_stabilize_17 hK hP hD hS (by have hcd : cdA σ (nI n) = 2 := (by simp only [cdA, okR_id hn0, haln, c_2, eq_self, Bool.false_eq_true, ite_self, ↓reduceIte]); exact ⟨by rw [hcd]; exact rfl, fun h => absurd (hcd.symm.trans h) (by decide), fun _ => hz_1⟩)
    | true =>
      refine co_bodyI (cc := cX3_stabilize) (maxL := 2) (ret := (some .int)) (by decide) rfl (Nat.le_of_ble_eq_true rfl) ?_
      intro p e s m args below meth c S hr hlocks hK A hA hP hD hS ls hl
      have S : CallFix p m c cX3_stabilize 2 s args wsX3_stabilize RX3 := S
      obtain ⟨hx, hb, hml, hown, hts⟩ := id S
      have hl : lv_has ls 2 [(0, .ref (b 0)), (1, .int (nI n))] := hl
      have uX3 := uX3_X3_stabilize
      refine lv_aload_n hx hb dX3_stabilize_0 rfl (lv_at hl 0 rfl) ?_
      refine lv_aload_n hx hb dX3_stabilize_1 rfl (lv_at hl 0 rfl) ?_
      refine lv_iload_n hx hb dX3_stabilize_2 rfl (lv_at hl 1 rfl) ?_
      refine co_rV (As := [.int (nI n)]) (rest := [.ref (b 0)]) S (c_X3_refuses l G Z b σ μ hR (nI n)) (cwV 1 hts gX3_stabilize_X3_refuses rfl rfl rfl (by decide +kernel) ⟨Nat.le_of_ble_eq_true rfl, Nat.le_of_ble_eq_true rfl⟩) hK hP (va_recv hK hP (ci := 2) (q0 := 0) rfl rfl) rfl hl.1 rfl (Nat.le_of_ble_eq_true rfl) dX3_stabilize_3 ⟨Nat.zero_le _, Nat.zero_le _⟩ ?_
      refine co_eq (show nI (cdA σ (nI n)) = 0 from congrArg nI (show cdA σ (nI n) = 0 by simp only [cdA, okR_id hn0, haln, eq_self, Bool.false_eq_true, ite_self, ↓reduceIte])) ?_
      refine va_put (D := G.1) (ci := 2) (v := .int 0) (ty := .int) (C := RX3) (T := TX3) (N := 13) hx hb hts uX3 tyX3 tyX3_ok nmX3 hown hK hP hD hS 0 rfl rfl 0 (by decide) (hts (.fieldLink RX3 41 "ChordOverlayModel" "thrown" "I") (by decide +kernel)) (fun _ h9 => h9) rfl (by decide +kernel) rfl rfl (Nat.le_of_ble_eq_true rfl) dX3_stabilize_6 (fun H locs hP hD hS => ?_)
      have hP : pG G (wM G b (va_up μ 0 (fun _ => 0))) H := hP
      have hD : va_D A (wM G b (va_up μ 0 (fun _ => 0))) := hD
      have hz_1 : Rl Z σ (va_up μ 0 (fun _ => 0)) := Rl.s0 (f := fun _ => 0) hR
      refine lv_aload_n hx hb dX3_stabilize_9 rfl (lv_at hl 0 rfl) ?_
      refine va_get (D := G.1) (ci := 2) (v := .int 0) (C := RX3) (T := TX3) (N := 13) hx hb hts uX3 hown hK hP 0 rfl rfl 0 (by decide) (hts (.fieldLink RX3 41 "ChordOverlayModel" "thrown" "I") (by decide +kernel)) (fun _ h9 => h9) rfl dX3_stabilize_10 ?_
      refine lv_if_le (tgt := 18) hx hb dX3_stabilize_13 (by decide) (fun c_2 => ?_) (fun c_2 => ?_)
      · refine lv_aload_n hx hb dX3_stabilize_18 rfl (lv_at hl 0 rfl) ?_
        refine lv_iload_n hx hb dX3_stabilize_19 rfl (lv_at hl 1 rfl) ?_
        refine co_mVv (As := [.int (nI n)]) (rest := []) S (c_X3_stabilizes l G Z b σ (va_up μ 0 (fun _ => 0)) hz_1 n ⟨hn0, haln⟩) (cwV 1 hts gX3_stabilize_X3_stabilizes rfl rfl rfl (by decide +kernel) ⟨Nat.le_of_ble_eq_true rfl, Nat.le_of_ble_eq_true rfl⟩) hK hP hD hS hA (va_recv hK hP (ci := 2) (q0 := 0) rfl rfl) rfl hl.1 rfl (Nat.le_of_ble_eq_true rfl) dX3_stabilize_20 ⟨Nat.zero_le _, Nat.zero_le _⟩ (fun u_3 H locs hu_3 hP hD hS => ?_)
        obtain ⟨hq_3, hk_3⟩ := hu_3
        obtain ⟨σ_3, eσ_3⟩ : ∃ z9, z9 = (msS σ (nI n)) := ⟨_, rfl⟩
        have hq_3 : Rl Z σ_3 u_3 := (by rw [eσ_3]; exact hq_3)
        have hc0_3 : σ_3 0 = (σ 0) := (by rw [eσ_3]; exact msS_0)
        have hP : pG G (wM G b u_3) H := hP
        have hD : va_D A (wM G b u_3) := hD
        refine lv_aload_n hx hb dX3_stabilize_23 rfl (lv_at hl 0 rfl) ?_
        refine va_get (D := G.1) (ci := 2) (v := .ref (b 2)) (C := RX3) (T := TX3) (N := 13) hx hb hts uX3 hown hK hP 0 rfl rfl 3 (by decide) (hts (.fieldLink RX3 13 "ChordOverlayModel" "successor" "[I") (by decide +kernel)) (fun _ h9 => h9) rfl dX3_stabilize_24 ?_
        refine lv_iconst (v := 3) hx hb dX3_stabilize_27 (by decide) ?_
        refine lv_iload_n hx hb dX3_stabilize_28 rfl (lv_at hl 1 rfl) ?_
        refine lv_imul hx hb dX3_stabilize_29 ?_
        refine va_iald hx hb hK hP 2 0 rfl rfl (vi_30 hn0) dX3_stabilize_30 ?_
        obtain ⟨j_4, hj_4, ej_4, mj_4⟩ := rl_s0 hq_3 (Lv.tr hc0_3 ⟨hn0, haln⟩)
        have ej_4 : tat 3 (σ_3 1) (nI n) 0 = nI j_4 := ej_4
        refine co_eq mj_4 ?_
        exact co_endI u_3 S hr hlocks dX3_stabilize_31 hK hP hD hS (by have hcd : cdA σ (nI n) = 0 := (by simp only [cdA, okR_id hn0, haln, c_2, eq_self, Bool.false_eq_true, ite_self, ↓reduceIte]); exact ⟨by rw [hcd]; exact (congrFun hk_3.1 0), fun _ => ⟨by first | with_reducible rfl | with_reducible assumption | simp only [← eσ_3, ej_4, c_2, okR_id hn0, haln, nI_nem hj_4, eq_self, Bool.false_eq_true, ite_self, ↓reduceIte], by first | with_reducible exact hq_3 | (simp only [← eσ_3, ej_4, c_2, okR_id hn0, haln, nI_nem hj_4, eq_self, Bool.false_eq_true, ite_self, ↓reduceIte]; with_reducible exact hq_3)⟩, fun h => absurd hcd h⟩)
      · exact absurd (by decide) c_2
  · refine co_bodyI (cc := cX3_stabilize) (maxL := 2) (ret := (some .int)) (by decide) rfl (Nat.le_of_ble_eq_true rfl) ?_
    intro p e s m args below meth c S hr hlocks hK A hA hP hD hS ls hl
    have S : CallFix p m c cX3_stabilize 2 s args wsX3_stabilize RX3 := S
    obtain ⟨hx, hb, hml, hown, hts⟩ := id S
    have hl : lv_has ls 2 [(0, .ref (b 0)), (1, .int x)] := hl
    have uX3 := uX3_X3_stabilize
    refine lv_aload_n hx hb dX3_stabilize_0 rfl (lv_at hl 0 rfl) ?_
    refine lv_aload_n hx hb dX3_stabilize_1 rfl (lv_at hl 0 rfl) ?_
    refine lv_iload_n hx hb dX3_stabilize_2 rfl (lv_at hl 1 rfl) ?_
    refine co_rV (As := [.int x]) (rest := [.ref (b 0)]) S (c_X3_refuses l G Z b σ μ hR x) (cwV 1 hts gX3_stabilize_X3_refuses rfl rfl rfl (by decide +kernel) ⟨Nat.le_of_ble_eq_true rfl, Nat.le_of_ble_eq_true rfl⟩) hK hP (va_recv hK hP (ci := 2) (q0 := 0) rfl rfl) rfl hl.1 rfl (Nat.le_of_ble_eq_true rfl) dX3_stabilize_3 ⟨Nat.zero_le _, Nat.zero_le _⟩ ?_
    refine co_eq (show nI (cdA σ x) = 1 from congrArg nI (show cdA σ x = 1 by simp only [cdA, hon0, eq_self, Bool.false_eq_true, ite_self, ↓reduceIte])) ?_
    refine va_put (D := G.1) (ci := 2) (v := .int 1) (ty := .int) (C := RX3) (T := TX3) (N := 13) hx hb hts uX3 tyX3 tyX3_ok nmX3 hown hK hP hD hS 0 rfl rfl 0 (by decide) (hts (.fieldLink RX3 41 "ChordOverlayModel" "thrown" "I") (by decide +kernel)) (fun _ h9 => h9) rfl (by decide +kernel) rfl rfl (Nat.le_of_ble_eq_true rfl) dX3_stabilize_6 (fun H locs hP hD hS => ?_)
    have hP : pG G (wM G b (va_up μ 0 (fun _ => 1))) H := hP
    have hD : va_D A (wM G b (va_up μ 0 (fun _ => 1))) := hD
    have hz_1 : Rl Z σ (va_up μ 0 (fun _ => 1)) := Rl.s0 (f := fun _ => 1) hR
    refine lv_aload_n hx hb dX3_stabilize_9 rfl (lv_at hl 0 rfl) ?_
    refine va_get (D := G.1) (ci := 2) (v := .int 1) (C := RX3) (T := TX3) (N := 13) hx hb hts uX3 hown hK hP 0 rfl rfl 0 (by decide) (hts (.fieldLink RX3 41 "ChordOverlayModel" "thrown" "I") (by decide +kernel)) (fun _ h9 => h9) rfl dX3_stabilize_10 ?_
    refine lv_if_le (tgt := 18) hx hb dX3_stabilize_13 (by decide) (fun c_2 => ?_) (fun c_2 => ?_)
    · exact absurd c_2 (by decide)
    · refine lv_iconst (v := 0) hx hb dX3_stabilize_16 (by decide) ?_
      exact co_endI (va_up μ 0 (fun _ => 1)) S hr hlocks dX3_stabilize_17 hK hP hD hS (by have hcd : cdA σ x = 1 := (by simp only [cdA, hon0, c_2, eq_self, Bool.false_eq_true, ite_self, ↓reduceIte]); exact ⟨by rw [hcd]; exact rfl, fun h => absurd (hcd.symm.trans h) (by decide), fun _ => hz_1⟩)

set_option maxRecDepth 20000 in
theorem uX3_X3_fix : ∀ w ∈ u_ws RX3 TX3 13, w ∈ wsX3_fix := by decide +kernel
abbrev rm_X3_fix : Room := { frames := 6, cells := 0, slots := 0, locals := 141 }
set_option maxHeartbeats 4000000 in
set_option maxRecDepth 100000 in
theorem c_X3_fix (l : Launch) (G : cG) (Z : Nat) (b : Nat → Nat) (σ μ : cS) (hR : Rl Z σ μ) (x : Int32) : MetI l yX3_fix wsX3_fix rm_X3_fix G (wM G b μ) [.ref (b 0), .int x] (fun u : cS => wM G b u) (fun r u => u 0 0 = nI (cdA σ x) ∧ (cdA σ x = 0 → r = rfC σ x 6 ∧ Rl Z (rfS σ x 6) u) ∧ (cdA σ x ≠ 0 → Rl Z σ u)) := by
  rcases id_or x with ⟨n, hn0, rfl⟩ | ⟨hin0, hon0⟩
  · cases haln : alv (σ 0) (nI n) with
    | false =>
      refine co_bodyI (cc := cX3_fix) (maxL := 2) (ret := (some .int)) (by decide) rfl (Nat.le_of_ble_eq_true rfl) ?_
      intro p e s m args below meth c S hr hlocks hK A hA hP hD hS ls hl
      have S : CallFix p m c cX3_fix 2 s args wsX3_fix RX3 := S
      obtain ⟨hx, hb, hml, hown, hts⟩ := id S
      have hl : lv_has ls 2 [(0, .ref (b 0)), (1, .int (nI n))] := hl
      have uX3 := uX3_X3_fix
      refine lv_aload_n hx hb dX3_fix_0 rfl (lv_at hl 0 rfl) ?_
      refine lv_aload_n hx hb dX3_fix_1 rfl (lv_at hl 0 rfl) ?_
      refine lv_iload_n hx hb dX3_fix_2 rfl (lv_at hl 1 rfl) ?_
      refine co_rV (As := [.int (nI n)]) (rest := [.ref (b 0)]) S (c_X3_refuses l G Z b σ μ hR (nI n)) (cwV 1 hts gX3_fix_X3_refuses rfl rfl rfl (by decide +kernel) ⟨Nat.le_of_ble_eq_true rfl, Nat.le_of_ble_eq_true rfl⟩) hK hP (va_recv hK hP (ci := 2) (q0 := 0) rfl rfl) rfl hl.1 rfl (Nat.le_of_ble_eq_true rfl) dX3_fix_3 ⟨Nat.zero_le _, Nat.zero_le _⟩ ?_
      refine co_eq (show nI (cdA σ (nI n)) = 2 from congrArg nI (show cdA σ (nI n) = 2 by simp only [cdA, okR_id hn0, haln, eq_self, Bool.false_eq_true, ite_self, ↓reduceIte])) ?_
      refine va_put (D := G.1) (ci := 2) (v := .int 2) (ty := .int) (C := RX3) (T := TX3) (N := 13) hx hb hts uX3 tyX3 tyX3_ok nmX3 hown hK hP hD hS 0 rfl rfl 0 (by decide) (hts (.fieldLink RX3 41 "ChordOverlayModel" "thrown" "I") (by decide +kernel)) (fun _ h9 => h9) rfl (by decide +kernel) rfl rfl (Nat.le_of_ble_eq_true rfl) dX3_fix_6 (fun H locs hP hD hS => ?_)
      have hP : pG G (wM G b (va_up μ 0 (fun _ => 2))) H := hP
      have hD : va_D A (wM G b (va_up μ 0 (fun _ => 2))) := hD
      have hz_1 : Rl Z σ (va_up μ 0 (fun _ => 2)) := Rl.s0 (f := fun _ => 2) hR
      refine lv_aload_n hx hb dX3_fix_9 rfl (lv_at hl 0 rfl) ?_
      refine va_get (D := G.1) (ci := 2) (v := .int 2) (C := RX3) (T := TX3) (N := 13) hx hb hts uX3 hown hK hP 0 rfl rfl 0 (by decide) (hts (.fieldLink RX3 41 "ChordOverlayModel" "thrown" "I") (by decide +kernel)) (fun _ h9 => h9) rfl dX3_fix_10 ?_
      refine lv_if_ne (tgt := 24) hx hb dX3_fix_13 (by decide) (fun c_2 => ?_) (fun c_2 => ?_)
      · refine lv_iconst (v := 0) hx hb dX3_fix_24 (by decide) ?_
        exact co_endI (va_up μ 0 (fun _ => 2)) S hr hlocks dX3_fix_25 hK hP hD hS (by have hcd : cdA σ (nI n) = 2 := (by simp only [cdA, okR_id hn0, haln, c_2, eq_self, Bool.false_eq_true, ite_self, ↓reduceIte]); exact ⟨by rw [hcd]; exact rfl, fun h => absurd (hcd.symm.trans h) (by decide), fun _ => hz_1⟩)
      · exact absurd c_2 (by decide)
    | true =>
      refine co_bodyI (cc := cX3_fix) (maxL := 2) (ret := (some .int)) (by decide) rfl (Nat.le_of_ble_eq_true rfl) ?_
      intro p e s m args below meth c S hr hlocks hK A hA hP hD hS ls hl
      have S : CallFix p m c cX3_fix 2 s args wsX3_fix RX3 := S
      obtain ⟨hx, hb, hml, hown, hts⟩ := id S
      have hl : lv_has ls 2 [(0, .ref (b 0)), (1, .int (nI n))] := hl
      have uX3 := uX3_X3_fix
      refine lv_aload_n hx hb dX3_fix_0 rfl (lv_at hl 0 rfl) ?_
      refine lv_aload_n hx hb dX3_fix_1 rfl (lv_at hl 0 rfl) ?_
      refine lv_iload_n hx hb dX3_fix_2 rfl (lv_at hl 1 rfl) ?_
      refine co_rV (As := [.int (nI n)]) (rest := [.ref (b 0)]) S (c_X3_refuses l G Z b σ μ hR (nI n)) (cwV 1 hts gX3_fix_X3_refuses rfl rfl rfl (by decide +kernel) ⟨Nat.le_of_ble_eq_true rfl, Nat.le_of_ble_eq_true rfl⟩) hK hP (va_recv hK hP (ci := 2) (q0 := 0) rfl rfl) rfl hl.1 rfl (Nat.le_of_ble_eq_true rfl) dX3_fix_3 ⟨Nat.zero_le _, Nat.zero_le _⟩ ?_
      refine co_eq (show nI (cdA σ (nI n)) = 0 from congrArg nI (show cdA σ (nI n) = 0 by simp only [cdA, okR_id hn0, haln, eq_self, Bool.false_eq_true, ite_self, ↓reduceIte])) ?_
      refine va_put (D := G.1) (ci := 2) (v := .int 0) (ty := .int) (C := RX3) (T := TX3) (N := 13) hx hb hts uX3 tyX3 tyX3_ok nmX3 hown hK hP hD hS 0 rfl rfl 0 (by decide) (hts (.fieldLink RX3 41 "ChordOverlayModel" "thrown" "I") (by decide +kernel)) (fun _ h9 => h9) rfl (by decide +kernel) rfl rfl (Nat.le_of_ble_eq_true rfl) dX3_fix_6 (fun H locs hP hD hS => ?_)
      have hP : pG G (wM G b (va_up μ 0 (fun _ => 0))) H := hP
      have hD : va_D A (wM G b (va_up μ 0 (fun _ => 0))) := hD
      have hz_1 : Rl Z σ (va_up μ 0 (fun _ => 0)) := Rl.s0 (f := fun _ => 0) hR
      refine lv_aload_n hx hb dX3_fix_9 rfl (lv_at hl 0 rfl) ?_
      refine va_get (D := G.1) (ci := 2) (v := .int 0) (C := RX3) (T := TX3) (N := 13) hx hb hts uX3 hown hK hP 0 rfl rfl 0 (by decide) (hts (.fieldLink RX3 41 "ChordOverlayModel" "thrown" "I") (by decide +kernel)) (fun _ h9 => h9) rfl dX3_fix_10 ?_
      refine lv_if_ne (tgt := 24) hx hb dX3_fix_13 (by decide) (fun c_2 => ?_) (fun c_2 => ?_)
      · exact absurd (by decide) c_2
      · refine lv_aload_n hx hb dX3_fix_16 rfl (lv_at hl 0 rfl) ?_
        refine lv_iload_n hx hb dX3_fix_17 rfl (lv_at hl 1 rfl) ?_
        refine co_mVi (As := [.int (nI n)]) (rest := []) S (c_X3_fixes l G Z b σ (va_up μ 0 (fun _ => 0)) hz_1 n ⟨hn0, haln⟩) (cwV 1 hts gX3_fix_X3_fixes rfl rfl rfl (by decide +kernel) ⟨Nat.le_of_ble_eq_true rfl, Nat.le_of_ble_eq_true rfl⟩) hK hP hD hS hA (va_recv hK hP (ci := 2) (q0 := 0) rfl rfl) rfl hl.1 rfl (Nat.le_of_ble_eq_true rfl) dX3_fix_18 ⟨Nat.zero_le _, Nat.zero_le _⟩ (fun r_3 u_3 H locs hu_3 hP hD hS => ?_)
        obtain ⟨hr_3, hq_3, hk_3⟩ := hu_3
        have hr_3 : r_3 = (rfC σ (nI n) 6) := hr_3
        obtain ⟨σ_3, eσ_3⟩ : ∃ z9, z9 = (rfS σ (nI n) 6) := ⟨_, rfl⟩
        have hq_3 : Rl Z σ_3 u_3 := (by rw [eσ_3]; exact hq_3)
        have hc0_3 : σ_3 0 = (σ 0) := (by rw [eσ_3]; exact (rfS_0 6))
        have hP : pG G (wM G b u_3) H := hP
        have hD : va_D A (wM G b u_3) := hD
        refine lv_goto (tgt := 25) hx hb dX3_fix_21 (by decide) ?_
        exact co_endI u_3 S hr hlocks dX3_fix_25 hK hP hD hS (by have hcd : cdA σ (nI n) = 0 := (by simp only [cdA, okR_id hn0, haln, (eq_true c_2), eq_self, Bool.false_eq_true, ite_self, ↓reduceIte]); exact ⟨by rw [hcd]; exact (congrFun hk_3.1 0), fun _ => ⟨by first | with_reducible rfl | with_reducible assumption | simp only [← eσ_3, (eq_true c_2), okR_id hn0, haln, eq_self, Bool.false_eq_true, ite_self, ↓reduceIte], by first | with_reducible exact hq_3 | (simp only [← eσ_3, (eq_true c_2), okR_id hn0, haln, eq_self, Bool.false_eq_true, ite_self, ↓reduceIte]; with_reducible exact hq_3)⟩, fun h => absurd hcd h⟩)
  · refine co_bodyI (cc := cX3_fix) (maxL := 2) (ret := (some .int)) (by decide) rfl (Nat.le_of_ble_eq_true rfl) ?_
    intro p e s m args below meth c S hr hlocks hK A hA hP hD hS ls hl
    have S : CallFix p m c cX3_fix 2 s args wsX3_fix RX3 := S
    obtain ⟨hx, hb, hml, hown, hts⟩ := id S
    have hl : lv_has ls 2 [(0, .ref (b 0)), (1, .int x)] := hl
    have uX3 := uX3_X3_fix
    refine lv_aload_n hx hb dX3_fix_0 rfl (lv_at hl 0 rfl) ?_
    refine lv_aload_n hx hb dX3_fix_1 rfl (lv_at hl 0 rfl) ?_
    refine lv_iload_n hx hb dX3_fix_2 rfl (lv_at hl 1 rfl) ?_
    refine co_rV (As := [.int x]) (rest := [.ref (b 0)]) S (c_X3_refuses l G Z b σ μ hR x) (cwV 1 hts gX3_fix_X3_refuses rfl rfl rfl (by decide +kernel) ⟨Nat.le_of_ble_eq_true rfl, Nat.le_of_ble_eq_true rfl⟩) hK hP (va_recv hK hP (ci := 2) (q0 := 0) rfl rfl) rfl hl.1 rfl (Nat.le_of_ble_eq_true rfl) dX3_fix_3 ⟨Nat.zero_le _, Nat.zero_le _⟩ ?_
    refine co_eq (show nI (cdA σ x) = 1 from congrArg nI (show cdA σ x = 1 by simp only [cdA, hon0, eq_self, Bool.false_eq_true, ite_self, ↓reduceIte])) ?_
    refine va_put (D := G.1) (ci := 2) (v := .int 1) (ty := .int) (C := RX3) (T := TX3) (N := 13) hx hb hts uX3 tyX3 tyX3_ok nmX3 hown hK hP hD hS 0 rfl rfl 0 (by decide) (hts (.fieldLink RX3 41 "ChordOverlayModel" "thrown" "I") (by decide +kernel)) (fun _ h9 => h9) rfl (by decide +kernel) rfl rfl (Nat.le_of_ble_eq_true rfl) dX3_fix_6 (fun H locs hP hD hS => ?_)
    have hP : pG G (wM G b (va_up μ 0 (fun _ => 1))) H := hP
    have hD : va_D A (wM G b (va_up μ 0 (fun _ => 1))) := hD
    have hz_1 : Rl Z σ (va_up μ 0 (fun _ => 1)) := Rl.s0 (f := fun _ => 1) hR
    refine lv_aload_n hx hb dX3_fix_9 rfl (lv_at hl 0 rfl) ?_
    refine va_get (D := G.1) (ci := 2) (v := .int 1) (C := RX3) (T := TX3) (N := 13) hx hb hts uX3 hown hK hP 0 rfl rfl 0 (by decide) (hts (.fieldLink RX3 41 "ChordOverlayModel" "thrown" "I") (by decide +kernel)) (fun _ h9 => h9) rfl dX3_fix_10 ?_
    refine lv_if_ne (tgt := 24) hx hb dX3_fix_13 (by decide) (fun c_2 => ?_) (fun c_2 => ?_)
    · refine lv_iconst (v := 0) hx hb dX3_fix_24 (by decide) ?_
      exact co_endI (va_up μ 0 (fun _ => 1)) S hr hlocks dX3_fix_25 hK hP hD hS (by have hcd : cdA σ x = 1 := (by simp only [cdA, hon0, c_2, eq_self, Bool.false_eq_true, ite_self, ↓reduceIte]); exact ⟨by rw [hcd]; exact rfl, fun h => absurd (hcd.symm.trans h) (by decide), fun _ => hz_1⟩)
    · exact absurd c_2 (by decide)

set_option maxRecDepth 20000 in
theorem uX3_X3_replicate : ∀ w ∈ u_ws RX3 TX3 13, w ∈ wsX3_replicate := by decide +kernel
abbrev rm_X3_replicate : Room := { frames := 6, cells := 0, slots := 0, locals := 142 }
set_option maxHeartbeats 4000000 in
set_option maxRecDepth 100000 in
theorem c_X3_replicate (l : Launch) (G : cG) (Z : Nat) (b : Nat → Nat) (σ μ : cS) (hR : Rl Z σ μ) (x : Int32) : MetI l yX3_replicate wsX3_replicate rm_X3_replicate G (wM G b μ) [.ref (b 0), .int x] (fun u : cS => wM G b u) (fun r u => u 0 0 = nI (cdA σ x) ∧ (cdA σ x = 0 → r = svC σ x 64 ∧ Rl Z (svS σ x 64) u) ∧ (cdA σ x ≠ 0 → Rl Z σ u)) := by
  rcases id_or x with ⟨n, hn0, rfl⟩ | ⟨hin0, hon0⟩
  · cases haln : alv (σ 0) (nI n) with
    | false =>
      refine co_bodyI (cc := cX3_replicate) (maxL := 2) (ret := (some .int)) (by decide) rfl (Nat.le_of_ble_eq_true rfl) ?_
      intro p e s m args below meth c S hr hlocks hK A hA hP hD hS ls hl
      have S : CallFix p m c cX3_replicate 2 s args wsX3_replicate RX3 := S
      obtain ⟨hx, hb, hml, hown, hts⟩ := id S
      have hl : lv_has ls 2 [(0, .ref (b 0)), (1, .int (nI n))] := hl
      have uX3 := uX3_X3_replicate
      refine lv_aload_n hx hb dX3_replicate_0 rfl (lv_at hl 0 rfl) ?_
      refine lv_aload_n hx hb dX3_replicate_1 rfl (lv_at hl 0 rfl) ?_
      refine lv_iload_n hx hb dX3_replicate_2 rfl (lv_at hl 1 rfl) ?_
      refine co_rV (As := [.int (nI n)]) (rest := [.ref (b 0)]) S (c_X3_refuses l G Z b σ μ hR (nI n)) (cwV 1 hts gX3_replicate_X3_refuses rfl rfl rfl (by decide +kernel) ⟨Nat.le_of_ble_eq_true rfl, Nat.le_of_ble_eq_true rfl⟩) hK hP (va_recv hK hP (ci := 2) (q0 := 0) rfl rfl) rfl hl.1 rfl (Nat.le_of_ble_eq_true rfl) dX3_replicate_3 ⟨Nat.zero_le _, Nat.zero_le _⟩ ?_
      refine co_eq (show nI (cdA σ (nI n)) = 2 from congrArg nI (show cdA σ (nI n) = 2 by simp only [cdA, okR_id hn0, haln, eq_self, Bool.false_eq_true, ite_self, ↓reduceIte])) ?_
      refine va_put (D := G.1) (ci := 2) (v := .int 2) (ty := .int) (C := RX3) (T := TX3) (N := 13) hx hb hts uX3 tyX3 tyX3_ok nmX3 hown hK hP hD hS 0 rfl rfl 0 (by decide) (hts (.fieldLink RX3 41 "ChordOverlayModel" "thrown" "I") (by decide +kernel)) (fun _ h9 => h9) rfl (by decide +kernel) rfl rfl (Nat.le_of_ble_eq_true rfl) dX3_replicate_6 (fun H locs hP hD hS => ?_)
      have hP : pG G (wM G b (va_up μ 0 (fun _ => 2))) H := hP
      have hD : va_D A (wM G b (va_up μ 0 (fun _ => 2))) := hD
      have hz_1 : Rl Z σ (va_up μ 0 (fun _ => 2)) := Rl.s0 (f := fun _ => 2) hR
      refine lv_aload_n hx hb dX3_replicate_9 rfl (lv_at hl 0 rfl) ?_
      refine va_get (D := G.1) (ci := 2) (v := .int 2) (C := RX3) (T := TX3) (N := 13) hx hb hts uX3 hown hK hP 0 rfl rfl 0 (by decide) (hts (.fieldLink RX3 41 "ChordOverlayModel" "thrown" "I") (by decide +kernel)) (fun _ h9 => h9) rfl dX3_replicate_10 ?_
      refine lv_if_ne (tgt := 24) hx hb dX3_replicate_13 (by decide) (fun c_2 => ?_) (fun c_2 => ?_)
      · refine lv_iconst (v := 0) hx hb dX3_replicate_24 (by decide) ?_
        exact co_endI (va_up μ 0 (fun _ => 2)) S hr hlocks dX3_replicate_25 hK hP hD hS (by have hcd : cdA σ (nI n) = 2 := (by simp only [cdA, okR_id hn0, haln, c_2, eq_self, Bool.false_eq_true, ite_self, ↓reduceIte]); exact ⟨by rw [hcd]; exact rfl, fun h => absurd (hcd.symm.trans h) (by decide), fun _ => hz_1⟩)
      · exact absurd c_2 (by decide)
    | true =>
      refine co_bodyI (cc := cX3_replicate) (maxL := 2) (ret := (some .int)) (by decide) rfl (Nat.le_of_ble_eq_true rfl) ?_
      intro p e s m args below meth c S hr hlocks hK A hA hP hD hS ls hl
      have S : CallFix p m c cX3_replicate 2 s args wsX3_replicate RX3 := S
      obtain ⟨hx, hb, hml, hown, hts⟩ := id S
      have hl : lv_has ls 2 [(0, .ref (b 0)), (1, .int (nI n))] := hl
      have uX3 := uX3_X3_replicate
      refine lv_aload_n hx hb dX3_replicate_0 rfl (lv_at hl 0 rfl) ?_
      refine lv_aload_n hx hb dX3_replicate_1 rfl (lv_at hl 0 rfl) ?_
      refine lv_iload_n hx hb dX3_replicate_2 rfl (lv_at hl 1 rfl) ?_
      refine co_rV (As := [.int (nI n)]) (rest := [.ref (b 0)]) S (c_X3_refuses l G Z b σ μ hR (nI n)) (cwV 1 hts gX3_replicate_X3_refuses rfl rfl rfl (by decide +kernel) ⟨Nat.le_of_ble_eq_true rfl, Nat.le_of_ble_eq_true rfl⟩) hK hP (va_recv hK hP (ci := 2) (q0 := 0) rfl rfl) rfl hl.1 rfl (Nat.le_of_ble_eq_true rfl) dX3_replicate_3 ⟨Nat.zero_le _, Nat.zero_le _⟩ ?_
      refine co_eq (show nI (cdA σ (nI n)) = 0 from congrArg nI (show cdA σ (nI n) = 0 by simp only [cdA, okR_id hn0, haln, eq_self, Bool.false_eq_true, ite_self, ↓reduceIte])) ?_
      refine va_put (D := G.1) (ci := 2) (v := .int 0) (ty := .int) (C := RX3) (T := TX3) (N := 13) hx hb hts uX3 tyX3 tyX3_ok nmX3 hown hK hP hD hS 0 rfl rfl 0 (by decide) (hts (.fieldLink RX3 41 "ChordOverlayModel" "thrown" "I") (by decide +kernel)) (fun _ h9 => h9) rfl (by decide +kernel) rfl rfl (Nat.le_of_ble_eq_true rfl) dX3_replicate_6 (fun H locs hP hD hS => ?_)
      have hP : pG G (wM G b (va_up μ 0 (fun _ => 0))) H := hP
      have hD : va_D A (wM G b (va_up μ 0 (fun _ => 0))) := hD
      have hz_1 : Rl Z σ (va_up μ 0 (fun _ => 0)) := Rl.s0 (f := fun _ => 0) hR
      refine lv_aload_n hx hb dX3_replicate_9 rfl (lv_at hl 0 rfl) ?_
      refine va_get (D := G.1) (ci := 2) (v := .int 0) (C := RX3) (T := TX3) (N := 13) hx hb hts uX3 hown hK hP 0 rfl rfl 0 (by decide) (hts (.fieldLink RX3 41 "ChordOverlayModel" "thrown" "I") (by decide +kernel)) (fun _ h9 => h9) rfl dX3_replicate_10 ?_
      refine lv_if_ne (tgt := 24) hx hb dX3_replicate_13 (by decide) (fun c_2 => ?_) (fun c_2 => ?_)
      · exact absurd (by decide) c_2
      · refine lv_aload_n hx hb dX3_replicate_16 rfl (lv_at hl 0 rfl) ?_
        refine lv_iload_n hx hb dX3_replicate_17 rfl (lv_at hl 1 rfl) ?_
        refine co_mVi (As := [.int (nI n)]) (rest := []) S (c_X3_replicates l G Z b σ (va_up μ 0 (fun _ => 0)) hz_1 n ⟨hn0, haln⟩) (cwV 1 hts gX3_replicate_X3_replicates rfl rfl rfl (by decide +kernel) ⟨Nat.le_of_ble_eq_true rfl, Nat.le_of_ble_eq_true rfl⟩) hK hP hD hS hA (va_recv hK hP (ci := 2) (q0 := 0) rfl rfl) rfl hl.1 rfl (Nat.le_of_ble_eq_true rfl) dX3_replicate_18 ⟨Nat.zero_le _, Nat.zero_le _⟩ (fun r_3 u_3 H locs hu_3 hP hD hS => ?_)
        obtain ⟨hr_3, hq_3, hk_3⟩ := hu_3
        have hr_3 : r_3 = (svC σ (nI n) 64) := hr_3
        obtain ⟨σ_3, eσ_3⟩ : ∃ z9, z9 = (svS σ (nI n) 64) := ⟨_, rfl⟩
        have hq_3 : Rl Z σ_3 u_3 := (by rw [eσ_3]; exact hq_3)
        have hc0_3 : σ_3 0 = (σ 0) := (by rw [eσ_3]; exact (svS_0 64))
        have hP : pG G (wM G b u_3) H := hP
        have hD : va_D A (wM G b u_3) := hD
        refine lv_goto (tgt := 25) hx hb dX3_replicate_21 (by decide) ?_
        exact co_endI u_3 S hr hlocks dX3_replicate_25 hK hP hD hS (by have hcd : cdA σ (nI n) = 0 := (by simp only [cdA, okR_id hn0, haln, (eq_true c_2), eq_self, Bool.false_eq_true, ite_self, ↓reduceIte]); exact ⟨by rw [hcd]; exact (congrFun hk_3.1 0), fun _ => ⟨by first | with_reducible rfl | with_reducible assumption | simp only [← eσ_3, (eq_true c_2), okR_id hn0, haln, eq_self, Bool.false_eq_true, ite_self, ↓reduceIte], by first | with_reducible exact hq_3 | (simp only [← eσ_3, (eq_true c_2), okR_id hn0, haln, eq_self, Bool.false_eq_true, ite_self, ↓reduceIte]; with_reducible exact hq_3)⟩, fun h => absurd hcd h⟩)
  · refine co_bodyI (cc := cX3_replicate) (maxL := 2) (ret := (some .int)) (by decide) rfl (Nat.le_of_ble_eq_true rfl) ?_
    intro p e s m args below meth c S hr hlocks hK A hA hP hD hS ls hl
    have S : CallFix p m c cX3_replicate 2 s args wsX3_replicate RX3 := S
    obtain ⟨hx, hb, hml, hown, hts⟩ := id S
    have hl : lv_has ls 2 [(0, .ref (b 0)), (1, .int x)] := hl
    have uX3 := uX3_X3_replicate
    refine lv_aload_n hx hb dX3_replicate_0 rfl (lv_at hl 0 rfl) ?_
    refine lv_aload_n hx hb dX3_replicate_1 rfl (lv_at hl 0 rfl) ?_
    refine lv_iload_n hx hb dX3_replicate_2 rfl (lv_at hl 1 rfl) ?_
    refine co_rV (As := [.int x]) (rest := [.ref (b 0)]) S (c_X3_refuses l G Z b σ μ hR x) (cwV 1 hts gX3_replicate_X3_refuses rfl rfl rfl (by decide +kernel) ⟨Nat.le_of_ble_eq_true rfl, Nat.le_of_ble_eq_true rfl⟩) hK hP (va_recv hK hP (ci := 2) (q0 := 0) rfl rfl) rfl hl.1 rfl (Nat.le_of_ble_eq_true rfl) dX3_replicate_3 ⟨Nat.zero_le _, Nat.zero_le _⟩ ?_
    refine co_eq (show nI (cdA σ x) = 1 from congrArg nI (show cdA σ x = 1 by simp only [cdA, hon0, eq_self, Bool.false_eq_true, ite_self, ↓reduceIte])) ?_
    refine va_put (D := G.1) (ci := 2) (v := .int 1) (ty := .int) (C := RX3) (T := TX3) (N := 13) hx hb hts uX3 tyX3 tyX3_ok nmX3 hown hK hP hD hS 0 rfl rfl 0 (by decide) (hts (.fieldLink RX3 41 "ChordOverlayModel" "thrown" "I") (by decide +kernel)) (fun _ h9 => h9) rfl (by decide +kernel) rfl rfl (Nat.le_of_ble_eq_true rfl) dX3_replicate_6 (fun H locs hP hD hS => ?_)
    have hP : pG G (wM G b (va_up μ 0 (fun _ => 1))) H := hP
    have hD : va_D A (wM G b (va_up μ 0 (fun _ => 1))) := hD
    have hz_1 : Rl Z σ (va_up μ 0 (fun _ => 1)) := Rl.s0 (f := fun _ => 1) hR
    refine lv_aload_n hx hb dX3_replicate_9 rfl (lv_at hl 0 rfl) ?_
    refine va_get (D := G.1) (ci := 2) (v := .int 1) (C := RX3) (T := TX3) (N := 13) hx hb hts uX3 hown hK hP 0 rfl rfl 0 (by decide) (hts (.fieldLink RX3 41 "ChordOverlayModel" "thrown" "I") (by decide +kernel)) (fun _ h9 => h9) rfl dX3_replicate_10 ?_
    refine lv_if_ne (tgt := 24) hx hb dX3_replicate_13 (by decide) (fun c_2 => ?_) (fun c_2 => ?_)
    · refine lv_iconst (v := 0) hx hb dX3_replicate_24 (by decide) ?_
      exact co_endI (va_up μ 0 (fun _ => 1)) S hr hlocks dX3_replicate_25 hK hP hD hS (by have hcd : cdA σ x = 1 := (by simp only [cdA, hon0, c_2, eq_self, Bool.false_eq_true, ite_self, ↓reduceIte]); exact ⟨by rw [hcd]; exact rfl, fun h => absurd (hcd.symm.trans h) (by decide), fun _ => hz_1⟩)
    · exact absurd c_2 (by decide)

set_option maxRecDepth 20000 in
theorem uX3_X3_lookup : ∀ w ∈ u_ws RX3 TX3 13, w ∈ wsX3_lookup := by decide +kernel
abbrev rm_X3_lookup : Room := { frames := 5, cells := 0, slots := 0, locals := 117 }
set_option maxHeartbeats 4000000 in
set_option maxRecDepth 100000 in
theorem c_X3_lookup (l : Launch) (G : cG) (Z : Nat) (b : Nat → Nat) (σ μ : cS) (hR : Rl Z σ μ) (x : Int32) (y : Int32) : MetI l yX3_lookup wsX3_lookup rm_X3_lookup G (wM G b μ) [.ref (b 0), .int x, .int y] (fun u : cS => wM G b u) (fun r u => u 0 0 = nI (cdP σ x y 63) ∧ (cdP σ x y 63 = 0 → r = fnR σ x y ∧ Rl Z σ u) ∧ (cdP σ x y 63 ≠ 0 → Rl Z σ u)) := by
  rcases id_or x with ⟨n, hn0, rfl⟩ | ⟨hin0, hon0⟩
  · rcases id_or y with ⟨k, hk0, rfl⟩ | ⟨hik0, hok0⟩
    · cases haln : alv (σ 0) (nI n) with
      | false =>
        refine co_bodyI (cc := cX3_lookup) (maxL := 3) (ret := (some .int)) (by decide) rfl (Nat.le_of_ble_eq_true rfl) ?_
        intro p e s m args below meth c S hr hlocks hK A hA hP hD hS ls hl
        have S : CallFix p m c cX3_lookup 3 s args wsX3_lookup RX3 := S
        obtain ⟨hx, hb, hml, hown, hts⟩ := id S
        have hl : lv_has ls 3 [(0, .ref (b 0)), (1, .int (nI n)), (2, .int (nI k))] := hl
        have uX3 := uX3_X3_lookup
        refine lv_aload_n hx hb dX3_lookup_0 rfl (lv_at hl 0 rfl) ?_
        refine lv_aload_n hx hb dX3_lookup_1 rfl (lv_at hl 0 rfl) ?_
        refine lv_iload_n hx hb dX3_lookup_2 rfl (lv_at hl 1 rfl) ?_
        refine lv_iload_n hx hb dX3_lookup_3 rfl (lv_at hl 2 rfl) ?_
        refine co_rV (As := [.int (nI n), .int (nI k)]) (rest := [.ref (b 0)]) S (c_X3_refusesLookup l G Z b σ μ hR (nI n) (nI k)) (cwV 2 hts gX3_lookup_X3_refusesLookup rfl rfl rfl (by decide +kernel) ⟨Nat.le_of_ble_eq_true rfl, Nat.le_of_ble_eq_true rfl⟩) hK hP (va_recv hK hP (ci := 2) (q0 := 0) rfl rfl) rfl hl.1 rfl (Nat.le_of_ble_eq_true rfl) dX3_lookup_4 ⟨Nat.zero_le _, Nat.zero_le _⟩ ?_
        refine co_eq (show nI (cdP σ (nI n) (nI k) 63) = 2 from congrArg nI (show cdP σ (nI n) (nI k) 63 = 2 by simp only [cdP, okR_id hn0, okR_id hk0, haln, eq_self, Bool.false_eq_true, ite_self, ↓reduceIte])) ?_
        refine va_put (D := G.1) (ci := 2) (v := .int 2) (ty := .int) (C := RX3) (T := TX3) (N := 13) hx hb hts uX3 tyX3 tyX3_ok nmX3 hown hK hP hD hS 0 rfl rfl 0 (by decide) (hts (.fieldLink RX3 41 "ChordOverlayModel" "thrown" "I") (by decide +kernel)) (fun _ h9 => h9) rfl (by decide +kernel) rfl rfl (Nat.le_of_ble_eq_true rfl) dX3_lookup_7 (fun H locs hP hD hS => ?_)
        have hP : pG G (wM G b (va_up μ 0 (fun _ => 2))) H := hP
        have hD : va_D A (wM G b (va_up μ 0 (fun _ => 2))) := hD
        have hz_1 : Rl Z σ (va_up μ 0 (fun _ => 2)) := Rl.s0 (f := fun _ => 2) hR
        refine lv_aload_n hx hb dX3_lookup_10 rfl (lv_at hl 0 rfl) ?_
        refine va_get (D := G.1) (ci := 2) (v := .int 2) (C := RX3) (T := TX3) (N := 13) hx hb hts uX3 hown hK hP 0 rfl rfl 0 (by decide) (hts (.fieldLink RX3 41 "ChordOverlayModel" "thrown" "I") (by decide +kernel)) (fun _ h9 => h9) rfl dX3_lookup_11 ?_
        refine lv_if_ne (tgt := 26) hx hb dX3_lookup_14 (by decide) (fun c_2 => ?_) (fun c_2 => ?_)
        · refine lv_iconst (v := 0) hx hb dX3_lookup_26 (by decide) ?_
          exact co_endI (va_up μ 0 (fun _ => 2)) S hr hlocks dX3_lookup_27 hK hP hD hS (by have hcd : cdP σ (nI n) (nI k) 63 = 2 := (by simp only [cdP, okR_id hn0, okR_id hk0, haln, c_2, eq_self, Bool.false_eq_true, ite_self, ↓reduceIte]); exact ⟨by rw [hcd]; exact rfl, fun h => absurd (hcd.symm.trans h) (by decide), fun _ => hz_1⟩)
        · exact absurd c_2 (by decide)
      | true =>
        refine co_bodyI (cc := cX3_lookup) (maxL := 3) (ret := (some .int)) (by decide) rfl (Nat.le_of_ble_eq_true rfl) ?_
        intro p e s m args below meth c S hr hlocks hK A hA hP hD hS ls hl
        have S : CallFix p m c cX3_lookup 3 s args wsX3_lookup RX3 := S
        obtain ⟨hx, hb, hml, hown, hts⟩ := id S
        have hl : lv_has ls 3 [(0, .ref (b 0)), (1, .int (nI n)), (2, .int (nI k))] := hl
        have uX3 := uX3_X3_lookup
        refine lv_aload_n hx hb dX3_lookup_0 rfl (lv_at hl 0 rfl) ?_
        refine lv_aload_n hx hb dX3_lookup_1 rfl (lv_at hl 0 rfl) ?_
        refine lv_iload_n hx hb dX3_lookup_2 rfl (lv_at hl 1 rfl) ?_
        refine lv_iload_n hx hb dX3_lookup_3 rfl (lv_at hl 2 rfl) ?_
        refine co_rV (As := [.int (nI n), .int (nI k)]) (rest := [.ref (b 0)]) S (c_X3_refusesLookup l G Z b σ μ hR (nI n) (nI k)) (cwV 2 hts gX3_lookup_X3_refusesLookup rfl rfl rfl (by decide +kernel) ⟨Nat.le_of_ble_eq_true rfl, Nat.le_of_ble_eq_true rfl⟩) hK hP (va_recv hK hP (ci := 2) (q0 := 0) rfl rfl) rfl hl.1 rfl (Nat.le_of_ble_eq_true rfl) dX3_lookup_4 ⟨Nat.zero_le _, Nat.zero_le _⟩ ?_
        refine co_eq (show nI (cdP σ (nI n) (nI k) 63) = 0 from congrArg nI (show cdP σ (nI n) (nI k) 63 = 0 by simp only [cdP, okR_id hn0, okR_id hk0, haln, eq_self, Bool.false_eq_true, ite_self, ↓reduceIte])) ?_
        refine va_put (D := G.1) (ci := 2) (v := .int 0) (ty := .int) (C := RX3) (T := TX3) (N := 13) hx hb hts uX3 tyX3 tyX3_ok nmX3 hown hK hP hD hS 0 rfl rfl 0 (by decide) (hts (.fieldLink RX3 41 "ChordOverlayModel" "thrown" "I") (by decide +kernel)) (fun _ h9 => h9) rfl (by decide +kernel) rfl rfl (Nat.le_of_ble_eq_true rfl) dX3_lookup_7 (fun H locs hP hD hS => ?_)
        have hP : pG G (wM G b (va_up μ 0 (fun _ => 0))) H := hP
        have hD : va_D A (wM G b (va_up μ 0 (fun _ => 0))) := hD
        have hz_1 : Rl Z σ (va_up μ 0 (fun _ => 0)) := Rl.s0 (f := fun _ => 0) hR
        refine lv_aload_n hx hb dX3_lookup_10 rfl (lv_at hl 0 rfl) ?_
        refine va_get (D := G.1) (ci := 2) (v := .int 0) (C := RX3) (T := TX3) (N := 13) hx hb hts uX3 hown hK hP 0 rfl rfl 0 (by decide) (hts (.fieldLink RX3 41 "ChordOverlayModel" "thrown" "I") (by decide +kernel)) (fun _ h9 => h9) rfl dX3_lookup_11 ?_
        refine lv_if_ne (tgt := 26) hx hb dX3_lookup_14 (by decide) (fun c_2 => ?_) (fun c_2 => ?_)
        · exact absurd (by decide) c_2
        · refine lv_aload_n hx hb dX3_lookup_17 rfl (lv_at hl 0 rfl) ?_
          refine lv_iload_n hx hb dX3_lookup_18 rfl (lv_at hl 1 rfl) ?_
          refine lv_iload_n hx hb dX3_lookup_19 rfl (lv_at hl 2 rfl) ?_
          obtain ⟨j_3, ej_3, lj_3⟩ := Lv.fn hz_1 ⟨hn0, haln⟩ hk0
          refine co_mVi (As := [.int (nI n), .int (nI k)]) (rest := []) S (c_X3_find l G Z b σ (va_up μ 0 (fun _ => 0)) hz_1 n k ⟨hn0, haln⟩ hk0) (cwV 2 hts gX3_lookup_X3_find rfl rfl rfl (by decide +kernel) ⟨Nat.le_of_ble_eq_true rfl, Nat.le_of_ble_eq_true rfl⟩) hK hP hD hS hA (va_recv hK hP (ci := 2) (q0 := 0) rfl rfl) rfl hl.1 rfl (Nat.le_of_ble_eq_true rfl) dX3_lookup_20 ⟨Nat.zero_le _, Nat.zero_le _⟩ (fun r_4 u_4 H locs hu_4 hP hD hS => ?_)
          obtain ⟨hr_4, hq_4, hk_4, hp_4, hw_4⟩ := hu_4
          have hr_4 : r_4 = nI j_3 := hr_4.trans ej_3
          subst hr_4
          have hP : pG G (wM G b u_4) H := hP
          have hD : va_D A (wM G b u_4) := hD
          refine lv_goto (tgt := 27) hx hb dX3_lookup_23 (by decide) ?_
          exact co_endI u_4 S hr hlocks dX3_lookup_27 hK hP hD hS (by have hcd : cdP σ (nI n) (nI k) 63 = 0 := (by simp only [cdP, okR_id hn0, okR_id hk0, haln, (eq_true c_2), eq_self, Bool.false_eq_true, ite_self, ↓reduceIte]); exact ⟨by rw [hcd]; exact (congrFun hk_4.1 0), fun _ => ⟨by first | with_reducible rfl | with_reducible assumption | simp only [ej_3, (eq_true c_2), okR_id hn0, okR_id hk0, haln, nI_nem lj_3.1, eq_self, Bool.false_eq_true, ite_self, ↓reduceIte], by exact hq_4⟩, fun h => absurd hcd h⟩)
    · cases haln : alv (σ 0) (nI n) with
      | false =>
        refine co_bodyI (cc := cX3_lookup) (maxL := 3) (ret := (some .int)) (by decide) rfl (Nat.le_of_ble_eq_true rfl) ?_
        intro p e s m args below meth c S hr hlocks hK A hA hP hD hS ls hl
        have S : CallFix p m c cX3_lookup 3 s args wsX3_lookup RX3 := S
        obtain ⟨hx, hb, hml, hown, hts⟩ := id S
        have hl : lv_has ls 3 [(0, .ref (b 0)), (1, .int (nI n)), (2, .int y)] := hl
        have uX3 := uX3_X3_lookup
        refine lv_aload_n hx hb dX3_lookup_0 rfl (lv_at hl 0 rfl) ?_
        refine lv_aload_n hx hb dX3_lookup_1 rfl (lv_at hl 0 rfl) ?_
        refine lv_iload_n hx hb dX3_lookup_2 rfl (lv_at hl 1 rfl) ?_
        refine lv_iload_n hx hb dX3_lookup_3 rfl (lv_at hl 2 rfl) ?_
        refine co_rV (As := [.int (nI n), .int y]) (rest := [.ref (b 0)]) S (c_X3_refusesLookup l G Z b σ μ hR (nI n) y) (cwV 2 hts gX3_lookup_X3_refusesLookup rfl rfl rfl (by decide +kernel) ⟨Nat.le_of_ble_eq_true rfl, Nat.le_of_ble_eq_true rfl⟩) hK hP (va_recv hK hP (ci := 2) (q0 := 0) rfl rfl) rfl hl.1 rfl (Nat.le_of_ble_eq_true rfl) dX3_lookup_4 ⟨Nat.zero_le _, Nat.zero_le _⟩ ?_
        refine co_eq (show nI (cdP σ (nI n) y 63) = 1 from congrArg nI (show cdP σ (nI n) y 63 = 1 by simp only [cdP, okR_id hn0, hok0, haln, eq_self, Bool.false_eq_true, ite_self, ↓reduceIte])) ?_
        refine va_put (D := G.1) (ci := 2) (v := .int 1) (ty := .int) (C := RX3) (T := TX3) (N := 13) hx hb hts uX3 tyX3 tyX3_ok nmX3 hown hK hP hD hS 0 rfl rfl 0 (by decide) (hts (.fieldLink RX3 41 "ChordOverlayModel" "thrown" "I") (by decide +kernel)) (fun _ h9 => h9) rfl (by decide +kernel) rfl rfl (Nat.le_of_ble_eq_true rfl) dX3_lookup_7 (fun H locs hP hD hS => ?_)
        have hP : pG G (wM G b (va_up μ 0 (fun _ => 1))) H := hP
        have hD : va_D A (wM G b (va_up μ 0 (fun _ => 1))) := hD
        have hz_1 : Rl Z σ (va_up μ 0 (fun _ => 1)) := Rl.s0 (f := fun _ => 1) hR
        refine lv_aload_n hx hb dX3_lookup_10 rfl (lv_at hl 0 rfl) ?_
        refine va_get (D := G.1) (ci := 2) (v := .int 1) (C := RX3) (T := TX3) (N := 13) hx hb hts uX3 hown hK hP 0 rfl rfl 0 (by decide) (hts (.fieldLink RX3 41 "ChordOverlayModel" "thrown" "I") (by decide +kernel)) (fun _ h9 => h9) rfl dX3_lookup_11 ?_
        refine lv_if_ne (tgt := 26) hx hb dX3_lookup_14 (by decide) (fun c_2 => ?_) (fun c_2 => ?_)
        · refine lv_iconst (v := 0) hx hb dX3_lookup_26 (by decide) ?_
          exact co_endI (va_up μ 0 (fun _ => 1)) S hr hlocks dX3_lookup_27 hK hP hD hS (by have hcd : cdP σ (nI n) y 63 = 1 := (by simp only [cdP, okR_id hn0, hok0, haln, c_2, eq_self, Bool.false_eq_true, ite_self, ↓reduceIte]); exact ⟨by rw [hcd]; exact rfl, fun h => absurd (hcd.symm.trans h) (by decide), fun _ => hz_1⟩)
        · exact absurd c_2 (by decide)
      | true =>
        refine co_bodyI (cc := cX3_lookup) (maxL := 3) (ret := (some .int)) (by decide) rfl (Nat.le_of_ble_eq_true rfl) ?_
        intro p e s m args below meth c S hr hlocks hK A hA hP hD hS ls hl
        have S : CallFix p m c cX3_lookup 3 s args wsX3_lookup RX3 := S
        obtain ⟨hx, hb, hml, hown, hts⟩ := id S
        have hl : lv_has ls 3 [(0, .ref (b 0)), (1, .int (nI n)), (2, .int y)] := hl
        have uX3 := uX3_X3_lookup
        refine lv_aload_n hx hb dX3_lookup_0 rfl (lv_at hl 0 rfl) ?_
        refine lv_aload_n hx hb dX3_lookup_1 rfl (lv_at hl 0 rfl) ?_
        refine lv_iload_n hx hb dX3_lookup_2 rfl (lv_at hl 1 rfl) ?_
        refine lv_iload_n hx hb dX3_lookup_3 rfl (lv_at hl 2 rfl) ?_
        refine co_rV (As := [.int (nI n), .int y]) (rest := [.ref (b 0)]) S (c_X3_refusesLookup l G Z b σ μ hR (nI n) y) (cwV 2 hts gX3_lookup_X3_refusesLookup rfl rfl rfl (by decide +kernel) ⟨Nat.le_of_ble_eq_true rfl, Nat.le_of_ble_eq_true rfl⟩) hK hP (va_recv hK hP (ci := 2) (q0 := 0) rfl rfl) rfl hl.1 rfl (Nat.le_of_ble_eq_true rfl) dX3_lookup_4 ⟨Nat.zero_le _, Nat.zero_le _⟩ ?_
        refine co_eq (show nI (cdP σ (nI n) y 63) = 1 from congrArg nI (show cdP σ (nI n) y 63 = 1 by simp only [cdP, okR_id hn0, hok0, haln, eq_self, Bool.false_eq_true, ite_self, ↓reduceIte])) ?_
        refine va_put (D := G.1) (ci := 2) (v := .int 1) (ty := .int) (C := RX3) (T := TX3) (N := 13) hx hb hts uX3 tyX3 tyX3_ok nmX3 hown hK hP hD hS 0 rfl rfl 0 (by decide) (hts (.fieldLink RX3 41 "ChordOverlayModel" "thrown" "I") (by decide +kernel)) (fun _ h9 => h9) rfl (by decide +kernel) rfl rfl (Nat.le_of_ble_eq_true rfl) dX3_lookup_7 (fun H locs hP hD hS => ?_)
        have hP : pG G (wM G b (va_up μ 0 (fun _ => 1))) H := hP
        have hD : va_D A (wM G b (va_up μ 0 (fun _ => 1))) := hD
        have hz_1 : Rl Z σ (va_up μ 0 (fun _ => 1)) := Rl.s0 (f := fun _ => 1) hR
        refine lv_aload_n hx hb dX3_lookup_10 rfl (lv_at hl 0 rfl) ?_
        refine va_get (D := G.1) (ci := 2) (v := .int 1) (C := RX3) (T := TX3) (N := 13) hx hb hts uX3 hown hK hP 0 rfl rfl 0 (by decide) (hts (.fieldLink RX3 41 "ChordOverlayModel" "thrown" "I") (by decide +kernel)) (fun _ h9 => h9) rfl dX3_lookup_11 ?_
        refine lv_if_ne (tgt := 26) hx hb dX3_lookup_14 (by decide) (fun c_2 => ?_) (fun c_2 => ?_)
        · refine lv_iconst (v := 0) hx hb dX3_lookup_26 (by decide) ?_
          exact co_endI (va_up μ 0 (fun _ => 1)) S hr hlocks dX3_lookup_27 hK hP hD hS (by have hcd : cdP σ (nI n) y 63 = 1 := (by simp only [cdP, okR_id hn0, hok0, haln, c_2, eq_self, Bool.false_eq_true, ite_self, ↓reduceIte]); exact ⟨by rw [hcd]; exact rfl, fun h => absurd (hcd.symm.trans h) (by decide), fun _ => hz_1⟩)
        · exact absurd c_2 (by decide)
  · rcases id_or y with ⟨k, hk0, rfl⟩ | ⟨hik0, hok0⟩
    · refine co_bodyI (cc := cX3_lookup) (maxL := 3) (ret := (some .int)) (by decide) rfl (Nat.le_of_ble_eq_true rfl) ?_
      intro p e s m args below meth c S hr hlocks hK A hA hP hD hS ls hl
      have S : CallFix p m c cX3_lookup 3 s args wsX3_lookup RX3 := S
      obtain ⟨hx, hb, hml, hown, hts⟩ := id S
      have hl : lv_has ls 3 [(0, .ref (b 0)), (1, .int x), (2, .int (nI k))] := hl
      have uX3 := uX3_X3_lookup
      refine lv_aload_n hx hb dX3_lookup_0 rfl (lv_at hl 0 rfl) ?_
      refine lv_aload_n hx hb dX3_lookup_1 rfl (lv_at hl 0 rfl) ?_
      refine lv_iload_n hx hb dX3_lookup_2 rfl (lv_at hl 1 rfl) ?_
      refine lv_iload_n hx hb dX3_lookup_3 rfl (lv_at hl 2 rfl) ?_
      refine co_rV (As := [.int x, .int (nI k)]) (rest := [.ref (b 0)]) S (c_X3_refusesLookup l G Z b σ μ hR x (nI k)) (cwV 2 hts gX3_lookup_X3_refusesLookup rfl rfl rfl (by decide +kernel) ⟨Nat.le_of_ble_eq_true rfl, Nat.le_of_ble_eq_true rfl⟩) hK hP (va_recv hK hP (ci := 2) (q0 := 0) rfl rfl) rfl hl.1 rfl (Nat.le_of_ble_eq_true rfl) dX3_lookup_4 ⟨Nat.zero_le _, Nat.zero_le _⟩ ?_
      refine co_eq (show nI (cdP σ x (nI k) 63) = 1 from congrArg nI (show cdP σ x (nI k) 63 = 1 by simp only [cdP, hon0, okR_id hk0, eq_self, Bool.false_eq_true, ite_self, ↓reduceIte])) ?_
      refine va_put (D := G.1) (ci := 2) (v := .int 1) (ty := .int) (C := RX3) (T := TX3) (N := 13) hx hb hts uX3 tyX3 tyX3_ok nmX3 hown hK hP hD hS 0 rfl rfl 0 (by decide) (hts (.fieldLink RX3 41 "ChordOverlayModel" "thrown" "I") (by decide +kernel)) (fun _ h9 => h9) rfl (by decide +kernel) rfl rfl (Nat.le_of_ble_eq_true rfl) dX3_lookup_7 (fun H locs hP hD hS => ?_)
      have hP : pG G (wM G b (va_up μ 0 (fun _ => 1))) H := hP
      have hD : va_D A (wM G b (va_up μ 0 (fun _ => 1))) := hD
      have hz_1 : Rl Z σ (va_up μ 0 (fun _ => 1)) := Rl.s0 (f := fun _ => 1) hR
      refine lv_aload_n hx hb dX3_lookup_10 rfl (lv_at hl 0 rfl) ?_
      refine va_get (D := G.1) (ci := 2) (v := .int 1) (C := RX3) (T := TX3) (N := 13) hx hb hts uX3 hown hK hP 0 rfl rfl 0 (by decide) (hts (.fieldLink RX3 41 "ChordOverlayModel" "thrown" "I") (by decide +kernel)) (fun _ h9 => h9) rfl dX3_lookup_11 ?_
      refine lv_if_ne (tgt := 26) hx hb dX3_lookup_14 (by decide) (fun c_2 => ?_) (fun c_2 => ?_)
      · refine lv_iconst (v := 0) hx hb dX3_lookup_26 (by decide) ?_
        exact co_endI (va_up μ 0 (fun _ => 1)) S hr hlocks dX3_lookup_27 hK hP hD hS (by have hcd : cdP σ x (nI k) 63 = 1 := (by simp only [cdP, hon0, okR_id hk0, c_2, eq_self, Bool.false_eq_true, ite_self, ↓reduceIte]); exact ⟨by rw [hcd]; exact rfl, fun h => absurd (hcd.symm.trans h) (by decide), fun _ => hz_1⟩)
      · exact absurd c_2 (by decide)
    · refine co_bodyI (cc := cX3_lookup) (maxL := 3) (ret := (some .int)) (by decide) rfl (Nat.le_of_ble_eq_true rfl) ?_
      intro p e s m args below meth c S hr hlocks hK A hA hP hD hS ls hl
      have S : CallFix p m c cX3_lookup 3 s args wsX3_lookup RX3 := S
      obtain ⟨hx, hb, hml, hown, hts⟩ := id S
      have hl : lv_has ls 3 [(0, .ref (b 0)), (1, .int x), (2, .int y)] := hl
      have uX3 := uX3_X3_lookup
      refine lv_aload_n hx hb dX3_lookup_0 rfl (lv_at hl 0 rfl) ?_
      refine lv_aload_n hx hb dX3_lookup_1 rfl (lv_at hl 0 rfl) ?_
      refine lv_iload_n hx hb dX3_lookup_2 rfl (lv_at hl 1 rfl) ?_
      refine lv_iload_n hx hb dX3_lookup_3 rfl (lv_at hl 2 rfl) ?_
      refine co_rV (As := [.int x, .int y]) (rest := [.ref (b 0)]) S (c_X3_refusesLookup l G Z b σ μ hR x y) (cwV 2 hts gX3_lookup_X3_refusesLookup rfl rfl rfl (by decide +kernel) ⟨Nat.le_of_ble_eq_true rfl, Nat.le_of_ble_eq_true rfl⟩) hK hP (va_recv hK hP (ci := 2) (q0 := 0) rfl rfl) rfl hl.1 rfl (Nat.le_of_ble_eq_true rfl) dX3_lookup_4 ⟨Nat.zero_le _, Nat.zero_le _⟩ ?_
      refine co_eq (show nI (cdP σ x y 63) = 1 from congrArg nI (show cdP σ x y 63 = 1 by simp only [cdP, hon0, hok0, eq_self, Bool.false_eq_true, ite_self, ↓reduceIte])) ?_
      refine va_put (D := G.1) (ci := 2) (v := .int 1) (ty := .int) (C := RX3) (T := TX3) (N := 13) hx hb hts uX3 tyX3 tyX3_ok nmX3 hown hK hP hD hS 0 rfl rfl 0 (by decide) (hts (.fieldLink RX3 41 "ChordOverlayModel" "thrown" "I") (by decide +kernel)) (fun _ h9 => h9) rfl (by decide +kernel) rfl rfl (Nat.le_of_ble_eq_true rfl) dX3_lookup_7 (fun H locs hP hD hS => ?_)
      have hP : pG G (wM G b (va_up μ 0 (fun _ => 1))) H := hP
      have hD : va_D A (wM G b (va_up μ 0 (fun _ => 1))) := hD
      have hz_1 : Rl Z σ (va_up μ 0 (fun _ => 1)) := Rl.s0 (f := fun _ => 1) hR
      refine lv_aload_n hx hb dX3_lookup_10 rfl (lv_at hl 0 rfl) ?_
      refine va_get (D := G.1) (ci := 2) (v := .int 1) (C := RX3) (T := TX3) (N := 13) hx hb hts uX3 hown hK hP 0 rfl rfl 0 (by decide) (hts (.fieldLink RX3 41 "ChordOverlayModel" "thrown" "I") (by decide +kernel)) (fun _ h9 => h9) rfl dX3_lookup_11 ?_
      refine lv_if_ne (tgt := 26) hx hb dX3_lookup_14 (by decide) (fun c_2 => ?_) (fun c_2 => ?_)
      · refine lv_iconst (v := 0) hx hb dX3_lookup_26 (by decide) ?_
        exact co_endI (va_up μ 0 (fun _ => 1)) S hr hlocks dX3_lookup_27 hK hP hD hS (by have hcd : cdP σ x y 63 = 1 := (by simp only [cdP, hon0, hok0, c_2, eq_self, Bool.false_eq_true, ite_self, ↓reduceIte]); exact ⟨by rw [hcd]; exact rfl, fun h => absurd (hcd.symm.trans h) (by decide), fun _ => hz_1⟩)
      · exact absurd c_2 (by decide)

set_option maxRecDepth 20000 in
theorem uX3_X3_get : ∀ w ∈ u_ws RX3 TX3 13, w ∈ wsX3_get := by decide +kernel
abbrev rm_X3_get : Room := { frames := 5, cells := 0, slots := 0, locals := 117 }
set_option maxHeartbeats 4000000 in
set_option maxRecDepth 100000 in
theorem c_X3_get (l : Launch) (G : cG) (Z : Nat) (b : Nat → Nat) (σ μ : cS) (hR : Rl Z σ μ) (x : Int32) (y : Int32) : MetI l yX3_get wsX3_get rm_X3_get G (wM G b μ) [.ref (b 0), .int x, .int y] (fun u : cS => wM G b u) (fun r u => u 0 0 = nI (cdP σ x y 63) ∧ (cdP σ x y 63 = 0 → r = tat 64 (σ 4) (fnR σ x y) y ∧ Rl Z σ u) ∧ (cdP σ x y 63 ≠ 0 → Rl Z σ u)) := by
  rcases id_or x with ⟨n, hn0, rfl⟩ | ⟨hin0, hon0⟩
  · rcases id_or y with ⟨k, hk0, rfl⟩ | ⟨hik0, hok0⟩
    · cases haln : alv (σ 0) (nI n) with
      | false =>
        refine co_bodyI (cc := cX3_get) (maxL := 4) (ret := (some .int)) (by decide) rfl (Nat.le_of_ble_eq_true rfl) ?_
        intro p e s m args below meth c S hr hlocks hK A hA hP hD hS ls hl
        have S : CallFix p m c cX3_get 4 s args wsX3_get RX3 := S
        obtain ⟨hx, hb, hml, hown, hts⟩ := id S
        have hl : lv_has ls 4 [(0, .ref (b 0)), (1, .int (nI n)), (2, .int (nI k))] := hl
        have uX3 := uX3_X3_get
        refine lv_aload_n hx hb dX3_get_0 rfl (lv_at hl 0 rfl) ?_
        refine lv_aload_n hx hb dX3_get_1 rfl (lv_at hl 0 rfl) ?_
        refine lv_iload_n hx hb dX3_get_2 rfl (lv_at hl 1 rfl) ?_
        refine lv_iload_n hx hb dX3_get_3 rfl (lv_at hl 2 rfl) ?_
        refine co_rV (As := [.int (nI n), .int (nI k)]) (rest := [.ref (b 0)]) S (c_X3_refusesLookup l G Z b σ μ hR (nI n) (nI k)) (cwV 2 hts gX3_get_X3_refusesLookup rfl rfl rfl (by decide +kernel) ⟨Nat.le_of_ble_eq_true rfl, Nat.le_of_ble_eq_true rfl⟩) hK hP (va_recv hK hP (ci := 2) (q0 := 0) rfl rfl) rfl hl.1 rfl (Nat.le_of_ble_eq_true rfl) dX3_get_4 ⟨Nat.zero_le _, Nat.zero_le _⟩ ?_
        refine co_eq (show nI (cdP σ (nI n) (nI k) 63) = 2 from congrArg nI (show cdP σ (nI n) (nI k) 63 = 2 by simp only [cdP, okR_id hn0, okR_id hk0, haln, eq_self, Bool.false_eq_true, ite_self, ↓reduceIte])) ?_
        refine va_put (D := G.1) (ci := 2) (v := .int 2) (ty := .int) (C := RX3) (T := TX3) (N := 13) hx hb hts uX3 tyX3 tyX3_ok nmX3 hown hK hP hD hS 0 rfl rfl 0 (by decide) (hts (.fieldLink RX3 41 "ChordOverlayModel" "thrown" "I") (by decide +kernel)) (fun _ h9 => h9) rfl (by decide +kernel) rfl rfl (Nat.le_of_ble_eq_true rfl) dX3_get_7 (fun H locs hP hD hS => ?_)
        have hP : pG G (wM G b (va_up μ 0 (fun _ => 2))) H := hP
        have hD : va_D A (wM G b (va_up μ 0 (fun _ => 2))) := hD
        have hz_1 : Rl Z σ (va_up μ 0 (fun _ => 2)) := Rl.s0 (f := fun _ => 2) hR
        refine lv_aload_n hx hb dX3_get_10 rfl (lv_at hl 0 rfl) ?_
        refine va_get (D := G.1) (ci := 2) (v := .int 2) (C := RX3) (T := TX3) (N := 13) hx hb hts uX3 hown hK hP 0 rfl rfl 0 (by decide) (hts (.fieldLink RX3 41 "ChordOverlayModel" "thrown" "I") (by decide +kernel)) (fun _ h9 => h9) rfl dX3_get_11 ?_
        refine lv_if_le (tgt := 19) hx hb dX3_get_14 (by decide) (fun c_2 => ?_) (fun c_2 => ?_)
        · exact absurd c_2 (by decide)
        · refine lv_iconst (v := 0) hx hb dX3_get_17 (by decide) ?_
          exact co_endI (va_up μ 0 (fun _ => 2)) S hr hlocks dX3_get_18 hK hP hD hS (by have hcd : cdP σ (nI n) (nI k) 63 = 2 := (by simp only [cdP, okR_id hn0, okR_id hk0, haln, c_2, eq_self, Bool.false_eq_true, ite_self, ↓reduceIte]); exact ⟨by rw [hcd]; exact rfl, fun h => absurd (hcd.symm.trans h) (by decide), fun _ => hz_1⟩)
      | true =>
        refine co_bodyI (cc := cX3_get) (maxL := 4) (ret := (some .int)) (by decide) rfl (Nat.le_of_ble_eq_true rfl) ?_
        intro p e s m args below meth c S hr hlocks hK A hA hP hD hS ls hl
        have S : CallFix p m c cX3_get 4 s args wsX3_get RX3 := S
        obtain ⟨hx, hb, hml, hown, hts⟩ := id S
        have hl : lv_has ls 4 [(0, .ref (b 0)), (1, .int (nI n)), (2, .int (nI k))] := hl
        have uX3 := uX3_X3_get
        refine lv_aload_n hx hb dX3_get_0 rfl (lv_at hl 0 rfl) ?_
        refine lv_aload_n hx hb dX3_get_1 rfl (lv_at hl 0 rfl) ?_
        refine lv_iload_n hx hb dX3_get_2 rfl (lv_at hl 1 rfl) ?_
        refine lv_iload_n hx hb dX3_get_3 rfl (lv_at hl 2 rfl) ?_
        refine co_rV (As := [.int (nI n), .int (nI k)]) (rest := [.ref (b 0)]) S (c_X3_refusesLookup l G Z b σ μ hR (nI n) (nI k)) (cwV 2 hts gX3_get_X3_refusesLookup rfl rfl rfl (by decide +kernel) ⟨Nat.le_of_ble_eq_true rfl, Nat.le_of_ble_eq_true rfl⟩) hK hP (va_recv hK hP (ci := 2) (q0 := 0) rfl rfl) rfl hl.1 rfl (Nat.le_of_ble_eq_true rfl) dX3_get_4 ⟨Nat.zero_le _, Nat.zero_le _⟩ ?_
        refine co_eq (show nI (cdP σ (nI n) (nI k) 63) = 0 from congrArg nI (show cdP σ (nI n) (nI k) 63 = 0 by simp only [cdP, okR_id hn0, okR_id hk0, haln, eq_self, Bool.false_eq_true, ite_self, ↓reduceIte])) ?_
        refine va_put (D := G.1) (ci := 2) (v := .int 0) (ty := .int) (C := RX3) (T := TX3) (N := 13) hx hb hts uX3 tyX3 tyX3_ok nmX3 hown hK hP hD hS 0 rfl rfl 0 (by decide) (hts (.fieldLink RX3 41 "ChordOverlayModel" "thrown" "I") (by decide +kernel)) (fun _ h9 => h9) rfl (by decide +kernel) rfl rfl (Nat.le_of_ble_eq_true rfl) dX3_get_7 (fun H locs hP hD hS => ?_)
        have hP : pG G (wM G b (va_up μ 0 (fun _ => 0))) H := hP
        have hD : va_D A (wM G b (va_up μ 0 (fun _ => 0))) := hD
        have hz_1 : Rl Z σ (va_up μ 0 (fun _ => 0)) := Rl.s0 (f := fun _ => 0) hR
        refine lv_aload_n hx hb dX3_get_10 rfl (lv_at hl 0 rfl) ?_
        refine va_get (D := G.1) (ci := 2) (v := .int 0) (C := RX3) (T := TX3) (N := 13) hx hb hts uX3 hown hK hP 0 rfl rfl 0 (by decide) (hts (.fieldLink RX3 41 "ChordOverlayModel" "thrown" "I") (by decide +kernel)) (fun _ h9 => h9) rfl dX3_get_11 ?_
        refine lv_if_le (tgt := 19) hx hb dX3_get_14 (by decide) (fun c_2 => ?_) (fun c_2 => ?_)
        · refine lv_aload_n hx hb dX3_get_19 rfl (lv_at hl 0 rfl) ?_
          refine lv_iload_n hx hb dX3_get_20 rfl (lv_at hl 1 rfl) ?_
          refine lv_iload_n hx hb dX3_get_21 rfl (lv_at hl 2 rfl) ?_
          obtain ⟨j_3, ej_3, lj_3⟩ := Lv.fn hz_1 ⟨hn0, haln⟩ hk0
          refine co_mVi (As := [.int (nI n), .int (nI k)]) (rest := []) S (c_X3_find l G Z b σ (va_up μ 0 (fun _ => 0)) hz_1 n k ⟨hn0, haln⟩ hk0) (cwV 2 hts gX3_get_X3_find rfl rfl rfl (by decide +kernel) ⟨Nat.le_of_ble_eq_true rfl, Nat.le_of_ble_eq_true rfl⟩) hK hP hD hS hA (va_recv hK hP (ci := 2) (q0 := 0) rfl rfl) rfl hl.1 rfl (Nat.le_of_ble_eq_true rfl) dX3_get_22 ⟨Nat.zero_le _, Nat.zero_le _⟩ (fun r_4 u_4 H locs hu_4 hP hD hS => ?_)
          obtain ⟨hr_4, hq_4, hk_4, hp_4, hw_4⟩ := hu_4
          have hr_4 : r_4 = nI j_3 := hr_4.trans ej_3
          subst hr_4
          have hP : pG G (wM G b u_4) H := hP
          have hD : va_D A (wM G b u_4) := hD
          refine lv_istore_n (lv' := [(3, .int (nI j_3)), (0, .ref (b 0)), (1, .int (nI n)), (2, .int (nI k))]) hx hb dX3_get_25 rfl hl (by decide) rfl (fun ls hl => ?_)
          refine lv_iload_n hx hb dX3_get_26 rfl (lv_at hl 0 rfl) ?_
          refine lv_iconst (v := (-1)) hx hb dX3_get_27 (by decide) ?_
          refine lv_icmp_ne (tgt := 35) hx hb dX3_get_28 (by decide) (fun c_5 => ?_) (fun c_5 => ?_)
          · refine lv_aload_n hx hb dX3_get_35 rfl (lv_at hl 1 rfl) ?_
            refine lv_iload_n hx hb dX3_get_36 rfl (lv_at hl 0 rfl) ?_
            refine lv_iload_n hx hb dX3_get_37 rfl (lv_at hl 3 rfl) ?_
            refine co_rV (As := [.int (nI j_3), .int (nI k)]) (rest := []) S (c_X3_keptAt l G Z b σ u_4 hq_4 j_3 k lj_3 hk0) (cwV 2 hts gX3_get_X3_keptAt rfl rfl rfl (by decide +kernel) ⟨Nat.le_of_ble_eq_true rfl, Nat.le_of_ble_eq_true rfl⟩) hK hP (va_recv hK hP (ci := 2) (q0 := 0) rfl rfl) rfl hl.1 rfl (Nat.le_of_ble_eq_true rfl) dX3_get_38 ⟨Nat.zero_le _, Nat.zero_le _⟩ ?_
            exact co_endI u_4 S hr hlocks dX3_get_41 hK hP hD hS (by have hcd : cdP σ (nI n) (nI k) 63 = 0 := (by simp only [cdP, okR_id hn0, okR_id hk0, haln, c_2, eq_self, Bool.false_eq_true, ite_self, ↓reduceIte]); exact ⟨by rw [hcd]; exact (congrFun hk_4.1 0), fun _ => ⟨by first | with_reducible rfl | with_reducible assumption | simp only [ej_3, c_2, okR_id hn0, okR_id hk0, haln, nI_nem lj_3.1, eq_self, Bool.false_eq_true, ite_self, ↓reduceIte], by exact hq_4⟩, fun h => absurd hcd h⟩)
          · exact absurd c_5 (nI_nem lj_3.1)
        · exact absurd (by decide) c_2
    · cases haln : alv (σ 0) (nI n) with
      | false =>
        refine co_bodyI (cc := cX3_get) (maxL := 4) (ret := (some .int)) (by decide) rfl (Nat.le_of_ble_eq_true rfl) ?_
        intro p e s m args below meth c S hr hlocks hK A hA hP hD hS ls hl
        have S : CallFix p m c cX3_get 4 s args wsX3_get RX3 := S
        obtain ⟨hx, hb, hml, hown, hts⟩ := id S
        have hl : lv_has ls 4 [(0, .ref (b 0)), (1, .int (nI n)), (2, .int y)] := hl
        have uX3 := uX3_X3_get
        refine lv_aload_n hx hb dX3_get_0 rfl (lv_at hl 0 rfl) ?_
        refine lv_aload_n hx hb dX3_get_1 rfl (lv_at hl 0 rfl) ?_
        refine lv_iload_n hx hb dX3_get_2 rfl (lv_at hl 1 rfl) ?_
        refine lv_iload_n hx hb dX3_get_3 rfl (lv_at hl 2 rfl) ?_
        refine co_rV (As := [.int (nI n), .int y]) (rest := [.ref (b 0)]) S (c_X3_refusesLookup l G Z b σ μ hR (nI n) y) (cwV 2 hts gX3_get_X3_refusesLookup rfl rfl rfl (by decide +kernel) ⟨Nat.le_of_ble_eq_true rfl, Nat.le_of_ble_eq_true rfl⟩) hK hP (va_recv hK hP (ci := 2) (q0 := 0) rfl rfl) rfl hl.1 rfl (Nat.le_of_ble_eq_true rfl) dX3_get_4 ⟨Nat.zero_le _, Nat.zero_le _⟩ ?_
        refine co_eq (show nI (cdP σ (nI n) y 63) = 1 from congrArg nI (show cdP σ (nI n) y 63 = 1 by simp only [cdP, okR_id hn0, hok0, haln, eq_self, Bool.false_eq_true, ite_self, ↓reduceIte])) ?_
        refine va_put (D := G.1) (ci := 2) (v := .int 1) (ty := .int) (C := RX3) (T := TX3) (N := 13) hx hb hts uX3 tyX3 tyX3_ok nmX3 hown hK hP hD hS 0 rfl rfl 0 (by decide) (hts (.fieldLink RX3 41 "ChordOverlayModel" "thrown" "I") (by decide +kernel)) (fun _ h9 => h9) rfl (by decide +kernel) rfl rfl (Nat.le_of_ble_eq_true rfl) dX3_get_7 (fun H locs hP hD hS => ?_)
        have hP : pG G (wM G b (va_up μ 0 (fun _ => 1))) H := hP
        have hD : va_D A (wM G b (va_up μ 0 (fun _ => 1))) := hD
        have hz_1 : Rl Z σ (va_up μ 0 (fun _ => 1)) := Rl.s0 (f := fun _ => 1) hR
        refine lv_aload_n hx hb dX3_get_10 rfl (lv_at hl 0 rfl) ?_
        refine va_get (D := G.1) (ci := 2) (v := .int 1) (C := RX3) (T := TX3) (N := 13) hx hb hts uX3 hown hK hP 0 rfl rfl 0 (by decide) (hts (.fieldLink RX3 41 "ChordOverlayModel" "thrown" "I") (by decide +kernel)) (fun _ h9 => h9) rfl dX3_get_11 ?_
        refine lv_if_le (tgt := 19) hx hb dX3_get_14 (by decide) (fun c_2 => ?_) (fun c_2 => ?_)
        · exact absurd c_2 (by decide)
        · refine lv_iconst (v := 0) hx hb dX3_get_17 (by decide) ?_
          exact co_endI (va_up μ 0 (fun _ => 1)) S hr hlocks dX3_get_18 hK hP hD hS (by have hcd : cdP σ (nI n) y 63 = 1 := (by simp only [cdP, okR_id hn0, hok0, haln, c_2, eq_self, Bool.false_eq_true, ite_self, ↓reduceIte]); exact ⟨by rw [hcd]; exact rfl, fun h => absurd (hcd.symm.trans h) (by decide), fun _ => hz_1⟩)
      | true =>
        refine co_bodyI (cc := cX3_get) (maxL := 4) (ret := (some .int)) (by decide) rfl (Nat.le_of_ble_eq_true rfl) ?_
        intro p e s m args below meth c S hr hlocks hK A hA hP hD hS ls hl
        have S : CallFix p m c cX3_get 4 s args wsX3_get RX3 := S
        obtain ⟨hx, hb, hml, hown, hts⟩ := id S
        have hl : lv_has ls 4 [(0, .ref (b 0)), (1, .int (nI n)), (2, .int y)] := hl
        have uX3 := uX3_X3_get
        refine lv_aload_n hx hb dX3_get_0 rfl (lv_at hl 0 rfl) ?_
        refine lv_aload_n hx hb dX3_get_1 rfl (lv_at hl 0 rfl) ?_
        refine lv_iload_n hx hb dX3_get_2 rfl (lv_at hl 1 rfl) ?_
        refine lv_iload_n hx hb dX3_get_3 rfl (lv_at hl 2 rfl) ?_
        refine co_rV (As := [.int (nI n), .int y]) (rest := [.ref (b 0)]) S (c_X3_refusesLookup l G Z b σ μ hR (nI n) y) (cwV 2 hts gX3_get_X3_refusesLookup rfl rfl rfl (by decide +kernel) ⟨Nat.le_of_ble_eq_true rfl, Nat.le_of_ble_eq_true rfl⟩) hK hP (va_recv hK hP (ci := 2) (q0 := 0) rfl rfl) rfl hl.1 rfl (Nat.le_of_ble_eq_true rfl) dX3_get_4 ⟨Nat.zero_le _, Nat.zero_le _⟩ ?_
        refine co_eq (show nI (cdP σ (nI n) y 63) = 1 from congrArg nI (show cdP σ (nI n) y 63 = 1 by simp only [cdP, okR_id hn0, hok0, haln, eq_self, Bool.false_eq_true, ite_self, ↓reduceIte])) ?_
        refine va_put (D := G.1) (ci := 2) (v := .int 1) (ty := .int) (C := RX3) (T := TX3) (N := 13) hx hb hts uX3 tyX3 tyX3_ok nmX3 hown hK hP hD hS 0 rfl rfl 0 (by decide) (hts (.fieldLink RX3 41 "ChordOverlayModel" "thrown" "I") (by decide +kernel)) (fun _ h9 => h9) rfl (by decide +kernel) rfl rfl (Nat.le_of_ble_eq_true rfl) dX3_get_7 (fun H locs hP hD hS => ?_)
        have hP : pG G (wM G b (va_up μ 0 (fun _ => 1))) H := hP
        have hD : va_D A (wM G b (va_up μ 0 (fun _ => 1))) := hD
        have hz_1 : Rl Z σ (va_up μ 0 (fun _ => 1)) := Rl.s0 (f := fun _ => 1) hR
        refine lv_aload_n hx hb dX3_get_10 rfl (lv_at hl 0 rfl) ?_
        refine va_get (D := G.1) (ci := 2) (v := .int 1) (C := RX3) (T := TX3) (N := 13) hx hb hts uX3 hown hK hP 0 rfl rfl 0 (by decide) (hts (.fieldLink RX3 41 "ChordOverlayModel" "thrown" "I") (by decide +kernel)) (fun _ h9 => h9) rfl dX3_get_11 ?_
        refine lv_if_le (tgt := 19) hx hb dX3_get_14 (by decide) (fun c_2 => ?_) (fun c_2 => ?_)
        · exact absurd c_2 (by decide)
        · refine lv_iconst (v := 0) hx hb dX3_get_17 (by decide) ?_
          exact co_endI (va_up μ 0 (fun _ => 1)) S hr hlocks dX3_get_18 hK hP hD hS (by have hcd : cdP σ (nI n) y 63 = 1 := (by simp only [cdP, okR_id hn0, hok0, haln, c_2, eq_self, Bool.false_eq_true, ite_self, ↓reduceIte]); exact ⟨by rw [hcd]; exact rfl, fun h => absurd (hcd.symm.trans h) (by decide), fun _ => hz_1⟩)
  · rcases id_or y with ⟨k, hk0, rfl⟩ | ⟨hik0, hok0⟩
    · refine co_bodyI (cc := cX3_get) (maxL := 4) (ret := (some .int)) (by decide) rfl (Nat.le_of_ble_eq_true rfl) ?_
      intro p e s m args below meth c S hr hlocks hK A hA hP hD hS ls hl
      have S : CallFix p m c cX3_get 4 s args wsX3_get RX3 := S
      obtain ⟨hx, hb, hml, hown, hts⟩ := id S
      have hl : lv_has ls 4 [(0, .ref (b 0)), (1, .int x), (2, .int (nI k))] := hl
      have uX3 := uX3_X3_get
      refine lv_aload_n hx hb dX3_get_0 rfl (lv_at hl 0 rfl) ?_
      refine lv_aload_n hx hb dX3_get_1 rfl (lv_at hl 0 rfl) ?_
      refine lv_iload_n hx hb dX3_get_2 rfl (lv_at hl 1 rfl) ?_
      refine lv_iload_n hx hb dX3_get_3 rfl (lv_at hl 2 rfl) ?_
      refine co_rV (As := [.int x, .int (nI k)]) (rest := [.ref (b 0)]) S (c_X3_refusesLookup l G Z b σ μ hR x (nI k)) (cwV 2 hts gX3_get_X3_refusesLookup rfl rfl rfl (by decide +kernel) ⟨Nat.le_of_ble_eq_true rfl, Nat.le_of_ble_eq_true rfl⟩) hK hP (va_recv hK hP (ci := 2) (q0 := 0) rfl rfl) rfl hl.1 rfl (Nat.le_of_ble_eq_true rfl) dX3_get_4 ⟨Nat.zero_le _, Nat.zero_le _⟩ ?_
      refine co_eq (show nI (cdP σ x (nI k) 63) = 1 from congrArg nI (show cdP σ x (nI k) 63 = 1 by simp only [cdP, hon0, okR_id hk0, eq_self, Bool.false_eq_true, ite_self, ↓reduceIte])) ?_
      refine va_put (D := G.1) (ci := 2) (v := .int 1) (ty := .int) (C := RX3) (T := TX3) (N := 13) hx hb hts uX3 tyX3 tyX3_ok nmX3 hown hK hP hD hS 0 rfl rfl 0 (by decide) (hts (.fieldLink RX3 41 "ChordOverlayModel" "thrown" "I") (by decide +kernel)) (fun _ h9 => h9) rfl (by decide +kernel) rfl rfl (Nat.le_of_ble_eq_true rfl) dX3_get_7 (fun H locs hP hD hS => ?_)
      have hP : pG G (wM G b (va_up μ 0 (fun _ => 1))) H := hP
      have hD : va_D A (wM G b (va_up μ 0 (fun _ => 1))) := hD
      have hz_1 : Rl Z σ (va_up μ 0 (fun _ => 1)) := Rl.s0 (f := fun _ => 1) hR
      refine lv_aload_n hx hb dX3_get_10 rfl (lv_at hl 0 rfl) ?_
      refine va_get (D := G.1) (ci := 2) (v := .int 1) (C := RX3) (T := TX3) (N := 13) hx hb hts uX3 hown hK hP 0 rfl rfl 0 (by decide) (hts (.fieldLink RX3 41 "ChordOverlayModel" "thrown" "I") (by decide +kernel)) (fun _ h9 => h9) rfl dX3_get_11 ?_
      refine lv_if_le (tgt := 19) hx hb dX3_get_14 (by decide) (fun c_2 => ?_) (fun c_2 => ?_)
      · exact absurd c_2 (by decide)
      · refine lv_iconst (v := 0) hx hb dX3_get_17 (by decide) ?_
        exact co_endI (va_up μ 0 (fun _ => 1)) S hr hlocks dX3_get_18 hK hP hD hS (by have hcd : cdP σ x (nI k) 63 = 1 := (by simp only [cdP, hon0, okR_id hk0, c_2, eq_self, Bool.false_eq_true, ite_self, ↓reduceIte]); exact ⟨by rw [hcd]; exact rfl, fun h => absurd (hcd.symm.trans h) (by decide), fun _ => hz_1⟩)
    · refine co_bodyI (cc := cX3_get) (maxL := 4) (ret := (some .int)) (by decide) rfl (Nat.le_of_ble_eq_true rfl) ?_
      intro p e s m args below meth c S hr hlocks hK A hA hP hD hS ls hl
      have S : CallFix p m c cX3_get 4 s args wsX3_get RX3 := S
      obtain ⟨hx, hb, hml, hown, hts⟩ := id S
      have hl : lv_has ls 4 [(0, .ref (b 0)), (1, .int x), (2, .int y)] := hl
      have uX3 := uX3_X3_get
      refine lv_aload_n hx hb dX3_get_0 rfl (lv_at hl 0 rfl) ?_
      refine lv_aload_n hx hb dX3_get_1 rfl (lv_at hl 0 rfl) ?_
      refine lv_iload_n hx hb dX3_get_2 rfl (lv_at hl 1 rfl) ?_
      refine lv_iload_n hx hb dX3_get_3 rfl (lv_at hl 2 rfl) ?_
      refine co_rV (As := [.int x, .int y]) (rest := [.ref (b 0)]) S (c_X3_refusesLookup l G Z b σ μ hR x y) (cwV 2 hts gX3_get_X3_refusesLookup rfl rfl rfl (by decide +kernel) ⟨Nat.le_of_ble_eq_true rfl, Nat.le_of_ble_eq_true rfl⟩) hK hP (va_recv hK hP (ci := 2) (q0 := 0) rfl rfl) rfl hl.1 rfl (Nat.le_of_ble_eq_true rfl) dX3_get_4 ⟨Nat.zero_le _, Nat.zero_le _⟩ ?_
      refine co_eq (show nI (cdP σ x y 63) = 1 from congrArg nI (show cdP σ x y 63 = 1 by simp only [cdP, hon0, hok0, eq_self, Bool.false_eq_true, ite_self, ↓reduceIte])) ?_
      refine va_put (D := G.1) (ci := 2) (v := .int 1) (ty := .int) (C := RX3) (T := TX3) (N := 13) hx hb hts uX3 tyX3 tyX3_ok nmX3 hown hK hP hD hS 0 rfl rfl 0 (by decide) (hts (.fieldLink RX3 41 "ChordOverlayModel" "thrown" "I") (by decide +kernel)) (fun _ h9 => h9) rfl (by decide +kernel) rfl rfl (Nat.le_of_ble_eq_true rfl) dX3_get_7 (fun H locs hP hD hS => ?_)
      have hP : pG G (wM G b (va_up μ 0 (fun _ => 1))) H := hP
      have hD : va_D A (wM G b (va_up μ 0 (fun _ => 1))) := hD
      have hz_1 : Rl Z σ (va_up μ 0 (fun _ => 1)) := Rl.s0 (f := fun _ => 1) hR
      refine lv_aload_n hx hb dX3_get_10 rfl (lv_at hl 0 rfl) ?_
      refine va_get (D := G.1) (ci := 2) (v := .int 1) (C := RX3) (T := TX3) (N := 13) hx hb hts uX3 hown hK hP 0 rfl rfl 0 (by decide) (hts (.fieldLink RX3 41 "ChordOverlayModel" "thrown" "I") (by decide +kernel)) (fun _ h9 => h9) rfl dX3_get_11 ?_
      refine lv_if_le (tgt := 19) hx hb dX3_get_14 (by decide) (fun c_2 => ?_) (fun c_2 => ?_)
      · exact absurd c_2 (by decide)
      · refine lv_iconst (v := 0) hx hb dX3_get_17 (by decide) ?_
        exact co_endI (va_up μ 0 (fun _ => 1)) S hr hlocks dX3_get_18 hK hP hD hS (by have hcd : cdP σ x y 63 = 1 := (by simp only [cdP, hon0, hok0, c_2, eq_self, Bool.false_eq_true, ite_self, ↓reduceIte]); exact ⟨by rw [hcd]; exact rfl, fun h => absurd (hcd.symm.trans h) (by decide), fun _ => hz_1⟩)

set_option maxRecDepth 20000 in
theorem uX3_X3_kept : ∀ w ∈ u_ws RX3 TX3 13, w ∈ wsX3_kept := by decide +kernel
abbrev rm_X3_kept : Room := { frames := 3, cells := 0, slots := 0, locals := 63 }
set_option maxHeartbeats 4000000 in
set_option maxRecDepth 100000 in
theorem c_X3_kept (l : Launch) (G : cG) (Z : Nat) (b : Nat → Nat) (σ μ : cS) (hR : Rl Z σ μ) (x : Int32) (y : Int32) : MetI l yX3_kept wsX3_kept rm_X3_kept G (wM G b μ) [.ref (b 0), .int x, .int y] (fun u : cS => wM G b u) (fun r u => u 0 0 = nI (cdP σ x y 63) ∧ (cdP σ x y 63 = 0 → r = tat 64 (σ 4) x y ∧ Rl Z σ u) ∧ (cdP σ x y 63 ≠ 0 → Rl Z σ u)) := by
  rcases id_or x with ⟨n, hn0, rfl⟩ | ⟨hin0, hon0⟩
  · rcases id_or y with ⟨k, hk0, rfl⟩ | ⟨hik0, hok0⟩
    · cases haln : alv (σ 0) (nI n) with
      | false =>
        refine co_bodyI (cc := cX3_kept) (maxL := 3) (ret := (some .int)) (by decide) rfl (Nat.le_of_ble_eq_true rfl) ?_
        intro p e s m args below meth c S hr hlocks hK A hA hP hD hS ls hl
        have S : CallFix p m c cX3_kept 3 s args wsX3_kept RX3 := S
        obtain ⟨hx, hb, hml, hown, hts⟩ := id S
        have hl : lv_has ls 3 [(0, .ref (b 0)), (1, .int (nI n)), (2, .int (nI k))] := hl
        have uX3 := uX3_X3_kept
        refine lv_aload_n hx hb dX3_kept_0 rfl (lv_at hl 0 rfl) ?_
        refine lv_aload_n hx hb dX3_kept_1 rfl (lv_at hl 0 rfl) ?_
        refine lv_iload_n hx hb dX3_kept_2 rfl (lv_at hl 1 rfl) ?_
        refine lv_iload_n hx hb dX3_kept_3 rfl (lv_at hl 2 rfl) ?_
        refine co_rV (As := [.int (nI n), .int (nI k)]) (rest := [.ref (b 0)]) S (c_X3_refusesLookup l G Z b σ μ hR (nI n) (nI k)) (cwV 2 hts gX3_kept_X3_refusesLookup rfl rfl rfl (by decide +kernel) ⟨Nat.le_of_ble_eq_true rfl, Nat.le_of_ble_eq_true rfl⟩) hK hP (va_recv hK hP (ci := 2) (q0 := 0) rfl rfl) rfl hl.1 rfl (Nat.le_of_ble_eq_true rfl) dX3_kept_4 ⟨Nat.zero_le _, Nat.zero_le _⟩ ?_
        refine co_eq (show nI (cdP σ (nI n) (nI k) 63) = 2 from congrArg nI (show cdP σ (nI n) (nI k) 63 = 2 by simp only [cdP, okR_id hn0, okR_id hk0, haln, eq_self, Bool.false_eq_true, ite_self, ↓reduceIte])) ?_
        refine va_put (D := G.1) (ci := 2) (v := .int 2) (ty := .int) (C := RX3) (T := TX3) (N := 13) hx hb hts uX3 tyX3 tyX3_ok nmX3 hown hK hP hD hS 0 rfl rfl 0 (by decide) (hts (.fieldLink RX3 41 "ChordOverlayModel" "thrown" "I") (by decide +kernel)) (fun _ h9 => h9) rfl (by decide +kernel) rfl rfl (Nat.le_of_ble_eq_true rfl) dX3_kept_7 (fun H locs hP hD hS => ?_)
        have hP : pG G (wM G b (va_up μ 0 (fun _ => 2))) H := hP
        have hD : va_D A (wM G b (va_up μ 0 (fun _ => 2))) := hD
        have hz_1 : Rl Z σ (va_up μ 0 (fun _ => 2)) := Rl.s0 (f := fun _ => 2) hR
        refine lv_aload_n hx hb dX3_kept_10 rfl (lv_at hl 0 rfl) ?_
        refine va_get (D := G.1) (ci := 2) (v := .int 2) (C := RX3) (T := TX3) (N := 13) hx hb hts uX3 hown hK hP 0 rfl rfl 0 (by decide) (hts (.fieldLink RX3 41 "ChordOverlayModel" "thrown" "I") (by decide +kernel)) (fun _ h9 => h9) rfl dX3_kept_11 ?_
        refine lv_if_ne (tgt := 26) hx hb dX3_kept_14 (by decide) (fun c_2 => ?_) (fun c_2 => ?_)
        · refine lv_iconst (v := 0) hx hb dX3_kept_26 (by decide) ?_
          exact co_endI (va_up μ 0 (fun _ => 2)) S hr hlocks dX3_kept_27 hK hP hD hS (by have hcd : cdP σ (nI n) (nI k) 63 = 2 := (by simp only [cdP, okR_id hn0, okR_id hk0, haln, c_2, eq_self, Bool.false_eq_true, ite_self, ↓reduceIte]); exact ⟨by rw [hcd]; exact rfl, fun h => absurd (hcd.symm.trans h) (by decide), fun _ => hz_1⟩)
        · exact absurd c_2 (by decide)
      | true =>
        refine co_bodyI (cc := cX3_kept) (maxL := 3) (ret := (some .int)) (by decide) rfl (Nat.le_of_ble_eq_true rfl) ?_
        intro p e s m args below meth c S hr hlocks hK A hA hP hD hS ls hl
        have S : CallFix p m c cX3_kept 3 s args wsX3_kept RX3 := S
        obtain ⟨hx, hb, hml, hown, hts⟩ := id S
        have hl : lv_has ls 3 [(0, .ref (b 0)), (1, .int (nI n)), (2, .int (nI k))] := hl
        have uX3 := uX3_X3_kept
        refine lv_aload_n hx hb dX3_kept_0 rfl (lv_at hl 0 rfl) ?_
        refine lv_aload_n hx hb dX3_kept_1 rfl (lv_at hl 0 rfl) ?_
        refine lv_iload_n hx hb dX3_kept_2 rfl (lv_at hl 1 rfl) ?_
        refine lv_iload_n hx hb dX3_kept_3 rfl (lv_at hl 2 rfl) ?_
        refine co_rV (As := [.int (nI n), .int (nI k)]) (rest := [.ref (b 0)]) S (c_X3_refusesLookup l G Z b σ μ hR (nI n) (nI k)) (cwV 2 hts gX3_kept_X3_refusesLookup rfl rfl rfl (by decide +kernel) ⟨Nat.le_of_ble_eq_true rfl, Nat.le_of_ble_eq_true rfl⟩) hK hP (va_recv hK hP (ci := 2) (q0 := 0) rfl rfl) rfl hl.1 rfl (Nat.le_of_ble_eq_true rfl) dX3_kept_4 ⟨Nat.zero_le _, Nat.zero_le _⟩ ?_
        refine co_eq (show nI (cdP σ (nI n) (nI k) 63) = 0 from congrArg nI (show cdP σ (nI n) (nI k) 63 = 0 by simp only [cdP, okR_id hn0, okR_id hk0, haln, eq_self, Bool.false_eq_true, ite_self, ↓reduceIte])) ?_
        refine va_put (D := G.1) (ci := 2) (v := .int 0) (ty := .int) (C := RX3) (T := TX3) (N := 13) hx hb hts uX3 tyX3 tyX3_ok nmX3 hown hK hP hD hS 0 rfl rfl 0 (by decide) (hts (.fieldLink RX3 41 "ChordOverlayModel" "thrown" "I") (by decide +kernel)) (fun _ h9 => h9) rfl (by decide +kernel) rfl rfl (Nat.le_of_ble_eq_true rfl) dX3_kept_7 (fun H locs hP hD hS => ?_)
        have hP : pG G (wM G b (va_up μ 0 (fun _ => 0))) H := hP
        have hD : va_D A (wM G b (va_up μ 0 (fun _ => 0))) := hD
        have hz_1 : Rl Z σ (va_up μ 0 (fun _ => 0)) := Rl.s0 (f := fun _ => 0) hR
        refine lv_aload_n hx hb dX3_kept_10 rfl (lv_at hl 0 rfl) ?_
        refine va_get (D := G.1) (ci := 2) (v := .int 0) (C := RX3) (T := TX3) (N := 13) hx hb hts uX3 hown hK hP 0 rfl rfl 0 (by decide) (hts (.fieldLink RX3 41 "ChordOverlayModel" "thrown" "I") (by decide +kernel)) (fun _ h9 => h9) rfl dX3_kept_11 ?_
        refine lv_if_ne (tgt := 26) hx hb dX3_kept_14 (by decide) (fun c_2 => ?_) (fun c_2 => ?_)
        · exact absurd (by decide) c_2
        · refine lv_aload_n hx hb dX3_kept_17 rfl (lv_at hl 0 rfl) ?_
          refine lv_iload_n hx hb dX3_kept_18 rfl (lv_at hl 1 rfl) ?_
          refine lv_iload_n hx hb dX3_kept_19 rfl (lv_at hl 2 rfl) ?_
          refine co_rV (As := [.int (nI n), .int (nI k)]) (rest := []) S (c_X3_keptAt l G Z b σ (va_up μ 0 (fun _ => 0)) hz_1 n k ⟨hn0, haln⟩ hk0) (cwV 2 hts gX3_kept_X3_keptAt rfl rfl rfl (by decide +kernel) ⟨Nat.le_of_ble_eq_true rfl, Nat.le_of_ble_eq_true rfl⟩) hK hP (va_recv hK hP (ci := 2) (q0 := 0) rfl rfl) rfl hl.1 rfl (Nat.le_of_ble_eq_true rfl) dX3_kept_20 ⟨Nat.zero_le _, Nat.zero_le _⟩ ?_
          refine lv_goto (tgt := 27) hx hb dX3_kept_23 (by decide) ?_
          exact co_endI (va_up μ 0 (fun _ => 0)) S hr hlocks dX3_kept_27 hK hP hD hS (by have hcd : cdP σ (nI n) (nI k) 63 = 0 := (by simp only [cdP, okR_id hn0, okR_id hk0, haln, (eq_true c_2), eq_self, Bool.false_eq_true, ite_self, ↓reduceIte]); exact ⟨by rw [hcd]; exact rfl, fun _ => ⟨by first | with_reducible rfl | with_reducible assumption | simp only [(eq_true c_2), okR_id hn0, okR_id hk0, haln, eq_self, Bool.false_eq_true, ite_self, ↓reduceIte], by exact hz_1⟩, fun h => absurd hcd h⟩)
    · cases haln : alv (σ 0) (nI n) with
      | false =>
        refine co_bodyI (cc := cX3_kept) (maxL := 3) (ret := (some .int)) (by decide) rfl (Nat.le_of_ble_eq_true rfl) ?_
        intro p e s m args below meth c S hr hlocks hK A hA hP hD hS ls hl
        have S : CallFix p m c cX3_kept 3 s args wsX3_kept RX3 := S
        obtain ⟨hx, hb, hml, hown, hts⟩ := id S
        have hl : lv_has ls 3 [(0, .ref (b 0)), (1, .int (nI n)), (2, .int y)] := hl
        have uX3 := uX3_X3_kept
        refine lv_aload_n hx hb dX3_kept_0 rfl (lv_at hl 0 rfl) ?_
        refine lv_aload_n hx hb dX3_kept_1 rfl (lv_at hl 0 rfl) ?_
        refine lv_iload_n hx hb dX3_kept_2 rfl (lv_at hl 1 rfl) ?_
        refine lv_iload_n hx hb dX3_kept_3 rfl (lv_at hl 2 rfl) ?_
        refine co_rV (As := [.int (nI n), .int y]) (rest := [.ref (b 0)]) S (c_X3_refusesLookup l G Z b σ μ hR (nI n) y) (cwV 2 hts gX3_kept_X3_refusesLookup rfl rfl rfl (by decide +kernel) ⟨Nat.le_of_ble_eq_true rfl, Nat.le_of_ble_eq_true rfl⟩) hK hP (va_recv hK hP (ci := 2) (q0 := 0) rfl rfl) rfl hl.1 rfl (Nat.le_of_ble_eq_true rfl) dX3_kept_4 ⟨Nat.zero_le _, Nat.zero_le _⟩ ?_
        refine co_eq (show nI (cdP σ (nI n) y 63) = 1 from congrArg nI (show cdP σ (nI n) y 63 = 1 by simp only [cdP, okR_id hn0, hok0, haln, eq_self, Bool.false_eq_true, ite_self, ↓reduceIte])) ?_
        refine va_put (D := G.1) (ci := 2) (v := .int 1) (ty := .int) (C := RX3) (T := TX3) (N := 13) hx hb hts uX3 tyX3 tyX3_ok nmX3 hown hK hP hD hS 0 rfl rfl 0 (by decide) (hts (.fieldLink RX3 41 "ChordOverlayModel" "thrown" "I") (by decide +kernel)) (fun _ h9 => h9) rfl (by decide +kernel) rfl rfl (Nat.le_of_ble_eq_true rfl) dX3_kept_7 (fun H locs hP hD hS => ?_)
        have hP : pG G (wM G b (va_up μ 0 (fun _ => 1))) H := hP
        have hD : va_D A (wM G b (va_up μ 0 (fun _ => 1))) := hD
        have hz_1 : Rl Z σ (va_up μ 0 (fun _ => 1)) := Rl.s0 (f := fun _ => 1) hR
        refine lv_aload_n hx hb dX3_kept_10 rfl (lv_at hl 0 rfl) ?_
        refine va_get (D := G.1) (ci := 2) (v := .int 1) (C := RX3) (T := TX3) (N := 13) hx hb hts uX3 hown hK hP 0 rfl rfl 0 (by decide) (hts (.fieldLink RX3 41 "ChordOverlayModel" "thrown" "I") (by decide +kernel)) (fun _ h9 => h9) rfl dX3_kept_11 ?_
        refine lv_if_ne (tgt := 26) hx hb dX3_kept_14 (by decide) (fun c_2 => ?_) (fun c_2 => ?_)
        · refine lv_iconst (v := 0) hx hb dX3_kept_26 (by decide) ?_
          exact co_endI (va_up μ 0 (fun _ => 1)) S hr hlocks dX3_kept_27 hK hP hD hS (by have hcd : cdP σ (nI n) y 63 = 1 := (by simp only [cdP, okR_id hn0, hok0, haln, c_2, eq_self, Bool.false_eq_true, ite_self, ↓reduceIte]); exact ⟨by rw [hcd]; exact rfl, fun h => absurd (hcd.symm.trans h) (by decide), fun _ => hz_1⟩)
        · exact absurd c_2 (by decide)
      | true =>
        refine co_bodyI (cc := cX3_kept) (maxL := 3) (ret := (some .int)) (by decide) rfl (Nat.le_of_ble_eq_true rfl) ?_
        intro p e s m args below meth c S hr hlocks hK A hA hP hD hS ls hl
        have S : CallFix p m c cX3_kept 3 s args wsX3_kept RX3 := S
        obtain ⟨hx, hb, hml, hown, hts⟩ := id S
        have hl : lv_has ls 3 [(0, .ref (b 0)), (1, .int (nI n)), (2, .int y)] := hl
        have uX3 := uX3_X3_kept
        refine lv_aload_n hx hb dX3_kept_0 rfl (lv_at hl 0 rfl) ?_
        refine lv_aload_n hx hb dX3_kept_1 rfl (lv_at hl 0 rfl) ?_
        refine lv_iload_n hx hb dX3_kept_2 rfl (lv_at hl 1 rfl) ?_
        refine lv_iload_n hx hb dX3_kept_3 rfl (lv_at hl 2 rfl) ?_
        refine co_rV (As := [.int (nI n), .int y]) (rest := [.ref (b 0)]) S (c_X3_refusesLookup l G Z b σ μ hR (nI n) y) (cwV 2 hts gX3_kept_X3_refusesLookup rfl rfl rfl (by decide +kernel) ⟨Nat.le_of_ble_eq_true rfl, Nat.le_of_ble_eq_true rfl⟩) hK hP (va_recv hK hP (ci := 2) (q0 := 0) rfl rfl) rfl hl.1 rfl (Nat.le_of_ble_eq_true rfl) dX3_kept_4 ⟨Nat.zero_le _, Nat.zero_le _⟩ ?_
        refine co_eq (show nI (cdP σ (nI n) y 63) = 1 from congrArg nI (show cdP σ (nI n) y 63 = 1 by simp only [cdP, okR_id hn0, hok0, haln, eq_self, Bool.false_eq_true, ite_self, ↓reduceIte])) ?_
        refine va_put (D := G.1) (ci := 2) (v := .int 1) (ty := .int) (C := RX3) (T := TX3) (N := 13) hx hb hts uX3 tyX3 tyX3_ok nmX3 hown hK hP hD hS 0 rfl rfl 0 (by decide) (hts (.fieldLink RX3 41 "ChordOverlayModel" "thrown" "I") (by decide +kernel)) (fun _ h9 => h9) rfl (by decide +kernel) rfl rfl (Nat.le_of_ble_eq_true rfl) dX3_kept_7 (fun H locs hP hD hS => ?_)
        have hP : pG G (wM G b (va_up μ 0 (fun _ => 1))) H := hP
        have hD : va_D A (wM G b (va_up μ 0 (fun _ => 1))) := hD
        have hz_1 : Rl Z σ (va_up μ 0 (fun _ => 1)) := Rl.s0 (f := fun _ => 1) hR
        refine lv_aload_n hx hb dX3_kept_10 rfl (lv_at hl 0 rfl) ?_
        refine va_get (D := G.1) (ci := 2) (v := .int 1) (C := RX3) (T := TX3) (N := 13) hx hb hts uX3 hown hK hP 0 rfl rfl 0 (by decide) (hts (.fieldLink RX3 41 "ChordOverlayModel" "thrown" "I") (by decide +kernel)) (fun _ h9 => h9) rfl dX3_kept_11 ?_
        refine lv_if_ne (tgt := 26) hx hb dX3_kept_14 (by decide) (fun c_2 => ?_) (fun c_2 => ?_)
        · refine lv_iconst (v := 0) hx hb dX3_kept_26 (by decide) ?_
          exact co_endI (va_up μ 0 (fun _ => 1)) S hr hlocks dX3_kept_27 hK hP hD hS (by have hcd : cdP σ (nI n) y 63 = 1 := (by simp only [cdP, okR_id hn0, hok0, haln, c_2, eq_self, Bool.false_eq_true, ite_self, ↓reduceIte]); exact ⟨by rw [hcd]; exact rfl, fun h => absurd (hcd.symm.trans h) (by decide), fun _ => hz_1⟩)
        · exact absurd c_2 (by decide)
  · rcases id_or y with ⟨k, hk0, rfl⟩ | ⟨hik0, hok0⟩
    · refine co_bodyI (cc := cX3_kept) (maxL := 3) (ret := (some .int)) (by decide) rfl (Nat.le_of_ble_eq_true rfl) ?_
      intro p e s m args below meth c S hr hlocks hK A hA hP hD hS ls hl
      have S : CallFix p m c cX3_kept 3 s args wsX3_kept RX3 := S
      obtain ⟨hx, hb, hml, hown, hts⟩ := id S
      have hl : lv_has ls 3 [(0, .ref (b 0)), (1, .int x), (2, .int (nI k))] := hl
      have uX3 := uX3_X3_kept
      refine lv_aload_n hx hb dX3_kept_0 rfl (lv_at hl 0 rfl) ?_
      refine lv_aload_n hx hb dX3_kept_1 rfl (lv_at hl 0 rfl) ?_
      refine lv_iload_n hx hb dX3_kept_2 rfl (lv_at hl 1 rfl) ?_
      refine lv_iload_n hx hb dX3_kept_3 rfl (lv_at hl 2 rfl) ?_
      refine co_rV (As := [.int x, .int (nI k)]) (rest := [.ref (b 0)]) S (c_X3_refusesLookup l G Z b σ μ hR x (nI k)) (cwV 2 hts gX3_kept_X3_refusesLookup rfl rfl rfl (by decide +kernel) ⟨Nat.le_of_ble_eq_true rfl, Nat.le_of_ble_eq_true rfl⟩) hK hP (va_recv hK hP (ci := 2) (q0 := 0) rfl rfl) rfl hl.1 rfl (Nat.le_of_ble_eq_true rfl) dX3_kept_4 ⟨Nat.zero_le _, Nat.zero_le _⟩ ?_
      refine co_eq (show nI (cdP σ x (nI k) 63) = 1 from congrArg nI (show cdP σ x (nI k) 63 = 1 by simp only [cdP, hon0, okR_id hk0, eq_self, Bool.false_eq_true, ite_self, ↓reduceIte])) ?_
      refine va_put (D := G.1) (ci := 2) (v := .int 1) (ty := .int) (C := RX3) (T := TX3) (N := 13) hx hb hts uX3 tyX3 tyX3_ok nmX3 hown hK hP hD hS 0 rfl rfl 0 (by decide) (hts (.fieldLink RX3 41 "ChordOverlayModel" "thrown" "I") (by decide +kernel)) (fun _ h9 => h9) rfl (by decide +kernel) rfl rfl (Nat.le_of_ble_eq_true rfl) dX3_kept_7 (fun H locs hP hD hS => ?_)
      have hP : pG G (wM G b (va_up μ 0 (fun _ => 1))) H := hP
      have hD : va_D A (wM G b (va_up μ 0 (fun _ => 1))) := hD
      have hz_1 : Rl Z σ (va_up μ 0 (fun _ => 1)) := Rl.s0 (f := fun _ => 1) hR
      refine lv_aload_n hx hb dX3_kept_10 rfl (lv_at hl 0 rfl) ?_
      refine va_get (D := G.1) (ci := 2) (v := .int 1) (C := RX3) (T := TX3) (N := 13) hx hb hts uX3 hown hK hP 0 rfl rfl 0 (by decide) (hts (.fieldLink RX3 41 "ChordOverlayModel" "thrown" "I") (by decide +kernel)) (fun _ h9 => h9) rfl dX3_kept_11 ?_
      refine lv_if_ne (tgt := 26) hx hb dX3_kept_14 (by decide) (fun c_2 => ?_) (fun c_2 => ?_)
      · refine lv_iconst (v := 0) hx hb dX3_kept_26 (by decide) ?_
        exact co_endI (va_up μ 0 (fun _ => 1)) S hr hlocks dX3_kept_27 hK hP hD hS (by have hcd : cdP σ x (nI k) 63 = 1 := (by simp only [cdP, hon0, okR_id hk0, c_2, eq_self, Bool.false_eq_true, ite_self, ↓reduceIte]); exact ⟨by rw [hcd]; exact rfl, fun h => absurd (hcd.symm.trans h) (by decide), fun _ => hz_1⟩)
      · exact absurd c_2 (by decide)
    · refine co_bodyI (cc := cX3_kept) (maxL := 3) (ret := (some .int)) (by decide) rfl (Nat.le_of_ble_eq_true rfl) ?_
      intro p e s m args below meth c S hr hlocks hK A hA hP hD hS ls hl
      have S : CallFix p m c cX3_kept 3 s args wsX3_kept RX3 := S
      obtain ⟨hx, hb, hml, hown, hts⟩ := id S
      have hl : lv_has ls 3 [(0, .ref (b 0)), (1, .int x), (2, .int y)] := hl
      have uX3 := uX3_X3_kept
      refine lv_aload_n hx hb dX3_kept_0 rfl (lv_at hl 0 rfl) ?_
      refine lv_aload_n hx hb dX3_kept_1 rfl (lv_at hl 0 rfl) ?_
      refine lv_iload_n hx hb dX3_kept_2 rfl (lv_at hl 1 rfl) ?_
      refine lv_iload_n hx hb dX3_kept_3 rfl (lv_at hl 2 rfl) ?_
      refine co_rV (As := [.int x, .int y]) (rest := [.ref (b 0)]) S (c_X3_refusesLookup l G Z b σ μ hR x y) (cwV 2 hts gX3_kept_X3_refusesLookup rfl rfl rfl (by decide +kernel) ⟨Nat.le_of_ble_eq_true rfl, Nat.le_of_ble_eq_true rfl⟩) hK hP (va_recv hK hP (ci := 2) (q0 := 0) rfl rfl) rfl hl.1 rfl (Nat.le_of_ble_eq_true rfl) dX3_kept_4 ⟨Nat.zero_le _, Nat.zero_le _⟩ ?_
      refine co_eq (show nI (cdP σ x y 63) = 1 from congrArg nI (show cdP σ x y 63 = 1 by simp only [cdP, hon0, hok0, eq_self, Bool.false_eq_true, ite_self, ↓reduceIte])) ?_
      refine va_put (D := G.1) (ci := 2) (v := .int 1) (ty := .int) (C := RX3) (T := TX3) (N := 13) hx hb hts uX3 tyX3 tyX3_ok nmX3 hown hK hP hD hS 0 rfl rfl 0 (by decide) (hts (.fieldLink RX3 41 "ChordOverlayModel" "thrown" "I") (by decide +kernel)) (fun _ h9 => h9) rfl (by decide +kernel) rfl rfl (Nat.le_of_ble_eq_true rfl) dX3_kept_7 (fun H locs hP hD hS => ?_)
      have hP : pG G (wM G b (va_up μ 0 (fun _ => 1))) H := hP
      have hD : va_D A (wM G b (va_up μ 0 (fun _ => 1))) := hD
      have hz_1 : Rl Z σ (va_up μ 0 (fun _ => 1)) := Rl.s0 (f := fun _ => 1) hR
      refine lv_aload_n hx hb dX3_kept_10 rfl (lv_at hl 0 rfl) ?_
      refine va_get (D := G.1) (ci := 2) (v := .int 1) (C := RX3) (T := TX3) (N := 13) hx hb hts uX3 hown hK hP 0 rfl rfl 0 (by decide) (hts (.fieldLink RX3 41 "ChordOverlayModel" "thrown" "I") (by decide +kernel)) (fun _ h9 => h9) rfl dX3_kept_11 ?_
      refine lv_if_ne (tgt := 26) hx hb dX3_kept_14 (by decide) (fun c_2 => ?_) (fun c_2 => ?_)
      · refine lv_iconst (v := 0) hx hb dX3_kept_26 (by decide) ?_
        exact co_endI (va_up μ 0 (fun _ => 1)) S hr hlocks dX3_kept_27 hK hP hD hS (by have hcd : cdP σ x y 63 = 1 := (by simp only [cdP, hon0, hok0, c_2, eq_self, Bool.false_eq_true, ite_self, ↓reduceIte]); exact ⟨by rw [hcd]; exact rfl, fun h => absurd (hcd.symm.trans h) (by decide), fun _ => hz_1⟩)
      · exact absurd c_2 (by decide)

set_option maxRecDepth 20000 in
theorem uX3_X3_owner : ∀ w ∈ u_ws RX3 TX3 13, w ∈ wsX3_owner := by decide +kernel
abbrev rm_X3_owner : Room := { frames := 1, cells := 0, slots := 0, locals := 23 }
set_option maxHeartbeats 4000000 in
set_option maxRecDepth 100000 in
theorem c_X3_owner (l : Launch) (G : cG) (Z : Nat) (b : Nat → Nat) (σ μ : cS) (hR : Rl Z σ μ) (y : Int32) : MetI l yX3_owner wsX3_owner rm_X3_owner G (wM G b μ) [.ref (b 0), .int y] (fun u : cS => wM G b u) (fun r u => u 0 0 = nI (cd1 y 0 63) ∧ (cd1 y 0 63 = 0 → r = upF (σ 0) y 64 0 ∧ Rl Z σ u) ∧ (cd1 y 0 63 ≠ 0 → Rl Z σ u)) := by
  rcases id_or y with ⟨k, hk0, rfl⟩ | ⟨hik0, hok0⟩
  · refine co_bodyI (cc := cX3_owner) (maxL := 2) (ret := (some .int)) (by decide) rfl (Nat.le_of_ble_eq_true rfl) ?_
    intro p e s m args below meth c S hr hlocks hK A hA hP hD hS ls hl
    have S : CallFix p m c cX3_owner 2 s args wsX3_owner RX3 := S
    obtain ⟨hx, hb, hml, hown, hts⟩ := id S
    have hl : lv_has ls 2 [(0, .ref (b 0)), (1, .int (nI k))] := hl
    have uX3 := uX3_X3_owner
    refine lv_aload_n hx hb dX3_owner_0 rfl (lv_at hl 0 rfl) ?_
    refine lv_iconst (v := 0) hx hb dX3_owner_1 (by decide) ?_
    refine va_put (D := G.1) (ci := 2) (v := .int 0) (ty := .int) (C := RX3) (T := TX3) (N := 13) hx hb hts uX3 tyX3 tyX3_ok nmX3 hown hK hP hD hS 0 rfl rfl 0 (by decide) (hts (.fieldLink RX3 41 "ChordOverlayModel" "thrown" "I") (by decide +kernel)) (fun _ h9 => h9) rfl (by decide +kernel) rfl rfl (Nat.le_of_ble_eq_true rfl) dX3_owner_2 (fun H locs hP hD hS => ?_)
    have hP : pG G (wM G b (va_up μ 0 (fun _ => 0))) H := hP
    have hD : va_D A (wM G b (va_up μ 0 (fun _ => 0))) := hD
    have hz_1 : Rl Z σ (va_up μ 0 (fun _ => 0)) := Rl.s0 (f := fun _ => 0) hR
    refine lv_iload_n hx hb dX3_owner_5 rfl (lv_at hl 1 rfl) ?_
    refine co_rS (As := [.int (nI k)]) (rest := []) S (c_X3_isId l G (nI k)) (va_cwS 1 hts gX3_owner_X3_isId rfl rfl rfl (by decide +kernel) ⟨Nat.le_of_ble_eq_true rfl, Nat.le_of_ble_eq_true rfl⟩) hK (pG_nil) rfl hl.1 rfl (Nat.le_of_ble_eq_true rfl) dX3_owner_6 ⟨Nat.zero_le _, Nat.zero_le _⟩ ?_
    refine co_ifeq (tgt := 20) S dX3_owner_9 (by decide) (fun c_2 => ?_) (fun c_2 => ?_)
    · exact absurd (c_2.symm.trans (idB_nI hk0)) (by decide)
    · refine lv_aload_n hx hb dX3_owner_12 rfl (lv_at hl 0 rfl) ?_
      refine lv_iload_n hx hb dX3_owner_13 rfl (lv_at hl 1 rfl) ?_
      refine co_rV (As := [.int (nI k)]) (rest := []) S (c_X3_ownerOf l G Z b σ (va_up μ 0 (fun _ => 0)) hz_1 k hk0) (cwV 1 hts gX3_owner_X3_ownerOf rfl rfl rfl (by decide +kernel) ⟨Nat.le_of_ble_eq_true rfl, Nat.le_of_ble_eq_true rfl⟩) hK hP (va_recv hK hP (ci := 2) (q0 := 0) rfl rfl) rfl hl.1 rfl (Nat.le_of_ble_eq_true rfl) dX3_owner_14 ⟨Nat.zero_le _, Nat.zero_le _⟩ ?_
      refine lv_goto (tgt := 25) hx hb dX3_owner_17 (by decide) ?_
      exact co_endI (va_up μ 0 (fun _ => 0)) S hr hlocks dX3_owner_25 hK hP hD hS (by have hcd : cd1 (nI k) 0 63 = 0 := (by simp only [cd1, okR_id hk0, c_2, eq_self, Bool.false_eq_true, ite_self, ↓reduceIte]); exact ⟨by rw [hcd]; exact rfl, fun _ => ⟨by first | with_reducible rfl | with_reducible assumption | simp only [c_2, okR_id hk0, eq_self, Bool.false_eq_true, ite_self, ↓reduceIte], by exact hz_1⟩, fun h => absurd hcd h⟩)
  · refine co_bodyI (cc := cX3_owner) (maxL := 2) (ret := (some .int)) (by decide) rfl (Nat.le_of_ble_eq_true rfl) ?_
    intro p e s m args below meth c S hr hlocks hK A hA hP hD hS ls hl
    have S : CallFix p m c cX3_owner 2 s args wsX3_owner RX3 := S
    obtain ⟨hx, hb, hml, hown, hts⟩ := id S
    have hl : lv_has ls 2 [(0, .ref (b 0)), (1, .int y)] := hl
    have uX3 := uX3_X3_owner
    refine lv_aload_n hx hb dX3_owner_0 rfl (lv_at hl 0 rfl) ?_
    refine lv_iconst (v := 0) hx hb dX3_owner_1 (by decide) ?_
    refine va_put (D := G.1) (ci := 2) (v := .int 0) (ty := .int) (C := RX3) (T := TX3) (N := 13) hx hb hts uX3 tyX3 tyX3_ok nmX3 hown hK hP hD hS 0 rfl rfl 0 (by decide) (hts (.fieldLink RX3 41 "ChordOverlayModel" "thrown" "I") (by decide +kernel)) (fun _ h9 => h9) rfl (by decide +kernel) rfl rfl (Nat.le_of_ble_eq_true rfl) dX3_owner_2 (fun H locs hP hD hS => ?_)
    have hP : pG G (wM G b (va_up μ 0 (fun _ => 0))) H := hP
    have hD : va_D A (wM G b (va_up μ 0 (fun _ => 0))) := hD
    have hz_1 : Rl Z σ (va_up μ 0 (fun _ => 0)) := Rl.s0 (f := fun _ => 0) hR
    refine lv_iload_n hx hb dX3_owner_5 rfl (lv_at hl 1 rfl) ?_
    refine co_rS (As := [.int y]) (rest := []) S (c_X3_isId l G y) (va_cwS 1 hts gX3_owner_X3_isId rfl rfl rfl (by decide +kernel) ⟨Nat.le_of_ble_eq_true rfl, Nat.le_of_ble_eq_true rfl⟩) hK (pG_nil) rfl hl.1 rfl (Nat.le_of_ble_eq_true rfl) dX3_owner_6 ⟨Nat.zero_le _, Nat.zero_le _⟩ ?_
    refine co_ifeq (tgt := 20) S dX3_owner_9 (by decide) (fun c_2 => ?_) (fun c_2 => ?_)
    · refine lv_aload_n hx hb dX3_owner_20 rfl (lv_at hl 0 rfl) ?_
      refine lv_iconst (v := 1) hx hb dX3_owner_21 (by decide) ?_
      refine co_mVi (As := [.int 1]) (rest := []) S (c_X3_fails l G Z b σ (va_up μ 0 (fun _ => 0)) hz_1 1) (cwV 1 hts gX3_owner_X3_fails rfl rfl rfl (by decide +kernel) ⟨Nat.le_of_ble_eq_true rfl, Nat.le_of_ble_eq_true rfl⟩) hK hP hD hS hA (va_recv hK hP (ci := 2) (q0 := 0) rfl rfl) rfl hl.1 rfl (Nat.le_of_ble_eq_true rfl) dX3_owner_22 ⟨Nat.zero_le _, Nat.zero_le _⟩ (fun r_3 u_3 H locs hu_3 hP hD hS => ?_)
      obtain ⟨hr_3, hu_3⟩ := hu_3
      subst hr_3
      subst hu_3
      have hP : pG G (wM G b (va_up (va_up μ 0 (fun _ => 0)) 0 (fun _ => 1))) H := hP
      have hD : va_D A (wM G b (va_up (va_up μ 0 (fun _ => 0)) 0 (fun _ => 1))) := hD
      have hz_4 : Rl Z σ (va_up (va_up μ 0 (fun _ => 0)) 0 (fun _ => 1)) := Rl.s0 (f := fun _ => 1) hz_1
      exact co_endI (va_up (va_up μ 0 (fun _ => 0)) 0 (fun _ => 1)) S hr hlocks dX3_owner_25 hK hP hD hS (by have hcd : cd1 y 0 63 = 1 := (by simp only [cd1, hok0, c_2, eq_self, Bool.false_eq_true, ite_self, ↓reduceIte]); exact ⟨by rw [hcd]; exact rfl, fun h => absurd (hcd.symm.trans h) (by decide), fun _ => hz_4⟩)
    · exact absurd (c_2.symm.trans hik0) (by decide)
