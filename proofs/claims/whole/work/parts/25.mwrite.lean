set_option maxRecDepth 20000 in
theorem uX3_X3_follows : ∀ w ∈ u_ws RX3 TX3 13, w ∈ wsX3_follows := by decide +kernel
abbrev rm_X3_follows : Room := { frames := 0, cells := 0, slots := 0, locals := 0 }
set_option maxHeartbeats 4000000 in
set_option maxRecDepth 100000 in
theorem c_X3_follows (l : Launch) (G : cG) (Z : Nat) (b : Nat → Nat) (σ μ : cS) (hR : Rl Z σ μ)(n x : Nat) (hn0 : n < 64) (hx0 : Lv σ x) : MetV l yX3_follows wsX3_follows rm_X3_follows G (wM G b μ) [.ref (b 0), .int (nI n), .int (nI x)] (fun u : cS => wM G b u) (fun u => Rl Z (foS σ (nI n) (nI x)) u ∧ Kp μ u) := by
  refine co_bodyV (cc := cX3_follows) (maxL := 5) (ret := none) (by decide) rfl (Nat.le_of_ble_eq_true rfl) ?_
  intro p e s m args below meth c S hr hlocks hK A hA hP hD hS ls hl
  have S : CallFix p m c cX3_follows 5 s args wsX3_follows RX3 := S
  obtain ⟨hx, hb, hml, hown, hts⟩ := id S
  have hl : lv_has ls 5 [(0, .ref (b 0)), (1, .int (nI n)), (2, .int (nI x))] := hl
  have uX3 := uX3_X3_follows
  refine lv_aload_n hx hb dX3_follows_0 rfl (lv_at hl 0 rfl) ?_
  refine va_get (D := G.1) (ci := 2) (v := .ref (b 2)) (C := RX3) (T := TX3) (N := 13) hx hb hts uX3 hown hK hP 0 rfl rfl 3 (by decide) (hts (.fieldLink RX3 13 "ChordOverlayModel" "successor" "[I") (by decide +kernel)) (fun _ h9 => h9) rfl dX3_follows_1 ?_
  refine lv_iconst (v := 3) hx hb dX3_follows_4 (by decide) ?_
  refine lv_iload_n hx hb dX3_follows_5 rfl (lv_at hl 2 rfl) ?_
  refine lv_imul hx hb dX3_follows_6 ?_
  refine va_iald hx hb hK hP 2 0 rfl rfl (vi_30 hx0.1) dX3_follows_7 ?_
  obtain ⟨j_1, hj_1, ej_1, mj_1⟩ := rl_s0 hR hx0
  have ej_1 : tat 3 (σ 1) (nI x) 0 = nI j_1 := ej_1
  refine co_eq mj_1 ?_
  refine lv_istore_n (lv' := [(3, .int (nI j_1)), (0, .ref (b 0)), (1, .int (nI n)), (2, .int (nI x))]) hx hb dX3_follows_8 rfl hl (by decide) rfl (fun ls hl => ?_)
  refine lv_aload_n hx hb dX3_follows_9 rfl (lv_at hl 1 rfl) ?_
  refine va_get (D := G.1) (ci := 2) (v := .ref (b 2)) (C := RX3) (T := TX3) (N := 13) hx hb hts uX3 hown hK hP 0 rfl rfl 3 (by decide) (hts (.fieldLink RX3 13 "ChordOverlayModel" "successor" "[I") (by decide +kernel)) (fun _ h9 => h9) rfl dX3_follows_10 ?_
  refine lv_iconst (v := 3) hx hb dX3_follows_13 (by decide) ?_
  refine lv_iload_n hx hb dX3_follows_14 rfl (lv_at hl 3 rfl) ?_
  refine lv_imul hx hb dX3_follows_15 ?_
  refine lv_iconst (v := 1) hx hb dX3_follows_16 (by decide) ?_
  refine lv_iadd hx hb dX3_follows_17 ?_
  refine va_iald hx hb hK hP 2 0 rfl rfl (vi_w (w := 3) (p := 1) (by decide) hx0.1 (by decide)) dX3_follows_18 ?_
  obtain ⟨j_2, hj_2, ej_2, mj_2⟩ := rl_s hR hx0 1 (by decide)
  have ej_2 : tat 3 (σ 1) (nI x) 1 = nI j_2 := ej_2
  refine co_eq mj_2 ?_
  refine lv_istore (lv' := [(4, .int (nI j_2)), (3, .int (nI j_1)), (0, .ref (b 0)), (1, .int (nI n)), (2, .int (nI x))]) hx hb dX3_follows_19 hl (by decide) rfl (fun ls hl => ?_)
  refine lv_aload_n hx hb dX3_follows_21 rfl (lv_at hl 2 rfl) ?_
  refine va_get (D := G.1) (ci := 2) (v := .ref (b 2)) (C := RX3) (T := TX3) (N := 13) hx hb hts uX3 hown hK hP 0 rfl rfl 3 (by decide) (hts (.fieldLink RX3 13 "ChordOverlayModel" "successor" "[I") (by decide +kernel)) (fun _ h9 => h9) rfl dX3_follows_22 ?_
  refine lv_iconst (v := 3) hx hb dX3_follows_25 (by decide) ?_
  refine lv_iload_n hx hb dX3_follows_26 rfl (lv_at hl 3 rfl) ?_
  refine lv_imul hx hb dX3_follows_27 ?_
  refine lv_iload_n hx hb dX3_follows_28 rfl (lv_at hl 4 rfl) ?_
  refine va_iast hx hb hK hP hD hS 2 0 (f := (μ 3)) rfl rfl (vi_30 hn0) dX3_follows_29 (fun H locs hP hD hS => ?_)
  obtain ⟨f_3, ef_3⟩ : ∃ z9, z9 = (upd (μ 3) (3 * (nI n)).toNatClampNeg (nI x)) := ⟨_, rfl⟩
  rw [← ef_3] at hP hD
  have hP : pG G (wM G b (va_up μ 3 f_3)) H := hP
  have hD : va_D A (wM G b (va_up μ 3 f_3)) := hD
  refine lv_aload_n hx hb dX3_follows_30 rfl (lv_at hl 2 rfl) ?_
  refine va_get (D := G.1) (ci := 2) (v := .ref (b 2)) (C := RX3) (T := TX3) (N := 13) hx hb hts uX3 hown hK hP 0 rfl rfl 3 (by decide) (hts (.fieldLink RX3 13 "ChordOverlayModel" "successor" "[I") (by decide +kernel)) (fun _ h9 => h9) rfl dX3_follows_31 ?_
  refine lv_iconst (v := 3) hx hb dX3_follows_34 (by decide) ?_
  refine lv_iload_n hx hb dX3_follows_35 rfl (lv_at hl 3 rfl) ?_
  refine lv_imul hx hb dX3_follows_36 ?_
  refine lv_iconst (v := 1) hx hb dX3_follows_37 (by decide) ?_
  refine lv_iadd hx hb dX3_follows_38 ?_
  refine lv_iload_n hx hb dX3_follows_39 rfl (lv_at hl 1 rfl) ?_
  refine va_iast hx hb hK hP hD hS 2 0 (f := f_3) rfl rfl (vi_w (w := 3) (p := 1) (by decide) hn0 (by decide)) dX3_follows_40 (fun H locs hP hD hS => ?_)
  obtain ⟨f_4, ef_4⟩ : ∃ z9, z9 = (upd f_3 ((3 * (nI n)) + 1).toNatClampNeg (nI j_1)) := ⟨_, rfl⟩
  rw [← ef_4] at hP hD
  have hP : pG G (wM G b (va_up μ 3 f_4)) H := hP
  have hD : va_D A (wM G b (va_up μ 3 f_4)) := hD
  refine lv_aload_n hx hb dX3_follows_41 rfl (lv_at hl 2 rfl) ?_
  refine va_get (D := G.1) (ci := 2) (v := .ref (b 2)) (C := RX3) (T := TX3) (N := 13) hx hb hts uX3 hown hK hP 0 rfl rfl 3 (by decide) (hts (.fieldLink RX3 13 "ChordOverlayModel" "successor" "[I") (by decide +kernel)) (fun _ h9 => h9) rfl dX3_follows_42 ?_
  refine lv_iconst (v := 3) hx hb dX3_follows_45 (by decide) ?_
  refine lv_iload_n hx hb dX3_follows_46 rfl (lv_at hl 3 rfl) ?_
  refine lv_imul hx hb dX3_follows_47 ?_
  refine lv_iconst (v := 2) hx hb dX3_follows_48 (by decide) ?_
  refine lv_iadd hx hb dX3_follows_49 ?_
  refine lv_iload hx hb dX3_follows_50 (lv_at hl 0 rfl) ?_
  refine va_iast hx hb hK hP hD hS 2 0 (f := f_4) rfl rfl (vi_w (w := 3) (p := 2) (by decide) hn0 (by decide)) dX3_follows_52 (fun H locs hP hD hS => ?_)
  obtain ⟨f_5, ef_5⟩ : ∃ z9, z9 = (upd f_4 ((3 * (nI n)) + 2).toNatClampNeg (nI j_2)) := ⟨_, rfl⟩
  rw [← ef_5] at hP hD
  have hP : pG G (wM G b (va_up μ 3 f_5)) H := hP
  have hD : va_D A (wM G b (va_up μ 3 f_5)) := hD
  exact co_endV (va_up μ 3 f_5) S hr hlocks dX3_follows_53 hK hP hD hS (by subst ef_5; subst ef_4; subst ef_3; exact ⟨rl_fol2 hR hn0 hx0.1 hj_1 hj_2 ej_1 ej_2, ⟨rfl, rfl, rfl, rfl⟩⟩)

set_option maxRecDepth 20000 in
theorem uX3_X3_copy : ∀ w ∈ u_ws RX3 TX3 13, w ∈ wsX3_copy := by decide +kernel
abbrev rm_X3_copy : Room := { frames := 0, cells := 0, slots := 0, locals := 0 }
set_option maxHeartbeats 4000000 in
set_option maxRecDepth 100000 in
theorem c_X3_copy (l : Launch) (G : cG) (Z : Nat) (b : Nat → Nat) (σ μ : cS) (hR : Rl Z σ μ)(f k t : Nat) (hf : Lv σ f) (hk0 : k < 64) (ht : Lv σ t) : MetI l yX3_copy wsX3_copy rm_X3_copy G (wM G b μ) [.ref (b 0), .int (nI f), .int (nI k), .int (nI t)] (fun u : cS => wM G b u) (fun r u => r = (gcC σ (nI f) (nI t) (nI k)) ∧ Rl Z (gcS σ (nI f) (nI t) (nI k)) u ∧ Kp μ u) := by
  refine co_bodyI (cc := cX3_copy) (maxL := 4) (ret := (some .int)) (by decide) rfl (Nat.le_of_ble_eq_true rfl) ?_
  intro p e s m args below meth c S hr hlocks hK A hA hP hD hS ls hl
  have S : CallFix p m c cX3_copy 4 s args wsX3_copy RX3 := S
  obtain ⟨hx, hb, hml, hown, hts⟩ := id S
  have hl : lv_has ls 4 [(0, .ref (b 0)), (1, .int (nI f)), (2, .int (nI k)), (3, .int (nI t))] := hl
  have uX3 := uX3_X3_copy
  refine lv_aload_n hx hb dX3_copy_0 rfl (lv_at hl 0 rfl) ?_
  refine va_get (D := G.1) (ci := 2) (v := .ref (b 6)) (C := RX3) (T := TX3) (N := 13) hx hb hts uX3 hown hK hP 0 rfl rfl 7 (by decide) (hts (.fieldLink RX3 26 "ChordOverlayModel" "stamp" "[I") (by decide +kernel)) (fun _ h9 => h9) rfl dX3_copy_1 ?_
  refine lv_bipush (v := 64) hx hb dX3_copy_4 (by decide) ?_
  refine lv_iload_n hx hb dX3_copy_6 rfl (lv_at hl 3 rfl) ?_
  refine lv_imul hx hb dX3_copy_7 ?_
  refine lv_iload_n hx hb dX3_copy_8 rfl (lv_at hl 2 rfl) ?_
  refine lv_iadd hx hb dX3_copy_9 ?_
  refine va_iald hx hb hK hP 6 0 rfl rfl (vi_w (w := 64) (p := k) (by decide) ht.1 hk0) dX3_copy_10 ?_
  refine lv_aload_n hx hb dX3_copy_11 rfl (lv_at hl 0 rfl) ?_
  refine va_get (D := G.1) (ci := 2) (v := .ref (b 6)) (C := RX3) (T := TX3) (N := 13) hx hb hts uX3 hown hK hP 0 rfl rfl 7 (by decide) (hts (.fieldLink RX3 26 "ChordOverlayModel" "stamp" "[I") (by decide +kernel)) (fun _ h9 => h9) rfl dX3_copy_12 ?_
  refine lv_bipush (v := 64) hx hb dX3_copy_15 (by decide) ?_
  refine lv_iload_n hx hb dX3_copy_17 rfl (lv_at hl 1 rfl) ?_
  refine lv_imul hx hb dX3_copy_18 ?_
  refine lv_iload_n hx hb dX3_copy_19 rfl (lv_at hl 2 rfl) ?_
  refine lv_iadd hx hb dX3_copy_20 ?_
  refine va_iald hx hb hK hP 6 0 rfl rfl (vi_w (w := 64) (p := k) (by decide) hf.1 hk0) dX3_copy_21 ?_
  refine lv_icmp_lt (tgt := 27) hx hb dX3_copy_22 (by decide) (fun c_1 => ?_) (fun c_1 => ?_)
  · refine lv_aload_n hx hb dX3_copy_27 rfl (lv_at hl 0 rfl) ?_
    refine va_get (D := G.1) (ci := 2) (v := .ref (b 6)) (C := RX3) (T := TX3) (N := 13) hx hb hts uX3 hown hK hP 0 rfl rfl 7 (by decide) (hts (.fieldLink RX3 26 "ChordOverlayModel" "stamp" "[I") (by decide +kernel)) (fun _ h9 => h9) rfl dX3_copy_28 ?_
    refine lv_bipush (v := 64) hx hb dX3_copy_31 (by decide) ?_
    refine lv_iload_n hx hb dX3_copy_33 rfl (lv_at hl 3 rfl) ?_
    refine lv_imul hx hb dX3_copy_34 ?_
    refine lv_iload_n hx hb dX3_copy_35 rfl (lv_at hl 2 rfl) ?_
    refine lv_iadd hx hb dX3_copy_36 ?_
    refine lv_aload_n hx hb dX3_copy_37 rfl (lv_at hl 0 rfl) ?_
    refine va_get (D := G.1) (ci := 2) (v := .ref (b 6)) (C := RX3) (T := TX3) (N := 13) hx hb hts uX3 hown hK hP 0 rfl rfl 7 (by decide) (hts (.fieldLink RX3 26 "ChordOverlayModel" "stamp" "[I") (by decide +kernel)) (fun _ h9 => h9) rfl dX3_copy_38 ?_
    refine lv_bipush (v := 64) hx hb dX3_copy_41 (by decide) ?_
    refine lv_iload_n hx hb dX3_copy_43 rfl (lv_at hl 1 rfl) ?_
    refine lv_imul hx hb dX3_copy_44 ?_
    refine lv_iload_n hx hb dX3_copy_45 rfl (lv_at hl 2 rfl) ?_
    refine lv_iadd hx hb dX3_copy_46 ?_
    refine va_iald hx hb hK hP 6 0 rfl rfl (vi_w (w := 64) (p := k) (by decide) hf.1 hk0) dX3_copy_47 ?_
    refine va_iast hx hb hK hP hD hS 6 0 (f := (μ 7)) rfl rfl (vi_w (w := 64) (p := k) (by decide) ht.1 hk0) dX3_copy_48 (fun H locs hP hD hS => ?_)
    have hP : pG G (wM G b (va_up μ 7 (upd (μ 7) ((64 * (nI t)) + (nI k)).toNatClampNeg ((μ 7) ((64 * (nI f)) + (nI k)).toNatClampNeg)))) H := hP
    have hD : va_D A (wM G b (va_up μ 7 (upd (μ 7) ((64 * (nI t)) + (nI k)).toNatClampNeg ((μ 7) ((64 * (nI f)) + (nI k)).toNatClampNeg)))) := hD
    refine lv_aload_n hx hb dX3_copy_49 rfl (lv_at hl 0 rfl) ?_
    refine va_get (D := G.1) (ci := 2) (v := .ref (b 5)) (C := RX3) (T := TX3) (N := 13) hx hb hts uX3 hown hK hP 0 rfl rfl 6 (by decide) (hts (.fieldLink RX3 23 "ChordOverlayModel" "value" "[I") (by decide +kernel)) (fun _ h9 => h9) rfl dX3_copy_50 ?_
    refine lv_bipush (v := 64) hx hb dX3_copy_53 (by decide) ?_
    refine lv_iload_n hx hb dX3_copy_55 rfl (lv_at hl 3 rfl) ?_
    refine lv_imul hx hb dX3_copy_56 ?_
    refine lv_iload_n hx hb dX3_copy_57 rfl (lv_at hl 2 rfl) ?_
    refine lv_iadd hx hb dX3_copy_58 ?_
    refine lv_aload_n hx hb dX3_copy_59 rfl (lv_at hl 0 rfl) ?_
    refine va_get (D := G.1) (ci := 2) (v := .ref (b 5)) (C := RX3) (T := TX3) (N := 13) hx hb hts uX3 hown hK hP 0 rfl rfl 6 (by decide) (hts (.fieldLink RX3 23 "ChordOverlayModel" "value" "[I") (by decide +kernel)) (fun _ h9 => h9) rfl dX3_copy_60 ?_
    refine lv_bipush (v := 64) hx hb dX3_copy_63 (by decide) ?_
    refine lv_iload_n hx hb dX3_copy_65 rfl (lv_at hl 1 rfl) ?_
    refine lv_imul hx hb dX3_copy_66 ?_
    refine lv_iload_n hx hb dX3_copy_67 rfl (lv_at hl 2 rfl) ?_
    refine lv_iadd hx hb dX3_copy_68 ?_
    refine va_iald hx hb hK hP 5 0 rfl rfl (vi_w (w := 64) (p := k) (by decide) hf.1 hk0) dX3_copy_69 ?_
    refine va_iast hx hb hK hP hD hS 5 0 (f := (μ 6)) rfl rfl (vi_w (w := 64) (p := k) (by decide) ht.1 hk0) dX3_copy_70 (fun H locs hP hD hS => ?_)
    have hP : pG G (wM G b (va_up (va_up μ 7 (upd (μ 7) ((64 * (nI t)) + (nI k)).toNatClampNeg ((μ 7) ((64 * (nI f)) + (nI k)).toNatClampNeg))) 6 (upd (μ 6) ((64 * (nI t)) + (nI k)).toNatClampNeg ((μ 6) ((64 * (nI f)) + (nI k)).toNatClampNeg)))) H := hP
    have hD : va_D A (wM G b (va_up (va_up μ 7 (upd (μ 7) ((64 * (nI t)) + (nI k)).toNatClampNeg ((μ 7) ((64 * (nI f)) + (nI k)).toNatClampNeg))) 6 (upd (μ 6) ((64 * (nI t)) + (nI k)).toNatClampNeg ((μ 6) ((64 * (nI f)) + (nI k)).toNatClampNeg)))) := hD
    refine lv_iconst (v := 1) hx hb dX3_copy_71 (by decide) ?_
    exact co_endI (va_up (va_up μ 7 (upd (μ 7) ((64 * (nI t)) + (nI k)).toNatClampNeg ((μ 7) ((64 * (nI f)) + (nI k)).toNatClampNeg))) 6 (upd (μ 6) ((64 * (nI t)) + (nI k)).toNatClampNeg ((μ 6) ((64 * (nI f)) + (nI k)).toNatClampNeg))) S hr hlocks dX3_copy_72 hK hP hD hS (by exact ⟨(cp_yes hR hf ht hk0 c_1).1.symm, (cp_yes hR hf ht hk0 c_1).2, ⟨rfl, rfl, rfl, rfl⟩⟩)
  · refine lv_iconst (v := 0) hx hb dX3_copy_25 (by decide) ?_
    exact co_endI μ S hr hlocks dX3_copy_26 hK hP hD hS (by exact ⟨(cp_no hR hf ht hk0 c_1).1.symm, by rw [(cp_no hR hf ht hk0 c_1).2]; exact hR, Kp.rf⟩)

set_option maxRecDepth 20000 in
theorem uX3_X3_checks : ∀ w ∈ u_ws RX3 TX3 13, w ∈ wsX3_checks := by decide +kernel
abbrev rm_X3_checks : Room := { frames := 0, cells := 0, slots := 0, locals := 0 }
set_option maxHeartbeats 4000000 in
set_option maxRecDepth 100000 in
theorem c_X3_checks (l : Launch) (G : cG) (Z : Nat) (b : Nat → Nat) (σ μ : cS) (hR : Rl Z σ μ)(n : Nat) (hn : Lv σ n) : MetV l yX3_checks wsX3_checks rm_X3_checks G (wM G b μ) [.ref (b 0), .int (nI n)] (fun u : cS => wM G b u) (fun u => Rl Z (ddS σ (nI n)) u ∧ Kp μ u) := by
  refine co_bodyV (cc := cX3_checks) (maxL := 2) (ret := none) (by decide) rfl (Nat.le_of_ble_eq_true rfl) ?_
  intro p e s m args below meth c S hr hlocks hK A hA hP hD hS ls hl
  have S : CallFix p m c cX3_checks 2 s args wsX3_checks RX3 := S
  obtain ⟨hx, hb, hml, hown, hts⟩ := id S
  have hl : lv_has ls 2 [(0, .ref (b 0)), (1, .int (nI n))] := hl
  have uX3 := uX3_X3_checks
  refine lv_aload_n hx hb dX3_checks_0 rfl (lv_at hl 0 rfl) ?_
  refine va_get (D := G.1) (ci := 2) (v := .ref (b 3)) (C := RX3) (T := TX3) (N := 13) hx hb hts uX3 hown hK hP 0 rfl rfl 4 (by decide) (hts (.fieldLink RX3 17 "ChordOverlayModel" "predecessor" "[I") (by decide +kernel)) (fun _ h9 => h9) rfl dX3_checks_1 ?_
  refine lv_iload_n hx hb dX3_checks_4 rfl (lv_at hl 1 rfl) ?_
  refine lv_aload_n hx hb dX3_checks_5 rfl (lv_at hl 0 rfl) ?_
  refine va_get (D := G.1) (ci := 2) (v := .ref (b 3)) (C := RX3) (T := TX3) (N := 13) hx hb hts uX3 hown hK hP 0 rfl rfl 4 (by decide) (hts (.fieldLink RX3 17 "ChordOverlayModel" "predecessor" "[I") (by decide +kernel)) (fun _ h9 => h9) rfl dX3_checks_6 ?_
  refine lv_iload_n hx hb dX3_checks_9 rfl (lv_at hl 1 rfl) ?_
  refine va_iald hx hb hK hP 3 0 rfl rfl (vi_1 hn.1) dX3_checks_10 ?_
  rcases rl_p hR hn with ⟨ej_1, mj_1⟩ | ⟨j_1, hj_1, ej_1, mj_1⟩
  · have ej_1 : tat 1 (σ 2) (nI n) 0 = (-1) := ej_1
    refine co_eq mj_1 ?_
    refine lv_iconst (v := (-1)) hx hb dX3_checks_11 (by decide) ?_
    refine lv_icmp_eq (tgt := 38) hx hb dX3_checks_12 (by decide) (fun c_2 => ?_) (fun c_2 => ?_)
    · refine lv_iconst (v := (-1)) hx hb dX3_checks_38 (by decide) ?_
      refine va_iast hx hb hK hP hD hS 3 0 (f := (μ 4)) rfl rfl (vi_1 hn.1) dX3_checks_39 (fun H locs hP hD hS => ?_)
      have hP : pG G (wM G b (va_up μ 4 (upd (μ 4) (nI n).toNatClampNeg (-1)))) H := hP
      have hD : va_D A (wM G b (va_up μ 4 (upd (μ 4) (nI n).toNatClampNeg (-1)))) := hD
      exact co_endV (va_up μ 4 (upd (μ 4) (nI n).toNatClampNeg (-1))) S hr hlocks dX3_checks_40 hK hP hD hS (by refine ⟨?_, ⟨rfl, rfl, rfl, rfl⟩⟩; rw [show ddS σ (nI n) = va_up σ 2 (tset 1 (σ 2) (nI n) 0 (-1)) from by simp only [ddS, alv_m1, ej_1, (eq_true c_2), Bool.false_eq_true, ↓reduceIte]]; exact rl_pre hR hn.1 okP.m1)
    · exact absurd (by decide) c_2
  · have ej_1 : tat 1 (σ 2) (nI n) 0 = (nI j_1) := ej_1
    refine co_eq mj_1 ?_
    refine lv_iconst (v := (-1)) hx hb dX3_checks_11 (by decide) ?_
    refine lv_icmp_eq (tgt := 38) hx hb dX3_checks_12 (by decide) (fun c_3 => ?_) (fun c_3 => ?_)
    · exact absurd c_3 (nI_nem hj_1)
    · refine lv_aload_n hx hb dX3_checks_15 rfl (lv_at hl 0 rfl) ?_
      refine va_get (D := G.1) (ci := 2) (v := .ref (b 1)) (C := RX3) (T := TX3) (N := 13) hx hb hts uX3 hown hK hP 0 rfl rfl 2 (by decide) (hts (.fieldLink RX3 7 "ChordOverlayModel" "lives" "[Z") (by decide +kernel)) (fun _ h9 => h9) rfl dX3_checks_16 ?_
      refine lv_aload_n hx hb dX3_checks_19 rfl (lv_at hl 0 rfl) ?_
      refine va_get (D := G.1) (ci := 2) (v := .ref (b 3)) (C := RX3) (T := TX3) (N := 13) hx hb hts uX3 hown hK hP 0 rfl rfl 4 (by decide) (hts (.fieldLink RX3 17 "ChordOverlayModel" "predecessor" "[I") (by decide +kernel)) (fun _ h9 => h9) rfl dX3_checks_20 ?_
      refine lv_iload_n hx hb dX3_checks_23 rfl (lv_at hl 1 rfl) ?_
      refine va_iald hx hb hK hP 3 0 rfl rfl (vi_1 hn.1) dX3_checks_24 ?_
      refine co_eq mj_1 ?_
      refine va_zald hx hb hK hP 1 1 rfl rfl (vi_1 hj_1) dX3_checks_25 ?_
      refine co_eq (y := bI (alv (σ 0) (nI j_1))) (rl_l hR hj_1) ?_
      refine co_ifeq (tgt := 38) S dX3_checks_26 (by decide) (fun c_4 => ?_) (fun c_4 => ?_)
      · refine lv_iconst (v := (-1)) hx hb dX3_checks_38 (by decide) ?_
        refine va_iast hx hb hK hP hD hS 3 0 (f := (μ 4)) rfl rfl (vi_1 hn.1) dX3_checks_39 (fun H locs hP hD hS => ?_)
        have hP : pG G (wM G b (va_up μ 4 (upd (μ 4) (nI n).toNatClampNeg (-1)))) H := hP
        have hD : va_D A (wM G b (va_up μ 4 (upd (μ 4) (nI n).toNatClampNeg (-1)))) := hD
        exact co_endV (va_up μ 4 (upd (μ 4) (nI n).toNatClampNeg (-1))) S hr hlocks dX3_checks_40 hK hP hD hS (by refine ⟨?_, ⟨rfl, rfl, rfl, rfl⟩⟩; rw [show ddS σ (nI n) = va_up σ 2 (tset 1 (σ 2) (nI n) 0 (-1)) from by simp only [ddS, alv_m1, ej_1, c_4, Bool.false_eq_true, ↓reduceIte]]; exact rl_pre hR hn.1 okP.m1)
      · refine lv_aload_n hx hb dX3_checks_29 rfl (lv_at hl 0 rfl) ?_
        refine va_get (D := G.1) (ci := 2) (v := .ref (b 3)) (C := RX3) (T := TX3) (N := 13) hx hb hts uX3 hown hK hP 0 rfl rfl 4 (by decide) (hts (.fieldLink RX3 17 "ChordOverlayModel" "predecessor" "[I") (by decide +kernel)) (fun _ h9 => h9) rfl dX3_checks_30 ?_
        refine lv_iload_n hx hb dX3_checks_33 rfl (lv_at hl 1 rfl) ?_
        refine va_iald hx hb hK hP 3 0 rfl rfl (vi_1 hn.1) dX3_checks_34 ?_
        refine co_eq mj_1 ?_
        refine lv_goto (tgt := 39) hx hb dX3_checks_35 (by decide) ?_
        refine va_iast hx hb hK hP hD hS 3 0 (f := (μ 4)) rfl rfl (vi_1 hn.1) dX3_checks_39 (fun H locs hP hD hS => ?_)
        have hP : pG G (wM G b (va_up μ 4 (upd (μ 4) (nI n).toNatClampNeg (nI j_1)))) H := hP
        have hD : va_D A (wM G b (va_up μ 4 (upd (μ 4) (nI n).toNatClampNeg (nI j_1)))) := hD
        exact co_endV (va_up μ 4 (upd (μ 4) (nI n).toNatClampNeg (nI j_1))) S hr hlocks dX3_checks_40 hK hP hD hS (by refine ⟨?_, ⟨rfl, rfl, rfl, rfl⟩⟩; rw [show ddS σ (nI n) = σ from by simp only [ddS, ej_1, c_4, ↓reduceIte], va_upr mj_1]; exact hR)

set_option maxRecDepth 20000 in
theorem uX3_X3_stabilizes : ∀ w ∈ u_ws RX3 TX3 13, w ∈ wsX3_stabilizes := by decide +kernel
abbrev rm_X3_stabilizes : Room := { frames := 3, cells := 0, slots := 0, locals := 67 }
set_option maxHeartbeats 4000000 in
set_option maxRecDepth 100000 in
theorem c_X3_stabilizes (l : Launch) (G : cG) (Z : Nat) (b : Nat → Nat) (σ μ : cS) (hR : Rl Z σ μ)(n : Nat) (hn : Lv σ n) : MetV l yX3_stabilizes wsX3_stabilizes rm_X3_stabilizes G (wM G b μ) [.ref (b 0), .int (nI n)] (fun u : cS => wM G b u) (fun u => Rl Z (msS σ (nI n)) u ∧ Kp μ u) := by
  refine co_bodyV (cc := cX3_stabilizes) (maxL := 5) (ret := none) (by decide) rfl (Nat.le_of_ble_eq_true rfl) ?_
  intro p e s m args below meth c S hr hlocks hK A hA hP hD hS ls hl
  have S : CallFix p m c cX3_stabilizes 5 s args wsX3_stabilizes RX3 := S
  obtain ⟨hx, hb, hml, hown, hts⟩ := id S
  have hl : lv_has ls 5 [(0, .ref (b 0)), (1, .int (nI n))] := hl
  have uX3 := uX3_X3_stabilizes
  refine lv_aload_n hx hb dX3_stabilizes_0 rfl (lv_at hl 0 rfl) ?_
  refine lv_iload_n hx hb dX3_stabilizes_1 rfl (lv_at hl 1 rfl) ?_
  obtain ⟨j_1, ej_1, lj_1⟩ := Lv.ls hR hn
  refine co_rV (As := [.int (nI n)]) (rest := []) S (c_X3_liveSuccessorOf l G Z b σ μ hR n hn) (cwV 1 hts gX3_stabilizes_X3_liveSuccessorOf rfl rfl rfl (by decide +kernel) ⟨Nat.le_of_ble_eq_true rfl, Nat.le_of_ble_eq_true rfl⟩) hK hP (va_recv hK hP (ci := 2) (q0 := 0) rfl rfl) rfl hl.1 rfl (Nat.le_of_ble_eq_true rfl) dX3_stabilizes_2 ⟨Nat.zero_le _, Nat.zero_le _⟩ ?_
  refine co_eq ej_1 ?_
  refine lv_istore_n (lv' := [(2, .int (nI j_1)), (0, .ref (b 0)), (1, .int (nI n))]) hx hb dX3_stabilizes_5 rfl hl (by decide) rfl (fun ls hl => ?_)
  refine lv_aload_n hx hb dX3_stabilizes_6 rfl (lv_at hl 1 rfl) ?_
  refine va_get (D := G.1) (ci := 2) (v := .ref (b 3)) (C := RX3) (T := TX3) (N := 13) hx hb hts uX3 hown hK hP 0 rfl rfl 4 (by decide) (hts (.fieldLink RX3 17 "ChordOverlayModel" "predecessor" "[I") (by decide +kernel)) (fun _ h9 => h9) rfl dX3_stabilizes_7 ?_
  refine lv_iload_n hx hb dX3_stabilizes_10 rfl (lv_at hl 0 rfl) ?_
  refine va_iald hx hb hK hP 3 0 rfl rfl (vi_1 lj_1.1) dX3_stabilizes_11 ?_
  rcases rl_p hR lj_1 with ⟨ej_2, mj_2⟩ | ⟨j_2, hj_2, ej_2, mj_2⟩
  · have ej_2 : tat 1 (σ 2) (nI j_1) 0 = (-1) := ej_2
    refine co_eq mj_2 ?_
    refine lv_istore_n (lv' := [(3, .int (-1)), (2, .int (nI j_1)), (0, .ref (b 0)), (1, .int (nI n))]) hx hb dX3_stabilizes_12 rfl hl (by decide) rfl (fun ls hl => ?_)
    refine lv_iload_n hx hb dX3_stabilizes_13 rfl (lv_at hl 0 rfl) ?_
    refine lv_iconst (v := (-1)) hx hb dX3_stabilizes_14 (by decide) ?_
    refine lv_icmp_eq (tgt := 40) hx hb dX3_stabilizes_15 (by decide) (fun c_3 => ?_) (fun c_3 => ?_)
    · refine lv_iload_n hx hb dX3_stabilizes_40 rfl (lv_at hl 1 rfl) ?_
      refine lv_istore_n (lv' := [(2, .int (nI j_1)), (3, .int (-1)), (0, .ref (b 0)), (1, .int (nI n))]) hx hb dX3_stabilizes_41 rfl hl (by decide) rfl (fun ls hl => ?_)
      have hm9 : mdN σ (nI n) = nI j_1 := (by simp only [mdN, alv_m1, ej_1, ej_2, (eq_true c_3), eq_self, Bool.false_eq_true, ↓reduceIte])
      refine lv_aload_n hx hb dX3_stabilizes_42 rfl (lv_at hl 2 rfl) ?_
      refine lv_iload_n hx hb dX3_stabilizes_43 rfl (lv_at hl 3 rfl) ?_
      refine lv_iload_n hx hb dX3_stabilizes_44 rfl (lv_at hl 0 rfl) ?_
      refine co_mVv (As := [.int (nI n), .int (nI j_1)]) (rest := []) S (c_X3_follows l G Z b σ μ hR n j_1 hn.1 lj_1) (cwV 2 hts gX3_stabilizes_X3_follows rfl rfl rfl (by decide +kernel) ⟨Nat.le_of_ble_eq_true rfl, Nat.le_of_ble_eq_true rfl⟩) hK hP hD hS hA (va_recv hK hP (ci := 2) (q0 := 0) rfl rfl) rfl hl.1 rfl (Nat.le_of_ble_eq_true rfl) dX3_stabilizes_45 ⟨Nat.zero_le _, Nat.zero_le _⟩ (fun u_4 H locs hu_4 hP hD hS => ?_)
      obtain ⟨hq_4, hk_4⟩ := hu_4
      obtain ⟨σ_4, eσ_4⟩ : ∃ z9, z9 = (foS σ (nI n) (nI j_1)) := ⟨_, rfl⟩
      have hq_4 : Rl Z σ_4 u_4 := (by rw [eσ_4]; exact hq_4)
      have hc0_4 : σ_4 0 = (σ 0) := (by rw [eσ_4]; exact foS_0)
      have hc2_4 : σ_4 2 = (σ 2) := (by rw [eσ_4]; exact rfl)
      have hc3_4 : σ_4 3 = (σ 3) := (by rw [eσ_4]; exact rfl)
      have hc4_4 : σ_4 4 = (σ 4) := (by rw [eσ_4]; exact rfl)
      have hc5_4 : σ_4 5 = (σ 5) := (by rw [eσ_4]; exact rfl)
      have hP : pG G (wM G b u_4) H := hP
      have hD : va_D A (wM G b u_4) := hD
      refine lv_aload_n hx hb dX3_stabilizes_48 rfl (lv_at hl 2 rfl) ?_
      refine va_get (D := G.1) (ci := 2) (v := .ref (b 3)) (C := RX3) (T := TX3) (N := 13) hx hb hts uX3 hown hK hP 0 rfl rfl 4 (by decide) (hts (.fieldLink RX3 17 "ChordOverlayModel" "predecessor" "[I") (by decide +kernel)) (fun _ h9 => h9) rfl dX3_stabilizes_49 ?_
      refine lv_iload_n hx hb dX3_stabilizes_52 rfl (lv_at hl 0 rfl) ?_
      refine va_iald hx hb hK hP 3 0 rfl rfl (vi_1 lj_1.1) dX3_stabilizes_53 ?_
      have mj_5 : u_4 4 (nI j_1).toNatClampNeg = (-1) := (rl_p1 hq_4 (Lv.tr hc0_4 lj_1)).trans (by rw [hc2_4, ej_2])
      refine co_eq mj_5 ?_
      refine lv_istore (lv' := [(4, .int (-1)), (2, .int (nI j_1)), (3, .int (-1)), (0, .ref (b 0)), (1, .int (nI n))]) hx hb dX3_stabilizes_54 hl (by decide) rfl (fun ls hl => ?_)
      refine lv_aload_n hx hb dX3_stabilizes_56 rfl (lv_at hl 3 rfl) ?_
      refine va_get (D := G.1) (ci := 2) (v := .ref (b 3)) (C := RX3) (T := TX3) (N := 13) hx hb hts uX3 hown hK hP 0 rfl rfl 4 (by decide) (hts (.fieldLink RX3 17 "ChordOverlayModel" "predecessor" "[I") (by decide +kernel)) (fun _ h9 => h9) rfl dX3_stabilizes_57 ?_
      refine lv_iload_n hx hb dX3_stabilizes_60 rfl (lv_at hl 1 rfl) ?_
      refine lv_iload hx hb dX3_stabilizes_61 (lv_at hl 0 rfl) ?_
      refine lv_iconst (v := (-1)) hx hb dX3_stabilizes_63 (by decide) ?_
      refine lv_icmp_eq (tgt := 87) hx hb dX3_stabilizes_64 (by decide) (fun c_6 => ?_) (fun c_6 => ?_)
      · refine lv_iload_n hx hb dX3_stabilizes_87 rfl (lv_at hl 4 rfl) ?_
        refine lv_goto (tgt := 93) hx hb dX3_stabilizes_88 (by decide) ?_
        refine va_iast hx hb hK hP hD hS 3 0 (f := (u_4 4)) rfl rfl (vi_1 lj_1.1) dX3_stabilizes_93 (fun H locs hP hD hS => ?_)
        have hP : pG G (wM G b (va_up u_4 4 (upd (u_4 4) (nI j_1).toNatClampNeg (nI n)))) H := hP
        have hD : va_D A (wM G b (va_up u_4 4 (upd (u_4 4) (nI j_1).toNatClampNeg (nI n)))) := hD
        exact co_endV (va_up u_4 4 (upd (u_4 4) (nI j_1).toNatClampNeg (nI n))) S hr hlocks dX3_stabilizes_94 hK hP hD hS (by refine ⟨?_, Kp.tr hk_4 ⟨rfl, rfl, rfl, rfl⟩⟩; rw [ms_nt hm9 eσ_4, show ntS σ_4 (nI n) (nI j_1) = va_up σ_4 2 (tset 1 (σ_4 2) (nI j_1) 0 (nI n)) from by simp only [ntS, alv_m1, hc0_4, hc2_4, ej_1, ej_2, (eq_true c_3), (eq_true c_6), eq_self, Bool.false_eq_true, ↓reduceIte]]; exact rl_pre hq_4 lj_1.1 (okP.nI hn.1))
      · exact absurd (by decide) c_6
    · exact absurd (by decide) c_3
  · have ej_2 : tat 1 (σ 2) (nI j_1) 0 = (nI j_2) := ej_2
    refine co_eq mj_2 ?_
    refine lv_istore_n (lv' := [(3, .int (nI j_2)), (2, .int (nI j_1)), (0, .ref (b 0)), (1, .int (nI n))]) hx hb dX3_stabilizes_12 rfl hl (by decide) rfl (fun ls hl => ?_)
    refine lv_iload_n hx hb dX3_stabilizes_13 rfl (lv_at hl 0 rfl) ?_
    refine lv_iconst (v := (-1)) hx hb dX3_stabilizes_14 (by decide) ?_
    refine lv_icmp_eq (tgt := 40) hx hb dX3_stabilizes_15 (by decide) (fun c_7 => ?_) (fun c_7 => ?_)
    · exact absurd c_7 (nI_nem hj_2)
    · refine lv_aload_n hx hb dX3_stabilizes_18 rfl (lv_at hl 2 rfl) ?_
      refine va_get (D := G.1) (ci := 2) (v := .ref (b 1)) (C := RX3) (T := TX3) (N := 13) hx hb hts uX3 hown hK hP 0 rfl rfl 2 (by decide) (hts (.fieldLink RX3 7 "ChordOverlayModel" "lives" "[Z") (by decide +kernel)) (fun _ h9 => h9) rfl dX3_stabilizes_19 ?_
      refine lv_iload_n hx hb dX3_stabilizes_22 rfl (lv_at hl 0 rfl) ?_
      refine va_zald hx hb hK hP 1 1 rfl rfl (vi_1 hj_2) dX3_stabilizes_23 ?_
      refine co_eq (y := bI (alv (σ 0) (nI j_2))) (rl_l hR hj_2) ?_
      refine co_ifeq (tgt := 40) S dX3_stabilizes_24 (by decide) (fun c_8 => ?_) (fun c_8 => ?_)
      · refine lv_iload_n hx hb dX3_stabilizes_40 rfl (lv_at hl 1 rfl) ?_
        refine lv_istore_n (lv' := [(2, .int (nI j_1)), (3, .int (nI j_2)), (0, .ref (b 0)), (1, .int (nI n))]) hx hb dX3_stabilizes_41 rfl hl (by decide) rfl (fun ls hl => ?_)
        have hm9 : mdN σ (nI n) = nI j_1 := (by simp only [mdN, alv_m1, ej_1, ej_2, c_8, eq_self, Bool.false_eq_true, ↓reduceIte])
        refine lv_aload_n hx hb dX3_stabilizes_42 rfl (lv_at hl 2 rfl) ?_
        refine lv_iload_n hx hb dX3_stabilizes_43 rfl (lv_at hl 3 rfl) ?_
        refine lv_iload_n hx hb dX3_stabilizes_44 rfl (lv_at hl 0 rfl) ?_
        refine co_mVv (As := [.int (nI n), .int (nI j_1)]) (rest := []) S (c_X3_follows l G Z b σ μ hR n j_1 hn.1 lj_1) (cwV 2 hts gX3_stabilizes_X3_follows rfl rfl rfl (by decide +kernel) ⟨Nat.le_of_ble_eq_true rfl, Nat.le_of_ble_eq_true rfl⟩) hK hP hD hS hA (va_recv hK hP (ci := 2) (q0 := 0) rfl rfl) rfl hl.1 rfl (Nat.le_of_ble_eq_true rfl) dX3_stabilizes_45 ⟨Nat.zero_le _, Nat.zero_le _⟩ (fun u_9 H locs hu_9 hP hD hS => ?_)
        obtain ⟨hq_9, hk_9⟩ := hu_9
        obtain ⟨σ_9, eσ_9⟩ : ∃ z9, z9 = (foS σ (nI n) (nI j_1)) := ⟨_, rfl⟩
        have hq_9 : Rl Z σ_9 u_9 := (by rw [eσ_9]; exact hq_9)
        have hc0_9 : σ_9 0 = (σ 0) := (by rw [eσ_9]; exact foS_0)
        have hc2_9 : σ_9 2 = (σ 2) := (by rw [eσ_9]; exact rfl)
        have hc3_9 : σ_9 3 = (σ 3) := (by rw [eσ_9]; exact rfl)
        have hc4_9 : σ_9 4 = (σ 4) := (by rw [eσ_9]; exact rfl)
        have hc5_9 : σ_9 5 = (σ 5) := (by rw [eσ_9]; exact rfl)
        have hP : pG G (wM G b u_9) H := hP
        have hD : va_D A (wM G b u_9) := hD
        refine lv_aload_n hx hb dX3_stabilizes_48 rfl (lv_at hl 2 rfl) ?_
        refine va_get (D := G.1) (ci := 2) (v := .ref (b 3)) (C := RX3) (T := TX3) (N := 13) hx hb hts uX3 hown hK hP 0 rfl rfl 4 (by decide) (hts (.fieldLink RX3 17 "ChordOverlayModel" "predecessor" "[I") (by decide +kernel)) (fun _ h9 => h9) rfl dX3_stabilizes_49 ?_
        refine lv_iload_n hx hb dX3_stabilizes_52 rfl (lv_at hl 0 rfl) ?_
        refine va_iald hx hb hK hP 3 0 rfl rfl (vi_1 lj_1.1) dX3_stabilizes_53 ?_
        have mj_10 : u_9 4 (nI j_1).toNatClampNeg = (nI j_2) := (rl_p1 hq_9 (Lv.tr hc0_9 lj_1)).trans (by rw [hc2_9, ej_2])
        refine co_eq mj_10 ?_
        refine lv_istore (lv' := [(4, .int (nI j_2)), (2, .int (nI j_1)), (3, .int (nI j_2)), (0, .ref (b 0)), (1, .int (nI n))]) hx hb dX3_stabilizes_54 hl (by decide) rfl (fun ls hl => ?_)
        refine lv_aload_n hx hb dX3_stabilizes_56 rfl (lv_at hl 3 rfl) ?_
        refine va_get (D := G.1) (ci := 2) (v := .ref (b 3)) (C := RX3) (T := TX3) (N := 13) hx hb hts uX3 hown hK hP 0 rfl rfl 4 (by decide) (hts (.fieldLink RX3 17 "ChordOverlayModel" "predecessor" "[I") (by decide +kernel)) (fun _ h9 => h9) rfl dX3_stabilizes_57 ?_
        refine lv_iload_n hx hb dX3_stabilizes_60 rfl (lv_at hl 1 rfl) ?_
        refine lv_iload hx hb dX3_stabilizes_61 (lv_at hl 0 rfl) ?_
        refine lv_iconst (v := (-1)) hx hb dX3_stabilizes_63 (by decide) ?_
        refine lv_icmp_eq (tgt := 87) hx hb dX3_stabilizes_64 (by decide) (fun c_11 => ?_) (fun c_11 => ?_)
        · exact absurd c_11 (nI_nem hj_2)
        · refine lv_aload_n hx hb dX3_stabilizes_67 rfl (lv_at hl 3 rfl) ?_
          refine va_get (D := G.1) (ci := 2) (v := .ref (b 1)) (C := RX3) (T := TX3) (N := 13) hx hb hts uX3 hown hK hP 0 rfl rfl 2 (by decide) (hts (.fieldLink RX3 7 "ChordOverlayModel" "lives" "[Z") (by decide +kernel)) (fun _ h9 => h9) rfl dX3_stabilizes_68 ?_
          refine lv_iload hx hb dX3_stabilizes_71 (lv_at hl 0 rfl) ?_
          refine va_zald hx hb hK hP 1 1 rfl rfl (vi_1 hj_2) dX3_stabilizes_73 ?_
          refine co_eq (y := bI (alv (σ 0) (nI j_2))) ((rl_l hq_9 hj_2).trans (by rw [hc0_9])) ?_
          refine co_ifeq (tgt := 87) S dX3_stabilizes_74 (by decide) (fun c_12 => ?_) (fun c_12 => ?_)
          · refine lv_iload_n hx hb dX3_stabilizes_87 rfl (lv_at hl 4 rfl) ?_
            refine lv_goto (tgt := 93) hx hb dX3_stabilizes_88 (by decide) ?_
            refine va_iast hx hb hK hP hD hS 3 0 (f := (u_9 4)) rfl rfl (vi_1 lj_1.1) dX3_stabilizes_93 (fun H locs hP hD hS => ?_)
            have hP : pG G (wM G b (va_up u_9 4 (upd (u_9 4) (nI j_1).toNatClampNeg (nI n)))) H := hP
            have hD : va_D A (wM G b (va_up u_9 4 (upd (u_9 4) (nI j_1).toNatClampNeg (nI n)))) := hD
            exact co_endV (va_up u_9 4 (upd (u_9 4) (nI j_1).toNatClampNeg (nI n))) S hr hlocks dX3_stabilizes_94 hK hP hD hS (by refine ⟨?_, Kp.tr hk_9 ⟨rfl, rfl, rfl, rfl⟩⟩; rw [ms_nt hm9 eσ_9, show ntS σ_9 (nI n) (nI j_1) = va_up σ_9 2 (tset 1 (σ_9 2) (nI j_1) 0 (nI n)) from by simp only [ntS, alv_m1, hc0_9, hc2_9, ej_1, ej_2, c_8, c_12, eq_self, Bool.false_eq_true, ↓reduceIte]]; exact rl_pre hq_9 lj_1.1 (okP.nI hn.1))
          · exact absurd (c_12.symm.trans c_8) (by decide)
      · refine lv_iload_n hx hb dX3_stabilizes_27 rfl (lv_at hl 0 rfl) ?_
        refine lv_iload_n hx hb dX3_stabilizes_28 rfl (lv_at hl 3 rfl) ?_
        refine lv_iload_n hx hb dX3_stabilizes_29 rfl (lv_at hl 1 rfl) ?_
        refine co_rS (As := [.int (nI j_2), .int (nI n), .int (nI j_1)]) (rest := []) S (c_X3_isBetween l G j_2 n j_1 hj_2 hn.1 lj_1.1) (va_cwS 3 hts gX3_stabilizes_X3_isBetween rfl rfl rfl (by decide +kernel) ⟨Nat.le_of_ble_eq_true rfl, Nat.le_of_ble_eq_true rfl⟩) hK (pG_nil) rfl hl.1 rfl (Nat.le_of_ble_eq_true rfl) dX3_stabilizes_30 ⟨Nat.zero_le _, Nat.zero_le _⟩ ?_
        refine co_ifeq (tgt := 40) S dX3_stabilizes_33 (by decide) (fun c_13 => ?_) (fun c_13 => ?_)
        · refine lv_iload_n hx hb dX3_stabilizes_40 rfl (lv_at hl 1 rfl) ?_
          refine lv_istore_n (lv' := [(2, .int (nI j_1)), (3, .int (nI j_2)), (0, .ref (b 0)), (1, .int (nI n))]) hx hb dX3_stabilizes_41 rfl hl (by decide) rfl (fun ls hl => ?_)
          have hm9 : mdN σ (nI n) = nI j_1 := (by simp only [mdN, alv_m1, ej_1, ej_2, c_8, c_13, eq_self, Bool.false_eq_true, ↓reduceIte])
          refine lv_aload_n hx hb dX3_stabilizes_42 rfl (lv_at hl 2 rfl) ?_
          refine lv_iload_n hx hb dX3_stabilizes_43 rfl (lv_at hl 3 rfl) ?_
          refine lv_iload_n hx hb dX3_stabilizes_44 rfl (lv_at hl 0 rfl) ?_
          refine co_mVv (As := [.int (nI n), .int (nI j_1)]) (rest := []) S (c_X3_follows l G Z b σ μ hR n j_1 hn.1 lj_1) (cwV 2 hts gX3_stabilizes_X3_follows rfl rfl rfl (by decide +kernel) ⟨Nat.le_of_ble_eq_true rfl, Nat.le_of_ble_eq_true rfl⟩) hK hP hD hS hA (va_recv hK hP (ci := 2) (q0 := 0) rfl rfl) rfl hl.1 rfl (Nat.le_of_ble_eq_true rfl) dX3_stabilizes_45 ⟨Nat.zero_le _, Nat.zero_le _⟩ (fun u_14 H locs hu_14 hP hD hS => ?_)
          obtain ⟨hq_14, hk_14⟩ := hu_14
          obtain ⟨σ_14, eσ_14⟩ : ∃ z9, z9 = (foS σ (nI n) (nI j_1)) := ⟨_, rfl⟩
          have hq_14 : Rl Z σ_14 u_14 := (by rw [eσ_14]; exact hq_14)
          have hc0_14 : σ_14 0 = (σ 0) := (by rw [eσ_14]; exact foS_0)
          have hc2_14 : σ_14 2 = (σ 2) := (by rw [eσ_14]; exact rfl)
          have hc3_14 : σ_14 3 = (σ 3) := (by rw [eσ_14]; exact rfl)
          have hc4_14 : σ_14 4 = (σ 4) := (by rw [eσ_14]; exact rfl)
          have hc5_14 : σ_14 5 = (σ 5) := (by rw [eσ_14]; exact rfl)
          have hP : pG G (wM G b u_14) H := hP
          have hD : va_D A (wM G b u_14) := hD
          refine lv_aload_n hx hb dX3_stabilizes_48 rfl (lv_at hl 2 rfl) ?_
          refine va_get (D := G.1) (ci := 2) (v := .ref (b 3)) (C := RX3) (T := TX3) (N := 13) hx hb hts uX3 hown hK hP 0 rfl rfl 4 (by decide) (hts (.fieldLink RX3 17 "ChordOverlayModel" "predecessor" "[I") (by decide +kernel)) (fun _ h9 => h9) rfl dX3_stabilizes_49 ?_
          refine lv_iload_n hx hb dX3_stabilizes_52 rfl (lv_at hl 0 rfl) ?_
          refine va_iald hx hb hK hP 3 0 rfl rfl (vi_1 lj_1.1) dX3_stabilizes_53 ?_
          have mj_15 : u_14 4 (nI j_1).toNatClampNeg = (nI j_2) := (rl_p1 hq_14 (Lv.tr hc0_14 lj_1)).trans (by rw [hc2_14, ej_2])
          refine co_eq mj_15 ?_
          refine lv_istore (lv' := [(4, .int (nI j_2)), (2, .int (nI j_1)), (3, .int (nI j_2)), (0, .ref (b 0)), (1, .int (nI n))]) hx hb dX3_stabilizes_54 hl (by decide) rfl (fun ls hl => ?_)
          refine lv_aload_n hx hb dX3_stabilizes_56 rfl (lv_at hl 3 rfl) ?_
          refine va_get (D := G.1) (ci := 2) (v := .ref (b 3)) (C := RX3) (T := TX3) (N := 13) hx hb hts uX3 hown hK hP 0 rfl rfl 4 (by decide) (hts (.fieldLink RX3 17 "ChordOverlayModel" "predecessor" "[I") (by decide +kernel)) (fun _ h9 => h9) rfl dX3_stabilizes_57 ?_
          refine lv_iload_n hx hb dX3_stabilizes_60 rfl (lv_at hl 1 rfl) ?_
          refine lv_iload hx hb dX3_stabilizes_61 (lv_at hl 0 rfl) ?_
          refine lv_iconst (v := (-1)) hx hb dX3_stabilizes_63 (by decide) ?_
          refine lv_icmp_eq (tgt := 87) hx hb dX3_stabilizes_64 (by decide) (fun c_16 => ?_) (fun c_16 => ?_)
          · exact absurd c_16 (nI_nem hj_2)
          · refine lv_aload_n hx hb dX3_stabilizes_67 rfl (lv_at hl 3 rfl) ?_
            refine va_get (D := G.1) (ci := 2) (v := .ref (b 1)) (C := RX3) (T := TX3) (N := 13) hx hb hts uX3 hown hK hP 0 rfl rfl 2 (by decide) (hts (.fieldLink RX3 7 "ChordOverlayModel" "lives" "[Z") (by decide +kernel)) (fun _ h9 => h9) rfl dX3_stabilizes_68 ?_
            refine lv_iload hx hb dX3_stabilizes_71 (lv_at hl 0 rfl) ?_
            refine va_zald hx hb hK hP 1 1 rfl rfl (vi_1 hj_2) dX3_stabilizes_73 ?_
            refine co_eq (y := bI (alv (σ 0) (nI j_2))) ((rl_l hq_14 hj_2).trans (by rw [hc0_14])) ?_
            refine co_ifeq (tgt := 87) S dX3_stabilizes_74 (by decide) (fun c_17 => ?_) (fun c_17 => ?_)
            · exact absurd (c_17.symm.trans c_8) (by decide)
            · refine lv_iload_n hx hb dX3_stabilizes_77 rfl (lv_at hl 4 rfl) ?_
              refine lv_iload hx hb dX3_stabilizes_78 (lv_at hl 0 rfl) ?_
              refine lv_iload_n hx hb dX3_stabilizes_80 rfl (lv_at hl 1 rfl) ?_
              refine co_rS (As := [.int (nI n), .int (nI j_2), .int (nI j_1)]) (rest := [.int (nI j_1), .ref (b 3)]) S (c_X3_isBetween l G n j_2 j_1 hn.1 hj_2 lj_1.1) (va_cwS 3 hts gX3_stabilizes_X3_isBetween rfl rfl rfl (by decide +kernel) ⟨Nat.le_of_ble_eq_true rfl, Nat.le_of_ble_eq_true rfl⟩) hK (pG_nil) rfl hl.1 rfl (Nat.le_of_ble_eq_true rfl) dX3_stabilizes_81 ⟨Nat.zero_le _, Nat.zero_le _⟩ ?_
              refine co_ifeq (tgt := 91) S dX3_stabilizes_84 (by decide) (fun c_18 => ?_) (fun c_18 => ?_)
              · refine lv_iload hx hb dX3_stabilizes_91 (lv_at hl 0 rfl) ?_
                refine va_iast hx hb hK hP hD hS 3 0 (f := (u_14 4)) rfl rfl (vi_1 lj_1.1) dX3_stabilizes_93 (fun H locs hP hD hS => ?_)
                have hP : pG G (wM G b (va_up u_14 4 (upd (u_14 4) (nI j_1).toNatClampNeg (nI j_2)))) H := hP
                have hD : va_D A (wM G b (va_up u_14 4 (upd (u_14 4) (nI j_1).toNatClampNeg (nI j_2)))) := hD
                exact co_endV (va_up u_14 4 (upd (u_14 4) (nI j_1).toNatClampNeg (nI j_2))) S hr hlocks dX3_stabilizes_94 hK hP hD hS (by refine ⟨?_, Kp.tr hk_14 ⟨rfl, rfl, rfl, rfl⟩⟩; rw [ms_nt hm9 eσ_14, show ntS σ_14 (nI n) (nI j_1) = σ_14 from by simp only [ntS, alv_m1, hc0_14, hc2_14, ej_1, ej_2, c_8, c_13, c_17, c_18, eq_self, Bool.false_eq_true, ↓reduceIte], va_upr mj_15]; exact hq_14)
              · refine lv_iload_n hx hb dX3_stabilizes_87 rfl (lv_at hl 4 rfl) ?_
                refine lv_goto (tgt := 93) hx hb dX3_stabilizes_88 (by decide) ?_
                refine va_iast hx hb hK hP hD hS 3 0 (f := (u_14 4)) rfl rfl (vi_1 lj_1.1) dX3_stabilizes_93 (fun H locs hP hD hS => ?_)
                have hP : pG G (wM G b (va_up u_14 4 (upd (u_14 4) (nI j_1).toNatClampNeg (nI n)))) H := hP
                have hD : va_D A (wM G b (va_up u_14 4 (upd (u_14 4) (nI j_1).toNatClampNeg (nI n)))) := hD
                exact co_endV (va_up u_14 4 (upd (u_14 4) (nI j_1).toNatClampNeg (nI n))) S hr hlocks dX3_stabilizes_94 hK hP hD hS (by refine ⟨?_, Kp.tr hk_14 ⟨rfl, rfl, rfl, rfl⟩⟩; rw [ms_nt hm9 eσ_14, show ntS σ_14 (nI n) (nI j_1) = va_up σ_14 2 (tset 1 (σ_14 2) (nI j_1) 0 (nI n)) from by simp only [ntS, alv_m1, hc0_14, hc2_14, ej_1, ej_2, c_8, c_13, c_17, c_18, eq_self, Bool.false_eq_true, ↓reduceIte]]; exact rl_pre hq_14 lj_1.1 (okP.nI hn.1))
        · refine lv_iload_n hx hb dX3_stabilizes_36 rfl (lv_at hl 0 rfl) ?_
          refine lv_goto (tgt := 41) hx hb dX3_stabilizes_37 (by decide) ?_
          refine lv_istore_n (lv' := [(2, .int (nI j_2)), (3, .int (nI j_2)), (0, .ref (b 0)), (1, .int (nI n))]) hx hb dX3_stabilizes_41 rfl hl (by decide) rfl (fun ls hl => ?_)
          have hm9 : mdN σ (nI n) = nI j_2 := (by simp only [mdN, alv_m1, ej_1, ej_2, c_8, c_13, eq_self, Bool.false_eq_true, ↓reduceIte])
          refine lv_aload_n hx hb dX3_stabilizes_42 rfl (lv_at hl 2 rfl) ?_
          refine lv_iload_n hx hb dX3_stabilizes_43 rfl (lv_at hl 3 rfl) ?_
          refine lv_iload_n hx hb dX3_stabilizes_44 rfl (lv_at hl 0 rfl) ?_
          refine co_mVv (As := [.int (nI n), .int (nI j_2)]) (rest := []) S (c_X3_follows l G Z b σ μ hR n j_2 hn.1 ⟨hj_2, c_8⟩) (cwV 2 hts gX3_stabilizes_X3_follows rfl rfl rfl (by decide +kernel) ⟨Nat.le_of_ble_eq_true rfl, Nat.le_of_ble_eq_true rfl⟩) hK hP hD hS hA (va_recv hK hP (ci := 2) (q0 := 0) rfl rfl) rfl hl.1 rfl (Nat.le_of_ble_eq_true rfl) dX3_stabilizes_45 ⟨Nat.zero_le _, Nat.zero_le _⟩ (fun u_19 H locs hu_19 hP hD hS => ?_)
          obtain ⟨hq_19, hk_19⟩ := hu_19
          obtain ⟨σ_19, eσ_19⟩ : ∃ z9, z9 = (foS σ (nI n) (nI j_2)) := ⟨_, rfl⟩
          have hq_19 : Rl Z σ_19 u_19 := (by rw [eσ_19]; exact hq_19)
          have hc0_19 : σ_19 0 = (σ 0) := (by rw [eσ_19]; exact foS_0)
          have hc2_19 : σ_19 2 = (σ 2) := (by rw [eσ_19]; exact rfl)
          have hc3_19 : σ_19 3 = (σ 3) := (by rw [eσ_19]; exact rfl)
          have hc4_19 : σ_19 4 = (σ 4) := (by rw [eσ_19]; exact rfl)
          have hc5_19 : σ_19 5 = (σ 5) := (by rw [eσ_19]; exact rfl)
          have hP : pG G (wM G b u_19) H := hP
          have hD : va_D A (wM G b u_19) := hD
          refine lv_aload_n hx hb dX3_stabilizes_48 rfl (lv_at hl 2 rfl) ?_
          refine va_get (D := G.1) (ci := 2) (v := .ref (b 3)) (C := RX3) (T := TX3) (N := 13) hx hb hts uX3 hown hK hP 0 rfl rfl 4 (by decide) (hts (.fieldLink RX3 17 "ChordOverlayModel" "predecessor" "[I") (by decide +kernel)) (fun _ h9 => h9) rfl dX3_stabilizes_49 ?_
          refine lv_iload_n hx hb dX3_stabilizes_52 rfl (lv_at hl 0 rfl) ?_
          refine va_iald hx hb hK hP 3 0 rfl rfl (vi_1 hj_2) dX3_stabilizes_53 ?_
          rcases rl_p hq_19 (Lv.tr hc0_19 ⟨hj_2, c_8⟩) with ⟨ej_20, mj_20⟩ | ⟨j_20, hj_20, ej_20, mj_20⟩
          · rw [hc2_19] at ej_20
            have ej_20 : tat 1 (σ 2) (nI j_2) 0 = (-1) := ej_20
            refine co_eq mj_20 ?_
            refine lv_istore (lv' := [(4, .int (-1)), (2, .int (nI j_2)), (3, .int (nI j_2)), (0, .ref (b 0)), (1, .int (nI n))]) hx hb dX3_stabilizes_54 hl (by decide) rfl (fun ls hl => ?_)
            refine lv_aload_n hx hb dX3_stabilizes_56 rfl (lv_at hl 3 rfl) ?_
            refine va_get (D := G.1) (ci := 2) (v := .ref (b 3)) (C := RX3) (T := TX3) (N := 13) hx hb hts uX3 hown hK hP 0 rfl rfl 4 (by decide) (hts (.fieldLink RX3 17 "ChordOverlayModel" "predecessor" "[I") (by decide +kernel)) (fun _ h9 => h9) rfl dX3_stabilizes_57 ?_
            refine lv_iload_n hx hb dX3_stabilizes_60 rfl (lv_at hl 1 rfl) ?_
            refine lv_iload hx hb dX3_stabilizes_61 (lv_at hl 0 rfl) ?_
            refine lv_iconst (v := (-1)) hx hb dX3_stabilizes_63 (by decide) ?_
            refine lv_icmp_eq (tgt := 87) hx hb dX3_stabilizes_64 (by decide) (fun c_21 => ?_) (fun c_21 => ?_)
            · refine lv_iload_n hx hb dX3_stabilizes_87 rfl (lv_at hl 4 rfl) ?_
              refine lv_goto (tgt := 93) hx hb dX3_stabilizes_88 (by decide) ?_
              refine va_iast hx hb hK hP hD hS 3 0 (f := (u_19 4)) rfl rfl (vi_1 hj_2) dX3_stabilizes_93 (fun H locs hP hD hS => ?_)
              have hP : pG G (wM G b (va_up u_19 4 (upd (u_19 4) (nI j_2).toNatClampNeg (nI n)))) H := hP
              have hD : va_D A (wM G b (va_up u_19 4 (upd (u_19 4) (nI j_2).toNatClampNeg (nI n)))) := hD
              exact co_endV (va_up u_19 4 (upd (u_19 4) (nI j_2).toNatClampNeg (nI n))) S hr hlocks dX3_stabilizes_94 hK hP hD hS (by refine ⟨?_, Kp.tr hk_19 ⟨rfl, rfl, rfl, rfl⟩⟩; rw [ms_nt hm9 eσ_19, show ntS σ_19 (nI n) (nI j_2) = va_up σ_19 2 (tset 1 (σ_19 2) (nI j_2) 0 (nI n)) from by simp only [ntS, alv_m1, hc0_19, hc2_19, ej_1, ej_2, ej_20, c_8, c_13, (eq_true c_21), eq_self, Bool.false_eq_true, ↓reduceIte]]; exact rl_pre hq_19 hj_2 (okP.nI hn.1))
            · exact absurd (by decide) c_21
          · rw [hc2_19] at ej_20
            have ej_20 : tat 1 (σ 2) (nI j_2) 0 = (nI j_20) := ej_20
            refine co_eq mj_20 ?_
            refine lv_istore (lv' := [(4, .int (nI j_20)), (2, .int (nI j_2)), (3, .int (nI j_2)), (0, .ref (b 0)), (1, .int (nI n))]) hx hb dX3_stabilizes_54 hl (by decide) rfl (fun ls hl => ?_)
            refine lv_aload_n hx hb dX3_stabilizes_56 rfl (lv_at hl 3 rfl) ?_
            refine va_get (D := G.1) (ci := 2) (v := .ref (b 3)) (C := RX3) (T := TX3) (N := 13) hx hb hts uX3 hown hK hP 0 rfl rfl 4 (by decide) (hts (.fieldLink RX3 17 "ChordOverlayModel" "predecessor" "[I") (by decide +kernel)) (fun _ h9 => h9) rfl dX3_stabilizes_57 ?_
            refine lv_iload_n hx hb dX3_stabilizes_60 rfl (lv_at hl 1 rfl) ?_
            refine lv_iload hx hb dX3_stabilizes_61 (lv_at hl 0 rfl) ?_
            refine lv_iconst (v := (-1)) hx hb dX3_stabilizes_63 (by decide) ?_
            refine lv_icmp_eq (tgt := 87) hx hb dX3_stabilizes_64 (by decide) (fun c_22 => ?_) (fun c_22 => ?_)
            · exact absurd c_22 (nI_nem hj_20)
            · refine lv_aload_n hx hb dX3_stabilizes_67 rfl (lv_at hl 3 rfl) ?_
              refine va_get (D := G.1) (ci := 2) (v := .ref (b 1)) (C := RX3) (T := TX3) (N := 13) hx hb hts uX3 hown hK hP 0 rfl rfl 2 (by decide) (hts (.fieldLink RX3 7 "ChordOverlayModel" "lives" "[Z") (by decide +kernel)) (fun _ h9 => h9) rfl dX3_stabilizes_68 ?_
              refine lv_iload hx hb dX3_stabilizes_71 (lv_at hl 0 rfl) ?_
              refine va_zald hx hb hK hP 1 1 rfl rfl (vi_1 hj_20) dX3_stabilizes_73 ?_
              refine co_eq (y := bI (alv (σ 0) (nI j_20))) ((rl_l hq_19 hj_20).trans (by rw [hc0_19])) ?_
              refine co_ifeq (tgt := 87) S dX3_stabilizes_74 (by decide) (fun c_23 => ?_) (fun c_23 => ?_)
              · refine lv_iload_n hx hb dX3_stabilizes_87 rfl (lv_at hl 4 rfl) ?_
                refine lv_goto (tgt := 93) hx hb dX3_stabilizes_88 (by decide) ?_
                refine va_iast hx hb hK hP hD hS 3 0 (f := (u_19 4)) rfl rfl (vi_1 hj_2) dX3_stabilizes_93 (fun H locs hP hD hS => ?_)
                have hP : pG G (wM G b (va_up u_19 4 (upd (u_19 4) (nI j_2).toNatClampNeg (nI n)))) H := hP
                have hD : va_D A (wM G b (va_up u_19 4 (upd (u_19 4) (nI j_2).toNatClampNeg (nI n)))) := hD
                exact co_endV (va_up u_19 4 (upd (u_19 4) (nI j_2).toNatClampNeg (nI n))) S hr hlocks dX3_stabilizes_94 hK hP hD hS (by refine ⟨?_, Kp.tr hk_19 ⟨rfl, rfl, rfl, rfl⟩⟩; rw [ms_nt hm9 eσ_19, show ntS σ_19 (nI n) (nI j_2) = va_up σ_19 2 (tset 1 (σ_19 2) (nI j_2) 0 (nI n)) from by simp only [ntS, alv_m1, hc0_19, hc2_19, ej_1, ej_2, ej_20, c_8, c_13, c_23, eq_self, Bool.false_eq_true, ↓reduceIte]]; exact rl_pre hq_19 hj_2 (okP.nI hn.1))
              · refine lv_iload_n hx hb dX3_stabilizes_77 rfl (lv_at hl 4 rfl) ?_
                refine lv_iload hx hb dX3_stabilizes_78 (lv_at hl 0 rfl) ?_
                refine lv_iload_n hx hb dX3_stabilizes_80 rfl (lv_at hl 1 rfl) ?_
                refine co_rS (As := [.int (nI n), .int (nI j_20), .int (nI j_2)]) (rest := [.int (nI j_2), .ref (b 3)]) S (c_X3_isBetween l G n j_20 j_2 hn.1 hj_20 hj_2) (va_cwS 3 hts gX3_stabilizes_X3_isBetween rfl rfl rfl (by decide +kernel) ⟨Nat.le_of_ble_eq_true rfl, Nat.le_of_ble_eq_true rfl⟩) hK (pG_nil) rfl hl.1 rfl (Nat.le_of_ble_eq_true rfl) dX3_stabilizes_81 ⟨Nat.zero_le _, Nat.zero_le _⟩ ?_
                refine co_ifeq (tgt := 91) S dX3_stabilizes_84 (by decide) (fun c_24 => ?_) (fun c_24 => ?_)
                · refine lv_iload hx hb dX3_stabilizes_91 (lv_at hl 0 rfl) ?_
                  refine va_iast hx hb hK hP hD hS 3 0 (f := (u_19 4)) rfl rfl (vi_1 hj_2) dX3_stabilizes_93 (fun H locs hP hD hS => ?_)
                  have hP : pG G (wM G b (va_up u_19 4 (upd (u_19 4) (nI j_2).toNatClampNeg (nI j_20)))) H := hP
                  have hD : va_D A (wM G b (va_up u_19 4 (upd (u_19 4) (nI j_2).toNatClampNeg (nI j_20)))) := hD
                  exact co_endV (va_up u_19 4 (upd (u_19 4) (nI j_2).toNatClampNeg (nI j_20))) S hr hlocks dX3_stabilizes_94 hK hP hD hS (by refine ⟨?_, Kp.tr hk_19 ⟨rfl, rfl, rfl, rfl⟩⟩; rw [ms_nt hm9 eσ_19, show ntS σ_19 (nI n) (nI j_2) = σ_19 from by simp only [ntS, alv_m1, hc0_19, hc2_19, ej_1, ej_2, ej_20, c_8, c_13, c_23, c_24, eq_self, Bool.false_eq_true, ↓reduceIte], va_upr mj_20]; exact hq_19)
                · refine lv_iload_n hx hb dX3_stabilizes_87 rfl (lv_at hl 4 rfl) ?_
                  refine lv_goto (tgt := 93) hx hb dX3_stabilizes_88 (by decide) ?_
                  refine va_iast hx hb hK hP hD hS 3 0 (f := (u_19 4)) rfl rfl (vi_1 hj_2) dX3_stabilizes_93 (fun H locs hP hD hS => ?_)
                  have hP : pG G (wM G b (va_up u_19 4 (upd (u_19 4) (nI j_2).toNatClampNeg (nI n)))) H := hP
                  have hD : va_D A (wM G b (va_up u_19 4 (upd (u_19 4) (nI j_2).toNatClampNeg (nI n)))) := hD
                  exact co_endV (va_up u_19 4 (upd (u_19 4) (nI j_2).toNatClampNeg (nI n))) S hr hlocks dX3_stabilizes_94 hK hP hD hS (by refine ⟨?_, Kp.tr hk_19 ⟨rfl, rfl, rfl, rfl⟩⟩; rw [ms_nt hm9 eσ_19, show ntS σ_19 (nI n) (nI j_2) = va_up σ_19 2 (tset 1 (σ_19 2) (nI j_2) 0 (nI n)) from by simp only [ntS, alv_m1, hc0_19, hc2_19, ej_1, ej_2, ej_20, c_8, c_13, c_23, c_24, eq_self, Bool.false_eq_true, ↓reduceIte]]; exact rl_pre hq_19 hj_2 (okP.nI hn.1))

set_option maxRecDepth 20000 in
theorem uX3_X3_fixes : ∀ w ∈ u_ws RX3 TX3 13, w ∈ wsX3_fixes := by decide +kernel
abbrev rm_X3_fixes : Room := { frames := 5, cells := 0, slots := 0, locals := 117 }
set_option maxHeartbeats 4000000 in
set_option maxRecDepth 100000 in
theorem c_X3_fixes (l : Launch) (G : cG) (Z : Nat) (b : Nat → Nat) (σ μ : cS) (hR : Rl Z σ μ)(n : Nat) (hn : Lv σ n) : MetI l yX3_fixes wsX3_fixes rm_X3_fixes G (wM G b μ) [.ref (b 0), .int (nI n)] (fun u : cS => wM G b u) (fun r u => r = (rfC σ (nI n) 6) ∧ Rl Z (rfS σ (nI n) 6) u ∧ Kp μ u) := by
  refine co_bodyI (cc := cX3_fixes) (maxL := 5) (ret := (some .int)) (by decide) rfl (Nat.le_of_ble_eq_true rfl) ?_
  intro p e s m args below meth c S hr hlocks hK A hA hP hD hS ls hl
  have S : CallFix p m c cX3_fixes 5 s args wsX3_fixes RX3 := S
  obtain ⟨hx, hb, hml, hown, hts⟩ := id S
  have hl : lv_has ls 5 [(0, .ref (b 0)), (1, .int (nI n))] := hl
  have uX3 := uX3_X3_fixes
  refine lv_iconst (v := 0) hx hb dX3_fixes_0 (by decide) ?_
  refine lv_istore_n (lv' := [(2, .int 0), (0, .ref (b 0)), (1, .int (nI n))]) hx hb dX3_fixes_1 rfl hl (by decide) rfl (fun ls hl => ?_)
  refine lv_iconst (v := 0) hx hb dX3_fixes_2 (by decide) ?_
  refine lv_istore_n (lv' := [(3, .int 0), (2, .int 0), (0, .ref (b 0)), (1, .int (nI n))]) hx hb dX3_fixes_3 rfl hl (by decide) rfl (fun ls hl => ?_)
  have LP : ∀ (d : Nat) (k : Nat) (x : Int32) (σ' μ' : cS), k + d = 6 → Rl Z σ' μ' → Kp μ μ' → x = rfC σ (nI n) k → σ' = rfS σ (nI n) k → ∀ (H : Heap) (locs : List Loc), pG G (wM G b μ') H → va_D A (wM G b μ') → va_S A s.heap H locs → ∀ ls : Array Slot, lv_has ls 5 [(0, .ref (b 0)), (1, .int (nI n)), (2, .int x), (3, .int (nI k))] → W p l e rm_X3_fixes s m args below meth c H locs 0 0 (QI below G A (fun u : cS => wM G b u) (fun r u => r = (rfC σ (nI n) 6) ∧ Rl Z (rfS σ (nI n) 6) u ∧ Kp μ u) args s) (F0 m 4 ls []) := by
    intro d
    induction d with
    | zero =>
      intro k x σ' μ' hk hR9 hK9 hx9 h9 H locs hP hD hS ls hl
      refine lv_iload_n hx hb dX3_fixes_4 rfl (lv_at hl 3 rfl) ?_
      refine lv_bipush (v := 6) hx hb dX3_fixes_5 (by decide) ?_
      refine lv_icmp_ge (tgt := 68) hx hb dX3_fixes_7 (by decide) (fun c_1 => ?_) (fun c_1 => ?_)
      · refine lv_iload_n hx hb dX3_fixes_68 rfl (lv_at hl 2 rfl) ?_
        exact co_endI μ' S hr hlocks dX3_fixes_69 hK hP hD hS (by have hk6 : k = 6 := (by omega); subst hk6; exact ⟨hx9, by rw [← h9]; exact hR9, hK9⟩)
      · exact absurd (nI_le (a := 6) (b := k) (by omega) (by omega)) c_1
    | succ d ih =>
      intro k x σ' μ' hk hR9 hK9 hx9 h9 H locs hP hD hS ls hl
      have hn9 : Lv σ' n := Lv.tr (by rw [h9]; exact rfS_0 k) hn
      refine lv_iload_n hx hb dX3_fixes_4 rfl (lv_at hl 3 rfl) ?_
      refine lv_bipush (v := 6) hx hb dX3_fixes_5 (by decide) ?_
      refine lv_icmp_ge (tgt := 68) hx hb dX3_fixes_7 (by decide) (fun c_2 => ?_) (fun c_2 => ?_)
      · exact absurd c_2 (nI_ge (a := k) (b := 6) (by omega) (by omega))
      · refine lv_aload_n hx hb dX3_fixes_10 rfl (lv_at hl 0 rfl) ?_
        refine lv_iload_n hx hb dX3_fixes_11 rfl (lv_at hl 1 rfl) ?_
        refine lv_iload_n hx hb dX3_fixes_12 rfl (lv_at hl 1 rfl) ?_
        refine lv_iconst (v := 1) hx hb dX3_fixes_13 (by decide) ?_
        refine lv_iload_n hx hb dX3_fixes_14 rfl (lv_at hl 3 rfl) ?_
        refine lv_ishl hx hb dX3_fixes_15 ?_
        refine lv_iadd hx hb dX3_fixes_16 ?_
        refine lv_bipush (v := 64) hx hb dX3_fixes_17 (by decide) ?_
        refine lv_irem hx hb dX3_fixes_19 (by decide) ?_
        refine co_eq (fg_rem hn.1 (show k < 6 by omega)) ?_
        obtain ⟨j_3, ej_3, lj_3⟩ := Lv.fn hR9 hn9 (Nat.mod_lt _ (by decide))
        refine co_mVi (As := [.int (nI n), .int (nI ((n + 2 ^ k) % 64))]) (rest := []) S (c_X3_find l G Z b σ' μ' hR9 n ((n + 2 ^ k) % 64) hn9 (Nat.mod_lt _ (by decide))) (cwV 2 hts gX3_fixes_X3_find rfl rfl rfl (by decide +kernel) ⟨Nat.le_of_ble_eq_true rfl, Nat.le_of_ble_eq_true rfl⟩) hK hP hD hS hA (va_recv hK hP (ci := 2) (q0 := 0) rfl rfl) rfl hl.1 rfl (Nat.le_of_ble_eq_true rfl) dX3_fixes_20 ⟨Nat.zero_le _, Nat.zero_le _⟩ (fun r_4 u_4 H locs hu_4 hP hD hS => ?_)
        obtain ⟨hr_4, hq_4, hk_4, hp_4, hw_4⟩ := hu_4
        have hr_4 : r_4 = nI j_3 := hr_4.trans ej_3
        subst hr_4
        have hk_4 := Kp.tr hK9 hk_4
        have hP : pG G (wM G b u_4) H := hP
        have hD : va_D A (wM G b u_4) := hD
        refine lv_istore (lv' := [(4, .int (nI j_3)), (0, .ref (b 0)), (1, .int (nI n)), (2, .int x), (3, .int (nI k))]) hx hb dX3_fixes_23 hl (by decide) rfl (fun ls hl => ?_)
        refine lv_iload_n hx hb dX3_fixes_25 rfl (lv_at hl 3 rfl) ?_
        refine lv_aload_n hx hb dX3_fixes_26 rfl (lv_at hl 1 rfl) ?_
        refine va_get (D := G.1) (ci := 2) (v := .ref (b 4)) (C := RX3) (T := TX3) (N := 13) hx hb hts uX3 hown hK hP 0 rfl rfl 5 (by decide) (hts (.fieldLink RX3 20 "ChordOverlayModel" "finger" "[I") (by decide +kernel)) (fun _ h9 => h9) rfl dX3_fixes_27 ?_
        refine lv_bipush (v := 6) hx hb dX3_fixes_30 (by decide) ?_
        refine lv_iload_n hx hb dX3_fixes_32 rfl (lv_at hl 2 rfl) ?_
        refine lv_imul hx hb dX3_fixes_33 ?_
        refine lv_iload_n hx hb dX3_fixes_34 rfl (lv_at hl 4 rfl) ?_
        refine lv_iadd hx hb dX3_fixes_35 ?_
        refine va_iald hx hb hK hP 4 0 rfl rfl (vi_w (w := 6) (p := k) (by decide) hn.1 (show k < 6 by omega)) dX3_fixes_36 ?_
        rcases rl_f hq_4 hn9 k (show k < 6 by omega) with ⟨ej_5, mj_5⟩ | ⟨j_5, hj_5, ej_5, mj_5⟩
        · have ej_5 : tat 6 (σ' 3) (nI n) (nI k) = (-1) := ej_5
          refine co_eq mj_5 ?_
          refine lv_iload hx hb dX3_fixes_37 (lv_at hl 0 rfl) ?_
          refine lv_icmp_eq (tgt := 46) hx hb dX3_fixes_39 (by decide) (fun c_6 => ?_) (fun c_6 => ?_)
          · refine lv_iconst (v := 0) hx hb dX3_fixes_46 (by decide) ?_
            refine lv_iadd hx hb dX3_fixes_47 ?_
            refine lv_istore_n (lv' := [(2, .int (x + 0)), (4, .int (nI j_3)), (0, .ref (b 0)), (1, .int (nI n)), (3, .int (nI k))]) hx hb dX3_fixes_48 rfl hl (by decide) rfl (fun ls hl => ?_)
            refine lv_aload_n hx hb dX3_fixes_49 rfl (lv_at hl 2 rfl) ?_
            refine va_get (D := G.1) (ci := 2) (v := .ref (b 4)) (C := RX3) (T := TX3) (N := 13) hx hb hts uX3 hown hK hP 0 rfl rfl 5 (by decide) (hts (.fieldLink RX3 20 "ChordOverlayModel" "finger" "[I") (by decide +kernel)) (fun _ h9 => h9) rfl dX3_fixes_50 ?_
            refine lv_bipush (v := 6) hx hb dX3_fixes_53 (by decide) ?_
            refine lv_iload_n hx hb dX3_fixes_55 rfl (lv_at hl 3 rfl) ?_
            refine lv_imul hx hb dX3_fixes_56 ?_
            refine lv_iload_n hx hb dX3_fixes_57 rfl (lv_at hl 4 rfl) ?_
            refine lv_iadd hx hb dX3_fixes_58 ?_
            refine lv_iload hx hb dX3_fixes_59 (lv_at hl 1 rfl) ?_
            refine va_iast hx hb hK hP hD hS 4 0 (f := (u_4 5)) rfl rfl (vi_w (w := 6) (p := k) (by decide) hn.1 (show k < 6 by omega)) dX3_fixes_61 (fun H locs hP hD hS => ?_)
            have hP : pG G (wM G b (va_up u_4 5 (upd (u_4 5) ((6 * (nI n)) + (nI k)).toNatClampNeg (nI j_3)))) H := hP
            have hD : va_D A (wM G b (va_up u_4 5 (upd (u_4 5) ((6 * (nI n)) + (nI k)).toNatClampNeg (nI j_3)))) := hD
            refine lv_iinc (v := (nI (k + 1))) (lv' := [(3, .int (nI (k + 1))), (2, .int (x + 0)), (4, .int (nI j_3)), (0, .ref (b 0)), (1, .int (nI n))]) hx hb dX3_fixes_62 hl (k := 4) rfl (nI_1 k) (by decide) rfl (fun ls hl => ?_)
            refine lv_goto (tgt := 4) hx hb dX3_fixes_65 (by decide) ?_
            exact ih (k + 1) _ _ (va_up u_4 5 (upd (u_4 5) ((6 * (nI n)) + (nI k)).toNatClampNeg (nI j_3))) (by omega) (rl_fin hq_4 hn.1 (show k < 6 by omega) (okP.nI lj_3.1)) (Kp.tr hk_4 Kp.s5) (by rw [rfC, ← h9, fgs_nI hn.1 (show k < 6 by omega), ej_3, ← hx9]; simp only [ej_3, ej_5, c_2, (eq_true c_6), (eq_true (Eq.symm c_6)), eq_self, ↓reduceIte, Int32.add_zero]) (rf_ok (σ2 := σ) (x := 0) h9 hn.1 (show k < 6 by omega) ej_3) _ _ hP hD hS ls (lv_sub hl [3, 4, 1, 0] rfl)
          · refine lv_iconst (v := 1) hx hb dX3_fixes_42 (by decide) ?_
            refine lv_goto (tgt := 47) hx hb dX3_fixes_43 (by decide) ?_
            refine lv_iadd hx hb dX3_fixes_47 ?_
            refine lv_istore_n (lv' := [(2, .int (x + 1)), (4, .int (nI j_3)), (0, .ref (b 0)), (1, .int (nI n)), (3, .int (nI k))]) hx hb dX3_fixes_48 rfl hl (by decide) rfl (fun ls hl => ?_)
            refine lv_aload_n hx hb dX3_fixes_49 rfl (lv_at hl 2 rfl) ?_
            refine va_get (D := G.1) (ci := 2) (v := .ref (b 4)) (C := RX3) (T := TX3) (N := 13) hx hb hts uX3 hown hK hP 0 rfl rfl 5 (by decide) (hts (.fieldLink RX3 20 "ChordOverlayModel" "finger" "[I") (by decide +kernel)) (fun _ h9 => h9) rfl dX3_fixes_50 ?_
            refine lv_bipush (v := 6) hx hb dX3_fixes_53 (by decide) ?_
            refine lv_iload_n hx hb dX3_fixes_55 rfl (lv_at hl 3 rfl) ?_
            refine lv_imul hx hb dX3_fixes_56 ?_
            refine lv_iload_n hx hb dX3_fixes_57 rfl (lv_at hl 4 rfl) ?_
            refine lv_iadd hx hb dX3_fixes_58 ?_
            refine lv_iload hx hb dX3_fixes_59 (lv_at hl 1 rfl) ?_
            refine va_iast hx hb hK hP hD hS 4 0 (f := (u_4 5)) rfl rfl (vi_w (w := 6) (p := k) (by decide) hn.1 (show k < 6 by omega)) dX3_fixes_61 (fun H locs hP hD hS => ?_)
            have hP : pG G (wM G b (va_up u_4 5 (upd (u_4 5) ((6 * (nI n)) + (nI k)).toNatClampNeg (nI j_3)))) H := hP
            have hD : va_D A (wM G b (va_up u_4 5 (upd (u_4 5) ((6 * (nI n)) + (nI k)).toNatClampNeg (nI j_3)))) := hD
            refine lv_iinc (v := (nI (k + 1))) (lv' := [(3, .int (nI (k + 1))), (2, .int (x + 1)), (4, .int (nI j_3)), (0, .ref (b 0)), (1, .int (nI n))]) hx hb dX3_fixes_62 hl (k := 4) rfl (nI_1 k) (by decide) rfl (fun ls hl => ?_)
            refine lv_goto (tgt := 4) hx hb dX3_fixes_65 (by decide) ?_
            exact ih (k + 1) _ _ (va_up u_4 5 (upd (u_4 5) ((6 * (nI n)) + (nI k)).toNatClampNeg (nI j_3))) (by omega) (rl_fin hq_4 hn.1 (show k < 6 by omega) (okP.nI lj_3.1)) (Kp.tr hk_4 Kp.s5) (by rw [rfC, ← h9, fgs_nI hn.1 (show k < 6 by omega), ej_3, ← hx9]; simp only [ej_3, ej_5, c_2, c_6, (Ne.symm c_6), eq_self, ↓reduceIte, Int32.add_zero]) (rf_ok (σ2 := σ) (x := 0) h9 hn.1 (show k < 6 by omega) ej_3) _ _ hP hD hS ls (lv_sub hl [3, 4, 1, 0] rfl)
        · have ej_5 : tat 6 (σ' 3) (nI n) (nI k) = (nI j_5) := ej_5
          refine co_eq mj_5 ?_
          refine lv_iload hx hb dX3_fixes_37 (lv_at hl 0 rfl) ?_
          refine lv_icmp_eq (tgt := 46) hx hb dX3_fixes_39 (by decide) (fun c_7 => ?_) (fun c_7 => ?_)
          · refine lv_iconst (v := 0) hx hb dX3_fixes_46 (by decide) ?_
            refine lv_iadd hx hb dX3_fixes_47 ?_
            refine lv_istore_n (lv' := [(2, .int (x + 0)), (4, .int (nI j_3)), (0, .ref (b 0)), (1, .int (nI n)), (3, .int (nI k))]) hx hb dX3_fixes_48 rfl hl (by decide) rfl (fun ls hl => ?_)
            refine lv_aload_n hx hb dX3_fixes_49 rfl (lv_at hl 2 rfl) ?_
            refine va_get (D := G.1) (ci := 2) (v := .ref (b 4)) (C := RX3) (T := TX3) (N := 13) hx hb hts uX3 hown hK hP 0 rfl rfl 5 (by decide) (hts (.fieldLink RX3 20 "ChordOverlayModel" "finger" "[I") (by decide +kernel)) (fun _ h9 => h9) rfl dX3_fixes_50 ?_
            refine lv_bipush (v := 6) hx hb dX3_fixes_53 (by decide) ?_
            refine lv_iload_n hx hb dX3_fixes_55 rfl (lv_at hl 3 rfl) ?_
            refine lv_imul hx hb dX3_fixes_56 ?_
            refine lv_iload_n hx hb dX3_fixes_57 rfl (lv_at hl 4 rfl) ?_
            refine lv_iadd hx hb dX3_fixes_58 ?_
            refine lv_iload hx hb dX3_fixes_59 (lv_at hl 1 rfl) ?_
            refine va_iast hx hb hK hP hD hS 4 0 (f := (u_4 5)) rfl rfl (vi_w (w := 6) (p := k) (by decide) hn.1 (show k < 6 by omega)) dX3_fixes_61 (fun H locs hP hD hS => ?_)
            have hP : pG G (wM G b (va_up u_4 5 (upd (u_4 5) ((6 * (nI n)) + (nI k)).toNatClampNeg (nI j_3)))) H := hP
            have hD : va_D A (wM G b (va_up u_4 5 (upd (u_4 5) ((6 * (nI n)) + (nI k)).toNatClampNeg (nI j_3)))) := hD
            refine lv_iinc (v := (nI (k + 1))) (lv' := [(3, .int (nI (k + 1))), (2, .int (x + 0)), (4, .int (nI j_3)), (0, .ref (b 0)), (1, .int (nI n))]) hx hb dX3_fixes_62 hl (k := 4) rfl (nI_1 k) (by decide) rfl (fun ls hl => ?_)
            refine lv_goto (tgt := 4) hx hb dX3_fixes_65 (by decide) ?_
            exact ih (k + 1) _ _ (va_up u_4 5 (upd (u_4 5) ((6 * (nI n)) + (nI k)).toNatClampNeg (nI j_3))) (by omega) (rl_fin hq_4 hn.1 (show k < 6 by omega) (okP.nI lj_3.1)) (Kp.tr hk_4 Kp.s5) (by rw [rfC, ← h9, fgs_nI hn.1 (show k < 6 by omega), ej_3, ← hx9]; simp only [ej_3, ej_5, c_2, (eq_true c_7), (eq_true (Eq.symm c_7)), eq_self, ↓reduceIte, Int32.add_zero]) (rf_ok (σ2 := σ) (x := 0) h9 hn.1 (show k < 6 by omega) ej_3) _ _ hP hD hS ls (lv_sub hl [3, 4, 1, 0] rfl)
          · refine lv_iconst (v := 1) hx hb dX3_fixes_42 (by decide) ?_
            refine lv_goto (tgt := 47) hx hb dX3_fixes_43 (by decide) ?_
            refine lv_iadd hx hb dX3_fixes_47 ?_
            refine lv_istore_n (lv' := [(2, .int (x + 1)), (4, .int (nI j_3)), (0, .ref (b 0)), (1, .int (nI n)), (3, .int (nI k))]) hx hb dX3_fixes_48 rfl hl (by decide) rfl (fun ls hl => ?_)
            refine lv_aload_n hx hb dX3_fixes_49 rfl (lv_at hl 2 rfl) ?_
            refine va_get (D := G.1) (ci := 2) (v := .ref (b 4)) (C := RX3) (T := TX3) (N := 13) hx hb hts uX3 hown hK hP 0 rfl rfl 5 (by decide) (hts (.fieldLink RX3 20 "ChordOverlayModel" "finger" "[I") (by decide +kernel)) (fun _ h9 => h9) rfl dX3_fixes_50 ?_
            refine lv_bipush (v := 6) hx hb dX3_fixes_53 (by decide) ?_
            refine lv_iload_n hx hb dX3_fixes_55 rfl (lv_at hl 3 rfl) ?_
            refine lv_imul hx hb dX3_fixes_56 ?_
            refine lv_iload_n hx hb dX3_fixes_57 rfl (lv_at hl 4 rfl) ?_
            refine lv_iadd hx hb dX3_fixes_58 ?_
            refine lv_iload hx hb dX3_fixes_59 (lv_at hl 1 rfl) ?_
            refine va_iast hx hb hK hP hD hS 4 0 (f := (u_4 5)) rfl rfl (vi_w (w := 6) (p := k) (by decide) hn.1 (show k < 6 by omega)) dX3_fixes_61 (fun H locs hP hD hS => ?_)
            have hP : pG G (wM G b (va_up u_4 5 (upd (u_4 5) ((6 * (nI n)) + (nI k)).toNatClampNeg (nI j_3)))) H := hP
            have hD : va_D A (wM G b (va_up u_4 5 (upd (u_4 5) ((6 * (nI n)) + (nI k)).toNatClampNeg (nI j_3)))) := hD
            refine lv_iinc (v := (nI (k + 1))) (lv' := [(3, .int (nI (k + 1))), (2, .int (x + 1)), (4, .int (nI j_3)), (0, .ref (b 0)), (1, .int (nI n))]) hx hb dX3_fixes_62 hl (k := 4) rfl (nI_1 k) (by decide) rfl (fun ls hl => ?_)
            refine lv_goto (tgt := 4) hx hb dX3_fixes_65 (by decide) ?_
            exact ih (k + 1) _ _ (va_up u_4 5 (upd (u_4 5) ((6 * (nI n)) + (nI k)).toNatClampNeg (nI j_3))) (by omega) (rl_fin hq_4 hn.1 (show k < 6 by omega) (okP.nI lj_3.1)) (Kp.tr hk_4 Kp.s5) (by rw [rfC, ← h9, fgs_nI hn.1 (show k < 6 by omega), ej_3, ← hx9]; simp only [ej_3, ej_5, c_2, c_7, (Ne.symm c_7), eq_self, ↓reduceIte, Int32.add_zero]) (rf_ok (σ2 := σ) (x := 0) h9 hn.1 (show k < 6 by omega) ej_3) _ _ hP hD hS ls (lv_sub hl [3, 4, 1, 0] rfl)
  exact LP 6 0 _ _ _ rfl hR Kp.rf rfl rfl _ _ hP hD hS ls (lv_sub hl [2, 3, 1, 0] rfl)

set_option maxRecDepth 20000 in
theorem uX3_X3_spreads : ∀ w ∈ u_ws RX3 TX3 13, w ∈ wsX3_spreads := by decide +kernel
abbrev rm_X3_spreads : Room := { frames := 1, cells := 0, slots := 0, locals := 23 }
set_option maxHeartbeats 4000000 in
set_option maxRecDepth 100000 in
theorem c_X3_spreads (l : Launch) (G : cG) (Z : Nat) (b : Nat → Nat) (σ μ : cS) (hR : Rl Z σ μ)(n k : Nat) (hn : Lv σ n) (hk0 : k < 64) : MetI l yX3_spreads wsX3_spreads rm_X3_spreads G (wM G b μ) [.ref (b 0), .int (nI n), .int (nI k)] (fun u : cS => wM G b u) (fun r u => r = (chC σ (nI n) (nI k)) ∧ Rl Z (chS σ (nI n) (nI k)) u ∧ Kp μ u) := by
  refine co_bodyI (cc := cX3_spreads) (maxL := 8) (ret := (some .int)) (by decide) rfl (Nat.le_of_ble_eq_true rfl) ?_
  intro p e s m args below meth c S hr hlocks hK A hA hP hD hS ls hl
  have S : CallFix p m c cX3_spreads 8 s args wsX3_spreads RX3 := S
  obtain ⟨hx, hb, hml, hown, hts⟩ := id S
  have hl : lv_has ls 8 [(0, .ref (b 0)), (1, .int (nI n)), (2, .int (nI k))] := hl
  have uX3 := uX3_X3_spreads
  refine lv_iconst (v := (-1)) hx hb dX3_spreads_0 (by decide) ?_
  refine lv_istore_n (lv' := [(3, .int (-1)), (0, .ref (b 0)), (1, .int (nI n)), (2, .int (nI k))]) hx hb dX3_spreads_1 rfl hl (by decide) rfl (fun ls hl => ?_)
  refine lv_iconst (v := 0) hx hb dX3_spreads_2 (by decide) ?_
  refine lv_istore (lv' := [(4, .int 0), (3, .int (-1)), (0, .ref (b 0)), (1, .int (nI n)), (2, .int (nI k))]) hx hb dX3_spreads_3 hl (by decide) rfl (fun ls hl => ?_)
  refine lv_iconst (v := 0) hx hb dX3_spreads_5 (by decide) ?_
  refine lv_istore (lv' := [(5, .int 0), (4, .int 0), (3, .int (-1)), (0, .ref (b 0)), (1, .int (nI n)), (2, .int (nI k))]) hx hb dX3_spreads_6 hl (by decide) rfl (fun ls hl => ?_)
  refine lv_iconst (v := 0) hx hb dX3_spreads_8 (by decide) ?_
  refine lv_istore (lv' := [(6, .int 0), (5, .int 0), (4, .int 0), (3, .int (-1)), (0, .ref (b 0)), (1, .int (nI n)), (2, .int (nI k))]) hx hb dX3_spreads_9 hl (by decide) rfl (fun ls hl => ?_)
  refine lv_iload hx hb dX3_spreads_11 (lv_at hl 0 rfl) ?_
  refine lv_iconst (v := 3) hx hb dX3_spreads_13 (by decide) ?_
  refine lv_icmp_ge (tgt := 83) hx hb dX3_spreads_14 (by decide) (fun c_1 => ?_) (fun c_1 => ?_)
  · exact absurd c_1 (by decide)
  · refine lv_aload_n hx hb dX3_spreads_17 rfl (lv_at hl 4 rfl) ?_
    refine va_get (D := G.1) (ci := 2) (v := .ref (b 2)) (C := RX3) (T := TX3) (N := 13) hx hb hts uX3 hown hK hP 0 rfl rfl 3 (by decide) (hts (.fieldLink RX3 13 "ChordOverlayModel" "successor" "[I") (by decide +kernel)) (fun _ h9 => h9) rfl dX3_spreads_18 ?_
    refine lv_iconst (v := 3) hx hb dX3_spreads_21 (by decide) ?_
    refine lv_iload_n hx hb dX3_spreads_22 rfl (lv_at hl 5 rfl) ?_
    refine lv_imul hx hb dX3_spreads_23 ?_
    refine lv_iload hx hb dX3_spreads_24 (lv_at hl 0 rfl) ?_
    refine lv_iadd hx hb dX3_spreads_26 ?_
    refine va_iald hx hb hK hP 2 0 rfl rfl (vi_w (w := 3) (p := 0) (by decide) hn.1 (by decide)) dX3_spreads_27 ?_
    obtain ⟨j_2, hj_2, ej_2, mj_2⟩ := rl_s hR hn 0 (by decide)
    have ej_2 : tat 3 (σ 1) (nI n) 0 = nI j_2 := ej_2
    refine co_eq mj_2 ?_
    refine lv_istore (lv' := [(7, .int (nI j_2)), (6, .int 0), (5, .int 0), (4, .int 0), (3, .int (-1)), (0, .ref (b 0)), (1, .int (nI n)), (2, .int (nI k))]) hx hb dX3_spreads_28 hl (by decide) rfl (fun ls hl => ?_)
    refine lv_aload_n hx hb dX3_spreads_30 rfl (lv_at hl 5 rfl) ?_
    refine va_get (D := G.1) (ci := 2) (v := .ref (b 1)) (C := RX3) (T := TX3) (N := 13) hx hb hts uX3 hown hK hP 0 rfl rfl 2 (by decide) (hts (.fieldLink RX3 7 "ChordOverlayModel" "lives" "[Z") (by decide +kernel)) (fun _ h9 => h9) rfl dX3_spreads_31 ?_
    refine lv_iload hx hb dX3_spreads_34 (lv_at hl 0 rfl) ?_
    refine va_zald hx hb hK hP 1 1 rfl rfl (vi_1 hj_2) dX3_spreads_36 ?_
    refine co_eq (y := bI (alv (σ 0) (nI j_2))) (rl_l hR hj_2) ?_
    refine co_ifeq (tgt := 77) S dX3_spreads_37 (by decide) (fun c_3 => ?_) (fun c_3 => ?_)
    · refine lv_iinc (v := 1) (lv' := [(6, .int 1), (7, .int (nI j_2)), (5, .int 0), (4, .int 0), (3, .int (-1)), (0, .ref (b 0)), (1, .int (nI n)), (2, .int (nI k))]) hx hb dX3_spreads_77 hl (k := 1) rfl (by decide) (by decide) rfl (fun ls hl => ?_)
      refine lv_goto (tgt := 11) hx hb dX3_spreads_80 (by decide) ?_
      refine lv_iload hx hb dX3_spreads_11 (lv_at hl 0 rfl) ?_
      refine lv_iconst (v := 3) hx hb dX3_spreads_13 (by decide) ?_
      refine lv_icmp_ge (tgt := 83) hx hb dX3_spreads_14 (by decide) (fun c_4 => ?_) (fun c_4 => ?_)
      · exact absurd c_4 (by decide)
      · refine lv_aload_n hx hb dX3_spreads_17 rfl (lv_at hl 5 rfl) ?_
        refine va_get (D := G.1) (ci := 2) (v := .ref (b 2)) (C := RX3) (T := TX3) (N := 13) hx hb hts uX3 hown hK hP 0 rfl rfl 3 (by decide) (hts (.fieldLink RX3 13 "ChordOverlayModel" "successor" "[I") (by decide +kernel)) (fun _ h9 => h9) rfl dX3_spreads_18 ?_
        refine lv_iconst (v := 3) hx hb dX3_spreads_21 (by decide) ?_
        refine lv_iload_n hx hb dX3_spreads_22 rfl (lv_at hl 6 rfl) ?_
        refine lv_imul hx hb dX3_spreads_23 ?_
        refine lv_iload hx hb dX3_spreads_24 (lv_at hl 0 rfl) ?_
        refine lv_iadd hx hb dX3_spreads_26 ?_
        refine va_iald hx hb hK hP 2 0 rfl rfl (vi_w (w := 3) (p := 1) (by decide) hn.1 (by decide)) dX3_spreads_27 ?_
        obtain ⟨j_5, hj_5, ej_5, mj_5⟩ := rl_s hR hn 1 (by decide)
        have ej_5 : tat 3 (σ 1) (nI n) 1 = nI j_5 := ej_5
        refine co_eq mj_5 ?_
        refine lv_istore (lv' := [(7, .int (nI j_5)), (6, .int 1), (5, .int 0), (4, .int 0), (3, .int (-1)), (0, .ref (b 0)), (1, .int (nI n)), (2, .int (nI k))]) hx hb dX3_spreads_28 hl (by decide) rfl (fun ls hl => ?_)
        refine lv_aload_n hx hb dX3_spreads_30 rfl (lv_at hl 5 rfl) ?_
        refine va_get (D := G.1) (ci := 2) (v := .ref (b 1)) (C := RX3) (T := TX3) (N := 13) hx hb hts uX3 hown hK hP 0 rfl rfl 2 (by decide) (hts (.fieldLink RX3 7 "ChordOverlayModel" "lives" "[Z") (by decide +kernel)) (fun _ h9 => h9) rfl dX3_spreads_31 ?_
        refine lv_iload hx hb dX3_spreads_34 (lv_at hl 0 rfl) ?_
        refine va_zald hx hb hK hP 1 1 rfl rfl (vi_1 hj_5) dX3_spreads_36 ?_
        refine co_eq (y := bI (alv (σ 0) (nI j_5))) (rl_l hR hj_5) ?_
        refine co_ifeq (tgt := 77) S dX3_spreads_37 (by decide) (fun c_6 => ?_) (fun c_6 => ?_)
        · refine lv_iinc (v := 2) (lv' := [(6, .int 2), (7, .int (nI j_5)), (5, .int 0), (4, .int 0), (3, .int (-1)), (0, .ref (b 0)), (1, .int (nI n)), (2, .int (nI k))]) hx hb dX3_spreads_77 hl (k := 1) rfl (by decide) (by decide) rfl (fun ls hl => ?_)
          refine lv_goto (tgt := 11) hx hb dX3_spreads_80 (by decide) ?_
          refine lv_iload hx hb dX3_spreads_11 (lv_at hl 0 rfl) ?_
          refine lv_iconst (v := 3) hx hb dX3_spreads_13 (by decide) ?_
          refine lv_icmp_ge (tgt := 83) hx hb dX3_spreads_14 (by decide) (fun c_7 => ?_) (fun c_7 => ?_)
          · exact absurd c_7 (by decide)
          · refine lv_aload_n hx hb dX3_spreads_17 rfl (lv_at hl 5 rfl) ?_
            refine va_get (D := G.1) (ci := 2) (v := .ref (b 2)) (C := RX3) (T := TX3) (N := 13) hx hb hts uX3 hown hK hP 0 rfl rfl 3 (by decide) (hts (.fieldLink RX3 13 "ChordOverlayModel" "successor" "[I") (by decide +kernel)) (fun _ h9 => h9) rfl dX3_spreads_18 ?_
            refine lv_iconst (v := 3) hx hb dX3_spreads_21 (by decide) ?_
            refine lv_iload_n hx hb dX3_spreads_22 rfl (lv_at hl 6 rfl) ?_
            refine lv_imul hx hb dX3_spreads_23 ?_
            refine lv_iload hx hb dX3_spreads_24 (lv_at hl 0 rfl) ?_
            refine lv_iadd hx hb dX3_spreads_26 ?_
            refine va_iald hx hb hK hP 2 0 rfl rfl (vi_w (w := 3) (p := 2) (by decide) hn.1 (by decide)) dX3_spreads_27 ?_
            obtain ⟨j_8, hj_8, ej_8, mj_8⟩ := rl_s hR hn 2 (by decide)
            have ej_8 : tat 3 (σ 1) (nI n) 2 = nI j_8 := ej_8
            refine co_eq mj_8 ?_
            refine lv_istore (lv' := [(7, .int (nI j_8)), (6, .int 2), (5, .int 0), (4, .int 0), (3, .int (-1)), (0, .ref (b 0)), (1, .int (nI n)), (2, .int (nI k))]) hx hb dX3_spreads_28 hl (by decide) rfl (fun ls hl => ?_)
            refine lv_aload_n hx hb dX3_spreads_30 rfl (lv_at hl 5 rfl) ?_
            refine va_get (D := G.1) (ci := 2) (v := .ref (b 1)) (C := RX3) (T := TX3) (N := 13) hx hb hts uX3 hown hK hP 0 rfl rfl 2 (by decide) (hts (.fieldLink RX3 7 "ChordOverlayModel" "lives" "[Z") (by decide +kernel)) (fun _ h9 => h9) rfl dX3_spreads_31 ?_
            refine lv_iload hx hb dX3_spreads_34 (lv_at hl 0 rfl) ?_
            refine va_zald hx hb hK hP 1 1 rfl rfl (vi_1 hj_8) dX3_spreads_36 ?_
            refine co_eq (y := bI (alv (σ 0) (nI j_8))) (rl_l hR hj_8) ?_
            refine co_ifeq (tgt := 77) S dX3_spreads_37 (by decide) (fun c_9 => ?_) (fun c_9 => ?_)
            · refine lv_iinc (v := 3) (lv' := [(6, .int 3), (7, .int (nI j_8)), (5, .int 0), (4, .int 0), (3, .int (-1)), (0, .ref (b 0)), (1, .int (nI n)), (2, .int (nI k))]) hx hb dX3_spreads_77 hl (k := 1) rfl (by decide) (by decide) rfl (fun ls hl => ?_)
              refine lv_goto (tgt := 11) hx hb dX3_spreads_80 (by decide) ?_
              refine lv_iload hx hb dX3_spreads_11 (lv_at hl 0 rfl) ?_
              refine lv_iconst (v := 3) hx hb dX3_spreads_13 (by decide) ?_
              refine lv_icmp_ge (tgt := 83) hx hb dX3_spreads_14 (by decide) (fun c_10 => ?_) (fun c_10 => ?_)
              · refine lv_iload hx hb dX3_spreads_83 (lv_at hl 3 rfl) ?_
                exact co_endI μ S hr hlocks dX3_spreads_85 hK hP hD hS (by refine ⟨?_, ?_, Kp.rf⟩; (simp only [chC, ccA, chA, heir, hrS, ej_2, ej_5, ej_8, c_1, c_3, c_4, c_6, c_7, c_9, c_10, nI_nem hj_2, nI_nem hj_5, nI_nem hj_8, eq_self, Bool.false_eq_true, ↓reduceIte]); (rw [show chS σ (nI n) (nI k) = σ from by simp only [chS, chA, heir, hrS, ej_2, ej_5, ej_8, c_1, c_3, c_4, c_6, c_7, c_9, c_10, nI_nem hj_2, nI_nem hj_5, nI_nem hj_8, eq_self, Bool.false_eq_true, ↓reduceIte]]; exact hR))
              · exact absurd (by decide) c_10
            · refine lv_iload hx hb dX3_spreads_40 (lv_at hl 0 rfl) ?_
              refine lv_iload_n hx hb dX3_spreads_42 rfl (lv_at hl 6 rfl) ?_
              refine lv_icmp_eq (tgt := 77) hx hb dX3_spreads_43 (by decide) (fun c_11 => ?_) (fun c_11 => ?_)
              · refine lv_iinc (v := 3) (lv' := [(6, .int 3), (7, .int (nI j_8)), (5, .int 0), (4, .int 0), (3, .int (-1)), (0, .ref (b 0)), (1, .int (nI n)), (2, .int (nI k))]) hx hb dX3_spreads_77 hl (k := 1) rfl (by decide) (by decide) rfl (fun ls hl => ?_)
                refine lv_goto (tgt := 11) hx hb dX3_spreads_80 (by decide) ?_
                refine lv_iload hx hb dX3_spreads_11 (lv_at hl 0 rfl) ?_
                refine lv_iconst (v := 3) hx hb dX3_spreads_13 (by decide) ?_
                refine lv_icmp_ge (tgt := 83) hx hb dX3_spreads_14 (by decide) (fun c_12 => ?_) (fun c_12 => ?_)
                · refine lv_iload hx hb dX3_spreads_83 (lv_at hl 3 rfl) ?_
                  exact co_endI μ S hr hlocks dX3_spreads_85 hK hP hD hS (by refine ⟨?_, ?_, Kp.rf⟩; (simp only [chC, ccA, chA, heir, hrS, ej_2, ej_5, ej_8, c_1, c_3, c_4, c_6, c_7, c_9, (eq_true c_11), c_12, nI_nem hj_2, nI_nem hj_5, nI_nem hj_8, eq_self, Bool.false_eq_true, ↓reduceIte]); (rw [show chS σ (nI n) (nI k) = σ from by simp only [chS, chA, heir, hrS, ej_2, ej_5, ej_8, c_1, c_3, c_4, c_6, c_7, c_9, (eq_true c_11), c_12, nI_nem hj_2, nI_nem hj_5, nI_nem hj_8, eq_self, Bool.false_eq_true, ↓reduceIte]]; exact hR))
                · exact absurd (by decide) c_12
              · refine lv_iload hx hb dX3_spreads_46 (lv_at hl 0 rfl) ?_
                refine lv_iload_n hx hb dX3_spreads_48 rfl (lv_at hl 4 rfl) ?_
                refine lv_icmp_eq (tgt := 77) hx hb dX3_spreads_49 (by decide) (fun c_13 => ?_) (fun c_13 => ?_)
                · exact absurd c_13 (nI_nem hj_8)
                · refine lv_iload hx hb dX3_spreads_52 (lv_at hl 2 rfl) ?_
                  refine lv_iconst (v := 2) hx hb dX3_spreads_54 (by decide) ?_
                  refine lv_icmp_ge (tgt := 77) hx hb dX3_spreads_55 (by decide) (fun c_14 => ?_) (fun c_14 => ?_)
                  · exact absurd c_14 (by decide)
                  · refine lv_iload hx hb dX3_spreads_58 (lv_at hl 3 rfl) ?_
                    refine lv_aload_n hx hb dX3_spreads_60 rfl (lv_at hl 5 rfl) ?_
                    refine lv_iload_n hx hb dX3_spreads_61 rfl (lv_at hl 6 rfl) ?_
                    refine lv_iload_n hx hb dX3_spreads_62 rfl (lv_at hl 7 rfl) ?_
                    refine lv_iload hx hb dX3_spreads_63 (lv_at hl 0 rfl) ?_
                    refine co_mVi (As := [.int (nI n), .int (nI k), .int (nI j_8)]) (rest := [.int 0]) S (c_X3_copy l G Z b σ μ hR n k j_8 hn hk0 ⟨hj_8, c_9⟩) (cwV 3 hts gX3_spreads_X3_copy rfl rfl rfl (by decide +kernel) ⟨Nat.le_of_ble_eq_true rfl, Nat.le_of_ble_eq_true rfl⟩) hK hP hD hS hA (va_recv hK hP (ci := 2) (q0 := 0) rfl rfl) rfl hl.1 rfl (Nat.le_of_ble_eq_true rfl) dX3_spreads_65 ⟨Nat.zero_le _, Nat.zero_le _⟩ (fun r_15 u_15 H locs hu_15 hP hD hS => ?_)
                    obtain ⟨hr_15, hq_15, hk_15⟩ := hu_15
                    have hr_15 : r_15 = (gcC σ (nI n) (nI j_8) (nI k)) := hr_15
                    obtain ⟨σ_15, eσ_15⟩ : ∃ z9, z9 = (gcS σ (nI n) (nI j_8) (nI k)) := ⟨_, rfl⟩
                    have hq_15 : Rl Z σ_15 u_15 := (by rw [eσ_15]; exact hq_15)
                    have hc0_15 : σ_15 0 = (σ 0) := (by rw [eσ_15]; exact gcS_0)
                    have hc1_15 : σ_15 1 = (σ 1) := (by rw [eσ_15]; exact gcS_1)
                    have hc2_15 : σ_15 2 = (σ 2) := (by rw [eσ_15]; exact gcS_2)
                    have hc3_15 : σ_15 3 = (σ 3) := (by rw [eσ_15]; exact gcS_3)
                    have hP : pG G (wM G b u_15) H := hP
                    have hD : va_D A (wM G b u_15) := hD
                    refine lv_iadd hx hb dX3_spreads_68 ?_
                    refine lv_istore (lv' := [(4, .int (0 + r_15)), (7, .int (nI j_8)), (6, .int 2), (5, .int 0), (3, .int (-1)), (0, .ref (b 0)), (1, .int (nI n)), (2, .int (nI k))]) hx hb dX3_spreads_69 hl (by decide) rfl (fun ls hl => ?_)
                    refine lv_iload hx hb dX3_spreads_71 (lv_at hl 1 rfl) ?_
                    refine lv_istore_n (lv' := [(3, .int (nI j_8)), (4, .int (0 + r_15)), (7, .int (nI j_8)), (6, .int 2), (5, .int 0), (0, .ref (b 0)), (1, .int (nI n)), (2, .int (nI k))]) hx hb dX3_spreads_73 rfl hl (by decide) rfl (fun ls hl => ?_)
                    refine lv_iinc (v := 1) (lv' := [(5, .int 1), (3, .int (nI j_8)), (4, .int (0 + r_15)), (7, .int (nI j_8)), (6, .int 2), (0, .ref (b 0)), (1, .int (nI n)), (2, .int (nI k))]) hx hb dX3_spreads_74 hl (k := 4) rfl (by decide) (by decide) rfl (fun ls hl => ?_)
                    refine lv_iinc (v := 3) (lv' := [(6, .int 3), (5, .int 1), (3, .int (nI j_8)), (4, .int (0 + r_15)), (7, .int (nI j_8)), (0, .ref (b 0)), (1, .int (nI n)), (2, .int (nI k))]) hx hb dX3_spreads_77 hl (k := 4) rfl (by decide) (by decide) rfl (fun ls hl => ?_)
                    refine lv_goto (tgt := 11) hx hb dX3_spreads_80 (by decide) ?_
                    refine lv_iload hx hb dX3_spreads_11 (lv_at hl 0 rfl) ?_
                    refine lv_iconst (v := 3) hx hb dX3_spreads_13 (by decide) ?_
                    refine lv_icmp_ge (tgt := 83) hx hb dX3_spreads_14 (by decide) (fun c_16 => ?_) (fun c_16 => ?_)
                    · refine lv_iload hx hb dX3_spreads_83 (lv_at hl 3 rfl) ?_
                      exact co_endI u_15 S hr hlocks dX3_spreads_85 hK hP hD hS (by refine ⟨?_, ?_, hk_15⟩; (subst eσ_15; subst hr_15; simp only [chC, ccA, chA, heir, hrS, ej_2, ej_5, ej_8, c_1, c_3, c_4, c_6, c_7, c_9, c_11, c_14, c_16, nI_nem hj_2, nI_nem hj_5, nI_nem hj_8, eq_self, Bool.false_eq_true, ↓reduceIte]); (rw [show chS σ (nI n) (nI k) = σ_15 from by subst eσ_15; subst hr_15; simp only [chS, chA, heir, hrS, ej_2, ej_5, ej_8, c_1, c_3, c_4, c_6, c_7, c_9, c_11, c_14, c_16, nI_nem hj_2, nI_nem hj_5, nI_nem hj_8, eq_self, Bool.false_eq_true, ↓reduceIte]]; exact hq_15))
                    · exact absurd (by decide) c_16
        · refine lv_iload hx hb dX3_spreads_40 (lv_at hl 0 rfl) ?_
          refine lv_iload_n hx hb dX3_spreads_42 rfl (lv_at hl 6 rfl) ?_
          refine lv_icmp_eq (tgt := 77) hx hb dX3_spreads_43 (by decide) (fun c_17 => ?_) (fun c_17 => ?_)
          · refine lv_iinc (v := 2) (lv' := [(6, .int 2), (7, .int (nI j_5)), (5, .int 0), (4, .int 0), (3, .int (-1)), (0, .ref (b 0)), (1, .int (nI n)), (2, .int (nI k))]) hx hb dX3_spreads_77 hl (k := 1) rfl (by decide) (by decide) rfl (fun ls hl => ?_)
            refine lv_goto (tgt := 11) hx hb dX3_spreads_80 (by decide) ?_
            refine lv_iload hx hb dX3_spreads_11 (lv_at hl 0 rfl) ?_
            refine lv_iconst (v := 3) hx hb dX3_spreads_13 (by decide) ?_
            refine lv_icmp_ge (tgt := 83) hx hb dX3_spreads_14 (by decide) (fun c_18 => ?_) (fun c_18 => ?_)
            · exact absurd c_18 (by decide)
            · refine lv_aload_n hx hb dX3_spreads_17 rfl (lv_at hl 5 rfl) ?_
              refine va_get (D := G.1) (ci := 2) (v := .ref (b 2)) (C := RX3) (T := TX3) (N := 13) hx hb hts uX3 hown hK hP 0 rfl rfl 3 (by decide) (hts (.fieldLink RX3 13 "ChordOverlayModel" "successor" "[I") (by decide +kernel)) (fun _ h9 => h9) rfl dX3_spreads_18 ?_
              refine lv_iconst (v := 3) hx hb dX3_spreads_21 (by decide) ?_
              refine lv_iload_n hx hb dX3_spreads_22 rfl (lv_at hl 6 rfl) ?_
              refine lv_imul hx hb dX3_spreads_23 ?_
              refine lv_iload hx hb dX3_spreads_24 (lv_at hl 0 rfl) ?_
              refine lv_iadd hx hb dX3_spreads_26 ?_
              refine va_iald hx hb hK hP 2 0 rfl rfl (vi_w (w := 3) (p := 2) (by decide) hn.1 (by decide)) dX3_spreads_27 ?_
              obtain ⟨j_19, hj_19, ej_19, mj_19⟩ := rl_s hR hn 2 (by decide)
              have ej_19 : tat 3 (σ 1) (nI n) 2 = nI j_19 := ej_19
              refine co_eq mj_19 ?_
              refine lv_istore (lv' := [(7, .int (nI j_19)), (6, .int 2), (5, .int 0), (4, .int 0), (3, .int (-1)), (0, .ref (b 0)), (1, .int (nI n)), (2, .int (nI k))]) hx hb dX3_spreads_28 hl (by decide) rfl (fun ls hl => ?_)
              refine lv_aload_n hx hb dX3_spreads_30 rfl (lv_at hl 5 rfl) ?_
              refine va_get (D := G.1) (ci := 2) (v := .ref (b 1)) (C := RX3) (T := TX3) (N := 13) hx hb hts uX3 hown hK hP 0 rfl rfl 2 (by decide) (hts (.fieldLink RX3 7 "ChordOverlayModel" "lives" "[Z") (by decide +kernel)) (fun _ h9 => h9) rfl dX3_spreads_31 ?_
              refine lv_iload hx hb dX3_spreads_34 (lv_at hl 0 rfl) ?_
              refine va_zald hx hb hK hP 1 1 rfl rfl (vi_1 hj_19) dX3_spreads_36 ?_
              refine co_eq (y := bI (alv (σ 0) (nI j_19))) (rl_l hR hj_19) ?_
              refine co_ifeq (tgt := 77) S dX3_spreads_37 (by decide) (fun c_20 => ?_) (fun c_20 => ?_)
              · refine lv_iinc (v := 3) (lv' := [(6, .int 3), (7, .int (nI j_19)), (5, .int 0), (4, .int 0), (3, .int (-1)), (0, .ref (b 0)), (1, .int (nI n)), (2, .int (nI k))]) hx hb dX3_spreads_77 hl (k := 1) rfl (by decide) (by decide) rfl (fun ls hl => ?_)
                refine lv_goto (tgt := 11) hx hb dX3_spreads_80 (by decide) ?_
                refine lv_iload hx hb dX3_spreads_11 (lv_at hl 0 rfl) ?_
                refine lv_iconst (v := 3) hx hb dX3_spreads_13 (by decide) ?_
                refine lv_icmp_ge (tgt := 83) hx hb dX3_spreads_14 (by decide) (fun c_21 => ?_) (fun c_21 => ?_)
                · refine lv_iload hx hb dX3_spreads_83 (lv_at hl 3 rfl) ?_
                  exact co_endI μ S hr hlocks dX3_spreads_85 hK hP hD hS (by refine ⟨?_, ?_, Kp.rf⟩; (simp only [chC, ccA, chA, heir, hrS, ej_2, ej_5, ej_19, c_1, c_3, c_4, c_6, (eq_true c_17), c_18, c_20, c_21, nI_nem hj_2, nI_nem hj_5, nI_nem hj_19, eq_self, Bool.false_eq_true, ↓reduceIte]); (rw [show chS σ (nI n) (nI k) = σ from by simp only [chS, chA, heir, hrS, ej_2, ej_5, ej_19, c_1, c_3, c_4, c_6, (eq_true c_17), c_18, c_20, c_21, nI_nem hj_2, nI_nem hj_5, nI_nem hj_19, eq_self, Bool.false_eq_true, ↓reduceIte]]; exact hR))
                · exact absurd (by decide) c_21
              · refine lv_iload hx hb dX3_spreads_40 (lv_at hl 0 rfl) ?_
                refine lv_iload_n hx hb dX3_spreads_42 rfl (lv_at hl 6 rfl) ?_
                refine lv_icmp_eq (tgt := 77) hx hb dX3_spreads_43 (by decide) (fun c_22 => ?_) (fun c_22 => ?_)
                · refine lv_iinc (v := 3) (lv' := [(6, .int 3), (7, .int (nI j_19)), (5, .int 0), (4, .int 0), (3, .int (-1)), (0, .ref (b 0)), (1, .int (nI n)), (2, .int (nI k))]) hx hb dX3_spreads_77 hl (k := 1) rfl (by decide) (by decide) rfl (fun ls hl => ?_)
                  refine lv_goto (tgt := 11) hx hb dX3_spreads_80 (by decide) ?_
                  refine lv_iload hx hb dX3_spreads_11 (lv_at hl 0 rfl) ?_
                  refine lv_iconst (v := 3) hx hb dX3_spreads_13 (by decide) ?_
                  refine lv_icmp_ge (tgt := 83) hx hb dX3_spreads_14 (by decide) (fun c_23 => ?_) (fun c_23 => ?_)
                  · refine lv_iload hx hb dX3_spreads_83 (lv_at hl 3 rfl) ?_
                    exact co_endI μ S hr hlocks dX3_spreads_85 hK hP hD hS (by refine ⟨?_, ?_, Kp.rf⟩; (simp only [chC, ccA, chA, heir, hrS, ej_2, ej_5, ej_19, c_1, c_3, c_4, c_6, (eq_true c_17), c_18, c_20, (eq_true c_22), c_23, nI_nem hj_2, nI_nem hj_5, nI_nem hj_19, eq_self, Bool.false_eq_true, ↓reduceIte]); (rw [show chS σ (nI n) (nI k) = σ from by simp only [chS, chA, heir, hrS, ej_2, ej_5, ej_19, c_1, c_3, c_4, c_6, (eq_true c_17), c_18, c_20, (eq_true c_22), c_23, nI_nem hj_2, nI_nem hj_5, nI_nem hj_19, eq_self, Bool.false_eq_true, ↓reduceIte]]; exact hR))
                  · exact absurd (by decide) c_23
                · refine lv_iload hx hb dX3_spreads_46 (lv_at hl 0 rfl) ?_
                  refine lv_iload_n hx hb dX3_spreads_48 rfl (lv_at hl 4 rfl) ?_
                  refine lv_icmp_eq (tgt := 77) hx hb dX3_spreads_49 (by decide) (fun c_24 => ?_) (fun c_24 => ?_)
                  · exact absurd c_24 (nI_nem hj_19)
                  · refine lv_iload hx hb dX3_spreads_52 (lv_at hl 2 rfl) ?_
                    refine lv_iconst (v := 2) hx hb dX3_spreads_54 (by decide) ?_
                    refine lv_icmp_ge (tgt := 77) hx hb dX3_spreads_55 (by decide) (fun c_25 => ?_) (fun c_25 => ?_)
                    · exact absurd c_25 (by decide)
                    · refine lv_iload hx hb dX3_spreads_58 (lv_at hl 3 rfl) ?_
                      refine lv_aload_n hx hb dX3_spreads_60 rfl (lv_at hl 5 rfl) ?_
                      refine lv_iload_n hx hb dX3_spreads_61 rfl (lv_at hl 6 rfl) ?_
                      refine lv_iload_n hx hb dX3_spreads_62 rfl (lv_at hl 7 rfl) ?_
                      refine lv_iload hx hb dX3_spreads_63 (lv_at hl 0 rfl) ?_
                      refine co_mVi (As := [.int (nI n), .int (nI k), .int (nI j_19)]) (rest := [.int 0]) S (c_X3_copy l G Z b σ μ hR n k j_19 hn hk0 ⟨hj_19, c_20⟩) (cwV 3 hts gX3_spreads_X3_copy rfl rfl rfl (by decide +kernel) ⟨Nat.le_of_ble_eq_true rfl, Nat.le_of_ble_eq_true rfl⟩) hK hP hD hS hA (va_recv hK hP (ci := 2) (q0 := 0) rfl rfl) rfl hl.1 rfl (Nat.le_of_ble_eq_true rfl) dX3_spreads_65 ⟨Nat.zero_le _, Nat.zero_le _⟩ (fun r_26 u_26 H locs hu_26 hP hD hS => ?_)
                      obtain ⟨hr_26, hq_26, hk_26⟩ := hu_26
                      have hr_26 : r_26 = (gcC σ (nI n) (nI j_19) (nI k)) := hr_26
                      obtain ⟨σ_26, eσ_26⟩ : ∃ z9, z9 = (gcS σ (nI n) (nI j_19) (nI k)) := ⟨_, rfl⟩
                      have hq_26 : Rl Z σ_26 u_26 := (by rw [eσ_26]; exact hq_26)
                      have hc0_26 : σ_26 0 = (σ 0) := (by rw [eσ_26]; exact gcS_0)
                      have hc1_26 : σ_26 1 = (σ 1) := (by rw [eσ_26]; exact gcS_1)
                      have hc2_26 : σ_26 2 = (σ 2) := (by rw [eσ_26]; exact gcS_2)
                      have hc3_26 : σ_26 3 = (σ 3) := (by rw [eσ_26]; exact gcS_3)
                      have hP : pG G (wM G b u_26) H := hP
                      have hD : va_D A (wM G b u_26) := hD
                      refine lv_iadd hx hb dX3_spreads_68 ?_
                      refine lv_istore (lv' := [(4, .int (0 + r_26)), (7, .int (nI j_19)), (6, .int 2), (5, .int 0), (3, .int (-1)), (0, .ref (b 0)), (1, .int (nI n)), (2, .int (nI k))]) hx hb dX3_spreads_69 hl (by decide) rfl (fun ls hl => ?_)
                      refine lv_iload hx hb dX3_spreads_71 (lv_at hl 1 rfl) ?_
                      refine lv_istore_n (lv' := [(3, .int (nI j_19)), (4, .int (0 + r_26)), (7, .int (nI j_19)), (6, .int 2), (5, .int 0), (0, .ref (b 0)), (1, .int (nI n)), (2, .int (nI k))]) hx hb dX3_spreads_73 rfl hl (by decide) rfl (fun ls hl => ?_)
                      refine lv_iinc (v := 1) (lv' := [(5, .int 1), (3, .int (nI j_19)), (4, .int (0 + r_26)), (7, .int (nI j_19)), (6, .int 2), (0, .ref (b 0)), (1, .int (nI n)), (2, .int (nI k))]) hx hb dX3_spreads_74 hl (k := 4) rfl (by decide) (by decide) rfl (fun ls hl => ?_)
                      refine lv_iinc (v := 3) (lv' := [(6, .int 3), (5, .int 1), (3, .int (nI j_19)), (4, .int (0 + r_26)), (7, .int (nI j_19)), (0, .ref (b 0)), (1, .int (nI n)), (2, .int (nI k))]) hx hb dX3_spreads_77 hl (k := 4) rfl (by decide) (by decide) rfl (fun ls hl => ?_)
                      refine lv_goto (tgt := 11) hx hb dX3_spreads_80 (by decide) ?_
                      refine lv_iload hx hb dX3_spreads_11 (lv_at hl 0 rfl) ?_
                      refine lv_iconst (v := 3) hx hb dX3_spreads_13 (by decide) ?_
                      refine lv_icmp_ge (tgt := 83) hx hb dX3_spreads_14 (by decide) (fun c_27 => ?_) (fun c_27 => ?_)
                      · refine lv_iload hx hb dX3_spreads_83 (lv_at hl 3 rfl) ?_
                        exact co_endI u_26 S hr hlocks dX3_spreads_85 hK hP hD hS (by refine ⟨?_, ?_, hk_26⟩; (subst eσ_26; subst hr_26; simp only [chC, ccA, chA, heir, hrS, ej_2, ej_5, ej_19, c_1, c_3, c_4, c_6, (eq_true c_17), c_18, c_20, c_22, c_25, c_27, nI_nem hj_2, nI_nem hj_5, nI_nem hj_19, eq_self, Bool.false_eq_true, ↓reduceIte]); (rw [show chS σ (nI n) (nI k) = σ_26 from by subst eσ_26; subst hr_26; simp only [chS, chA, heir, hrS, ej_2, ej_5, ej_19, c_1, c_3, c_4, c_6, (eq_true c_17), c_18, c_20, c_22, c_25, c_27, nI_nem hj_2, nI_nem hj_5, nI_nem hj_19, eq_self, Bool.false_eq_true, ↓reduceIte]]; exact hq_26))
                      · exact absurd (by decide) c_27
          · refine lv_iload hx hb dX3_spreads_46 (lv_at hl 0 rfl) ?_
            refine lv_iload_n hx hb dX3_spreads_48 rfl (lv_at hl 4 rfl) ?_
            refine lv_icmp_eq (tgt := 77) hx hb dX3_spreads_49 (by decide) (fun c_28 => ?_) (fun c_28 => ?_)
            · exact absurd c_28 (nI_nem hj_5)
            · refine lv_iload hx hb dX3_spreads_52 (lv_at hl 2 rfl) ?_
              refine lv_iconst (v := 2) hx hb dX3_spreads_54 (by decide) ?_
              refine lv_icmp_ge (tgt := 77) hx hb dX3_spreads_55 (by decide) (fun c_29 => ?_) (fun c_29 => ?_)
              · exact absurd c_29 (by decide)
              · refine lv_iload hx hb dX3_spreads_58 (lv_at hl 3 rfl) ?_
                refine lv_aload_n hx hb dX3_spreads_60 rfl (lv_at hl 5 rfl) ?_
                refine lv_iload_n hx hb dX3_spreads_61 rfl (lv_at hl 6 rfl) ?_
                refine lv_iload_n hx hb dX3_spreads_62 rfl (lv_at hl 7 rfl) ?_
                refine lv_iload hx hb dX3_spreads_63 (lv_at hl 0 rfl) ?_
                refine co_mVi (As := [.int (nI n), .int (nI k), .int (nI j_5)]) (rest := [.int 0]) S (c_X3_copy l G Z b σ μ hR n k j_5 hn hk0 ⟨hj_5, c_6⟩) (cwV 3 hts gX3_spreads_X3_copy rfl rfl rfl (by decide +kernel) ⟨Nat.le_of_ble_eq_true rfl, Nat.le_of_ble_eq_true rfl⟩) hK hP hD hS hA (va_recv hK hP (ci := 2) (q0 := 0) rfl rfl) rfl hl.1 rfl (Nat.le_of_ble_eq_true rfl) dX3_spreads_65 ⟨Nat.zero_le _, Nat.zero_le _⟩ (fun r_30 u_30 H locs hu_30 hP hD hS => ?_)
                obtain ⟨hr_30, hq_30, hk_30⟩ := hu_30
                have hr_30 : r_30 = (gcC σ (nI n) (nI j_5) (nI k)) := hr_30
                obtain ⟨σ_30, eσ_30⟩ : ∃ z9, z9 = (gcS σ (nI n) (nI j_5) (nI k)) := ⟨_, rfl⟩
                have hq_30 : Rl Z σ_30 u_30 := (by rw [eσ_30]; exact hq_30)
                have hc0_30 : σ_30 0 = (σ 0) := (by rw [eσ_30]; exact gcS_0)
                have hc1_30 : σ_30 1 = (σ 1) := (by rw [eσ_30]; exact gcS_1)
                have hc2_30 : σ_30 2 = (σ 2) := (by rw [eσ_30]; exact gcS_2)
                have hc3_30 : σ_30 3 = (σ 3) := (by rw [eσ_30]; exact gcS_3)
                have hP : pG G (wM G b u_30) H := hP
                have hD : va_D A (wM G b u_30) := hD
                refine lv_iadd hx hb dX3_spreads_68 ?_
                refine lv_istore (lv' := [(4, .int (0 + r_30)), (7, .int (nI j_5)), (6, .int 1), (5, .int 0), (3, .int (-1)), (0, .ref (b 0)), (1, .int (nI n)), (2, .int (nI k))]) hx hb dX3_spreads_69 hl (by decide) rfl (fun ls hl => ?_)
                refine lv_iload hx hb dX3_spreads_71 (lv_at hl 1 rfl) ?_
                refine lv_istore_n (lv' := [(3, .int (nI j_5)), (4, .int (0 + r_30)), (7, .int (nI j_5)), (6, .int 1), (5, .int 0), (0, .ref (b 0)), (1, .int (nI n)), (2, .int (nI k))]) hx hb dX3_spreads_73 rfl hl (by decide) rfl (fun ls hl => ?_)
                refine lv_iinc (v := 1) (lv' := [(5, .int 1), (3, .int (nI j_5)), (4, .int (0 + r_30)), (7, .int (nI j_5)), (6, .int 1), (0, .ref (b 0)), (1, .int (nI n)), (2, .int (nI k))]) hx hb dX3_spreads_74 hl (k := 4) rfl (by decide) (by decide) rfl (fun ls hl => ?_)
                refine lv_iinc (v := 2) (lv' := [(6, .int 2), (5, .int 1), (3, .int (nI j_5)), (4, .int (0 + r_30)), (7, .int (nI j_5)), (0, .ref (b 0)), (1, .int (nI n)), (2, .int (nI k))]) hx hb dX3_spreads_77 hl (k := 4) rfl (by decide) (by decide) rfl (fun ls hl => ?_)
                refine lv_goto (tgt := 11) hx hb dX3_spreads_80 (by decide) ?_
                refine lv_iload hx hb dX3_spreads_11 (lv_at hl 0 rfl) ?_
                refine lv_iconst (v := 3) hx hb dX3_spreads_13 (by decide) ?_
                refine lv_icmp_ge (tgt := 83) hx hb dX3_spreads_14 (by decide) (fun c_31 => ?_) (fun c_31 => ?_)
                · exact absurd c_31 (by decide)
                · refine lv_aload_n hx hb dX3_spreads_17 rfl (lv_at hl 5 rfl) ?_
                  refine va_get (D := G.1) (ci := 2) (v := .ref (b 2)) (C := RX3) (T := TX3) (N := 13) hx hb hts uX3 hown hK hP 0 rfl rfl 3 (by decide) (hts (.fieldLink RX3 13 "ChordOverlayModel" "successor" "[I") (by decide +kernel)) (fun _ h9 => h9) rfl dX3_spreads_18 ?_
                  refine lv_iconst (v := 3) hx hb dX3_spreads_21 (by decide) ?_
                  refine lv_iload_n hx hb dX3_spreads_22 rfl (lv_at hl 6 rfl) ?_
                  refine lv_imul hx hb dX3_spreads_23 ?_
                  refine lv_iload hx hb dX3_spreads_24 (lv_at hl 0 rfl) ?_
                  refine lv_iadd hx hb dX3_spreads_26 ?_
                  refine va_iald hx hb hK hP 2 0 rfl rfl (vi_w (w := 3) (p := 2) (by decide) hn.1 (by decide)) dX3_spreads_27 ?_
                  obtain ⟨j_32, hj_32, ej_32, mj_32⟩ := rl_s hq_30 (Lv.tr hc0_30 hn) 2 (by decide)
                  rw [hc1_30] at ej_32
                  have ej_32 : tat 3 (σ 1) (nI n) 2 = nI j_32 := ej_32
                  refine co_eq mj_32 ?_
                  refine lv_istore (lv' := [(7, .int (nI j_32)), (6, .int 2), (5, .int 1), (3, .int (nI j_5)), (4, .int (0 + r_30)), (0, .ref (b 0)), (1, .int (nI n)), (2, .int (nI k))]) hx hb dX3_spreads_28 hl (by decide) rfl (fun ls hl => ?_)
                  refine lv_aload_n hx hb dX3_spreads_30 rfl (lv_at hl 5 rfl) ?_
                  refine va_get (D := G.1) (ci := 2) (v := .ref (b 1)) (C := RX3) (T := TX3) (N := 13) hx hb hts uX3 hown hK hP 0 rfl rfl 2 (by decide) (hts (.fieldLink RX3 7 "ChordOverlayModel" "lives" "[Z") (by decide +kernel)) (fun _ h9 => h9) rfl dX3_spreads_31 ?_
                  refine lv_iload hx hb dX3_spreads_34 (lv_at hl 0 rfl) ?_
                  refine va_zald hx hb hK hP 1 1 rfl rfl (vi_1 hj_32) dX3_spreads_36 ?_
                  refine co_eq (y := bI (alv (σ 0) (nI j_32))) ((rl_l hq_30 hj_32).trans (by rw [hc0_30])) ?_
                  refine co_ifeq (tgt := 77) S dX3_spreads_37 (by decide) (fun c_33 => ?_) (fun c_33 => ?_)
                  · refine lv_iinc (v := 3) (lv' := [(6, .int 3), (7, .int (nI j_32)), (5, .int 1), (3, .int (nI j_5)), (4, .int (0 + r_30)), (0, .ref (b 0)), (1, .int (nI n)), (2, .int (nI k))]) hx hb dX3_spreads_77 hl (k := 1) rfl (by decide) (by decide) rfl (fun ls hl => ?_)
                    refine lv_goto (tgt := 11) hx hb dX3_spreads_80 (by decide) ?_
                    refine lv_iload hx hb dX3_spreads_11 (lv_at hl 0 rfl) ?_
                    refine lv_iconst (v := 3) hx hb dX3_spreads_13 (by decide) ?_
                    refine lv_icmp_ge (tgt := 83) hx hb dX3_spreads_14 (by decide) (fun c_34 => ?_) (fun c_34 => ?_)
                    · refine lv_iload hx hb dX3_spreads_83 (lv_at hl 4 rfl) ?_
                      exact co_endI u_30 S hr hlocks dX3_spreads_85 hK hP hD hS (by refine ⟨?_, ?_, hk_30⟩; (subst eσ_30; subst hr_30; simp only [chC, ccA, chA, heir, hrS, ej_2, ej_5, ej_32, c_1, c_3, c_4, c_6, c_17, c_29, c_31, c_33, c_34, nI_nem hj_2, nI_nem hj_5, nI_nem hj_32, eq_self, Bool.false_eq_true, ↓reduceIte]); (rw [show chS σ (nI n) (nI k) = σ_30 from by subst eσ_30; subst hr_30; simp only [chS, chA, heir, hrS, ej_2, ej_5, ej_32, c_1, c_3, c_4, c_6, c_17, c_29, c_31, c_33, c_34, nI_nem hj_2, nI_nem hj_5, nI_nem hj_32, eq_self, Bool.false_eq_true, ↓reduceIte]]; exact hq_30))
                    · exact absurd (by decide) c_34
                  · refine lv_iload hx hb dX3_spreads_40 (lv_at hl 0 rfl) ?_
                    refine lv_iload_n hx hb dX3_spreads_42 rfl (lv_at hl 6 rfl) ?_
                    refine lv_icmp_eq (tgt := 77) hx hb dX3_spreads_43 (by decide) (fun c_35 => ?_) (fun c_35 => ?_)
                    · refine lv_iinc (v := 3) (lv' := [(6, .int 3), (7, .int (nI j_32)), (5, .int 1), (3, .int (nI j_5)), (4, .int (0 + r_30)), (0, .ref (b 0)), (1, .int (nI n)), (2, .int (nI k))]) hx hb dX3_spreads_77 hl (k := 1) rfl (by decide) (by decide) rfl (fun ls hl => ?_)
                      refine lv_goto (tgt := 11) hx hb dX3_spreads_80 (by decide) ?_
                      refine lv_iload hx hb dX3_spreads_11 (lv_at hl 0 rfl) ?_
                      refine lv_iconst (v := 3) hx hb dX3_spreads_13 (by decide) ?_
                      refine lv_icmp_ge (tgt := 83) hx hb dX3_spreads_14 (by decide) (fun c_36 => ?_) (fun c_36 => ?_)
                      · refine lv_iload hx hb dX3_spreads_83 (lv_at hl 4 rfl) ?_
                        exact co_endI u_30 S hr hlocks dX3_spreads_85 hK hP hD hS (by refine ⟨?_, ?_, hk_30⟩; (subst eσ_30; subst hr_30; simp only [chC, ccA, chA, heir, hrS, ej_2, ej_5, ej_32, c_1, c_3, c_4, c_6, c_17, c_29, c_31, c_33, (eq_true c_35), c_36, nI_nem hj_2, nI_nem hj_5, nI_nem hj_32, eq_self, Bool.false_eq_true, ↓reduceIte]); (rw [show chS σ (nI n) (nI k) = σ_30 from by subst eσ_30; subst hr_30; simp only [chS, chA, heir, hrS, ej_2, ej_5, ej_32, c_1, c_3, c_4, c_6, c_17, c_29, c_31, c_33, (eq_true c_35), c_36, nI_nem hj_2, nI_nem hj_5, nI_nem hj_32, eq_self, Bool.false_eq_true, ↓reduceIte]]; exact hq_30))
                      · exact absurd (by decide) c_36
                    · refine lv_iload hx hb dX3_spreads_46 (lv_at hl 0 rfl) ?_
                      refine lv_iload_n hx hb dX3_spreads_48 rfl (lv_at hl 3 rfl) ?_
                      refine lv_icmp_eq (tgt := 77) hx hb dX3_spreads_49 (by decide) (fun c_37 => ?_) (fun c_37 => ?_)
                      · refine lv_iinc (v := 3) (lv' := [(6, .int 3), (7, .int (nI j_32)), (5, .int 1), (3, .int (nI j_5)), (4, .int (0 + r_30)), (0, .ref (b 0)), (1, .int (nI n)), (2, .int (nI k))]) hx hb dX3_spreads_77 hl (k := 1) rfl (by decide) (by decide) rfl (fun ls hl => ?_)
                        refine lv_goto (tgt := 11) hx hb dX3_spreads_80 (by decide) ?_
                        refine lv_iload hx hb dX3_spreads_11 (lv_at hl 0 rfl) ?_
                        refine lv_iconst (v := 3) hx hb dX3_spreads_13 (by decide) ?_
                        refine lv_icmp_ge (tgt := 83) hx hb dX3_spreads_14 (by decide) (fun c_38 => ?_) (fun c_38 => ?_)
                        · refine lv_iload hx hb dX3_spreads_83 (lv_at hl 4 rfl) ?_
                          exact co_endI u_30 S hr hlocks dX3_spreads_85 hK hP hD hS (by refine ⟨?_, ?_, hk_30⟩; (subst eσ_30; subst hr_30; simp only [chC, ccA, chA, heir, hrS, ej_2, ej_5, ej_32, c_1, c_3, c_4, c_6, c_17, c_29, c_31, c_33, c_35, (eq_true c_37), c_38, nI_nem hj_2, nI_nem hj_5, nI_nem hj_32, eq_self, Bool.false_eq_true, ↓reduceIte]); (rw [show chS σ (nI n) (nI k) = σ_30 from by subst eσ_30; subst hr_30; simp only [chS, chA, heir, hrS, ej_2, ej_5, ej_32, c_1, c_3, c_4, c_6, c_17, c_29, c_31, c_33, c_35, (eq_true c_37), c_38, nI_nem hj_2, nI_nem hj_5, nI_nem hj_32, eq_self, Bool.false_eq_true, ↓reduceIte]]; exact hq_30))
                        · exact absurd (by decide) c_38
                      · refine lv_iload hx hb dX3_spreads_52 (lv_at hl 2 rfl) ?_
                        refine lv_iconst (v := 2) hx hb dX3_spreads_54 (by decide) ?_
                        refine lv_icmp_ge (tgt := 77) hx hb dX3_spreads_55 (by decide) (fun c_39 => ?_) (fun c_39 => ?_)
                        · exact absurd c_39 (by decide)
                        · refine lv_iload hx hb dX3_spreads_58 (lv_at hl 4 rfl) ?_
                          refine lv_aload_n hx hb dX3_spreads_60 rfl (lv_at hl 5 rfl) ?_
                          refine lv_iload_n hx hb dX3_spreads_61 rfl (lv_at hl 6 rfl) ?_
                          refine lv_iload_n hx hb dX3_spreads_62 rfl (lv_at hl 7 rfl) ?_
                          refine lv_iload hx hb dX3_spreads_63 (lv_at hl 0 rfl) ?_
                          refine co_mVi (As := [.int (nI n), .int (nI k), .int (nI j_32)]) (rest := [.int (0 + r_30)]) S (c_X3_copy l G Z b σ_30 u_30 hq_30 n k j_32 (Lv.tr hc0_30 hn) hk0 (Lv.tr hc0_30 ⟨hj_32, c_33⟩)) (cwV 3 hts gX3_spreads_X3_copy rfl rfl rfl (by decide +kernel) ⟨Nat.le_of_ble_eq_true rfl, Nat.le_of_ble_eq_true rfl⟩) hK hP hD hS hA (va_recv hK hP (ci := 2) (q0 := 0) rfl rfl) rfl hl.1 rfl (Nat.le_of_ble_eq_true rfl) dX3_spreads_65 ⟨Nat.zero_le _, Nat.zero_le _⟩ (fun r_40 u_40 H locs hu_40 hP hD hS => ?_)
                          obtain ⟨hr_40, hq_40, hk_40⟩ := hu_40
                          have hr_40 : r_40 = (gcC σ_30 (nI n) (nI j_32) (nI k)) := hr_40
                          obtain ⟨σ_40, eσ_40⟩ : ∃ z9, z9 = (gcS σ_30 (nI n) (nI j_32) (nI k)) := ⟨_, rfl⟩
                          have hq_40 : Rl Z σ_40 u_40 := (by rw [eσ_40]; exact hq_40)
                          have hc0_40 : σ_40 0 = (σ 0) := (by rw [eσ_40]; exact (gcS_0).trans hc0_30)
                          have hc1_40 : σ_40 1 = (σ 1) := (by rw [eσ_40]; exact (gcS_1).trans hc1_30)
                          have hc2_40 : σ_40 2 = (σ 2) := (by rw [eσ_40]; exact (gcS_2).trans hc2_30)
                          have hc3_40 : σ_40 3 = (σ 3) := (by rw [eσ_40]; exact (gcS_3).trans hc3_30)
                          have hk_40 := Kp.tr hk_30 hk_40
                          have hP : pG G (wM G b u_40) H := hP
                          have hD : va_D A (wM G b u_40) := hD
                          refine lv_iadd hx hb dX3_spreads_68 ?_
                          refine lv_istore (lv' := [(4, .int ((0 + r_30) + r_40)), (7, .int (nI j_32)), (6, .int 2), (5, .int 1), (3, .int (nI j_5)), (0, .ref (b 0)), (1, .int (nI n)), (2, .int (nI k))]) hx hb dX3_spreads_69 hl (by decide) rfl (fun ls hl => ?_)
                          refine lv_iload hx hb dX3_spreads_71 (lv_at hl 1 rfl) ?_
                          refine lv_istore_n (lv' := [(3, .int (nI j_32)), (4, .int ((0 + r_30) + r_40)), (7, .int (nI j_32)), (6, .int 2), (5, .int 1), (0, .ref (b 0)), (1, .int (nI n)), (2, .int (nI k))]) hx hb dX3_spreads_73 rfl hl (by decide) rfl (fun ls hl => ?_)
                          refine lv_iinc (v := 2) (lv' := [(5, .int 2), (3, .int (nI j_32)), (4, .int ((0 + r_30) + r_40)), (7, .int (nI j_32)), (6, .int 2), (0, .ref (b 0)), (1, .int (nI n)), (2, .int (nI k))]) hx hb dX3_spreads_74 hl (k := 4) rfl (by decide) (by decide) rfl (fun ls hl => ?_)
                          refine lv_iinc (v := 3) (lv' := [(6, .int 3), (5, .int 2), (3, .int (nI j_32)), (4, .int ((0 + r_30) + r_40)), (7, .int (nI j_32)), (0, .ref (b 0)), (1, .int (nI n)), (2, .int (nI k))]) hx hb dX3_spreads_77 hl (k := 4) rfl (by decide) (by decide) rfl (fun ls hl => ?_)
                          refine lv_goto (tgt := 11) hx hb dX3_spreads_80 (by decide) ?_
                          refine lv_iload hx hb dX3_spreads_11 (lv_at hl 0 rfl) ?_
                          refine lv_iconst (v := 3) hx hb dX3_spreads_13 (by decide) ?_
                          refine lv_icmp_ge (tgt := 83) hx hb dX3_spreads_14 (by decide) (fun c_41 => ?_) (fun c_41 => ?_)
                          · refine lv_iload hx hb dX3_spreads_83 (lv_at hl 3 rfl) ?_
                            exact co_endI u_40 S hr hlocks dX3_spreads_85 hK hP hD hS (by refine ⟨?_, ?_, hk_40⟩; (subst eσ_40; subst hr_40; subst eσ_30; subst hr_30; simp only [chC, ccA, chA, heir, hrS, ej_2, ej_5, ej_32, c_1, c_3, c_4, c_6, c_17, c_29, c_31, c_33, c_35, c_37, c_39, c_41, nI_nem hj_2, nI_nem hj_5, nI_nem hj_32, eq_self, Bool.false_eq_true, ↓reduceIte]); (rw [show chS σ (nI n) (nI k) = σ_40 from by subst eσ_40; subst hr_40; subst eσ_30; subst hr_30; simp only [chS, chA, heir, hrS, ej_2, ej_5, ej_32, c_1, c_3, c_4, c_6, c_17, c_29, c_31, c_33, c_35, c_37, c_39, c_41, nI_nem hj_2, nI_nem hj_5, nI_nem hj_32, eq_self, Bool.false_eq_true, ↓reduceIte]]; exact hq_40))
                          · exact absurd (by decide) c_41
    · refine lv_iload hx hb dX3_spreads_40 (lv_at hl 0 rfl) ?_
      refine lv_iload_n hx hb dX3_spreads_42 rfl (lv_at hl 6 rfl) ?_
      refine lv_icmp_eq (tgt := 77) hx hb dX3_spreads_43 (by decide) (fun c_42 => ?_) (fun c_42 => ?_)
      · refine lv_iinc (v := 1) (lv' := [(6, .int 1), (7, .int (nI j_2)), (5, .int 0), (4, .int 0), (3, .int (-1)), (0, .ref (b 0)), (1, .int (nI n)), (2, .int (nI k))]) hx hb dX3_spreads_77 hl (k := 1) rfl (by decide) (by decide) rfl (fun ls hl => ?_)
        refine lv_goto (tgt := 11) hx hb dX3_spreads_80 (by decide) ?_
        refine lv_iload hx hb dX3_spreads_11 (lv_at hl 0 rfl) ?_
        refine lv_iconst (v := 3) hx hb dX3_spreads_13 (by decide) ?_
        refine lv_icmp_ge (tgt := 83) hx hb dX3_spreads_14 (by decide) (fun c_43 => ?_) (fun c_43 => ?_)
        · exact absurd c_43 (by decide)
        · refine lv_aload_n hx hb dX3_spreads_17 rfl (lv_at hl 5 rfl) ?_
          refine va_get (D := G.1) (ci := 2) (v := .ref (b 2)) (C := RX3) (T := TX3) (N := 13) hx hb hts uX3 hown hK hP 0 rfl rfl 3 (by decide) (hts (.fieldLink RX3 13 "ChordOverlayModel" "successor" "[I") (by decide +kernel)) (fun _ h9 => h9) rfl dX3_spreads_18 ?_
          refine lv_iconst (v := 3) hx hb dX3_spreads_21 (by decide) ?_
          refine lv_iload_n hx hb dX3_spreads_22 rfl (lv_at hl 6 rfl) ?_
          refine lv_imul hx hb dX3_spreads_23 ?_
          refine lv_iload hx hb dX3_spreads_24 (lv_at hl 0 rfl) ?_
          refine lv_iadd hx hb dX3_spreads_26 ?_
          refine va_iald hx hb hK hP 2 0 rfl rfl (vi_w (w := 3) (p := 1) (by decide) hn.1 (by decide)) dX3_spreads_27 ?_
          obtain ⟨j_44, hj_44, ej_44, mj_44⟩ := rl_s hR hn 1 (by decide)
          have ej_44 : tat 3 (σ 1) (nI n) 1 = nI j_44 := ej_44
          refine co_eq mj_44 ?_
          refine lv_istore (lv' := [(7, .int (nI j_44)), (6, .int 1), (5, .int 0), (4, .int 0), (3, .int (-1)), (0, .ref (b 0)), (1, .int (nI n)), (2, .int (nI k))]) hx hb dX3_spreads_28 hl (by decide) rfl (fun ls hl => ?_)
          refine lv_aload_n hx hb dX3_spreads_30 rfl (lv_at hl 5 rfl) ?_
          refine va_get (D := G.1) (ci := 2) (v := .ref (b 1)) (C := RX3) (T := TX3) (N := 13) hx hb hts uX3 hown hK hP 0 rfl rfl 2 (by decide) (hts (.fieldLink RX3 7 "ChordOverlayModel" "lives" "[Z") (by decide +kernel)) (fun _ h9 => h9) rfl dX3_spreads_31 ?_
          refine lv_iload hx hb dX3_spreads_34 (lv_at hl 0 rfl) ?_
          refine va_zald hx hb hK hP 1 1 rfl rfl (vi_1 hj_44) dX3_spreads_36 ?_
          refine co_eq (y := bI (alv (σ 0) (nI j_44))) (rl_l hR hj_44) ?_
          refine co_ifeq (tgt := 77) S dX3_spreads_37 (by decide) (fun c_45 => ?_) (fun c_45 => ?_)
          · refine lv_iinc (v := 2) (lv' := [(6, .int 2), (7, .int (nI j_44)), (5, .int 0), (4, .int 0), (3, .int (-1)), (0, .ref (b 0)), (1, .int (nI n)), (2, .int (nI k))]) hx hb dX3_spreads_77 hl (k := 1) rfl (by decide) (by decide) rfl (fun ls hl => ?_)
            refine lv_goto (tgt := 11) hx hb dX3_spreads_80 (by decide) ?_
            refine lv_iload hx hb dX3_spreads_11 (lv_at hl 0 rfl) ?_
            refine lv_iconst (v := 3) hx hb dX3_spreads_13 (by decide) ?_
            refine lv_icmp_ge (tgt := 83) hx hb dX3_spreads_14 (by decide) (fun c_46 => ?_) (fun c_46 => ?_)
            · exact absurd c_46 (by decide)
            · refine lv_aload_n hx hb dX3_spreads_17 rfl (lv_at hl 5 rfl) ?_
              refine va_get (D := G.1) (ci := 2) (v := .ref (b 2)) (C := RX3) (T := TX3) (N := 13) hx hb hts uX3 hown hK hP 0 rfl rfl 3 (by decide) (hts (.fieldLink RX3 13 "ChordOverlayModel" "successor" "[I") (by decide +kernel)) (fun _ h9 => h9) rfl dX3_spreads_18 ?_
              refine lv_iconst (v := 3) hx hb dX3_spreads_21 (by decide) ?_
              refine lv_iload_n hx hb dX3_spreads_22 rfl (lv_at hl 6 rfl) ?_
              refine lv_imul hx hb dX3_spreads_23 ?_
              refine lv_iload hx hb dX3_spreads_24 (lv_at hl 0 rfl) ?_
              refine lv_iadd hx hb dX3_spreads_26 ?_
              refine va_iald hx hb hK hP 2 0 rfl rfl (vi_w (w := 3) (p := 2) (by decide) hn.1 (by decide)) dX3_spreads_27 ?_
              obtain ⟨j_47, hj_47, ej_47, mj_47⟩ := rl_s hR hn 2 (by decide)
              have ej_47 : tat 3 (σ 1) (nI n) 2 = nI j_47 := ej_47
              refine co_eq mj_47 ?_
              refine lv_istore (lv' := [(7, .int (nI j_47)), (6, .int 2), (5, .int 0), (4, .int 0), (3, .int (-1)), (0, .ref (b 0)), (1, .int (nI n)), (2, .int (nI k))]) hx hb dX3_spreads_28 hl (by decide) rfl (fun ls hl => ?_)
              refine lv_aload_n hx hb dX3_spreads_30 rfl (lv_at hl 5 rfl) ?_
              refine va_get (D := G.1) (ci := 2) (v := .ref (b 1)) (C := RX3) (T := TX3) (N := 13) hx hb hts uX3 hown hK hP 0 rfl rfl 2 (by decide) (hts (.fieldLink RX3 7 "ChordOverlayModel" "lives" "[Z") (by decide +kernel)) (fun _ h9 => h9) rfl dX3_spreads_31 ?_
              refine lv_iload hx hb dX3_spreads_34 (lv_at hl 0 rfl) ?_
              refine va_zald hx hb hK hP 1 1 rfl rfl (vi_1 hj_47) dX3_spreads_36 ?_
              refine co_eq (y := bI (alv (σ 0) (nI j_47))) (rl_l hR hj_47) ?_
              refine co_ifeq (tgt := 77) S dX3_spreads_37 (by decide) (fun c_48 => ?_) (fun c_48 => ?_)
              · refine lv_iinc (v := 3) (lv' := [(6, .int 3), (7, .int (nI j_47)), (5, .int 0), (4, .int 0), (3, .int (-1)), (0, .ref (b 0)), (1, .int (nI n)), (2, .int (nI k))]) hx hb dX3_spreads_77 hl (k := 1) rfl (by decide) (by decide) rfl (fun ls hl => ?_)
                refine lv_goto (tgt := 11) hx hb dX3_spreads_80 (by decide) ?_
                refine lv_iload hx hb dX3_spreads_11 (lv_at hl 0 rfl) ?_
                refine lv_iconst (v := 3) hx hb dX3_spreads_13 (by decide) ?_
                refine lv_icmp_ge (tgt := 83) hx hb dX3_spreads_14 (by decide) (fun c_49 => ?_) (fun c_49 => ?_)
                · refine lv_iload hx hb dX3_spreads_83 (lv_at hl 3 rfl) ?_
                  exact co_endI μ S hr hlocks dX3_spreads_85 hK hP hD hS (by refine ⟨?_, ?_, Kp.rf⟩; (simp only [chC, ccA, chA, heir, hrS, ej_2, ej_44, ej_47, c_1, c_3, (eq_true c_42), c_43, c_45, c_46, c_48, c_49, nI_nem hj_2, nI_nem hj_44, nI_nem hj_47, eq_self, Bool.false_eq_true, ↓reduceIte]); (rw [show chS σ (nI n) (nI k) = σ from by simp only [chS, chA, heir, hrS, ej_2, ej_44, ej_47, c_1, c_3, (eq_true c_42), c_43, c_45, c_46, c_48, c_49, nI_nem hj_2, nI_nem hj_44, nI_nem hj_47, eq_self, Bool.false_eq_true, ↓reduceIte]]; exact hR))
                · exact absurd (by decide) c_49
              · refine lv_iload hx hb dX3_spreads_40 (lv_at hl 0 rfl) ?_
                refine lv_iload_n hx hb dX3_spreads_42 rfl (lv_at hl 6 rfl) ?_
                refine lv_icmp_eq (tgt := 77) hx hb dX3_spreads_43 (by decide) (fun c_50 => ?_) (fun c_50 => ?_)
                · refine lv_iinc (v := 3) (lv' := [(6, .int 3), (7, .int (nI j_47)), (5, .int 0), (4, .int 0), (3, .int (-1)), (0, .ref (b 0)), (1, .int (nI n)), (2, .int (nI k))]) hx hb dX3_spreads_77 hl (k := 1) rfl (by decide) (by decide) rfl (fun ls hl => ?_)
                  refine lv_goto (tgt := 11) hx hb dX3_spreads_80 (by decide) ?_
                  refine lv_iload hx hb dX3_spreads_11 (lv_at hl 0 rfl) ?_
                  refine lv_iconst (v := 3) hx hb dX3_spreads_13 (by decide) ?_
                  refine lv_icmp_ge (tgt := 83) hx hb dX3_spreads_14 (by decide) (fun c_51 => ?_) (fun c_51 => ?_)
                  · refine lv_iload hx hb dX3_spreads_83 (lv_at hl 3 rfl) ?_
                    exact co_endI μ S hr hlocks dX3_spreads_85 hK hP hD hS (by refine ⟨?_, ?_, Kp.rf⟩; (simp only [chC, ccA, chA, heir, hrS, ej_2, ej_44, ej_47, c_1, c_3, (eq_true c_42), c_43, c_45, c_46, c_48, (eq_true c_50), c_51, nI_nem hj_2, nI_nem hj_44, nI_nem hj_47, eq_self, Bool.false_eq_true, ↓reduceIte]); (rw [show chS σ (nI n) (nI k) = σ from by simp only [chS, chA, heir, hrS, ej_2, ej_44, ej_47, c_1, c_3, (eq_true c_42), c_43, c_45, c_46, c_48, (eq_true c_50), c_51, nI_nem hj_2, nI_nem hj_44, nI_nem hj_47, eq_self, Bool.false_eq_true, ↓reduceIte]]; exact hR))
                  · exact absurd (by decide) c_51
                · refine lv_iload hx hb dX3_spreads_46 (lv_at hl 0 rfl) ?_
                  refine lv_iload_n hx hb dX3_spreads_48 rfl (lv_at hl 4 rfl) ?_
                  refine lv_icmp_eq (tgt := 77) hx hb dX3_spreads_49 (by decide) (fun c_52 => ?_) (fun c_52 => ?_)
                  · exact absurd c_52 (nI_nem hj_47)
                  · refine lv_iload hx hb dX3_spreads_52 (lv_at hl 2 rfl) ?_
                    refine lv_iconst (v := 2) hx hb dX3_spreads_54 (by decide) ?_
                    refine lv_icmp_ge (tgt := 77) hx hb dX3_spreads_55 (by decide) (fun c_53 => ?_) (fun c_53 => ?_)
                    · exact absurd c_53 (by decide)
                    · refine lv_iload hx hb dX3_spreads_58 (lv_at hl 3 rfl) ?_
                      refine lv_aload_n hx hb dX3_spreads_60 rfl (lv_at hl 5 rfl) ?_
                      refine lv_iload_n hx hb dX3_spreads_61 rfl (lv_at hl 6 rfl) ?_
                      refine lv_iload_n hx hb dX3_spreads_62 rfl (lv_at hl 7 rfl) ?_
                      refine lv_iload hx hb dX3_spreads_63 (lv_at hl 0 rfl) ?_
                      refine co_mVi (As := [.int (nI n), .int (nI k), .int (nI j_47)]) (rest := [.int 0]) S (c_X3_copy l G Z b σ μ hR n k j_47 hn hk0 ⟨hj_47, c_48⟩) (cwV 3 hts gX3_spreads_X3_copy rfl rfl rfl (by decide +kernel) ⟨Nat.le_of_ble_eq_true rfl, Nat.le_of_ble_eq_true rfl⟩) hK hP hD hS hA (va_recv hK hP (ci := 2) (q0 := 0) rfl rfl) rfl hl.1 rfl (Nat.le_of_ble_eq_true rfl) dX3_spreads_65 ⟨Nat.zero_le _, Nat.zero_le _⟩ (fun r_54 u_54 H locs hu_54 hP hD hS => ?_)
                      obtain ⟨hr_54, hq_54, hk_54⟩ := hu_54
                      have hr_54 : r_54 = (gcC σ (nI n) (nI j_47) (nI k)) := hr_54
                      obtain ⟨σ_54, eσ_54⟩ : ∃ z9, z9 = (gcS σ (nI n) (nI j_47) (nI k)) := ⟨_, rfl⟩
                      have hq_54 : Rl Z σ_54 u_54 := (by rw [eσ_54]; exact hq_54)
                      have hc0_54 : σ_54 0 = (σ 0) := (by rw [eσ_54]; exact gcS_0)
                      have hc1_54 : σ_54 1 = (σ 1) := (by rw [eσ_54]; exact gcS_1)
                      have hc2_54 : σ_54 2 = (σ 2) := (by rw [eσ_54]; exact gcS_2)
                      have hc3_54 : σ_54 3 = (σ 3) := (by rw [eσ_54]; exact gcS_3)
                      have hP : pG G (wM G b u_54) H := hP
                      have hD : va_D A (wM G b u_54) := hD
                      refine lv_iadd hx hb dX3_spreads_68 ?_
                      refine lv_istore (lv' := [(4, .int (0 + r_54)), (7, .int (nI j_47)), (6, .int 2), (5, .int 0), (3, .int (-1)), (0, .ref (b 0)), (1, .int (nI n)), (2, .int (nI k))]) hx hb dX3_spreads_69 hl (by decide) rfl (fun ls hl => ?_)
                      refine lv_iload hx hb dX3_spreads_71 (lv_at hl 1 rfl) ?_
                      refine lv_istore_n (lv' := [(3, .int (nI j_47)), (4, .int (0 + r_54)), (7, .int (nI j_47)), (6, .int 2), (5, .int 0), (0, .ref (b 0)), (1, .int (nI n)), (2, .int (nI k))]) hx hb dX3_spreads_73 rfl hl (by decide) rfl (fun ls hl => ?_)
                      refine lv_iinc (v := 1) (lv' := [(5, .int 1), (3, .int (nI j_47)), (4, .int (0 + r_54)), (7, .int (nI j_47)), (6, .int 2), (0, .ref (b 0)), (1, .int (nI n)), (2, .int (nI k))]) hx hb dX3_spreads_74 hl (k := 4) rfl (by decide) (by decide) rfl (fun ls hl => ?_)
                      refine lv_iinc (v := 3) (lv' := [(6, .int 3), (5, .int 1), (3, .int (nI j_47)), (4, .int (0 + r_54)), (7, .int (nI j_47)), (0, .ref (b 0)), (1, .int (nI n)), (2, .int (nI k))]) hx hb dX3_spreads_77 hl (k := 4) rfl (by decide) (by decide) rfl (fun ls hl => ?_)
                      refine lv_goto (tgt := 11) hx hb dX3_spreads_80 (by decide) ?_
                      refine lv_iload hx hb dX3_spreads_11 (lv_at hl 0 rfl) ?_
                      refine lv_iconst (v := 3) hx hb dX3_spreads_13 (by decide) ?_
                      refine lv_icmp_ge (tgt := 83) hx hb dX3_spreads_14 (by decide) (fun c_55 => ?_) (fun c_55 => ?_)
                      · refine lv_iload hx hb dX3_spreads_83 (lv_at hl 3 rfl) ?_
                        exact co_endI u_54 S hr hlocks dX3_spreads_85 hK hP hD hS (by refine ⟨?_, ?_, hk_54⟩; (subst eσ_54; subst hr_54; simp only [chC, ccA, chA, heir, hrS, ej_2, ej_44, ej_47, c_1, c_3, (eq_true c_42), c_43, c_45, c_46, c_48, c_50, c_53, c_55, nI_nem hj_2, nI_nem hj_44, nI_nem hj_47, eq_self, Bool.false_eq_true, ↓reduceIte]); (rw [show chS σ (nI n) (nI k) = σ_54 from by subst eσ_54; subst hr_54; simp only [chS, chA, heir, hrS, ej_2, ej_44, ej_47, c_1, c_3, (eq_true c_42), c_43, c_45, c_46, c_48, c_50, c_53, c_55, nI_nem hj_2, nI_nem hj_44, nI_nem hj_47, eq_self, Bool.false_eq_true, ↓reduceIte]]; exact hq_54))
                      · exact absurd (by decide) c_55
          · refine lv_iload hx hb dX3_spreads_40 (lv_at hl 0 rfl) ?_
            refine lv_iload_n hx hb dX3_spreads_42 rfl (lv_at hl 6 rfl) ?_
            refine lv_icmp_eq (tgt := 77) hx hb dX3_spreads_43 (by decide) (fun c_56 => ?_) (fun c_56 => ?_)
            · refine lv_iinc (v := 2) (lv' := [(6, .int 2), (7, .int (nI j_44)), (5, .int 0), (4, .int 0), (3, .int (-1)), (0, .ref (b 0)), (1, .int (nI n)), (2, .int (nI k))]) hx hb dX3_spreads_77 hl (k := 1) rfl (by decide) (by decide) rfl (fun ls hl => ?_)
              refine lv_goto (tgt := 11) hx hb dX3_spreads_80 (by decide) ?_
              refine lv_iload hx hb dX3_spreads_11 (lv_at hl 0 rfl) ?_
              refine lv_iconst (v := 3) hx hb dX3_spreads_13 (by decide) ?_
              refine lv_icmp_ge (tgt := 83) hx hb dX3_spreads_14 (by decide) (fun c_57 => ?_) (fun c_57 => ?_)
              · exact absurd c_57 (by decide)
              · refine lv_aload_n hx hb dX3_spreads_17 rfl (lv_at hl 5 rfl) ?_
                refine va_get (D := G.1) (ci := 2) (v := .ref (b 2)) (C := RX3) (T := TX3) (N := 13) hx hb hts uX3 hown hK hP 0 rfl rfl 3 (by decide) (hts (.fieldLink RX3 13 "ChordOverlayModel" "successor" "[I") (by decide +kernel)) (fun _ h9 => h9) rfl dX3_spreads_18 ?_
                refine lv_iconst (v := 3) hx hb dX3_spreads_21 (by decide) ?_
                refine lv_iload_n hx hb dX3_spreads_22 rfl (lv_at hl 6 rfl) ?_
                refine lv_imul hx hb dX3_spreads_23 ?_
                refine lv_iload hx hb dX3_spreads_24 (lv_at hl 0 rfl) ?_
                refine lv_iadd hx hb dX3_spreads_26 ?_
                refine va_iald hx hb hK hP 2 0 rfl rfl (vi_w (w := 3) (p := 2) (by decide) hn.1 (by decide)) dX3_spreads_27 ?_
                obtain ⟨j_58, hj_58, ej_58, mj_58⟩ := rl_s hR hn 2 (by decide)
                have ej_58 : tat 3 (σ 1) (nI n) 2 = nI j_58 := ej_58
                refine co_eq mj_58 ?_
                refine lv_istore (lv' := [(7, .int (nI j_58)), (6, .int 2), (5, .int 0), (4, .int 0), (3, .int (-1)), (0, .ref (b 0)), (1, .int (nI n)), (2, .int (nI k))]) hx hb dX3_spreads_28 hl (by decide) rfl (fun ls hl => ?_)
                refine lv_aload_n hx hb dX3_spreads_30 rfl (lv_at hl 5 rfl) ?_
                refine va_get (D := G.1) (ci := 2) (v := .ref (b 1)) (C := RX3) (T := TX3) (N := 13) hx hb hts uX3 hown hK hP 0 rfl rfl 2 (by decide) (hts (.fieldLink RX3 7 "ChordOverlayModel" "lives" "[Z") (by decide +kernel)) (fun _ h9 => h9) rfl dX3_spreads_31 ?_
                refine lv_iload hx hb dX3_spreads_34 (lv_at hl 0 rfl) ?_
                refine va_zald hx hb hK hP 1 1 rfl rfl (vi_1 hj_58) dX3_spreads_36 ?_
                refine co_eq (y := bI (alv (σ 0) (nI j_58))) (rl_l hR hj_58) ?_
                refine co_ifeq (tgt := 77) S dX3_spreads_37 (by decide) (fun c_59 => ?_) (fun c_59 => ?_)
                · refine lv_iinc (v := 3) (lv' := [(6, .int 3), (7, .int (nI j_58)), (5, .int 0), (4, .int 0), (3, .int (-1)), (0, .ref (b 0)), (1, .int (nI n)), (2, .int (nI k))]) hx hb dX3_spreads_77 hl (k := 1) rfl (by decide) (by decide) rfl (fun ls hl => ?_)
                  refine lv_goto (tgt := 11) hx hb dX3_spreads_80 (by decide) ?_
                  refine lv_iload hx hb dX3_spreads_11 (lv_at hl 0 rfl) ?_
                  refine lv_iconst (v := 3) hx hb dX3_spreads_13 (by decide) ?_
                  refine lv_icmp_ge (tgt := 83) hx hb dX3_spreads_14 (by decide) (fun c_60 => ?_) (fun c_60 => ?_)
                  · refine lv_iload hx hb dX3_spreads_83 (lv_at hl 3 rfl) ?_
                    exact co_endI μ S hr hlocks dX3_spreads_85 hK hP hD hS (by refine ⟨?_, ?_, Kp.rf⟩; (simp only [chC, ccA, chA, heir, hrS, ej_2, ej_44, ej_58, c_1, c_3, (eq_true c_42), c_43, c_45, (eq_true c_56), c_57, c_59, c_60, nI_nem hj_2, nI_nem hj_44, nI_nem hj_58, eq_self, Bool.false_eq_true, ↓reduceIte]); (rw [show chS σ (nI n) (nI k) = σ from by simp only [chS, chA, heir, hrS, ej_2, ej_44, ej_58, c_1, c_3, (eq_true c_42), c_43, c_45, (eq_true c_56), c_57, c_59, c_60, nI_nem hj_2, nI_nem hj_44, nI_nem hj_58, eq_self, Bool.false_eq_true, ↓reduceIte]]; exact hR))
                  · exact absurd (by decide) c_60
                · refine lv_iload hx hb dX3_spreads_40 (lv_at hl 0 rfl) ?_
                  refine lv_iload_n hx hb dX3_spreads_42 rfl (lv_at hl 6 rfl) ?_
                  refine lv_icmp_eq (tgt := 77) hx hb dX3_spreads_43 (by decide) (fun c_61 => ?_) (fun c_61 => ?_)
                  · refine lv_iinc (v := 3) (lv' := [(6, .int 3), (7, .int (nI j_58)), (5, .int 0), (4, .int 0), (3, .int (-1)), (0, .ref (b 0)), (1, .int (nI n)), (2, .int (nI k))]) hx hb dX3_spreads_77 hl (k := 1) rfl (by decide) (by decide) rfl (fun ls hl => ?_)
                    refine lv_goto (tgt := 11) hx hb dX3_spreads_80 (by decide) ?_
                    refine lv_iload hx hb dX3_spreads_11 (lv_at hl 0 rfl) ?_
                    refine lv_iconst (v := 3) hx hb dX3_spreads_13 (by decide) ?_
                    refine lv_icmp_ge (tgt := 83) hx hb dX3_spreads_14 (by decide) (fun c_62 => ?_) (fun c_62 => ?_)
                    · refine lv_iload hx hb dX3_spreads_83 (lv_at hl 3 rfl) ?_
                      exact co_endI μ S hr hlocks dX3_spreads_85 hK hP hD hS (by refine ⟨?_, ?_, Kp.rf⟩; (simp only [chC, ccA, chA, heir, hrS, ej_2, ej_44, ej_58, c_1, c_3, (eq_true c_42), c_43, c_45, (eq_true c_56), c_57, c_59, (eq_true c_61), c_62, nI_nem hj_2, nI_nem hj_44, nI_nem hj_58, eq_self, Bool.false_eq_true, ↓reduceIte]); (rw [show chS σ (nI n) (nI k) = σ from by simp only [chS, chA, heir, hrS, ej_2, ej_44, ej_58, c_1, c_3, (eq_true c_42), c_43, c_45, (eq_true c_56), c_57, c_59, (eq_true c_61), c_62, nI_nem hj_2, nI_nem hj_44, nI_nem hj_58, eq_self, Bool.false_eq_true, ↓reduceIte]]; exact hR))
                    · exact absurd (by decide) c_62
                  · refine lv_iload hx hb dX3_spreads_46 (lv_at hl 0 rfl) ?_
                    refine lv_iload_n hx hb dX3_spreads_48 rfl (lv_at hl 4 rfl) ?_
                    refine lv_icmp_eq (tgt := 77) hx hb dX3_spreads_49 (by decide) (fun c_63 => ?_) (fun c_63 => ?_)
                    · exact absurd c_63 (nI_nem hj_58)
                    · refine lv_iload hx hb dX3_spreads_52 (lv_at hl 2 rfl) ?_
                      refine lv_iconst (v := 2) hx hb dX3_spreads_54 (by decide) ?_
                      refine lv_icmp_ge (tgt := 77) hx hb dX3_spreads_55 (by decide) (fun c_64 => ?_) (fun c_64 => ?_)
                      · exact absurd c_64 (by decide)
                      · refine lv_iload hx hb dX3_spreads_58 (lv_at hl 3 rfl) ?_
                        refine lv_aload_n hx hb dX3_spreads_60 rfl (lv_at hl 5 rfl) ?_
                        refine lv_iload_n hx hb dX3_spreads_61 rfl (lv_at hl 6 rfl) ?_
                        refine lv_iload_n hx hb dX3_spreads_62 rfl (lv_at hl 7 rfl) ?_
                        refine lv_iload hx hb dX3_spreads_63 (lv_at hl 0 rfl) ?_
                        refine co_mVi (As := [.int (nI n), .int (nI k), .int (nI j_58)]) (rest := [.int 0]) S (c_X3_copy l G Z b σ μ hR n k j_58 hn hk0 ⟨hj_58, c_59⟩) (cwV 3 hts gX3_spreads_X3_copy rfl rfl rfl (by decide +kernel) ⟨Nat.le_of_ble_eq_true rfl, Nat.le_of_ble_eq_true rfl⟩) hK hP hD hS hA (va_recv hK hP (ci := 2) (q0 := 0) rfl rfl) rfl hl.1 rfl (Nat.le_of_ble_eq_true rfl) dX3_spreads_65 ⟨Nat.zero_le _, Nat.zero_le _⟩ (fun r_65 u_65 H locs hu_65 hP hD hS => ?_)
                        obtain ⟨hr_65, hq_65, hk_65⟩ := hu_65
                        have hr_65 : r_65 = (gcC σ (nI n) (nI j_58) (nI k)) := hr_65
                        obtain ⟨σ_65, eσ_65⟩ : ∃ z9, z9 = (gcS σ (nI n) (nI j_58) (nI k)) := ⟨_, rfl⟩
                        have hq_65 : Rl Z σ_65 u_65 := (by rw [eσ_65]; exact hq_65)
                        have hc0_65 : σ_65 0 = (σ 0) := (by rw [eσ_65]; exact gcS_0)
                        have hc1_65 : σ_65 1 = (σ 1) := (by rw [eσ_65]; exact gcS_1)
                        have hc2_65 : σ_65 2 = (σ 2) := (by rw [eσ_65]; exact gcS_2)
                        have hc3_65 : σ_65 3 = (σ 3) := (by rw [eσ_65]; exact gcS_3)
                        have hP : pG G (wM G b u_65) H := hP
                        have hD : va_D A (wM G b u_65) := hD
                        refine lv_iadd hx hb dX3_spreads_68 ?_
                        refine lv_istore (lv' := [(4, .int (0 + r_65)), (7, .int (nI j_58)), (6, .int 2), (5, .int 0), (3, .int (-1)), (0, .ref (b 0)), (1, .int (nI n)), (2, .int (nI k))]) hx hb dX3_spreads_69 hl (by decide) rfl (fun ls hl => ?_)
                        refine lv_iload hx hb dX3_spreads_71 (lv_at hl 1 rfl) ?_
                        refine lv_istore_n (lv' := [(3, .int (nI j_58)), (4, .int (0 + r_65)), (7, .int (nI j_58)), (6, .int 2), (5, .int 0), (0, .ref (b 0)), (1, .int (nI n)), (2, .int (nI k))]) hx hb dX3_spreads_73 rfl hl (by decide) rfl (fun ls hl => ?_)
                        refine lv_iinc (v := 1) (lv' := [(5, .int 1), (3, .int (nI j_58)), (4, .int (0 + r_65)), (7, .int (nI j_58)), (6, .int 2), (0, .ref (b 0)), (1, .int (nI n)), (2, .int (nI k))]) hx hb dX3_spreads_74 hl (k := 4) rfl (by decide) (by decide) rfl (fun ls hl => ?_)
                        refine lv_iinc (v := 3) (lv' := [(6, .int 3), (5, .int 1), (3, .int (nI j_58)), (4, .int (0 + r_65)), (7, .int (nI j_58)), (0, .ref (b 0)), (1, .int (nI n)), (2, .int (nI k))]) hx hb dX3_spreads_77 hl (k := 4) rfl (by decide) (by decide) rfl (fun ls hl => ?_)
                        refine lv_goto (tgt := 11) hx hb dX3_spreads_80 (by decide) ?_
                        refine lv_iload hx hb dX3_spreads_11 (lv_at hl 0 rfl) ?_
                        refine lv_iconst (v := 3) hx hb dX3_spreads_13 (by decide) ?_
                        refine lv_icmp_ge (tgt := 83) hx hb dX3_spreads_14 (by decide) (fun c_66 => ?_) (fun c_66 => ?_)
                        · refine lv_iload hx hb dX3_spreads_83 (lv_at hl 3 rfl) ?_
                          exact co_endI u_65 S hr hlocks dX3_spreads_85 hK hP hD hS (by refine ⟨?_, ?_, hk_65⟩; (subst eσ_65; subst hr_65; simp only [chC, ccA, chA, heir, hrS, ej_2, ej_44, ej_58, c_1, c_3, (eq_true c_42), c_43, c_45, (eq_true c_56), c_57, c_59, c_61, c_64, c_66, nI_nem hj_2, nI_nem hj_44, nI_nem hj_58, eq_self, Bool.false_eq_true, ↓reduceIte]); (rw [show chS σ (nI n) (nI k) = σ_65 from by subst eσ_65; subst hr_65; simp only [chS, chA, heir, hrS, ej_2, ej_44, ej_58, c_1, c_3, (eq_true c_42), c_43, c_45, (eq_true c_56), c_57, c_59, c_61, c_64, c_66, nI_nem hj_2, nI_nem hj_44, nI_nem hj_58, eq_self, Bool.false_eq_true, ↓reduceIte]]; exact hq_65))
                        · exact absurd (by decide) c_66
            · refine lv_iload hx hb dX3_spreads_46 (lv_at hl 0 rfl) ?_
              refine lv_iload_n hx hb dX3_spreads_48 rfl (lv_at hl 4 rfl) ?_
              refine lv_icmp_eq (tgt := 77) hx hb dX3_spreads_49 (by decide) (fun c_67 => ?_) (fun c_67 => ?_)
              · exact absurd c_67 (nI_nem hj_44)
              · refine lv_iload hx hb dX3_spreads_52 (lv_at hl 2 rfl) ?_
                refine lv_iconst (v := 2) hx hb dX3_spreads_54 (by decide) ?_
                refine lv_icmp_ge (tgt := 77) hx hb dX3_spreads_55 (by decide) (fun c_68 => ?_) (fun c_68 => ?_)
                · exact absurd c_68 (by decide)
                · refine lv_iload hx hb dX3_spreads_58 (lv_at hl 3 rfl) ?_
                  refine lv_aload_n hx hb dX3_spreads_60 rfl (lv_at hl 5 rfl) ?_
                  refine lv_iload_n hx hb dX3_spreads_61 rfl (lv_at hl 6 rfl) ?_
                  refine lv_iload_n hx hb dX3_spreads_62 rfl (lv_at hl 7 rfl) ?_
                  refine lv_iload hx hb dX3_spreads_63 (lv_at hl 0 rfl) ?_
                  refine co_mVi (As := [.int (nI n), .int (nI k), .int (nI j_44)]) (rest := [.int 0]) S (c_X3_copy l G Z b σ μ hR n k j_44 hn hk0 ⟨hj_44, c_45⟩) (cwV 3 hts gX3_spreads_X3_copy rfl rfl rfl (by decide +kernel) ⟨Nat.le_of_ble_eq_true rfl, Nat.le_of_ble_eq_true rfl⟩) hK hP hD hS hA (va_recv hK hP (ci := 2) (q0 := 0) rfl rfl) rfl hl.1 rfl (Nat.le_of_ble_eq_true rfl) dX3_spreads_65 ⟨Nat.zero_le _, Nat.zero_le _⟩ (fun r_69 u_69 H locs hu_69 hP hD hS => ?_)
                  obtain ⟨hr_69, hq_69, hk_69⟩ := hu_69
                  have hr_69 : r_69 = (gcC σ (nI n) (nI j_44) (nI k)) := hr_69
                  obtain ⟨σ_69, eσ_69⟩ : ∃ z9, z9 = (gcS σ (nI n) (nI j_44) (nI k)) := ⟨_, rfl⟩
                  have hq_69 : Rl Z σ_69 u_69 := (by rw [eσ_69]; exact hq_69)
                  have hc0_69 : σ_69 0 = (σ 0) := (by rw [eσ_69]; exact gcS_0)
                  have hc1_69 : σ_69 1 = (σ 1) := (by rw [eσ_69]; exact gcS_1)
                  have hc2_69 : σ_69 2 = (σ 2) := (by rw [eσ_69]; exact gcS_2)
                  have hc3_69 : σ_69 3 = (σ 3) := (by rw [eσ_69]; exact gcS_3)
                  have hP : pG G (wM G b u_69) H := hP
                  have hD : va_D A (wM G b u_69) := hD
                  refine lv_iadd hx hb dX3_spreads_68 ?_
                  refine lv_istore (lv' := [(4, .int (0 + r_69)), (7, .int (nI j_44)), (6, .int 1), (5, .int 0), (3, .int (-1)), (0, .ref (b 0)), (1, .int (nI n)), (2, .int (nI k))]) hx hb dX3_spreads_69 hl (by decide) rfl (fun ls hl => ?_)
                  refine lv_iload hx hb dX3_spreads_71 (lv_at hl 1 rfl) ?_
                  refine lv_istore_n (lv' := [(3, .int (nI j_44)), (4, .int (0 + r_69)), (7, .int (nI j_44)), (6, .int 1), (5, .int 0), (0, .ref (b 0)), (1, .int (nI n)), (2, .int (nI k))]) hx hb dX3_spreads_73 rfl hl (by decide) rfl (fun ls hl => ?_)
                  refine lv_iinc (v := 1) (lv' := [(5, .int 1), (3, .int (nI j_44)), (4, .int (0 + r_69)), (7, .int (nI j_44)), (6, .int 1), (0, .ref (b 0)), (1, .int (nI n)), (2, .int (nI k))]) hx hb dX3_spreads_74 hl (k := 4) rfl (by decide) (by decide) rfl (fun ls hl => ?_)
                  refine lv_iinc (v := 2) (lv' := [(6, .int 2), (5, .int 1), (3, .int (nI j_44)), (4, .int (0 + r_69)), (7, .int (nI j_44)), (0, .ref (b 0)), (1, .int (nI n)), (2, .int (nI k))]) hx hb dX3_spreads_77 hl (k := 4) rfl (by decide) (by decide) rfl (fun ls hl => ?_)
                  refine lv_goto (tgt := 11) hx hb dX3_spreads_80 (by decide) ?_
                  refine lv_iload hx hb dX3_spreads_11 (lv_at hl 0 rfl) ?_
                  refine lv_iconst (v := 3) hx hb dX3_spreads_13 (by decide) ?_
                  refine lv_icmp_ge (tgt := 83) hx hb dX3_spreads_14 (by decide) (fun c_70 => ?_) (fun c_70 => ?_)
                  · exact absurd c_70 (by decide)
                  · refine lv_aload_n hx hb dX3_spreads_17 rfl (lv_at hl 5 rfl) ?_
                    refine va_get (D := G.1) (ci := 2) (v := .ref (b 2)) (C := RX3) (T := TX3) (N := 13) hx hb hts uX3 hown hK hP 0 rfl rfl 3 (by decide) (hts (.fieldLink RX3 13 "ChordOverlayModel" "successor" "[I") (by decide +kernel)) (fun _ h9 => h9) rfl dX3_spreads_18 ?_
                    refine lv_iconst (v := 3) hx hb dX3_spreads_21 (by decide) ?_
                    refine lv_iload_n hx hb dX3_spreads_22 rfl (lv_at hl 6 rfl) ?_
                    refine lv_imul hx hb dX3_spreads_23 ?_
                    refine lv_iload hx hb dX3_spreads_24 (lv_at hl 0 rfl) ?_
                    refine lv_iadd hx hb dX3_spreads_26 ?_
                    refine va_iald hx hb hK hP 2 0 rfl rfl (vi_w (w := 3) (p := 2) (by decide) hn.1 (by decide)) dX3_spreads_27 ?_
                    obtain ⟨j_71, hj_71, ej_71, mj_71⟩ := rl_s hq_69 (Lv.tr hc0_69 hn) 2 (by decide)
                    rw [hc1_69] at ej_71
                    have ej_71 : tat 3 (σ 1) (nI n) 2 = nI j_71 := ej_71
                    refine co_eq mj_71 ?_
                    refine lv_istore (lv' := [(7, .int (nI j_71)), (6, .int 2), (5, .int 1), (3, .int (nI j_44)), (4, .int (0 + r_69)), (0, .ref (b 0)), (1, .int (nI n)), (2, .int (nI k))]) hx hb dX3_spreads_28 hl (by decide) rfl (fun ls hl => ?_)
                    refine lv_aload_n hx hb dX3_spreads_30 rfl (lv_at hl 5 rfl) ?_
                    refine va_get (D := G.1) (ci := 2) (v := .ref (b 1)) (C := RX3) (T := TX3) (N := 13) hx hb hts uX3 hown hK hP 0 rfl rfl 2 (by decide) (hts (.fieldLink RX3 7 "ChordOverlayModel" "lives" "[Z") (by decide +kernel)) (fun _ h9 => h9) rfl dX3_spreads_31 ?_
                    refine lv_iload hx hb dX3_spreads_34 (lv_at hl 0 rfl) ?_
                    refine va_zald hx hb hK hP 1 1 rfl rfl (vi_1 hj_71) dX3_spreads_36 ?_
                    refine co_eq (y := bI (alv (σ 0) (nI j_71))) ((rl_l hq_69 hj_71).trans (by rw [hc0_69])) ?_
                    refine co_ifeq (tgt := 77) S dX3_spreads_37 (by decide) (fun c_72 => ?_) (fun c_72 => ?_)
                    · refine lv_iinc (v := 3) (lv' := [(6, .int 3), (7, .int (nI j_71)), (5, .int 1), (3, .int (nI j_44)), (4, .int (0 + r_69)), (0, .ref (b 0)), (1, .int (nI n)), (2, .int (nI k))]) hx hb dX3_spreads_77 hl (k := 1) rfl (by decide) (by decide) rfl (fun ls hl => ?_)
                      refine lv_goto (tgt := 11) hx hb dX3_spreads_80 (by decide) ?_
                      refine lv_iload hx hb dX3_spreads_11 (lv_at hl 0 rfl) ?_
                      refine lv_iconst (v := 3) hx hb dX3_spreads_13 (by decide) ?_
                      refine lv_icmp_ge (tgt := 83) hx hb dX3_spreads_14 (by decide) (fun c_73 => ?_) (fun c_73 => ?_)
                      · refine lv_iload hx hb dX3_spreads_83 (lv_at hl 4 rfl) ?_
                        exact co_endI u_69 S hr hlocks dX3_spreads_85 hK hP hD hS (by refine ⟨?_, ?_, hk_69⟩; (subst eσ_69; subst hr_69; simp only [chC, ccA, chA, heir, hrS, ej_2, ej_44, ej_71, c_1, c_3, (eq_true c_42), c_43, c_45, c_56, c_68, c_70, c_72, c_73, nI_nem hj_2, nI_nem hj_44, nI_nem hj_71, eq_self, Bool.false_eq_true, ↓reduceIte]); (rw [show chS σ (nI n) (nI k) = σ_69 from by subst eσ_69; subst hr_69; simp only [chS, chA, heir, hrS, ej_2, ej_44, ej_71, c_1, c_3, (eq_true c_42), c_43, c_45, c_56, c_68, c_70, c_72, c_73, nI_nem hj_2, nI_nem hj_44, nI_nem hj_71, eq_self, Bool.false_eq_true, ↓reduceIte]]; exact hq_69))
                      · exact absurd (by decide) c_73
                    · refine lv_iload hx hb dX3_spreads_40 (lv_at hl 0 rfl) ?_
                      refine lv_iload_n hx hb dX3_spreads_42 rfl (lv_at hl 6 rfl) ?_
                      refine lv_icmp_eq (tgt := 77) hx hb dX3_spreads_43 (by decide) (fun c_74 => ?_) (fun c_74 => ?_)
                      · refine lv_iinc (v := 3) (lv' := [(6, .int 3), (7, .int (nI j_71)), (5, .int 1), (3, .int (nI j_44)), (4, .int (0 + r_69)), (0, .ref (b 0)), (1, .int (nI n)), (2, .int (nI k))]) hx hb dX3_spreads_77 hl (k := 1) rfl (by decide) (by decide) rfl (fun ls hl => ?_)
                        refine lv_goto (tgt := 11) hx hb dX3_spreads_80 (by decide) ?_
                        refine lv_iload hx hb dX3_spreads_11 (lv_at hl 0 rfl) ?_
                        refine lv_iconst (v := 3) hx hb dX3_spreads_13 (by decide) ?_
                        refine lv_icmp_ge (tgt := 83) hx hb dX3_spreads_14 (by decide) (fun c_75 => ?_) (fun c_75 => ?_)
                        · refine lv_iload hx hb dX3_spreads_83 (lv_at hl 4 rfl) ?_
                          exact co_endI u_69 S hr hlocks dX3_spreads_85 hK hP hD hS (by refine ⟨?_, ?_, hk_69⟩; (subst eσ_69; subst hr_69; simp only [chC, ccA, chA, heir, hrS, ej_2, ej_44, ej_71, c_1, c_3, (eq_true c_42), c_43, c_45, c_56, c_68, c_70, c_72, (eq_true c_74), c_75, nI_nem hj_2, nI_nem hj_44, nI_nem hj_71, eq_self, Bool.false_eq_true, ↓reduceIte]); (rw [show chS σ (nI n) (nI k) = σ_69 from by subst eσ_69; subst hr_69; simp only [chS, chA, heir, hrS, ej_2, ej_44, ej_71, c_1, c_3, (eq_true c_42), c_43, c_45, c_56, c_68, c_70, c_72, (eq_true c_74), c_75, nI_nem hj_2, nI_nem hj_44, nI_nem hj_71, eq_self, Bool.false_eq_true, ↓reduceIte]]; exact hq_69))
                        · exact absurd (by decide) c_75
                      · refine lv_iload hx hb dX3_spreads_46 (lv_at hl 0 rfl) ?_
                        refine lv_iload_n hx hb dX3_spreads_48 rfl (lv_at hl 3 rfl) ?_
                        refine lv_icmp_eq (tgt := 77) hx hb dX3_spreads_49 (by decide) (fun c_76 => ?_) (fun c_76 => ?_)
                        · refine lv_iinc (v := 3) (lv' := [(6, .int 3), (7, .int (nI j_71)), (5, .int 1), (3, .int (nI j_44)), (4, .int (0 + r_69)), (0, .ref (b 0)), (1, .int (nI n)), (2, .int (nI k))]) hx hb dX3_spreads_77 hl (k := 1) rfl (by decide) (by decide) rfl (fun ls hl => ?_)
                          refine lv_goto (tgt := 11) hx hb dX3_spreads_80 (by decide) ?_
                          refine lv_iload hx hb dX3_spreads_11 (lv_at hl 0 rfl) ?_
                          refine lv_iconst (v := 3) hx hb dX3_spreads_13 (by decide) ?_
                          refine lv_icmp_ge (tgt := 83) hx hb dX3_spreads_14 (by decide) (fun c_77 => ?_) (fun c_77 => ?_)
                          · refine lv_iload hx hb dX3_spreads_83 (lv_at hl 4 rfl) ?_
                            exact co_endI u_69 S hr hlocks dX3_spreads_85 hK hP hD hS (by refine ⟨?_, ?_, hk_69⟩; (subst eσ_69; subst hr_69; simp only [chC, ccA, chA, heir, hrS, ej_2, ej_44, ej_71, c_1, c_3, (eq_true c_42), c_43, c_45, c_56, c_68, c_70, c_72, c_74, (eq_true c_76), c_77, nI_nem hj_2, nI_nem hj_44, nI_nem hj_71, eq_self, Bool.false_eq_true, ↓reduceIte]); (rw [show chS σ (nI n) (nI k) = σ_69 from by subst eσ_69; subst hr_69; simp only [chS, chA, heir, hrS, ej_2, ej_44, ej_71, c_1, c_3, (eq_true c_42), c_43, c_45, c_56, c_68, c_70, c_72, c_74, (eq_true c_76), c_77, nI_nem hj_2, nI_nem hj_44, nI_nem hj_71, eq_self, Bool.false_eq_true, ↓reduceIte]]; exact hq_69))
                          · exact absurd (by decide) c_77
                        · refine lv_iload hx hb dX3_spreads_52 (lv_at hl 2 rfl) ?_
                          refine lv_iconst (v := 2) hx hb dX3_spreads_54 (by decide) ?_
                          refine lv_icmp_ge (tgt := 77) hx hb dX3_spreads_55 (by decide) (fun c_78 => ?_) (fun c_78 => ?_)
                          · exact absurd c_78 (by decide)
                          · refine lv_iload hx hb dX3_spreads_58 (lv_at hl 4 rfl) ?_
                            refine lv_aload_n hx hb dX3_spreads_60 rfl (lv_at hl 5 rfl) ?_
                            refine lv_iload_n hx hb dX3_spreads_61 rfl (lv_at hl 6 rfl) ?_
                            refine lv_iload_n hx hb dX3_spreads_62 rfl (lv_at hl 7 rfl) ?_
                            refine lv_iload hx hb dX3_spreads_63 (lv_at hl 0 rfl) ?_
                            refine co_mVi (As := [.int (nI n), .int (nI k), .int (nI j_71)]) (rest := [.int (0 + r_69)]) S (c_X3_copy l G Z b σ_69 u_69 hq_69 n k j_71 (Lv.tr hc0_69 hn) hk0 (Lv.tr hc0_69 ⟨hj_71, c_72⟩)) (cwV 3 hts gX3_spreads_X3_copy rfl rfl rfl (by decide +kernel) ⟨Nat.le_of_ble_eq_true rfl, Nat.le_of_ble_eq_true rfl⟩) hK hP hD hS hA (va_recv hK hP (ci := 2) (q0 := 0) rfl rfl) rfl hl.1 rfl (Nat.le_of_ble_eq_true rfl) dX3_spreads_65 ⟨Nat.zero_le _, Nat.zero_le _⟩ (fun r_79 u_79 H locs hu_79 hP hD hS => ?_)
                            obtain ⟨hr_79, hq_79, hk_79⟩ := hu_79
                            have hr_79 : r_79 = (gcC σ_69 (nI n) (nI j_71) (nI k)) := hr_79
                            obtain ⟨σ_79, eσ_79⟩ : ∃ z9, z9 = (gcS σ_69 (nI n) (nI j_71) (nI k)) := ⟨_, rfl⟩
                            have hq_79 : Rl Z σ_79 u_79 := (by rw [eσ_79]; exact hq_79)
                            have hc0_79 : σ_79 0 = (σ 0) := (by rw [eσ_79]; exact (gcS_0).trans hc0_69)
                            have hc1_79 : σ_79 1 = (σ 1) := (by rw [eσ_79]; exact (gcS_1).trans hc1_69)
                            have hc2_79 : σ_79 2 = (σ 2) := (by rw [eσ_79]; exact (gcS_2).trans hc2_69)
                            have hc3_79 : σ_79 3 = (σ 3) := (by rw [eσ_79]; exact (gcS_3).trans hc3_69)
                            have hk_79 := Kp.tr hk_69 hk_79
                            have hP : pG G (wM G b u_79) H := hP
                            have hD : va_D A (wM G b u_79) := hD
                            refine lv_iadd hx hb dX3_spreads_68 ?_
                            refine lv_istore (lv' := [(4, .int ((0 + r_69) + r_79)), (7, .int (nI j_71)), (6, .int 2), (5, .int 1), (3, .int (nI j_44)), (0, .ref (b 0)), (1, .int (nI n)), (2, .int (nI k))]) hx hb dX3_spreads_69 hl (by decide) rfl (fun ls hl => ?_)
                            refine lv_iload hx hb dX3_spreads_71 (lv_at hl 1 rfl) ?_
                            refine lv_istore_n (lv' := [(3, .int (nI j_71)), (4, .int ((0 + r_69) + r_79)), (7, .int (nI j_71)), (6, .int 2), (5, .int 1), (0, .ref (b 0)), (1, .int (nI n)), (2, .int (nI k))]) hx hb dX3_spreads_73 rfl hl (by decide) rfl (fun ls hl => ?_)
                            refine lv_iinc (v := 2) (lv' := [(5, .int 2), (3, .int (nI j_71)), (4, .int ((0 + r_69) + r_79)), (7, .int (nI j_71)), (6, .int 2), (0, .ref (b 0)), (1, .int (nI n)), (2, .int (nI k))]) hx hb dX3_spreads_74 hl (k := 4) rfl (by decide) (by decide) rfl (fun ls hl => ?_)
                            refine lv_iinc (v := 3) (lv' := [(6, .int 3), (5, .int 2), (3, .int (nI j_71)), (4, .int ((0 + r_69) + r_79)), (7, .int (nI j_71)), (0, .ref (b 0)), (1, .int (nI n)), (2, .int (nI k))]) hx hb dX3_spreads_77 hl (k := 4) rfl (by decide) (by decide) rfl (fun ls hl => ?_)
                            refine lv_goto (tgt := 11) hx hb dX3_spreads_80 (by decide) ?_
                            refine lv_iload hx hb dX3_spreads_11 (lv_at hl 0 rfl) ?_
                            refine lv_iconst (v := 3) hx hb dX3_spreads_13 (by decide) ?_
                            refine lv_icmp_ge (tgt := 83) hx hb dX3_spreads_14 (by decide) (fun c_80 => ?_) (fun c_80 => ?_)
                            · refine lv_iload hx hb dX3_spreads_83 (lv_at hl 3 rfl) ?_
                              exact co_endI u_79 S hr hlocks dX3_spreads_85 hK hP hD hS (by refine ⟨?_, ?_, hk_79⟩; (subst eσ_79; subst hr_79; subst eσ_69; subst hr_69; simp only [chC, ccA, chA, heir, hrS, ej_2, ej_44, ej_71, c_1, c_3, (eq_true c_42), c_43, c_45, c_56, c_68, c_70, c_72, c_74, c_76, c_78, c_80, nI_nem hj_2, nI_nem hj_44, nI_nem hj_71, eq_self, Bool.false_eq_true, ↓reduceIte]); (rw [show chS σ (nI n) (nI k) = σ_79 from by subst eσ_79; subst hr_79; subst eσ_69; subst hr_69; simp only [chS, chA, heir, hrS, ej_2, ej_44, ej_71, c_1, c_3, (eq_true c_42), c_43, c_45, c_56, c_68, c_70, c_72, c_74, c_76, c_78, c_80, nI_nem hj_2, nI_nem hj_44, nI_nem hj_71, eq_self, Bool.false_eq_true, ↓reduceIte]]; exact hq_79))
                            · exact absurd (by decide) c_80
      · refine lv_iload hx hb dX3_spreads_46 (lv_at hl 0 rfl) ?_
        refine lv_iload_n hx hb dX3_spreads_48 rfl (lv_at hl 4 rfl) ?_
        refine lv_icmp_eq (tgt := 77) hx hb dX3_spreads_49 (by decide) (fun c_81 => ?_) (fun c_81 => ?_)
        · exact absurd c_81 (nI_nem hj_2)
        · refine lv_iload hx hb dX3_spreads_52 (lv_at hl 2 rfl) ?_
          refine lv_iconst (v := 2) hx hb dX3_spreads_54 (by decide) ?_
          refine lv_icmp_ge (tgt := 77) hx hb dX3_spreads_55 (by decide) (fun c_82 => ?_) (fun c_82 => ?_)
          · exact absurd c_82 (by decide)
          · refine lv_iload hx hb dX3_spreads_58 (lv_at hl 3 rfl) ?_
            refine lv_aload_n hx hb dX3_spreads_60 rfl (lv_at hl 5 rfl) ?_
            refine lv_iload_n hx hb dX3_spreads_61 rfl (lv_at hl 6 rfl) ?_
            refine lv_iload_n hx hb dX3_spreads_62 rfl (lv_at hl 7 rfl) ?_
            refine lv_iload hx hb dX3_spreads_63 (lv_at hl 0 rfl) ?_
            refine co_mVi (As := [.int (nI n), .int (nI k), .int (nI j_2)]) (rest := [.int 0]) S (c_X3_copy l G Z b σ μ hR n k j_2 hn hk0 ⟨hj_2, c_3⟩) (cwV 3 hts gX3_spreads_X3_copy rfl rfl rfl (by decide +kernel) ⟨Nat.le_of_ble_eq_true rfl, Nat.le_of_ble_eq_true rfl⟩) hK hP hD hS hA (va_recv hK hP (ci := 2) (q0 := 0) rfl rfl) rfl hl.1 rfl (Nat.le_of_ble_eq_true rfl) dX3_spreads_65 ⟨Nat.zero_le _, Nat.zero_le _⟩ (fun r_83 u_83 H locs hu_83 hP hD hS => ?_)
            obtain ⟨hr_83, hq_83, hk_83⟩ := hu_83
            have hr_83 : r_83 = (gcC σ (nI n) (nI j_2) (nI k)) := hr_83
            obtain ⟨σ_83, eσ_83⟩ : ∃ z9, z9 = (gcS σ (nI n) (nI j_2) (nI k)) := ⟨_, rfl⟩
            have hq_83 : Rl Z σ_83 u_83 := (by rw [eσ_83]; exact hq_83)
            have hc0_83 : σ_83 0 = (σ 0) := (by rw [eσ_83]; exact gcS_0)
            have hc1_83 : σ_83 1 = (σ 1) := (by rw [eσ_83]; exact gcS_1)
            have hc2_83 : σ_83 2 = (σ 2) := (by rw [eσ_83]; exact gcS_2)
            have hc3_83 : σ_83 3 = (σ 3) := (by rw [eσ_83]; exact gcS_3)
            have hP : pG G (wM G b u_83) H := hP
            have hD : va_D A (wM G b u_83) := hD
            refine lv_iadd hx hb dX3_spreads_68 ?_
            refine lv_istore (lv' := [(4, .int (0 + r_83)), (7, .int (nI j_2)), (6, .int 0), (5, .int 0), (3, .int (-1)), (0, .ref (b 0)), (1, .int (nI n)), (2, .int (nI k))]) hx hb dX3_spreads_69 hl (by decide) rfl (fun ls hl => ?_)
            refine lv_iload hx hb dX3_spreads_71 (lv_at hl 1 rfl) ?_
            refine lv_istore_n (lv' := [(3, .int (nI j_2)), (4, .int (0 + r_83)), (7, .int (nI j_2)), (6, .int 0), (5, .int 0), (0, .ref (b 0)), (1, .int (nI n)), (2, .int (nI k))]) hx hb dX3_spreads_73 rfl hl (by decide) rfl (fun ls hl => ?_)
            refine lv_iinc (v := 1) (lv' := [(5, .int 1), (3, .int (nI j_2)), (4, .int (0 + r_83)), (7, .int (nI j_2)), (6, .int 0), (0, .ref (b 0)), (1, .int (nI n)), (2, .int (nI k))]) hx hb dX3_spreads_74 hl (k := 4) rfl (by decide) (by decide) rfl (fun ls hl => ?_)
            refine lv_iinc (v := 1) (lv' := [(6, .int 1), (5, .int 1), (3, .int (nI j_2)), (4, .int (0 + r_83)), (7, .int (nI j_2)), (0, .ref (b 0)), (1, .int (nI n)), (2, .int (nI k))]) hx hb dX3_spreads_77 hl (k := 4) rfl (by decide) (by decide) rfl (fun ls hl => ?_)
            refine lv_goto (tgt := 11) hx hb dX3_spreads_80 (by decide) ?_
            refine lv_iload hx hb dX3_spreads_11 (lv_at hl 0 rfl) ?_
            refine lv_iconst (v := 3) hx hb dX3_spreads_13 (by decide) ?_
            refine lv_icmp_ge (tgt := 83) hx hb dX3_spreads_14 (by decide) (fun c_84 => ?_) (fun c_84 => ?_)
            · exact absurd c_84 (by decide)
            · refine lv_aload_n hx hb dX3_spreads_17 rfl (lv_at hl 5 rfl) ?_
              refine va_get (D := G.1) (ci := 2) (v := .ref (b 2)) (C := RX3) (T := TX3) (N := 13) hx hb hts uX3 hown hK hP 0 rfl rfl 3 (by decide) (hts (.fieldLink RX3 13 "ChordOverlayModel" "successor" "[I") (by decide +kernel)) (fun _ h9 => h9) rfl dX3_spreads_18 ?_
              refine lv_iconst (v := 3) hx hb dX3_spreads_21 (by decide) ?_
              refine lv_iload_n hx hb dX3_spreads_22 rfl (lv_at hl 6 rfl) ?_
              refine lv_imul hx hb dX3_spreads_23 ?_
              refine lv_iload hx hb dX3_spreads_24 (lv_at hl 0 rfl) ?_
              refine lv_iadd hx hb dX3_spreads_26 ?_
              refine va_iald hx hb hK hP 2 0 rfl rfl (vi_w (w := 3) (p := 1) (by decide) hn.1 (by decide)) dX3_spreads_27 ?_
              obtain ⟨j_85, hj_85, ej_85, mj_85⟩ := rl_s hq_83 (Lv.tr hc0_83 hn) 1 (by decide)
              rw [hc1_83] at ej_85
              have ej_85 : tat 3 (σ 1) (nI n) 1 = nI j_85 := ej_85
              refine co_eq mj_85 ?_
              refine lv_istore (lv' := [(7, .int (nI j_85)), (6, .int 1), (5, .int 1), (3, .int (nI j_2)), (4, .int (0 + r_83)), (0, .ref (b 0)), (1, .int (nI n)), (2, .int (nI k))]) hx hb dX3_spreads_28 hl (by decide) rfl (fun ls hl => ?_)
              refine lv_aload_n hx hb dX3_spreads_30 rfl (lv_at hl 5 rfl) ?_
              refine va_get (D := G.1) (ci := 2) (v := .ref (b 1)) (C := RX3) (T := TX3) (N := 13) hx hb hts uX3 hown hK hP 0 rfl rfl 2 (by decide) (hts (.fieldLink RX3 7 "ChordOverlayModel" "lives" "[Z") (by decide +kernel)) (fun _ h9 => h9) rfl dX3_spreads_31 ?_
              refine lv_iload hx hb dX3_spreads_34 (lv_at hl 0 rfl) ?_
              refine va_zald hx hb hK hP 1 1 rfl rfl (vi_1 hj_85) dX3_spreads_36 ?_
              refine co_eq (y := bI (alv (σ 0) (nI j_85))) ((rl_l hq_83 hj_85).trans (by rw [hc0_83])) ?_
              refine co_ifeq (tgt := 77) S dX3_spreads_37 (by decide) (fun c_86 => ?_) (fun c_86 => ?_)
              · refine lv_iinc (v := 2) (lv' := [(6, .int 2), (7, .int (nI j_85)), (5, .int 1), (3, .int (nI j_2)), (4, .int (0 + r_83)), (0, .ref (b 0)), (1, .int (nI n)), (2, .int (nI k))]) hx hb dX3_spreads_77 hl (k := 1) rfl (by decide) (by decide) rfl (fun ls hl => ?_)
                refine lv_goto (tgt := 11) hx hb dX3_spreads_80 (by decide) ?_
                refine lv_iload hx hb dX3_spreads_11 (lv_at hl 0 rfl) ?_
                refine lv_iconst (v := 3) hx hb dX3_spreads_13 (by decide) ?_
                refine lv_icmp_ge (tgt := 83) hx hb dX3_spreads_14 (by decide) (fun c_87 => ?_) (fun c_87 => ?_)
                · exact absurd c_87 (by decide)
                · refine lv_aload_n hx hb dX3_spreads_17 rfl (lv_at hl 5 rfl) ?_
                  refine va_get (D := G.1) (ci := 2) (v := .ref (b 2)) (C := RX3) (T := TX3) (N := 13) hx hb hts uX3 hown hK hP 0 rfl rfl 3 (by decide) (hts (.fieldLink RX3 13 "ChordOverlayModel" "successor" "[I") (by decide +kernel)) (fun _ h9 => h9) rfl dX3_spreads_18 ?_
                  refine lv_iconst (v := 3) hx hb dX3_spreads_21 (by decide) ?_
                  refine lv_iload_n hx hb dX3_spreads_22 rfl (lv_at hl 6 rfl) ?_
                  refine lv_imul hx hb dX3_spreads_23 ?_
                  refine lv_iload hx hb dX3_spreads_24 (lv_at hl 0 rfl) ?_
                  refine lv_iadd hx hb dX3_spreads_26 ?_
                  refine va_iald hx hb hK hP 2 0 rfl rfl (vi_w (w := 3) (p := 2) (by decide) hn.1 (by decide)) dX3_spreads_27 ?_
                  obtain ⟨j_88, hj_88, ej_88, mj_88⟩ := rl_s hq_83 (Lv.tr hc0_83 hn) 2 (by decide)
                  rw [hc1_83] at ej_88
                  have ej_88 : tat 3 (σ 1) (nI n) 2 = nI j_88 := ej_88
                  refine co_eq mj_88 ?_
                  refine lv_istore (lv' := [(7, .int (nI j_88)), (6, .int 2), (5, .int 1), (3, .int (nI j_2)), (4, .int (0 + r_83)), (0, .ref (b 0)), (1, .int (nI n)), (2, .int (nI k))]) hx hb dX3_spreads_28 hl (by decide) rfl (fun ls hl => ?_)
                  refine lv_aload_n hx hb dX3_spreads_30 rfl (lv_at hl 5 rfl) ?_
                  refine va_get (D := G.1) (ci := 2) (v := .ref (b 1)) (C := RX3) (T := TX3) (N := 13) hx hb hts uX3 hown hK hP 0 rfl rfl 2 (by decide) (hts (.fieldLink RX3 7 "ChordOverlayModel" "lives" "[Z") (by decide +kernel)) (fun _ h9 => h9) rfl dX3_spreads_31 ?_
                  refine lv_iload hx hb dX3_spreads_34 (lv_at hl 0 rfl) ?_
                  refine va_zald hx hb hK hP 1 1 rfl rfl (vi_1 hj_88) dX3_spreads_36 ?_
                  refine co_eq (y := bI (alv (σ 0) (nI j_88))) ((rl_l hq_83 hj_88).trans (by rw [hc0_83])) ?_
                  refine co_ifeq (tgt := 77) S dX3_spreads_37 (by decide) (fun c_89 => ?_) (fun c_89 => ?_)
                  · refine lv_iinc (v := 3) (lv' := [(6, .int 3), (7, .int (nI j_88)), (5, .int 1), (3, .int (nI j_2)), (4, .int (0 + r_83)), (0, .ref (b 0)), (1, .int (nI n)), (2, .int (nI k))]) hx hb dX3_spreads_77 hl (k := 1) rfl (by decide) (by decide) rfl (fun ls hl => ?_)
                    refine lv_goto (tgt := 11) hx hb dX3_spreads_80 (by decide) ?_
                    refine lv_iload hx hb dX3_spreads_11 (lv_at hl 0 rfl) ?_
                    refine lv_iconst (v := 3) hx hb dX3_spreads_13 (by decide) ?_
                    refine lv_icmp_ge (tgt := 83) hx hb dX3_spreads_14 (by decide) (fun c_90 => ?_) (fun c_90 => ?_)
                    · refine lv_iload hx hb dX3_spreads_83 (lv_at hl 4 rfl) ?_
                      exact co_endI u_83 S hr hlocks dX3_spreads_85 hK hP hD hS (by refine ⟨?_, ?_, hk_83⟩; (subst eσ_83; subst hr_83; simp only [chC, ccA, chA, heir, hrS, ej_2, ej_85, ej_88, c_1, c_3, c_42, c_82, c_84, c_86, c_87, c_89, c_90, nI_nem hj_2, nI_nem hj_85, nI_nem hj_88, eq_self, Bool.false_eq_true, ↓reduceIte]); (rw [show chS σ (nI n) (nI k) = σ_83 from by subst eσ_83; subst hr_83; simp only [chS, chA, heir, hrS, ej_2, ej_85, ej_88, c_1, c_3, c_42, c_82, c_84, c_86, c_87, c_89, c_90, nI_nem hj_2, nI_nem hj_85, nI_nem hj_88, eq_self, Bool.false_eq_true, ↓reduceIte]]; exact hq_83))
                    · exact absurd (by decide) c_90
                  · refine lv_iload hx hb dX3_spreads_40 (lv_at hl 0 rfl) ?_
                    refine lv_iload_n hx hb dX3_spreads_42 rfl (lv_at hl 6 rfl) ?_
                    refine lv_icmp_eq (tgt := 77) hx hb dX3_spreads_43 (by decide) (fun c_91 => ?_) (fun c_91 => ?_)
                    · refine lv_iinc (v := 3) (lv' := [(6, .int 3), (7, .int (nI j_88)), (5, .int 1), (3, .int (nI j_2)), (4, .int (0 + r_83)), (0, .ref (b 0)), (1, .int (nI n)), (2, .int (nI k))]) hx hb dX3_spreads_77 hl (k := 1) rfl (by decide) (by decide) rfl (fun ls hl => ?_)
                      refine lv_goto (tgt := 11) hx hb dX3_spreads_80 (by decide) ?_
                      refine lv_iload hx hb dX3_spreads_11 (lv_at hl 0 rfl) ?_
                      refine lv_iconst (v := 3) hx hb dX3_spreads_13 (by decide) ?_
                      refine lv_icmp_ge (tgt := 83) hx hb dX3_spreads_14 (by decide) (fun c_92 => ?_) (fun c_92 => ?_)
                      · refine lv_iload hx hb dX3_spreads_83 (lv_at hl 4 rfl) ?_
                        exact co_endI u_83 S hr hlocks dX3_spreads_85 hK hP hD hS (by refine ⟨?_, ?_, hk_83⟩; (subst eσ_83; subst hr_83; simp only [chC, ccA, chA, heir, hrS, ej_2, ej_85, ej_88, c_1, c_3, c_42, c_82, c_84, c_86, c_87, c_89, (eq_true c_91), c_92, nI_nem hj_2, nI_nem hj_85, nI_nem hj_88, eq_self, Bool.false_eq_true, ↓reduceIte]); (rw [show chS σ (nI n) (nI k) = σ_83 from by subst eσ_83; subst hr_83; simp only [chS, chA, heir, hrS, ej_2, ej_85, ej_88, c_1, c_3, c_42, c_82, c_84, c_86, c_87, c_89, (eq_true c_91), c_92, nI_nem hj_2, nI_nem hj_85, nI_nem hj_88, eq_self, Bool.false_eq_true, ↓reduceIte]]; exact hq_83))
                      · exact absurd (by decide) c_92
                    · refine lv_iload hx hb dX3_spreads_46 (lv_at hl 0 rfl) ?_
                      refine lv_iload_n hx hb dX3_spreads_48 rfl (lv_at hl 3 rfl) ?_
                      refine lv_icmp_eq (tgt := 77) hx hb dX3_spreads_49 (by decide) (fun c_93 => ?_) (fun c_93 => ?_)
                      · refine lv_iinc (v := 3) (lv' := [(6, .int 3), (7, .int (nI j_88)), (5, .int 1), (3, .int (nI j_2)), (4, .int (0 + r_83)), (0, .ref (b 0)), (1, .int (nI n)), (2, .int (nI k))]) hx hb dX3_spreads_77 hl (k := 1) rfl (by decide) (by decide) rfl (fun ls hl => ?_)
                        refine lv_goto (tgt := 11) hx hb dX3_spreads_80 (by decide) ?_
                        refine lv_iload hx hb dX3_spreads_11 (lv_at hl 0 rfl) ?_
                        refine lv_iconst (v := 3) hx hb dX3_spreads_13 (by decide) ?_
                        refine lv_icmp_ge (tgt := 83) hx hb dX3_spreads_14 (by decide) (fun c_94 => ?_) (fun c_94 => ?_)
                        · refine lv_iload hx hb dX3_spreads_83 (lv_at hl 4 rfl) ?_
                          exact co_endI u_83 S hr hlocks dX3_spreads_85 hK hP hD hS (by refine ⟨?_, ?_, hk_83⟩; (subst eσ_83; subst hr_83; simp only [chC, ccA, chA, heir, hrS, ej_2, ej_85, ej_88, c_1, c_3, c_42, c_82, c_84, c_86, c_87, c_89, c_91, (eq_true c_93), c_94, nI_nem hj_2, nI_nem hj_85, nI_nem hj_88, eq_self, Bool.false_eq_true, ↓reduceIte]); (rw [show chS σ (nI n) (nI k) = σ_83 from by subst eσ_83; subst hr_83; simp only [chS, chA, heir, hrS, ej_2, ej_85, ej_88, c_1, c_3, c_42, c_82, c_84, c_86, c_87, c_89, c_91, (eq_true c_93), c_94, nI_nem hj_2, nI_nem hj_85, nI_nem hj_88, eq_self, Bool.false_eq_true, ↓reduceIte]]; exact hq_83))
                        · exact absurd (by decide) c_94
                      · refine lv_iload hx hb dX3_spreads_52 (lv_at hl 2 rfl) ?_
                        refine lv_iconst (v := 2) hx hb dX3_spreads_54 (by decide) ?_
                        refine lv_icmp_ge (tgt := 77) hx hb dX3_spreads_55 (by decide) (fun c_95 => ?_) (fun c_95 => ?_)
                        · exact absurd c_95 (by decide)
                        · refine lv_iload hx hb dX3_spreads_58 (lv_at hl 4 rfl) ?_
                          refine lv_aload_n hx hb dX3_spreads_60 rfl (lv_at hl 5 rfl) ?_
                          refine lv_iload_n hx hb dX3_spreads_61 rfl (lv_at hl 6 rfl) ?_
                          refine lv_iload_n hx hb dX3_spreads_62 rfl (lv_at hl 7 rfl) ?_
                          refine lv_iload hx hb dX3_spreads_63 (lv_at hl 0 rfl) ?_
                          refine co_mVi (As := [.int (nI n), .int (nI k), .int (nI j_88)]) (rest := [.int (0 + r_83)]) S (c_X3_copy l G Z b σ_83 u_83 hq_83 n k j_88 (Lv.tr hc0_83 hn) hk0 (Lv.tr hc0_83 ⟨hj_88, c_89⟩)) (cwV 3 hts gX3_spreads_X3_copy rfl rfl rfl (by decide +kernel) ⟨Nat.le_of_ble_eq_true rfl, Nat.le_of_ble_eq_true rfl⟩) hK hP hD hS hA (va_recv hK hP (ci := 2) (q0 := 0) rfl rfl) rfl hl.1 rfl (Nat.le_of_ble_eq_true rfl) dX3_spreads_65 ⟨Nat.zero_le _, Nat.zero_le _⟩ (fun r_96 u_96 H locs hu_96 hP hD hS => ?_)
                          obtain ⟨hr_96, hq_96, hk_96⟩ := hu_96
                          have hr_96 : r_96 = (gcC σ_83 (nI n) (nI j_88) (nI k)) := hr_96
                          obtain ⟨σ_96, eσ_96⟩ : ∃ z9, z9 = (gcS σ_83 (nI n) (nI j_88) (nI k)) := ⟨_, rfl⟩
                          have hq_96 : Rl Z σ_96 u_96 := (by rw [eσ_96]; exact hq_96)
                          have hc0_96 : σ_96 0 = (σ 0) := (by rw [eσ_96]; exact (gcS_0).trans hc0_83)
                          have hc1_96 : σ_96 1 = (σ 1) := (by rw [eσ_96]; exact (gcS_1).trans hc1_83)
                          have hc2_96 : σ_96 2 = (σ 2) := (by rw [eσ_96]; exact (gcS_2).trans hc2_83)
                          have hc3_96 : σ_96 3 = (σ 3) := (by rw [eσ_96]; exact (gcS_3).trans hc3_83)
                          have hk_96 := Kp.tr hk_83 hk_96
                          have hP : pG G (wM G b u_96) H := hP
                          have hD : va_D A (wM G b u_96) := hD
                          refine lv_iadd hx hb dX3_spreads_68 ?_
                          refine lv_istore (lv' := [(4, .int ((0 + r_83) + r_96)), (7, .int (nI j_88)), (6, .int 2), (5, .int 1), (3, .int (nI j_2)), (0, .ref (b 0)), (1, .int (nI n)), (2, .int (nI k))]) hx hb dX3_spreads_69 hl (by decide) rfl (fun ls hl => ?_)
                          refine lv_iload hx hb dX3_spreads_71 (lv_at hl 1 rfl) ?_
                          refine lv_istore_n (lv' := [(3, .int (nI j_88)), (4, .int ((0 + r_83) + r_96)), (7, .int (nI j_88)), (6, .int 2), (5, .int 1), (0, .ref (b 0)), (1, .int (nI n)), (2, .int (nI k))]) hx hb dX3_spreads_73 rfl hl (by decide) rfl (fun ls hl => ?_)
                          refine lv_iinc (v := 2) (lv' := [(5, .int 2), (3, .int (nI j_88)), (4, .int ((0 + r_83) + r_96)), (7, .int (nI j_88)), (6, .int 2), (0, .ref (b 0)), (1, .int (nI n)), (2, .int (nI k))]) hx hb dX3_spreads_74 hl (k := 4) rfl (by decide) (by decide) rfl (fun ls hl => ?_)
                          refine lv_iinc (v := 3) (lv' := [(6, .int 3), (5, .int 2), (3, .int (nI j_88)), (4, .int ((0 + r_83) + r_96)), (7, .int (nI j_88)), (0, .ref (b 0)), (1, .int (nI n)), (2, .int (nI k))]) hx hb dX3_spreads_77 hl (k := 4) rfl (by decide) (by decide) rfl (fun ls hl => ?_)
                          refine lv_goto (tgt := 11) hx hb dX3_spreads_80 (by decide) ?_
                          refine lv_iload hx hb dX3_spreads_11 (lv_at hl 0 rfl) ?_
                          refine lv_iconst (v := 3) hx hb dX3_spreads_13 (by decide) ?_
                          refine lv_icmp_ge (tgt := 83) hx hb dX3_spreads_14 (by decide) (fun c_97 => ?_) (fun c_97 => ?_)
                          · refine lv_iload hx hb dX3_spreads_83 (lv_at hl 3 rfl) ?_
                            exact co_endI u_96 S hr hlocks dX3_spreads_85 hK hP hD hS (by refine ⟨?_, ?_, hk_96⟩; (subst eσ_96; subst hr_96; subst eσ_83; subst hr_83; simp only [chC, ccA, chA, heir, hrS, ej_2, ej_85, ej_88, c_1, c_3, c_42, c_82, c_84, c_86, c_87, c_89, c_91, c_93, c_95, c_97, nI_nem hj_2, nI_nem hj_85, nI_nem hj_88, eq_self, Bool.false_eq_true, ↓reduceIte]); (rw [show chS σ (nI n) (nI k) = σ_96 from by subst eσ_96; subst hr_96; subst eσ_83; subst hr_83; simp only [chS, chA, heir, hrS, ej_2, ej_85, ej_88, c_1, c_3, c_42, c_82, c_84, c_86, c_87, c_89, c_91, c_93, c_95, c_97, nI_nem hj_2, nI_nem hj_85, nI_nem hj_88, eq_self, Bool.false_eq_true, ↓reduceIte]]; exact hq_96))
                          · exact absurd (by decide) c_97
              · refine lv_iload hx hb dX3_spreads_40 (lv_at hl 0 rfl) ?_
                refine lv_iload_n hx hb dX3_spreads_42 rfl (lv_at hl 6 rfl) ?_
                refine lv_icmp_eq (tgt := 77) hx hb dX3_spreads_43 (by decide) (fun c_98 => ?_) (fun c_98 => ?_)
                · refine lv_iinc (v := 2) (lv' := [(6, .int 2), (7, .int (nI j_85)), (5, .int 1), (3, .int (nI j_2)), (4, .int (0 + r_83)), (0, .ref (b 0)), (1, .int (nI n)), (2, .int (nI k))]) hx hb dX3_spreads_77 hl (k := 1) rfl (by decide) (by decide) rfl (fun ls hl => ?_)
                  refine lv_goto (tgt := 11) hx hb dX3_spreads_80 (by decide) ?_
                  refine lv_iload hx hb dX3_spreads_11 (lv_at hl 0 rfl) ?_
                  refine lv_iconst (v := 3) hx hb dX3_spreads_13 (by decide) ?_
                  refine lv_icmp_ge (tgt := 83) hx hb dX3_spreads_14 (by decide) (fun c_99 => ?_) (fun c_99 => ?_)
                  · exact absurd c_99 (by decide)
                  · refine lv_aload_n hx hb dX3_spreads_17 rfl (lv_at hl 5 rfl) ?_
                    refine va_get (D := G.1) (ci := 2) (v := .ref (b 2)) (C := RX3) (T := TX3) (N := 13) hx hb hts uX3 hown hK hP 0 rfl rfl 3 (by decide) (hts (.fieldLink RX3 13 "ChordOverlayModel" "successor" "[I") (by decide +kernel)) (fun _ h9 => h9) rfl dX3_spreads_18 ?_
                    refine lv_iconst (v := 3) hx hb dX3_spreads_21 (by decide) ?_
                    refine lv_iload_n hx hb dX3_spreads_22 rfl (lv_at hl 6 rfl) ?_
                    refine lv_imul hx hb dX3_spreads_23 ?_
                    refine lv_iload hx hb dX3_spreads_24 (lv_at hl 0 rfl) ?_
                    refine lv_iadd hx hb dX3_spreads_26 ?_
                    refine va_iald hx hb hK hP 2 0 rfl rfl (vi_w (w := 3) (p := 2) (by decide) hn.1 (by decide)) dX3_spreads_27 ?_
                    obtain ⟨j_100, hj_100, ej_100, mj_100⟩ := rl_s hq_83 (Lv.tr hc0_83 hn) 2 (by decide)
                    rw [hc1_83] at ej_100
                    have ej_100 : tat 3 (σ 1) (nI n) 2 = nI j_100 := ej_100
                    refine co_eq mj_100 ?_
                    refine lv_istore (lv' := [(7, .int (nI j_100)), (6, .int 2), (5, .int 1), (3, .int (nI j_2)), (4, .int (0 + r_83)), (0, .ref (b 0)), (1, .int (nI n)), (2, .int (nI k))]) hx hb dX3_spreads_28 hl (by decide) rfl (fun ls hl => ?_)
                    refine lv_aload_n hx hb dX3_spreads_30 rfl (lv_at hl 5 rfl) ?_
                    refine va_get (D := G.1) (ci := 2) (v := .ref (b 1)) (C := RX3) (T := TX3) (N := 13) hx hb hts uX3 hown hK hP 0 rfl rfl 2 (by decide) (hts (.fieldLink RX3 7 "ChordOverlayModel" "lives" "[Z") (by decide +kernel)) (fun _ h9 => h9) rfl dX3_spreads_31 ?_
                    refine lv_iload hx hb dX3_spreads_34 (lv_at hl 0 rfl) ?_
                    refine va_zald hx hb hK hP 1 1 rfl rfl (vi_1 hj_100) dX3_spreads_36 ?_
                    refine co_eq (y := bI (alv (σ 0) (nI j_100))) ((rl_l hq_83 hj_100).trans (by rw [hc0_83])) ?_
                    refine co_ifeq (tgt := 77) S dX3_spreads_37 (by decide) (fun c_101 => ?_) (fun c_101 => ?_)
                    · refine lv_iinc (v := 3) (lv' := [(6, .int 3), (7, .int (nI j_100)), (5, .int 1), (3, .int (nI j_2)), (4, .int (0 + r_83)), (0, .ref (b 0)), (1, .int (nI n)), (2, .int (nI k))]) hx hb dX3_spreads_77 hl (k := 1) rfl (by decide) (by decide) rfl (fun ls hl => ?_)
                      refine lv_goto (tgt := 11) hx hb dX3_spreads_80 (by decide) ?_
                      refine lv_iload hx hb dX3_spreads_11 (lv_at hl 0 rfl) ?_
                      refine lv_iconst (v := 3) hx hb dX3_spreads_13 (by decide) ?_
                      refine lv_icmp_ge (tgt := 83) hx hb dX3_spreads_14 (by decide) (fun c_102 => ?_) (fun c_102 => ?_)
                      · refine lv_iload hx hb dX3_spreads_83 (lv_at hl 4 rfl) ?_
                        exact co_endI u_83 S hr hlocks dX3_spreads_85 hK hP hD hS (by refine ⟨?_, ?_, hk_83⟩; (subst eσ_83; subst hr_83; simp only [chC, ccA, chA, heir, hrS, ej_2, ej_85, ej_100, c_1, c_3, c_42, c_82, c_84, c_86, (eq_true c_98), c_99, c_101, c_102, nI_nem hj_2, nI_nem hj_85, nI_nem hj_100, eq_self, Bool.false_eq_true, ↓reduceIte]); (rw [show chS σ (nI n) (nI k) = σ_83 from by subst eσ_83; subst hr_83; simp only [chS, chA, heir, hrS, ej_2, ej_85, ej_100, c_1, c_3, c_42, c_82, c_84, c_86, (eq_true c_98), c_99, c_101, c_102, nI_nem hj_2, nI_nem hj_85, nI_nem hj_100, eq_self, Bool.false_eq_true, ↓reduceIte]]; exact hq_83))
                      · exact absurd (by decide) c_102
                    · refine lv_iload hx hb dX3_spreads_40 (lv_at hl 0 rfl) ?_
                      refine lv_iload_n hx hb dX3_spreads_42 rfl (lv_at hl 6 rfl) ?_
                      refine lv_icmp_eq (tgt := 77) hx hb dX3_spreads_43 (by decide) (fun c_103 => ?_) (fun c_103 => ?_)
                      · refine lv_iinc (v := 3) (lv' := [(6, .int 3), (7, .int (nI j_100)), (5, .int 1), (3, .int (nI j_2)), (4, .int (0 + r_83)), (0, .ref (b 0)), (1, .int (nI n)), (2, .int (nI k))]) hx hb dX3_spreads_77 hl (k := 1) rfl (by decide) (by decide) rfl (fun ls hl => ?_)
                        refine lv_goto (tgt := 11) hx hb dX3_spreads_80 (by decide) ?_
                        refine lv_iload hx hb dX3_spreads_11 (lv_at hl 0 rfl) ?_
                        refine lv_iconst (v := 3) hx hb dX3_spreads_13 (by decide) ?_
                        refine lv_icmp_ge (tgt := 83) hx hb dX3_spreads_14 (by decide) (fun c_104 => ?_) (fun c_104 => ?_)
                        · refine lv_iload hx hb dX3_spreads_83 (lv_at hl 4 rfl) ?_
                          exact co_endI u_83 S hr hlocks dX3_spreads_85 hK hP hD hS (by refine ⟨?_, ?_, hk_83⟩; (subst eσ_83; subst hr_83; simp only [chC, ccA, chA, heir, hrS, ej_2, ej_85, ej_100, c_1, c_3, c_42, c_82, c_84, c_86, (eq_true c_98), c_99, c_101, (eq_true c_103), c_104, nI_nem hj_2, nI_nem hj_85, nI_nem hj_100, eq_self, Bool.false_eq_true, ↓reduceIte]); (rw [show chS σ (nI n) (nI k) = σ_83 from by subst eσ_83; subst hr_83; simp only [chS, chA, heir, hrS, ej_2, ej_85, ej_100, c_1, c_3, c_42, c_82, c_84, c_86, (eq_true c_98), c_99, c_101, (eq_true c_103), c_104, nI_nem hj_2, nI_nem hj_85, nI_nem hj_100, eq_self, Bool.false_eq_true, ↓reduceIte]]; exact hq_83))
                        · exact absurd (by decide) c_104
                      · refine lv_iload hx hb dX3_spreads_46 (lv_at hl 0 rfl) ?_
                        refine lv_iload_n hx hb dX3_spreads_48 rfl (lv_at hl 3 rfl) ?_
                        refine lv_icmp_eq (tgt := 77) hx hb dX3_spreads_49 (by decide) (fun c_105 => ?_) (fun c_105 => ?_)
                        · refine lv_iinc (v := 3) (lv' := [(6, .int 3), (7, .int (nI j_100)), (5, .int 1), (3, .int (nI j_2)), (4, .int (0 + r_83)), (0, .ref (b 0)), (1, .int (nI n)), (2, .int (nI k))]) hx hb dX3_spreads_77 hl (k := 1) rfl (by decide) (by decide) rfl (fun ls hl => ?_)
                          refine lv_goto (tgt := 11) hx hb dX3_spreads_80 (by decide) ?_
                          refine lv_iload hx hb dX3_spreads_11 (lv_at hl 0 rfl) ?_
                          refine lv_iconst (v := 3) hx hb dX3_spreads_13 (by decide) ?_
                          refine lv_icmp_ge (tgt := 83) hx hb dX3_spreads_14 (by decide) (fun c_106 => ?_) (fun c_106 => ?_)
                          · refine lv_iload hx hb dX3_spreads_83 (lv_at hl 4 rfl) ?_
                            exact co_endI u_83 S hr hlocks dX3_spreads_85 hK hP hD hS (by refine ⟨?_, ?_, hk_83⟩; (subst eσ_83; subst hr_83; simp only [chC, ccA, chA, heir, hrS, ej_2, ej_85, ej_100, c_1, c_3, c_42, c_82, c_84, c_86, (eq_true c_98), c_99, c_101, c_103, (eq_true c_105), c_106, nI_nem hj_2, nI_nem hj_85, nI_nem hj_100, eq_self, Bool.false_eq_true, ↓reduceIte]); (rw [show chS σ (nI n) (nI k) = σ_83 from by subst eσ_83; subst hr_83; simp only [chS, chA, heir, hrS, ej_2, ej_85, ej_100, c_1, c_3, c_42, c_82, c_84, c_86, (eq_true c_98), c_99, c_101, c_103, (eq_true c_105), c_106, nI_nem hj_2, nI_nem hj_85, nI_nem hj_100, eq_self, Bool.false_eq_true, ↓reduceIte]]; exact hq_83))
                          · exact absurd (by decide) c_106
                        · refine lv_iload hx hb dX3_spreads_52 (lv_at hl 2 rfl) ?_
                          refine lv_iconst (v := 2) hx hb dX3_spreads_54 (by decide) ?_
                          refine lv_icmp_ge (tgt := 77) hx hb dX3_spreads_55 (by decide) (fun c_107 => ?_) (fun c_107 => ?_)
                          · exact absurd c_107 (by decide)
                          · refine lv_iload hx hb dX3_spreads_58 (lv_at hl 4 rfl) ?_
                            refine lv_aload_n hx hb dX3_spreads_60 rfl (lv_at hl 5 rfl) ?_
                            refine lv_iload_n hx hb dX3_spreads_61 rfl (lv_at hl 6 rfl) ?_
                            refine lv_iload_n hx hb dX3_spreads_62 rfl (lv_at hl 7 rfl) ?_
                            refine lv_iload hx hb dX3_spreads_63 (lv_at hl 0 rfl) ?_
                            refine co_mVi (As := [.int (nI n), .int (nI k), .int (nI j_100)]) (rest := [.int (0 + r_83)]) S (c_X3_copy l G Z b σ_83 u_83 hq_83 n k j_100 (Lv.tr hc0_83 hn) hk0 (Lv.tr hc0_83 ⟨hj_100, c_101⟩)) (cwV 3 hts gX3_spreads_X3_copy rfl rfl rfl (by decide +kernel) ⟨Nat.le_of_ble_eq_true rfl, Nat.le_of_ble_eq_true rfl⟩) hK hP hD hS hA (va_recv hK hP (ci := 2) (q0 := 0) rfl rfl) rfl hl.1 rfl (Nat.le_of_ble_eq_true rfl) dX3_spreads_65 ⟨Nat.zero_le _, Nat.zero_le _⟩ (fun r_108 u_108 H locs hu_108 hP hD hS => ?_)
                            obtain ⟨hr_108, hq_108, hk_108⟩ := hu_108
                            have hr_108 : r_108 = (gcC σ_83 (nI n) (nI j_100) (nI k)) := hr_108
                            obtain ⟨σ_108, eσ_108⟩ : ∃ z9, z9 = (gcS σ_83 (nI n) (nI j_100) (nI k)) := ⟨_, rfl⟩
                            have hq_108 : Rl Z σ_108 u_108 := (by rw [eσ_108]; exact hq_108)
                            have hc0_108 : σ_108 0 = (σ 0) := (by rw [eσ_108]; exact (gcS_0).trans hc0_83)
                            have hc1_108 : σ_108 1 = (σ 1) := (by rw [eσ_108]; exact (gcS_1).trans hc1_83)
                            have hc2_108 : σ_108 2 = (σ 2) := (by rw [eσ_108]; exact (gcS_2).trans hc2_83)
                            have hc3_108 : σ_108 3 = (σ 3) := (by rw [eσ_108]; exact (gcS_3).trans hc3_83)
                            have hk_108 := Kp.tr hk_83 hk_108
                            have hP : pG G (wM G b u_108) H := hP
                            have hD : va_D A (wM G b u_108) := hD
                            refine lv_iadd hx hb dX3_spreads_68 ?_
                            refine lv_istore (lv' := [(4, .int ((0 + r_83) + r_108)), (7, .int (nI j_100)), (6, .int 2), (5, .int 1), (3, .int (nI j_2)), (0, .ref (b 0)), (1, .int (nI n)), (2, .int (nI k))]) hx hb dX3_spreads_69 hl (by decide) rfl (fun ls hl => ?_)
                            refine lv_iload hx hb dX3_spreads_71 (lv_at hl 1 rfl) ?_
                            refine lv_istore_n (lv' := [(3, .int (nI j_100)), (4, .int ((0 + r_83) + r_108)), (7, .int (nI j_100)), (6, .int 2), (5, .int 1), (0, .ref (b 0)), (1, .int (nI n)), (2, .int (nI k))]) hx hb dX3_spreads_73 rfl hl (by decide) rfl (fun ls hl => ?_)
                            refine lv_iinc (v := 2) (lv' := [(5, .int 2), (3, .int (nI j_100)), (4, .int ((0 + r_83) + r_108)), (7, .int (nI j_100)), (6, .int 2), (0, .ref (b 0)), (1, .int (nI n)), (2, .int (nI k))]) hx hb dX3_spreads_74 hl (k := 4) rfl (by decide) (by decide) rfl (fun ls hl => ?_)
                            refine lv_iinc (v := 3) (lv' := [(6, .int 3), (5, .int 2), (3, .int (nI j_100)), (4, .int ((0 + r_83) + r_108)), (7, .int (nI j_100)), (0, .ref (b 0)), (1, .int (nI n)), (2, .int (nI k))]) hx hb dX3_spreads_77 hl (k := 4) rfl (by decide) (by decide) rfl (fun ls hl => ?_)
                            refine lv_goto (tgt := 11) hx hb dX3_spreads_80 (by decide) ?_
                            refine lv_iload hx hb dX3_spreads_11 (lv_at hl 0 rfl) ?_
                            refine lv_iconst (v := 3) hx hb dX3_spreads_13 (by decide) ?_
                            refine lv_icmp_ge (tgt := 83) hx hb dX3_spreads_14 (by decide) (fun c_109 => ?_) (fun c_109 => ?_)
                            · refine lv_iload hx hb dX3_spreads_83 (lv_at hl 3 rfl) ?_
                              exact co_endI u_108 S hr hlocks dX3_spreads_85 hK hP hD hS (by refine ⟨?_, ?_, hk_108⟩; (subst eσ_108; subst hr_108; subst eσ_83; subst hr_83; simp only [chC, ccA, chA, heir, hrS, ej_2, ej_85, ej_100, c_1, c_3, c_42, c_82, c_84, c_86, (eq_true c_98), c_99, c_101, c_103, c_105, c_107, c_109, nI_nem hj_2, nI_nem hj_85, nI_nem hj_100, eq_self, Bool.false_eq_true, ↓reduceIte]); (rw [show chS σ (nI n) (nI k) = σ_108 from by subst eσ_108; subst hr_108; subst eσ_83; subst hr_83; simp only [chS, chA, heir, hrS, ej_2, ej_85, ej_100, c_1, c_3, c_42, c_82, c_84, c_86, (eq_true c_98), c_99, c_101, c_103, c_105, c_107, c_109, nI_nem hj_2, nI_nem hj_85, nI_nem hj_100, eq_self, Bool.false_eq_true, ↓reduceIte]]; exact hq_108))
                            · exact absurd (by decide) c_109
                · refine lv_iload hx hb dX3_spreads_46 (lv_at hl 0 rfl) ?_
                  refine lv_iload_n hx hb dX3_spreads_48 rfl (lv_at hl 3 rfl) ?_
                  refine lv_icmp_eq (tgt := 77) hx hb dX3_spreads_49 (by decide) (fun c_110 => ?_) (fun c_110 => ?_)
                  · refine lv_iinc (v := 2) (lv' := [(6, .int 2), (7, .int (nI j_85)), (5, .int 1), (3, .int (nI j_2)), (4, .int (0 + r_83)), (0, .ref (b 0)), (1, .int (nI n)), (2, .int (nI k))]) hx hb dX3_spreads_77 hl (k := 1) rfl (by decide) (by decide) rfl (fun ls hl => ?_)
                    refine lv_goto (tgt := 11) hx hb dX3_spreads_80 (by decide) ?_
                    refine lv_iload hx hb dX3_spreads_11 (lv_at hl 0 rfl) ?_
                    refine lv_iconst (v := 3) hx hb dX3_spreads_13 (by decide) ?_
                    refine lv_icmp_ge (tgt := 83) hx hb dX3_spreads_14 (by decide) (fun c_111 => ?_) (fun c_111 => ?_)
                    · exact absurd c_111 (by decide)
                    · refine lv_aload_n hx hb dX3_spreads_17 rfl (lv_at hl 5 rfl) ?_
                      refine va_get (D := G.1) (ci := 2) (v := .ref (b 2)) (C := RX3) (T := TX3) (N := 13) hx hb hts uX3 hown hK hP 0 rfl rfl 3 (by decide) (hts (.fieldLink RX3 13 "ChordOverlayModel" "successor" "[I") (by decide +kernel)) (fun _ h9 => h9) rfl dX3_spreads_18 ?_
                      refine lv_iconst (v := 3) hx hb dX3_spreads_21 (by decide) ?_
                      refine lv_iload_n hx hb dX3_spreads_22 rfl (lv_at hl 6 rfl) ?_
                      refine lv_imul hx hb dX3_spreads_23 ?_
                      refine lv_iload hx hb dX3_spreads_24 (lv_at hl 0 rfl) ?_
                      refine lv_iadd hx hb dX3_spreads_26 ?_
                      refine va_iald hx hb hK hP 2 0 rfl rfl (vi_w (w := 3) (p := 2) (by decide) hn.1 (by decide)) dX3_spreads_27 ?_
                      obtain ⟨j_112, hj_112, ej_112, mj_112⟩ := rl_s hq_83 (Lv.tr hc0_83 hn) 2 (by decide)
                      rw [hc1_83] at ej_112
                      have ej_112 : tat 3 (σ 1) (nI n) 2 = nI j_112 := ej_112
                      refine co_eq mj_112 ?_
                      refine lv_istore (lv' := [(7, .int (nI j_112)), (6, .int 2), (5, .int 1), (3, .int (nI j_2)), (4, .int (0 + r_83)), (0, .ref (b 0)), (1, .int (nI n)), (2, .int (nI k))]) hx hb dX3_spreads_28 hl (by decide) rfl (fun ls hl => ?_)
                      refine lv_aload_n hx hb dX3_spreads_30 rfl (lv_at hl 5 rfl) ?_
                      refine va_get (D := G.1) (ci := 2) (v := .ref (b 1)) (C := RX3) (T := TX3) (N := 13) hx hb hts uX3 hown hK hP 0 rfl rfl 2 (by decide) (hts (.fieldLink RX3 7 "ChordOverlayModel" "lives" "[Z") (by decide +kernel)) (fun _ h9 => h9) rfl dX3_spreads_31 ?_
                      refine lv_iload hx hb dX3_spreads_34 (lv_at hl 0 rfl) ?_
                      refine va_zald hx hb hK hP 1 1 rfl rfl (vi_1 hj_112) dX3_spreads_36 ?_
                      refine co_eq (y := bI (alv (σ 0) (nI j_112))) ((rl_l hq_83 hj_112).trans (by rw [hc0_83])) ?_
                      refine co_ifeq (tgt := 77) S dX3_spreads_37 (by decide) (fun c_113 => ?_) (fun c_113 => ?_)
                      · refine lv_iinc (v := 3) (lv' := [(6, .int 3), (7, .int (nI j_112)), (5, .int 1), (3, .int (nI j_2)), (4, .int (0 + r_83)), (0, .ref (b 0)), (1, .int (nI n)), (2, .int (nI k))]) hx hb dX3_spreads_77 hl (k := 1) rfl (by decide) (by decide) rfl (fun ls hl => ?_)
                        refine lv_goto (tgt := 11) hx hb dX3_spreads_80 (by decide) ?_
                        refine lv_iload hx hb dX3_spreads_11 (lv_at hl 0 rfl) ?_
                        refine lv_iconst (v := 3) hx hb dX3_spreads_13 (by decide) ?_
                        refine lv_icmp_ge (tgt := 83) hx hb dX3_spreads_14 (by decide) (fun c_114 => ?_) (fun c_114 => ?_)
                        · refine lv_iload hx hb dX3_spreads_83 (lv_at hl 4 rfl) ?_
                          exact co_endI u_83 S hr hlocks dX3_spreads_85 hK hP hD hS (by refine ⟨?_, ?_, hk_83⟩; (subst eσ_83; subst hr_83; simp only [chC, ccA, chA, heir, hrS, ej_2, ej_85, ej_112, c_1, c_3, c_42, c_82, c_84, c_86, c_98, (eq_true c_110), c_111, c_113, c_114, nI_nem hj_2, nI_nem hj_85, nI_nem hj_112, eq_self, Bool.false_eq_true, ↓reduceIte]); (rw [show chS σ (nI n) (nI k) = σ_83 from by subst eσ_83; subst hr_83; simp only [chS, chA, heir, hrS, ej_2, ej_85, ej_112, c_1, c_3, c_42, c_82, c_84, c_86, c_98, (eq_true c_110), c_111, c_113, c_114, nI_nem hj_2, nI_nem hj_85, nI_nem hj_112, eq_self, Bool.false_eq_true, ↓reduceIte]]; exact hq_83))
                        · exact absurd (by decide) c_114
                      · refine lv_iload hx hb dX3_spreads_40 (lv_at hl 0 rfl) ?_
                        refine lv_iload_n hx hb dX3_spreads_42 rfl (lv_at hl 6 rfl) ?_
                        refine lv_icmp_eq (tgt := 77) hx hb dX3_spreads_43 (by decide) (fun c_115 => ?_) (fun c_115 => ?_)
                        · refine lv_iinc (v := 3) (lv' := [(6, .int 3), (7, .int (nI j_112)), (5, .int 1), (3, .int (nI j_2)), (4, .int (0 + r_83)), (0, .ref (b 0)), (1, .int (nI n)), (2, .int (nI k))]) hx hb dX3_spreads_77 hl (k := 1) rfl (by decide) (by decide) rfl (fun ls hl => ?_)
                          refine lv_goto (tgt := 11) hx hb dX3_spreads_80 (by decide) ?_
                          refine lv_iload hx hb dX3_spreads_11 (lv_at hl 0 rfl) ?_
                          refine lv_iconst (v := 3) hx hb dX3_spreads_13 (by decide) ?_
                          refine lv_icmp_ge (tgt := 83) hx hb dX3_spreads_14 (by decide) (fun c_116 => ?_) (fun c_116 => ?_)
                          · refine lv_iload hx hb dX3_spreads_83 (lv_at hl 4 rfl) ?_
                            exact co_endI u_83 S hr hlocks dX3_spreads_85 hK hP hD hS (by refine ⟨?_, ?_, hk_83⟩; (subst eσ_83; subst hr_83; simp only [chC, ccA, chA, heir, hrS, ej_2, ej_85, ej_112, c_1, c_3, c_42, c_82, c_84, c_86, c_98, (eq_true c_110), c_111, c_113, (eq_true c_115), c_116, nI_nem hj_2, nI_nem hj_85, nI_nem hj_112, eq_self, Bool.false_eq_true, ↓reduceIte]); (rw [show chS σ (nI n) (nI k) = σ_83 from by subst eσ_83; subst hr_83; simp only [chS, chA, heir, hrS, ej_2, ej_85, ej_112, c_1, c_3, c_42, c_82, c_84, c_86, c_98, (eq_true c_110), c_111, c_113, (eq_true c_115), c_116, nI_nem hj_2, nI_nem hj_85, nI_nem hj_112, eq_self, Bool.false_eq_true, ↓reduceIte]]; exact hq_83))
                          · exact absurd (by decide) c_116
                        · refine lv_iload hx hb dX3_spreads_46 (lv_at hl 0 rfl) ?_
                          refine lv_iload_n hx hb dX3_spreads_48 rfl (lv_at hl 3 rfl) ?_
                          refine lv_icmp_eq (tgt := 77) hx hb dX3_spreads_49 (by decide) (fun c_117 => ?_) (fun c_117 => ?_)
                          · refine lv_iinc (v := 3) (lv' := [(6, .int 3), (7, .int (nI j_112)), (5, .int 1), (3, .int (nI j_2)), (4, .int (0 + r_83)), (0, .ref (b 0)), (1, .int (nI n)), (2, .int (nI k))]) hx hb dX3_spreads_77 hl (k := 1) rfl (by decide) (by decide) rfl (fun ls hl => ?_)
                            refine lv_goto (tgt := 11) hx hb dX3_spreads_80 (by decide) ?_
                            refine lv_iload hx hb dX3_spreads_11 (lv_at hl 0 rfl) ?_
                            refine lv_iconst (v := 3) hx hb dX3_spreads_13 (by decide) ?_
                            refine lv_icmp_ge (tgt := 83) hx hb dX3_spreads_14 (by decide) (fun c_118 => ?_) (fun c_118 => ?_)
                            · refine lv_iload hx hb dX3_spreads_83 (lv_at hl 4 rfl) ?_
                              exact co_endI u_83 S hr hlocks dX3_spreads_85 hK hP hD hS (by refine ⟨?_, ?_, hk_83⟩; (subst eσ_83; subst hr_83; simp only [chC, ccA, chA, heir, hrS, ej_2, ej_85, ej_112, c_1, c_3, c_42, c_82, c_84, c_86, c_98, (eq_true c_110), c_111, c_113, c_115, (eq_true c_117), c_118, nI_nem hj_2, nI_nem hj_85, nI_nem hj_112, eq_self, Bool.false_eq_true, ↓reduceIte]); (rw [show chS σ (nI n) (nI k) = σ_83 from by subst eσ_83; subst hr_83; simp only [chS, chA, heir, hrS, ej_2, ej_85, ej_112, c_1, c_3, c_42, c_82, c_84, c_86, c_98, (eq_true c_110), c_111, c_113, c_115, (eq_true c_117), c_118, nI_nem hj_2, nI_nem hj_85, nI_nem hj_112, eq_self, Bool.false_eq_true, ↓reduceIte]]; exact hq_83))
                            · exact absurd (by decide) c_118
                          · refine lv_iload hx hb dX3_spreads_52 (lv_at hl 2 rfl) ?_
                            refine lv_iconst (v := 2) hx hb dX3_spreads_54 (by decide) ?_
                            refine lv_icmp_ge (tgt := 77) hx hb dX3_spreads_55 (by decide) (fun c_119 => ?_) (fun c_119 => ?_)
                            · exact absurd c_119 (by decide)
                            · refine lv_iload hx hb dX3_spreads_58 (lv_at hl 4 rfl) ?_
                              refine lv_aload_n hx hb dX3_spreads_60 rfl (lv_at hl 5 rfl) ?_
                              refine lv_iload_n hx hb dX3_spreads_61 rfl (lv_at hl 6 rfl) ?_
                              refine lv_iload_n hx hb dX3_spreads_62 rfl (lv_at hl 7 rfl) ?_
                              refine lv_iload hx hb dX3_spreads_63 (lv_at hl 0 rfl) ?_
                              refine co_mVi (As := [.int (nI n), .int (nI k), .int (nI j_112)]) (rest := [.int (0 + r_83)]) S (c_X3_copy l G Z b σ_83 u_83 hq_83 n k j_112 (Lv.tr hc0_83 hn) hk0 (Lv.tr hc0_83 ⟨hj_112, c_113⟩)) (cwV 3 hts gX3_spreads_X3_copy rfl rfl rfl (by decide +kernel) ⟨Nat.le_of_ble_eq_true rfl, Nat.le_of_ble_eq_true rfl⟩) hK hP hD hS hA (va_recv hK hP (ci := 2) (q0 := 0) rfl rfl) rfl hl.1 rfl (Nat.le_of_ble_eq_true rfl) dX3_spreads_65 ⟨Nat.zero_le _, Nat.zero_le _⟩ (fun r_120 u_120 H locs hu_120 hP hD hS => ?_)
                              obtain ⟨hr_120, hq_120, hk_120⟩ := hu_120
                              have hr_120 : r_120 = (gcC σ_83 (nI n) (nI j_112) (nI k)) := hr_120
                              obtain ⟨σ_120, eσ_120⟩ : ∃ z9, z9 = (gcS σ_83 (nI n) (nI j_112) (nI k)) := ⟨_, rfl⟩
                              have hq_120 : Rl Z σ_120 u_120 := (by rw [eσ_120]; exact hq_120)
                              have hc0_120 : σ_120 0 = (σ 0) := (by rw [eσ_120]; exact (gcS_0).trans hc0_83)
                              have hc1_120 : σ_120 1 = (σ 1) := (by rw [eσ_120]; exact (gcS_1).trans hc1_83)
                              have hc2_120 : σ_120 2 = (σ 2) := (by rw [eσ_120]; exact (gcS_2).trans hc2_83)
                              have hc3_120 : σ_120 3 = (σ 3) := (by rw [eσ_120]; exact (gcS_3).trans hc3_83)
                              have hk_120 := Kp.tr hk_83 hk_120
                              have hP : pG G (wM G b u_120) H := hP
                              have hD : va_D A (wM G b u_120) := hD
                              refine lv_iadd hx hb dX3_spreads_68 ?_
                              refine lv_istore (lv' := [(4, .int ((0 + r_83) + r_120)), (7, .int (nI j_112)), (6, .int 2), (5, .int 1), (3, .int (nI j_2)), (0, .ref (b 0)), (1, .int (nI n)), (2, .int (nI k))]) hx hb dX3_spreads_69 hl (by decide) rfl (fun ls hl => ?_)
                              refine lv_iload hx hb dX3_spreads_71 (lv_at hl 1 rfl) ?_
                              refine lv_istore_n (lv' := [(3, .int (nI j_112)), (4, .int ((0 + r_83) + r_120)), (7, .int (nI j_112)), (6, .int 2), (5, .int 1), (0, .ref (b 0)), (1, .int (nI n)), (2, .int (nI k))]) hx hb dX3_spreads_73 rfl hl (by decide) rfl (fun ls hl => ?_)
                              refine lv_iinc (v := 2) (lv' := [(5, .int 2), (3, .int (nI j_112)), (4, .int ((0 + r_83) + r_120)), (7, .int (nI j_112)), (6, .int 2), (0, .ref (b 0)), (1, .int (nI n)), (2, .int (nI k))]) hx hb dX3_spreads_74 hl (k := 4) rfl (by decide) (by decide) rfl (fun ls hl => ?_)
                              refine lv_iinc (v := 3) (lv' := [(6, .int 3), (5, .int 2), (3, .int (nI j_112)), (4, .int ((0 + r_83) + r_120)), (7, .int (nI j_112)), (0, .ref (b 0)), (1, .int (nI n)), (2, .int (nI k))]) hx hb dX3_spreads_77 hl (k := 4) rfl (by decide) (by decide) rfl (fun ls hl => ?_)
                              refine lv_goto (tgt := 11) hx hb dX3_spreads_80 (by decide) ?_
                              refine lv_iload hx hb dX3_spreads_11 (lv_at hl 0 rfl) ?_
                              refine lv_iconst (v := 3) hx hb dX3_spreads_13 (by decide) ?_
                              refine lv_icmp_ge (tgt := 83) hx hb dX3_spreads_14 (by decide) (fun c_121 => ?_) (fun c_121 => ?_)
                              · refine lv_iload hx hb dX3_spreads_83 (lv_at hl 3 rfl) ?_
                                exact co_endI u_120 S hr hlocks dX3_spreads_85 hK hP hD hS (by refine ⟨?_, ?_, hk_120⟩; (subst eσ_120; subst hr_120; subst eσ_83; subst hr_83; simp only [chC, ccA, chA, heir, hrS, ej_2, ej_85, ej_112, c_1, c_3, c_42, c_82, c_84, c_86, c_98, (eq_true c_110), c_111, c_113, c_115, c_117, c_119, c_121, nI_nem hj_2, nI_nem hj_85, nI_nem hj_112, eq_self, Bool.false_eq_true, ↓reduceIte]); (rw [show chS σ (nI n) (nI k) = σ_120 from by subst eσ_120; subst hr_120; subst eσ_83; subst hr_83; simp only [chS, chA, heir, hrS, ej_2, ej_85, ej_112, c_1, c_3, c_42, c_82, c_84, c_86, c_98, (eq_true c_110), c_111, c_113, c_115, c_117, c_119, c_121, nI_nem hj_2, nI_nem hj_85, nI_nem hj_112, eq_self, Bool.false_eq_true, ↓reduceIte]]; exact hq_120))
                              · exact absurd (by decide) c_121
                  · refine lv_iload hx hb dX3_spreads_52 (lv_at hl 2 rfl) ?_
                    refine lv_iconst (v := 2) hx hb dX3_spreads_54 (by decide) ?_
                    refine lv_icmp_ge (tgt := 77) hx hb dX3_spreads_55 (by decide) (fun c_122 => ?_) (fun c_122 => ?_)
                    · exact absurd c_122 (by decide)
                    · refine lv_iload hx hb dX3_spreads_58 (lv_at hl 4 rfl) ?_
                      refine lv_aload_n hx hb dX3_spreads_60 rfl (lv_at hl 5 rfl) ?_
                      refine lv_iload_n hx hb dX3_spreads_61 rfl (lv_at hl 6 rfl) ?_
                      refine lv_iload_n hx hb dX3_spreads_62 rfl (lv_at hl 7 rfl) ?_
                      refine lv_iload hx hb dX3_spreads_63 (lv_at hl 0 rfl) ?_
                      refine co_mVi (As := [.int (nI n), .int (nI k), .int (nI j_85)]) (rest := [.int (0 + r_83)]) S (c_X3_copy l G Z b σ_83 u_83 hq_83 n k j_85 (Lv.tr hc0_83 hn) hk0 (Lv.tr hc0_83 ⟨hj_85, c_86⟩)) (cwV 3 hts gX3_spreads_X3_copy rfl rfl rfl (by decide +kernel) ⟨Nat.le_of_ble_eq_true rfl, Nat.le_of_ble_eq_true rfl⟩) hK hP hD hS hA (va_recv hK hP (ci := 2) (q0 := 0) rfl rfl) rfl hl.1 rfl (Nat.le_of_ble_eq_true rfl) dX3_spreads_65 ⟨Nat.zero_le _, Nat.zero_le _⟩ (fun r_123 u_123 H locs hu_123 hP hD hS => ?_)
                      obtain ⟨hr_123, hq_123, hk_123⟩ := hu_123
                      have hr_123 : r_123 = (gcC σ_83 (nI n) (nI j_85) (nI k)) := hr_123
                      obtain ⟨σ_123, eσ_123⟩ : ∃ z9, z9 = (gcS σ_83 (nI n) (nI j_85) (nI k)) := ⟨_, rfl⟩
                      have hq_123 : Rl Z σ_123 u_123 := (by rw [eσ_123]; exact hq_123)
                      have hc0_123 : σ_123 0 = (σ 0) := (by rw [eσ_123]; exact (gcS_0).trans hc0_83)
                      have hc1_123 : σ_123 1 = (σ 1) := (by rw [eσ_123]; exact (gcS_1).trans hc1_83)
                      have hc2_123 : σ_123 2 = (σ 2) := (by rw [eσ_123]; exact (gcS_2).trans hc2_83)
                      have hc3_123 : σ_123 3 = (σ 3) := (by rw [eσ_123]; exact (gcS_3).trans hc3_83)
                      have hk_123 := Kp.tr hk_83 hk_123
                      have hP : pG G (wM G b u_123) H := hP
                      have hD : va_D A (wM G b u_123) := hD
                      refine lv_iadd hx hb dX3_spreads_68 ?_
                      refine lv_istore (lv' := [(4, .int ((0 + r_83) + r_123)), (7, .int (nI j_85)), (6, .int 1), (5, .int 1), (3, .int (nI j_2)), (0, .ref (b 0)), (1, .int (nI n)), (2, .int (nI k))]) hx hb dX3_spreads_69 hl (by decide) rfl (fun ls hl => ?_)
                      refine lv_iload hx hb dX3_spreads_71 (lv_at hl 1 rfl) ?_
                      refine lv_istore_n (lv' := [(3, .int (nI j_85)), (4, .int ((0 + r_83) + r_123)), (7, .int (nI j_85)), (6, .int 1), (5, .int 1), (0, .ref (b 0)), (1, .int (nI n)), (2, .int (nI k))]) hx hb dX3_spreads_73 rfl hl (by decide) rfl (fun ls hl => ?_)
                      refine lv_iinc (v := 2) (lv' := [(5, .int 2), (3, .int (nI j_85)), (4, .int ((0 + r_83) + r_123)), (7, .int (nI j_85)), (6, .int 1), (0, .ref (b 0)), (1, .int (nI n)), (2, .int (nI k))]) hx hb dX3_spreads_74 hl (k := 4) rfl (by decide) (by decide) rfl (fun ls hl => ?_)
                      refine lv_iinc (v := 2) (lv' := [(6, .int 2), (5, .int 2), (3, .int (nI j_85)), (4, .int ((0 + r_83) + r_123)), (7, .int (nI j_85)), (0, .ref (b 0)), (1, .int (nI n)), (2, .int (nI k))]) hx hb dX3_spreads_77 hl (k := 4) rfl (by decide) (by decide) rfl (fun ls hl => ?_)
                      refine lv_goto (tgt := 11) hx hb dX3_spreads_80 (by decide) ?_
                      refine lv_iload hx hb dX3_spreads_11 (lv_at hl 0 rfl) ?_
                      refine lv_iconst (v := 3) hx hb dX3_spreads_13 (by decide) ?_
                      refine lv_icmp_ge (tgt := 83) hx hb dX3_spreads_14 (by decide) (fun c_124 => ?_) (fun c_124 => ?_)
                      · exact absurd c_124 (by decide)
                      · refine lv_aload_n hx hb dX3_spreads_17 rfl (lv_at hl 5 rfl) ?_
                        refine va_get (D := G.1) (ci := 2) (v := .ref (b 2)) (C := RX3) (T := TX3) (N := 13) hx hb hts uX3 hown hK hP 0 rfl rfl 3 (by decide) (hts (.fieldLink RX3 13 "ChordOverlayModel" "successor" "[I") (by decide +kernel)) (fun _ h9 => h9) rfl dX3_spreads_18 ?_
                        refine lv_iconst (v := 3) hx hb dX3_spreads_21 (by decide) ?_
                        refine lv_iload_n hx hb dX3_spreads_22 rfl (lv_at hl 6 rfl) ?_
                        refine lv_imul hx hb dX3_spreads_23 ?_
                        refine lv_iload hx hb dX3_spreads_24 (lv_at hl 0 rfl) ?_
                        refine lv_iadd hx hb dX3_spreads_26 ?_
                        refine va_iald hx hb hK hP 2 0 rfl rfl (vi_w (w := 3) (p := 2) (by decide) hn.1 (by decide)) dX3_spreads_27 ?_
                        obtain ⟨j_125, hj_125, ej_125, mj_125⟩ := rl_s hq_123 (Lv.tr hc0_123 hn) 2 (by decide)
                        rw [hc1_123] at ej_125
                        have ej_125 : tat 3 (σ 1) (nI n) 2 = nI j_125 := ej_125
                        refine co_eq mj_125 ?_
                        refine lv_istore (lv' := [(7, .int (nI j_125)), (6, .int 2), (5, .int 2), (3, .int (nI j_85)), (4, .int ((0 + r_83) + r_123)), (0, .ref (b 0)), (1, .int (nI n)), (2, .int (nI k))]) hx hb dX3_spreads_28 hl (by decide) rfl (fun ls hl => ?_)
                        refine lv_aload_n hx hb dX3_spreads_30 rfl (lv_at hl 5 rfl) ?_
                        refine va_get (D := G.1) (ci := 2) (v := .ref (b 1)) (C := RX3) (T := TX3) (N := 13) hx hb hts uX3 hown hK hP 0 rfl rfl 2 (by decide) (hts (.fieldLink RX3 7 "ChordOverlayModel" "lives" "[Z") (by decide +kernel)) (fun _ h9 => h9) rfl dX3_spreads_31 ?_
                        refine lv_iload hx hb dX3_spreads_34 (lv_at hl 0 rfl) ?_
                        refine va_zald hx hb hK hP 1 1 rfl rfl (vi_1 hj_125) dX3_spreads_36 ?_
                        refine co_eq (y := bI (alv (σ 0) (nI j_125))) ((rl_l hq_123 hj_125).trans (by rw [hc0_123])) ?_
                        refine co_ifeq (tgt := 77) S dX3_spreads_37 (by decide) (fun c_126 => ?_) (fun c_126 => ?_)
                        · refine lv_iinc (v := 3) (lv' := [(6, .int 3), (7, .int (nI j_125)), (5, .int 2), (3, .int (nI j_85)), (4, .int ((0 + r_83) + r_123)), (0, .ref (b 0)), (1, .int (nI n)), (2, .int (nI k))]) hx hb dX3_spreads_77 hl (k := 1) rfl (by decide) (by decide) rfl (fun ls hl => ?_)
                          refine lv_goto (tgt := 11) hx hb dX3_spreads_80 (by decide) ?_
                          refine lv_iload hx hb dX3_spreads_11 (lv_at hl 0 rfl) ?_
                          refine lv_iconst (v := 3) hx hb dX3_spreads_13 (by decide) ?_
                          refine lv_icmp_ge (tgt := 83) hx hb dX3_spreads_14 (by decide) (fun c_127 => ?_) (fun c_127 => ?_)
                          · refine lv_iload hx hb dX3_spreads_83 (lv_at hl 4 rfl) ?_
                            exact co_endI u_123 S hr hlocks dX3_spreads_85 hK hP hD hS (by refine ⟨?_, ?_, hk_123⟩; (subst eσ_123; subst hr_123; subst eσ_83; subst hr_83; simp only [chC, ccA, chA, heir, hrS, ej_2, ej_85, ej_125, c_1, c_3, c_42, c_82, c_84, c_86, c_98, c_110, c_122, c_124, c_126, c_127, nI_nem hj_2, nI_nem hj_85, nI_nem hj_125, eq_self, Bool.false_eq_true, ↓reduceIte]); (rw [show chS σ (nI n) (nI k) = σ_123 from by subst eσ_123; subst hr_123; subst eσ_83; subst hr_83; simp only [chS, chA, heir, hrS, ej_2, ej_85, ej_125, c_1, c_3, c_42, c_82, c_84, c_86, c_98, c_110, c_122, c_124, c_126, c_127, nI_nem hj_2, nI_nem hj_85, nI_nem hj_125, eq_self, Bool.false_eq_true, ↓reduceIte]]; exact hq_123))
                          · exact absurd (by decide) c_127
                        · refine lv_iload hx hb dX3_spreads_40 (lv_at hl 0 rfl) ?_
                          refine lv_iload_n hx hb dX3_spreads_42 rfl (lv_at hl 6 rfl) ?_
                          refine lv_icmp_eq (tgt := 77) hx hb dX3_spreads_43 (by decide) (fun c_128 => ?_) (fun c_128 => ?_)
                          · refine lv_iinc (v := 3) (lv' := [(6, .int 3), (7, .int (nI j_125)), (5, .int 2), (3, .int (nI j_85)), (4, .int ((0 + r_83) + r_123)), (0, .ref (b 0)), (1, .int (nI n)), (2, .int (nI k))]) hx hb dX3_spreads_77 hl (k := 1) rfl (by decide) (by decide) rfl (fun ls hl => ?_)
                            refine lv_goto (tgt := 11) hx hb dX3_spreads_80 (by decide) ?_
                            refine lv_iload hx hb dX3_spreads_11 (lv_at hl 0 rfl) ?_
                            refine lv_iconst (v := 3) hx hb dX3_spreads_13 (by decide) ?_
                            refine lv_icmp_ge (tgt := 83) hx hb dX3_spreads_14 (by decide) (fun c_129 => ?_) (fun c_129 => ?_)
                            · refine lv_iload hx hb dX3_spreads_83 (lv_at hl 4 rfl) ?_
                              exact co_endI u_123 S hr hlocks dX3_spreads_85 hK hP hD hS (by refine ⟨?_, ?_, hk_123⟩; (subst eσ_123; subst hr_123; subst eσ_83; subst hr_83; simp only [chC, ccA, chA, heir, hrS, ej_2, ej_85, ej_125, c_1, c_3, c_42, c_82, c_84, c_86, c_98, c_110, c_122, c_124, c_126, (eq_true c_128), c_129, nI_nem hj_2, nI_nem hj_85, nI_nem hj_125, eq_self, Bool.false_eq_true, ↓reduceIte]); (rw [show chS σ (nI n) (nI k) = σ_123 from by subst eσ_123; subst hr_123; subst eσ_83; subst hr_83; simp only [chS, chA, heir, hrS, ej_2, ej_85, ej_125, c_1, c_3, c_42, c_82, c_84, c_86, c_98, c_110, c_122, c_124, c_126, (eq_true c_128), c_129, nI_nem hj_2, nI_nem hj_85, nI_nem hj_125, eq_self, Bool.false_eq_true, ↓reduceIte]]; exact hq_123))
                            · exact absurd (by decide) c_129
                          · refine lv_iload hx hb dX3_spreads_46 (lv_at hl 0 rfl) ?_
                            refine lv_iload_n hx hb dX3_spreads_48 rfl (lv_at hl 3 rfl) ?_
                            refine lv_icmp_eq (tgt := 77) hx hb dX3_spreads_49 (by decide) (fun c_130 => ?_) (fun c_130 => ?_)
                            · refine lv_iinc (v := 3) (lv' := [(6, .int 3), (7, .int (nI j_125)), (5, .int 2), (3, .int (nI j_85)), (4, .int ((0 + r_83) + r_123)), (0, .ref (b 0)), (1, .int (nI n)), (2, .int (nI k))]) hx hb dX3_spreads_77 hl (k := 1) rfl (by decide) (by decide) rfl (fun ls hl => ?_)
                              refine lv_goto (tgt := 11) hx hb dX3_spreads_80 (by decide) ?_
                              refine lv_iload hx hb dX3_spreads_11 (lv_at hl 0 rfl) ?_
                              refine lv_iconst (v := 3) hx hb dX3_spreads_13 (by decide) ?_
                              refine lv_icmp_ge (tgt := 83) hx hb dX3_spreads_14 (by decide) (fun c_131 => ?_) (fun c_131 => ?_)
                              · refine lv_iload hx hb dX3_spreads_83 (lv_at hl 4 rfl) ?_
                                exact co_endI u_123 S hr hlocks dX3_spreads_85 hK hP hD hS (by refine ⟨?_, ?_, hk_123⟩; (subst eσ_123; subst hr_123; subst eσ_83; subst hr_83; simp only [chC, ccA, chA, heir, hrS, ej_2, ej_85, ej_125, c_1, c_3, c_42, c_82, c_84, c_86, c_98, c_110, c_122, c_124, c_126, c_128, (eq_true c_130), c_131, nI_nem hj_2, nI_nem hj_85, nI_nem hj_125, eq_self, Bool.false_eq_true, ↓reduceIte]); (rw [show chS σ (nI n) (nI k) = σ_123 from by subst eσ_123; subst hr_123; subst eσ_83; subst hr_83; simp only [chS, chA, heir, hrS, ej_2, ej_85, ej_125, c_1, c_3, c_42, c_82, c_84, c_86, c_98, c_110, c_122, c_124, c_126, c_128, (eq_true c_130), c_131, nI_nem hj_2, nI_nem hj_85, nI_nem hj_125, eq_self, Bool.false_eq_true, ↓reduceIte]]; exact hq_123))
                              · exact absurd (by decide) c_131
                            · refine lv_iload hx hb dX3_spreads_52 (lv_at hl 2 rfl) ?_
                              refine lv_iconst (v := 2) hx hb dX3_spreads_54 (by decide) ?_
                              refine lv_icmp_ge (tgt := 77) hx hb dX3_spreads_55 (by decide) (fun c_132 => ?_) (fun c_132 => ?_)
                              · refine lv_iinc (v := 3) (lv' := [(6, .int 3), (7, .int (nI j_125)), (5, .int 2), (3, .int (nI j_85)), (4, .int ((0 + r_83) + r_123)), (0, .ref (b 0)), (1, .int (nI n)), (2, .int (nI k))]) hx hb dX3_spreads_77 hl (k := 1) rfl (by decide) (by decide) rfl (fun ls hl => ?_)
                                refine lv_goto (tgt := 11) hx hb dX3_spreads_80 (by decide) ?_
                                refine lv_iload hx hb dX3_spreads_11 (lv_at hl 0 rfl) ?_
                                refine lv_iconst (v := 3) hx hb dX3_spreads_13 (by decide) ?_
                                refine lv_icmp_ge (tgt := 83) hx hb dX3_spreads_14 (by decide) (fun c_133 => ?_) (fun c_133 => ?_)
                                · refine lv_iload hx hb dX3_spreads_83 (lv_at hl 4 rfl) ?_
                                  exact co_endI u_123 S hr hlocks dX3_spreads_85 hK hP hD hS (by refine ⟨?_, ?_, hk_123⟩; (subst eσ_123; subst hr_123; subst eσ_83; subst hr_83; simp only [chC, ccA, chA, heir, hrS, ej_2, ej_85, ej_125, c_1, c_3, c_42, c_82, c_84, c_86, c_98, c_110, c_122, c_124, c_126, c_128, c_130, c_132, c_133, nI_nem hj_2, nI_nem hj_85, nI_nem hj_125, eq_self, Bool.false_eq_true, ↓reduceIte]); (rw [show chS σ (nI n) (nI k) = σ_123 from by subst eσ_123; subst hr_123; subst eσ_83; subst hr_83; simp only [chS, chA, heir, hrS, ej_2, ej_85, ej_125, c_1, c_3, c_42, c_82, c_84, c_86, c_98, c_110, c_122, c_124, c_126, c_128, c_130, c_132, c_133, nI_nem hj_2, nI_nem hj_85, nI_nem hj_125, eq_self, Bool.false_eq_true, ↓reduceIte]]; exact hq_123))
                                · exact absurd (by decide) c_133
                              · exact absurd (by decide) c_132
