set_option maxRecDepth 20000 in
theorem uX3_X3_leave : ∀ w ∈ u_ws RX3 TX3 13, w ∈ wsX3_leave := by decide +kernel
abbrev rm_X3_leave : Room := { frames := 2, cells := 0, slots := 0, locals := 41 }
set_option maxHeartbeats 4000000 in
set_option maxRecDepth 100000 in
theorem c_X3_leave (l : Launch) (G : cG) (Z : Nat) (b : Nat → Nat) (σ μ : cS) (hR : Rl Z σ μ) (x : Int32) : MetI l yX3_leave wsX3_leave rm_X3_leave G (wM G b μ) [.ref (b 0), .int x] (fun u : cS => wM G b u) (fun r u => u 0 0 = nI (cdA σ x) ∧ (cdA σ x = 0 → r = cnt (lvS σ x 0) 64 ∧ Rl Z (lvS σ x) u) ∧ (cdA σ x ≠ 0 → Rl Z σ u)) := by
  rcases id_or x with ⟨n, hn0, rfl⟩ | ⟨hin0, hon0⟩
  · cases haln : alv (σ 0) (nI n) with
    | false =>
      refine co_bodyI (cc := cX3_leave) (maxL := 5) (ret := (some .int)) (by decide) rfl (Nat.le_of_ble_eq_true rfl) ?_
      intro p e s m args below meth c S hr hlocks hK A hA hP hD hS ls hl
      have S : CallFix p m c cX3_leave 5 s args wsX3_leave RX3 := S
      obtain ⟨hx, hb, hml, hown, hts⟩ := id S
      have hl : lv_has ls 5 [(0, .ref (b 0)), (1, .int (nI n))] := hl
      have uX3 := uX3_X3_leave
      refine lv_aload_n hx hb dX3_leave_0 rfl (lv_at hl 0 rfl) ?_
      refine lv_aload_n hx hb dX3_leave_1 rfl (lv_at hl 0 rfl) ?_
      refine lv_iload_n hx hb dX3_leave_2 rfl (lv_at hl 1 rfl) ?_
      refine co_rV (As := [.int (nI n)]) (rest := [.ref (b 0)]) S (c_X3_refuses l G Z b σ μ hR (nI n)) (cwV 1 hts gX3_leave_X3_refuses rfl rfl rfl (by decide +kernel) ⟨Nat.le_of_ble_eq_true rfl, Nat.le_of_ble_eq_true rfl⟩) hK hP (va_recv hK hP (ci := 2) (q0 := 0) rfl rfl) rfl hl.1 rfl (Nat.le_of_ble_eq_true rfl) dX3_leave_3 ⟨Nat.zero_le _, Nat.zero_le _⟩ ?_
      refine co_eq (show nI (cdA σ (nI n)) = 2 from congrArg nI (show cdA σ (nI n) = 2 by simp only [cdA, okR_id hn0, haln, eq_self, Bool.false_eq_true, ite_self, ↓reduceIte])) ?_
      refine va_put (D := G.1) (ci := 2) (v := .int 2) (ty := .int) (C := RX3) (T := TX3) (N := 13) hx hb hts uX3 tyX3 tyX3_ok nmX3 hown hK hP hD hS 0 rfl rfl 0 (by decide) (hts (.fieldLink RX3 41 "ChordOverlayModel" "thrown" "I") (by decide +kernel)) (fun _ h9 => h9) rfl (by decide +kernel) rfl rfl (Nat.le_of_ble_eq_true rfl) dX3_leave_6 (fun H locs hP hD hS => ?_)
      have hP : pG G (wM G b (va_up μ 0 (fun _ => 2))) H := hP
      have hD : va_D A (wM G b (va_up μ 0 (fun _ => 2))) := hD
      have hz_1 : Rl Z σ (va_up μ 0 (fun _ => 2)) := Rl.s0 (f := fun _ => 2) hR
      refine lv_aload_n hx hb dX3_leave_9 rfl (lv_at hl 0 rfl) ?_
      refine va_get (D := G.1) (ci := 2) (v := .int 2) (C := RX3) (T := TX3) (N := 13) hx hb hts uX3 hown hK hP 0 rfl rfl 0 (by decide) (hts (.fieldLink RX3 41 "ChordOverlayModel" "thrown" "I") (by decide +kernel)) (fun _ h9 => h9) rfl dX3_leave_10 ?_
      refine lv_if_le (tgt := 18) hx hb dX3_leave_13 (by decide) (fun c_2 => ?_) (fun c_2 => ?_)
      · exact absurd c_2 (by decide)
      · refine lv_iconst (v := 0) hx hb dX3_leave_16 (by decide) ?_
        exact co_endI (va_up μ 0 (fun _ => 2)) S hr hlocks dX3_leave_17 hK hP hD hS (by have hcd : cdA σ (nI n) = 2 := (by simp only [cdA, okR_id hn0, haln, c_2, eq_self, Bool.false_eq_true, ite_self, ↓reduceIte]); exact ⟨by rw [hcd]; exact rfl, fun h => absurd (hcd.symm.trans h) (by decide), fun _ => hz_1⟩)
    | true =>
      refine co_bodyI (cc := cX3_leave) (maxL := 5) (ret := (some .int)) (by decide) rfl (Nat.le_of_ble_eq_true rfl) ?_
      intro p e s m args below meth c S hr hlocks hK A hA hP hD hS ls hl
      have S : CallFix p m c cX3_leave 5 s args wsX3_leave RX3 := S
      obtain ⟨hx, hb, hml, hown, hts⟩ := id S
      have hl : lv_has ls 5 [(0, .ref (b 0)), (1, .int (nI n))] := hl
      have uX3 := uX3_X3_leave
      refine lv_aload_n hx hb dX3_leave_0 rfl (lv_at hl 0 rfl) ?_
      refine lv_aload_n hx hb dX3_leave_1 rfl (lv_at hl 0 rfl) ?_
      refine lv_iload_n hx hb dX3_leave_2 rfl (lv_at hl 1 rfl) ?_
      refine co_rV (As := [.int (nI n)]) (rest := [.ref (b 0)]) S (c_X3_refuses l G Z b σ μ hR (nI n)) (cwV 1 hts gX3_leave_X3_refuses rfl rfl rfl (by decide +kernel) ⟨Nat.le_of_ble_eq_true rfl, Nat.le_of_ble_eq_true rfl⟩) hK hP (va_recv hK hP (ci := 2) (q0 := 0) rfl rfl) rfl hl.1 rfl (Nat.le_of_ble_eq_true rfl) dX3_leave_3 ⟨Nat.zero_le _, Nat.zero_le _⟩ ?_
      refine co_eq (show nI (cdA σ (nI n)) = 0 from congrArg nI (show cdA σ (nI n) = 0 by simp only [cdA, okR_id hn0, haln, eq_self, Bool.false_eq_true, ite_self, ↓reduceIte])) ?_
      refine va_put (D := G.1) (ci := 2) (v := .int 0) (ty := .int) (C := RX3) (T := TX3) (N := 13) hx hb hts uX3 tyX3 tyX3_ok nmX3 hown hK hP hD hS 0 rfl rfl 0 (by decide) (hts (.fieldLink RX3 41 "ChordOverlayModel" "thrown" "I") (by decide +kernel)) (fun _ h9 => h9) rfl (by decide +kernel) rfl rfl (Nat.le_of_ble_eq_true rfl) dX3_leave_6 (fun H locs hP hD hS => ?_)
      have hP : pG G (wM G b (va_up μ 0 (fun _ => 0))) H := hP
      have hD : va_D A (wM G b (va_up μ 0 (fun _ => 0))) := hD
      have hz_1 : Rl Z σ (va_up μ 0 (fun _ => 0)) := Rl.s0 (f := fun _ => 0) hR
      refine lv_aload_n hx hb dX3_leave_9 rfl (lv_at hl 0 rfl) ?_
      refine va_get (D := G.1) (ci := 2) (v := .int 0) (C := RX3) (T := TX3) (N := 13) hx hb hts uX3 hown hK hP 0 rfl rfl 0 (by decide) (hts (.fieldLink RX3 41 "ChordOverlayModel" "thrown" "I") (by decide +kernel)) (fun _ h9 => h9) rfl dX3_leave_10 ?_
      refine lv_if_le (tgt := 18) hx hb dX3_leave_13 (by decide) (fun c_2 => ?_) (fun c_2 => ?_)
      · refine lv_aload_n hx hb dX3_leave_18 rfl (lv_at hl 0 rfl) ?_
        refine lv_iload_n hx hb dX3_leave_19 rfl (lv_at hl 1 rfl) ?_
        obtain ⟨j_3, ej_3, lj_3⟩ := Lv.ls hz_1 ⟨hn0, haln⟩
        refine co_rV (As := [.int (nI n)]) (rest := []) S (c_X3_liveSuccessorOf l G Z b σ (va_up μ 0 (fun _ => 0)) hz_1 n ⟨hn0, haln⟩) (cwV 1 hts gX3_leave_X3_liveSuccessorOf rfl rfl rfl (by decide +kernel) ⟨Nat.le_of_ble_eq_true rfl, Nat.le_of_ble_eq_true rfl⟩) hK hP (va_recv hK hP (ci := 2) (q0 := 0) rfl rfl) rfl hl.1 rfl (Nat.le_of_ble_eq_true rfl) dX3_leave_20 ⟨Nat.zero_le _, Nat.zero_le _⟩ ?_
        refine co_eq ej_3 ?_
        refine lv_istore_n (lv' := [(2, .int (nI j_3)), (0, .ref (b 0)), (1, .int (nI n))]) hx hb dX3_leave_23 rfl hl (by decide) rfl (fun ls hl => ?_)
        refine lv_iload_n hx hb dX3_leave_24 rfl (lv_at hl 0 rfl) ?_
        refine lv_iload_n hx hb dX3_leave_25 rfl (lv_at hl 2 rfl) ?_
        refine lv_icmp_eq (tgt := 91) hx hb dX3_leave_26 (by decide) (fun c_4 => ?_) (fun c_4 => ?_)
        · have hL : lvA σ (nI n) = σ := (by rw [lvA, ej_3, if_pos c_4])
          refine lv_aload_n hx hb dX3_leave_91 rfl (lv_at hl 1 rfl) ?_
          refine va_get (D := G.1) (ci := 2) (v := .ref (b 1)) (C := RX3) (T := TX3) (N := 13) hx hb hts uX3 hown hK hP 0 rfl rfl 2 (by decide) (hts (.fieldLink RX3 7 "ChordOverlayModel" "lives" "[Z") (by decide +kernel)) (fun _ h9 => h9) rfl dX3_leave_92 ?_
          refine lv_iload_n hx hb dX3_leave_95 rfl (lv_at hl 2 rfl) ?_
          refine lv_iconst (v := 0) hx hb dX3_leave_96 (by decide) ?_
          refine va_zast hx hb hK hP hD hS 1 1 (f := (μ 2)) rfl rfl (vi_1 hn0) dX3_leave_97 (fun H locs hP hD hS => ?_)
          obtain ⟨f_5, ef_5⟩ : ∃ z9, z9 = (upd (μ 2) (nI n).toNatClampNeg (vp_nar .boolean 0)) := ⟨_, rfl⟩
          rw [← ef_5] at hP hD
          have hP : pG G (wM G b (va_up (va_up μ 0 (fun _ => 0)) 2 f_5)) H := hP
          have hD : va_D A (wM G b (va_up (va_up μ 0 (fun _ => 0)) 2 f_5)) := hD
          obtain ⟨σd_6, eσd_6⟩ : ∃ z9, z9 = saS σ (nI n) 0 := ⟨_, rfl⟩
          have hqd_6 : Rl Z σd_6 (va_up (va_up μ 0 (fun _ => 0)) 2 f_5) := (by rw [eσd_6, ef_5]; exact rl_die hz_1 hn0)
          have hF : lvS σ (nI n) = σd_6 := (by rw [lvS, hL, eσd_6])
          refine lv_aload_n hx hb dX3_leave_98 rfl (lv_at hl 1 rfl) ?_
          refine co_rV (As := []) (rest := []) S (c_X3_countLiving l G Z b σd_6 (va_up (va_up μ 0 (fun _ => 0)) 2 f_5) hqd_6) (cwV 0 hts gX3_leave_X3_countLiving rfl rfl rfl (by decide +kernel) ⟨Nat.le_of_ble_eq_true rfl, Nat.le_of_ble_eq_true rfl⟩) hK hP (va_recv hK hP (ci := 2) (q0 := 0) rfl rfl) rfl hl.1 rfl (Nat.le_of_ble_eq_true rfl) dX3_leave_99 ⟨Nat.zero_le _, Nat.zero_le _⟩ ?_
          exact co_endI (va_up (va_up μ 0 (fun _ => 0)) 2 f_5) S hr hlocks dX3_leave_102 hK hP hD hS (by have hcd : cdA σ (nI n) = 0 := (by simp only [cdA, okR_id hn0, haln, c_2, (eq_true c_4), eq_self, Bool.false_eq_true, ite_self, ↓reduceIte]); exact ⟨by rw [hcd]; exact rfl, fun _ => ⟨by rw [hF], by rw [hF]; exact hqd_6⟩, fun h => absurd hcd h⟩)
        · refine lv_iconst (v := 0) hx hb dX3_leave_29 (by decide) ?_
          refine lv_istore_n (lv' := [(3, .int 0), (2, .int (nI j_3)), (0, .ref (b 0)), (1, .int (nI n))]) hx hb dX3_leave_30 rfl hl (by decide) rfl (fun ls hl => ?_)
          have LP : ∀ (d : Nat) (k : Nat) (σ' μ' : cS), k + d = 64 → Rl Z σ' μ' → Kp (va_up μ 0 (fun _ => 0)) μ' → σ' = hoL σ (nI n) (nI j_3) k → ∀ (H : Heap) (locs : List Loc), pG G (wM G b μ') H → va_D A (wM G b μ') → va_S A s.heap H locs → ∀ ls : Array Slot, lv_has ls 5 [(0, .ref (b 0)), (1, .int (nI n)), (2, .int (nI j_3)), (3, .int (nI k))] → W p l e rm_X3_leave s m args below meth c H locs 0 0 (QI below G A (fun u : cS => wM G b u) (fun r u => u 0 0 = nI (cdA σ (nI n)) ∧ (cdA σ (nI n) = 0 → r = cnt (lvS σ (nI n) 0) 64 ∧ Rl Z (lvS σ (nI n)) u) ∧ (cdA σ (nI n) ≠ 0 → Rl Z σ u)) args s) (F0 m 31 ls []) := by
            intro d
            induction d with
            | zero =>
              intro k σ' μ' hk hR9 hK9 h9 H locs hP hD hS ls hl
              have h09 : σ' 0 = σ 0 := (by rw [h9]; exact hoL_0 k)
              have hk64 : k = 64 := (by omega)
              have h9 : σ' = hoL σ (nI n) (nI j_3) 64 := (by rw [h9, hk64])
              refine lv_iload_n hx hb dX3_leave_31 rfl (lv_at hl 3 rfl) ?_
              refine lv_bipush (v := 64) hx hb dX3_leave_32 (by decide) ?_
              refine lv_icmp_ge (tgt := 52) hx hb dX3_leave_34 (by decide) (fun c_7 => ?_) (fun c_7 => ?_)
              · refine lv_aload_n hx hb dX3_leave_52 rfl (lv_at hl 0 rfl) ?_
                refine va_get (D := G.1) (ci := 2) (v := .ref (b 3)) (C := RX3) (T := TX3) (N := 13) hx hb hts uX3 hown hK hP 0 rfl rfl 4 (by decide) (hts (.fieldLink RX3 17 "ChordOverlayModel" "predecessor" "[I") (by decide +kernel)) (fun _ h9 => h9) rfl dX3_leave_53 ?_
                refine lv_iload_n hx hb dX3_leave_56 rfl (lv_at hl 1 rfl) ?_
                refine va_iald hx hb hK hP 3 0 rfl rfl (vi_1 hn0) dX3_leave_57 ?_
                rcases rl_p hR9 (Lv.tr h09 ⟨hn0, haln⟩) with ⟨ej_8, mj_8⟩ | ⟨j_8, hj_8, ej_8, mj_8⟩
                · have ej_8 : tat 1 (σ' 2) (nI n) 0 = (-1) := ej_8
                  refine co_eq mj_8 ?_
                  refine lv_istore_n (lv' := [(3, .int (-1)), (0, .ref (b 0)), (1, .int (nI n)), (2, .int (nI j_3))]) hx hb dX3_leave_58 rfl hl (by decide) rfl (fun ls hl => ?_)
                  refine lv_aload_n hx hb dX3_leave_59 rfl (lv_at hl 1 rfl) ?_
                  refine va_get (D := G.1) (ci := 2) (v := .ref (b 3)) (C := RX3) (T := TX3) (N := 13) hx hb hts uX3 hown hK hP 0 rfl rfl 4 (by decide) (hts (.fieldLink RX3 17 "ChordOverlayModel" "predecessor" "[I") (by decide +kernel)) (fun _ h9 => h9) rfl dX3_leave_60 ?_
                  refine lv_iload_n hx hb dX3_leave_63 rfl (lv_at hl 3 rfl) ?_
                  refine lv_iload_n hx hb dX3_leave_64 rfl (lv_at hl 0 rfl) ?_
                  refine va_iast hx hb hK hP hD hS 3 0 (f := (μ' 4)) rfl rfl (vi_1 lj_3.1) dX3_leave_65 (fun H locs hP hD hS => ?_)
                  obtain ⟨f_9, ef_9⟩ : ∃ z9, z9 = (upd (μ' 4) (nI j_3).toNatClampNeg (-1)) := ⟨_, rfl⟩
                  rw [← ef_9] at hP hD
                  have hP : pG G (wM G b (va_up μ' 4 f_9)) H := hP
                  have hD : va_D A (wM G b (va_up μ' 4 f_9)) := hD
                  obtain ⟨σq, eσq⟩ : ∃ z9, z9 = va_up σ' 2 (tset 1 (σ' 2) (nI j_3) 0 (-1)) := ⟨_, rfl⟩
                  have hqq : σq = hoP σ' (nI n) (nI j_3) := (by rw [hoP, ej_8, eσq])
                  have hRq : Rl Z σq (va_up μ' 4 f_9) := (by rw [eσq, ef_9]; exact rl_pre hR9 lj_3.1 okP.m1)
                  have h0q : σq 0 = σ 0 := (by rw [eσq]; exact h09)
                  have hKq := Kp.tr hK9 (Kp.s4 (f := f_9))
                  refine lv_iload_n hx hb dX3_leave_66 rfl (lv_at hl 0 rfl) ?_
                  refine lv_iconst (v := (-1)) hx hb dX3_leave_67 (by decide) ?_
                  refine lv_icmp_eq (tgt := 91) hx hb dX3_leave_68 (by decide) (fun c_10 => ?_) (fun c_10 => ?_)
                  · have hL : lvA σ (nI n) = σq := (by rw [lvA, ej_3, if_neg c_4, hoS_q h9 hqq, ej_8, if_neg (fun q => nI_nem hn0 q.symm), alv_m1, if_neg (show ¬ (false = true) by decide)])
                    refine lv_aload_n hx hb dX3_leave_91 rfl (lv_at hl 1 rfl) ?_
                    refine va_get (D := G.1) (ci := 2) (v := .ref (b 1)) (C := RX3) (T := TX3) (N := 13) hx hb hts uX3 hown hK hP 0 rfl rfl 2 (by decide) (hts (.fieldLink RX3 7 "ChordOverlayModel" "lives" "[Z") (by decide +kernel)) (fun _ h9 => h9) rfl dX3_leave_92 ?_
                    refine lv_iload_n hx hb dX3_leave_95 rfl (lv_at hl 2 rfl) ?_
                    refine lv_iconst (v := 0) hx hb dX3_leave_96 (by decide) ?_
                    refine va_zast hx hb hK hP hD hS 1 1 (f := (μ' 2)) rfl rfl (vi_1 hn0) dX3_leave_97 (fun H locs hP hD hS => ?_)
                    obtain ⟨f_11, ef_11⟩ : ∃ z9, z9 = (upd (μ' 2) (nI n).toNatClampNeg (vp_nar .boolean 0)) := ⟨_, rfl⟩
                    rw [← ef_11] at hP hD
                    have hP : pG G (wM G b (va_up (va_up μ' 4 f_9) 2 f_11)) H := hP
                    have hD : va_D A (wM G b (va_up (va_up μ' 4 f_9) 2 f_11)) := hD
                    obtain ⟨σd_12, eσd_12⟩ : ∃ z9, z9 = saS σq (nI n) 0 := ⟨_, rfl⟩
                    have hqd_12 : Rl Z σd_12 (va_up (va_up μ' 4 f_9) 2 f_11) := (by rw [eσd_12, ef_11]; exact rl_die hRq hn0)
                    have hkd_12 := Kp.tr hKq (Kp.s2 (f := f_11))
                    have hF : lvS σ (nI n) = σd_12 := (by rw [lvS, hL, eσd_12])
                    refine lv_aload_n hx hb dX3_leave_98 rfl (lv_at hl 1 rfl) ?_
                    refine co_rV (As := []) (rest := []) S (c_X3_countLiving l G Z b σd_12 (va_up (va_up μ' 4 f_9) 2 f_11) hqd_12) (cwV 0 hts gX3_leave_X3_countLiving rfl rfl rfl (by decide +kernel) ⟨Nat.le_of_ble_eq_true rfl, Nat.le_of_ble_eq_true rfl⟩) hK hP (va_recv hK hP (ci := 2) (q0 := 0) rfl rfl) rfl hl.1 rfl (Nat.le_of_ble_eq_true rfl) dX3_leave_99 ⟨Nat.zero_le _, Nat.zero_le _⟩ ?_
                    exact co_endI (va_up (va_up μ' 4 f_9) 2 f_11) S hr hlocks dX3_leave_102 hK hP hD hS (by have hcd : cdA σ (nI n) = 0 := (by simp only [cdA, okR_id hn0, haln, c_2, c_4, c_7, (eq_true c_10), eq_self, Bool.false_eq_true, ite_self, ↓reduceIte]); exact ⟨by rw [hcd]; exact (congrFun hkd_12.1 0), fun _ => ⟨by rw [hF], by rw [hF]; exact hqd_12⟩, fun h => absurd hcd h⟩)
                  · exact absurd (by decide) c_10
                · have ej_8 : tat 1 (σ' 2) (nI n) 0 = (nI j_8) := ej_8
                  refine co_eq mj_8 ?_
                  refine lv_istore_n (lv' := [(3, .int (nI j_8)), (0, .ref (b 0)), (1, .int (nI n)), (2, .int (nI j_3))]) hx hb dX3_leave_58 rfl hl (by decide) rfl (fun ls hl => ?_)
                  refine lv_aload_n hx hb dX3_leave_59 rfl (lv_at hl 1 rfl) ?_
                  refine va_get (D := G.1) (ci := 2) (v := .ref (b 3)) (C := RX3) (T := TX3) (N := 13) hx hb hts uX3 hown hK hP 0 rfl rfl 4 (by decide) (hts (.fieldLink RX3 17 "ChordOverlayModel" "predecessor" "[I") (by decide +kernel)) (fun _ h9 => h9) rfl dX3_leave_60 ?_
                  refine lv_iload_n hx hb dX3_leave_63 rfl (lv_at hl 3 rfl) ?_
                  refine lv_iload_n hx hb dX3_leave_64 rfl (lv_at hl 0 rfl) ?_
                  refine va_iast hx hb hK hP hD hS 3 0 (f := (μ' 4)) rfl rfl (vi_1 lj_3.1) dX3_leave_65 (fun H locs hP hD hS => ?_)
                  obtain ⟨f_13, ef_13⟩ : ∃ z9, z9 = (upd (μ' 4) (nI j_3).toNatClampNeg (nI j_8)) := ⟨_, rfl⟩
                  rw [← ef_13] at hP hD
                  have hP : pG G (wM G b (va_up μ' 4 f_13)) H := hP
                  have hD : va_D A (wM G b (va_up μ' 4 f_13)) := hD
                  obtain ⟨σq, eσq⟩ : ∃ z9, z9 = va_up σ' 2 (tset 1 (σ' 2) (nI j_3) 0 (nI j_8)) := ⟨_, rfl⟩
                  have hqq : σq = hoP σ' (nI n) (nI j_3) := (by rw [hoP, ej_8, eσq])
                  have hRq : Rl Z σq (va_up μ' 4 f_13) := (by rw [eσq, ef_13]; exact rl_pre hR9 lj_3.1 (okP.nI hj_8))
                  have h0q : σq 0 = σ 0 := (by rw [eσq]; exact h09)
                  have hKq := Kp.tr hK9 (Kp.s4 (f := f_13))
                  refine lv_iload_n hx hb dX3_leave_66 rfl (lv_at hl 0 rfl) ?_
                  refine lv_iconst (v := (-1)) hx hb dX3_leave_67 (by decide) ?_
                  refine lv_icmp_eq (tgt := 91) hx hb dX3_leave_68 (by decide) (fun c_14 => ?_) (fun c_14 => ?_)
                  · exact absurd c_14 (nI_nem hj_8)
                  · refine lv_aload_n hx hb dX3_leave_71 rfl (lv_at hl 1 rfl) ?_
                    refine va_get (D := G.1) (ci := 2) (v := .ref (b 1)) (C := RX3) (T := TX3) (N := 13) hx hb hts uX3 hown hK hP 0 rfl rfl 2 (by decide) (hts (.fieldLink RX3 7 "ChordOverlayModel" "lives" "[Z") (by decide +kernel)) (fun _ h9 => h9) rfl dX3_leave_72 ?_
                    refine lv_iload_n hx hb dX3_leave_75 rfl (lv_at hl 0 rfl) ?_
                    refine va_zald hx hb hK hP 1 1 rfl rfl (vi_1 hj_8) dX3_leave_76 ?_
                    refine co_eq (y := bI (alv (σ 0) (nI j_8))) ((rl_l hRq hj_8).trans (by rw [h0q])) ?_
                    refine co_ifeq (tgt := 91) S dX3_leave_77 (by decide) (fun c_15 => ?_) (fun c_15 => ?_)
                    · have hL : lvA σ (nI n) = σq := (by rw [lvA, ej_3, if_neg c_4, hoS_q h9 hqq, ej_8, h0q, c_15, if_neg (show ¬ (false = true) by decide), ite_self])
                      refine lv_aload_n hx hb dX3_leave_91 rfl (lv_at hl 1 rfl) ?_
                      refine va_get (D := G.1) (ci := 2) (v := .ref (b 1)) (C := RX3) (T := TX3) (N := 13) hx hb hts uX3 hown hK hP 0 rfl rfl 2 (by decide) (hts (.fieldLink RX3 7 "ChordOverlayModel" "lives" "[Z") (by decide +kernel)) (fun _ h9 => h9) rfl dX3_leave_92 ?_
                      refine lv_iload_n hx hb dX3_leave_95 rfl (lv_at hl 2 rfl) ?_
                      refine lv_iconst (v := 0) hx hb dX3_leave_96 (by decide) ?_
                      refine va_zast hx hb hK hP hD hS 1 1 (f := (μ' 2)) rfl rfl (vi_1 hn0) dX3_leave_97 (fun H locs hP hD hS => ?_)
                      obtain ⟨f_16, ef_16⟩ : ∃ z9, z9 = (upd (μ' 2) (nI n).toNatClampNeg (vp_nar .boolean 0)) := ⟨_, rfl⟩
                      rw [← ef_16] at hP hD
                      have hP : pG G (wM G b (va_up (va_up μ' 4 f_13) 2 f_16)) H := hP
                      have hD : va_D A (wM G b (va_up (va_up μ' 4 f_13) 2 f_16)) := hD
                      obtain ⟨σd_17, eσd_17⟩ : ∃ z9, z9 = saS σq (nI n) 0 := ⟨_, rfl⟩
                      have hqd_17 : Rl Z σd_17 (va_up (va_up μ' 4 f_13) 2 f_16) := (by rw [eσd_17, ef_16]; exact rl_die hRq hn0)
                      have hkd_17 := Kp.tr hKq (Kp.s2 (f := f_16))
                      have hF : lvS σ (nI n) = σd_17 := (by rw [lvS, hL, eσd_17])
                      refine lv_aload_n hx hb dX3_leave_98 rfl (lv_at hl 1 rfl) ?_
                      refine co_rV (As := []) (rest := []) S (c_X3_countLiving l G Z b σd_17 (va_up (va_up μ' 4 f_13) 2 f_16) hqd_17) (cwV 0 hts gX3_leave_X3_countLiving rfl rfl rfl (by decide +kernel) ⟨Nat.le_of_ble_eq_true rfl, Nat.le_of_ble_eq_true rfl⟩) hK hP (va_recv hK hP (ci := 2) (q0 := 0) rfl rfl) rfl hl.1 rfl (Nat.le_of_ble_eq_true rfl) dX3_leave_99 ⟨Nat.zero_le _, Nat.zero_le _⟩ ?_
                      exact co_endI (va_up (va_up μ' 4 f_13) 2 f_16) S hr hlocks dX3_leave_102 hK hP hD hS (by have hcd : cdA σ (nI n) = 0 := (by simp only [cdA, okR_id hn0, haln, c_2, c_4, c_7, c_15, eq_self, Bool.false_eq_true, ite_self, ↓reduceIte]); exact ⟨by rw [hcd]; exact (congrFun hkd_17.1 0), fun _ => ⟨by rw [hF], by rw [hF]; exact hqd_17⟩, fun h => absurd hcd h⟩)
                    · refine lv_iload_n hx hb dX3_leave_80 rfl (lv_at hl 0 rfl) ?_
                      refine lv_iload_n hx hb dX3_leave_81 rfl (lv_at hl 2 rfl) ?_
                      refine lv_icmp_eq (tgt := 91) hx hb dX3_leave_82 (by decide) (fun c_18 => ?_) (fun c_18 => ?_)
                      · have hL : lvA σ (nI n) = σq := (by rw [lvA, ej_3, if_neg c_4, hoS_q h9 hqq, ej_8, if_pos c_18])
                        refine lv_aload_n hx hb dX3_leave_91 rfl (lv_at hl 1 rfl) ?_
                        refine va_get (D := G.1) (ci := 2) (v := .ref (b 1)) (C := RX3) (T := TX3) (N := 13) hx hb hts uX3 hown hK hP 0 rfl rfl 2 (by decide) (hts (.fieldLink RX3 7 "ChordOverlayModel" "lives" "[Z") (by decide +kernel)) (fun _ h9 => h9) rfl dX3_leave_92 ?_
                        refine lv_iload_n hx hb dX3_leave_95 rfl (lv_at hl 2 rfl) ?_
                        refine lv_iconst (v := 0) hx hb dX3_leave_96 (by decide) ?_
                        refine va_zast hx hb hK hP hD hS 1 1 (f := (μ' 2)) rfl rfl (vi_1 hn0) dX3_leave_97 (fun H locs hP hD hS => ?_)
                        obtain ⟨f_19, ef_19⟩ : ∃ z9, z9 = (upd (μ' 2) (nI n).toNatClampNeg (vp_nar .boolean 0)) := ⟨_, rfl⟩
                        rw [← ef_19] at hP hD
                        have hP : pG G (wM G b (va_up (va_up μ' 4 f_13) 2 f_19)) H := hP
                        have hD : va_D A (wM G b (va_up (va_up μ' 4 f_13) 2 f_19)) := hD
                        obtain ⟨σd_20, eσd_20⟩ : ∃ z9, z9 = saS σq (nI n) 0 := ⟨_, rfl⟩
                        have hqd_20 : Rl Z σd_20 (va_up (va_up μ' 4 f_13) 2 f_19) := (by rw [eσd_20, ef_19]; exact rl_die hRq hn0)
                        have hkd_20 := Kp.tr hKq (Kp.s2 (f := f_19))
                        have hF : lvS σ (nI n) = σd_20 := (by rw [lvS, hL, eσd_20])
                        refine lv_aload_n hx hb dX3_leave_98 rfl (lv_at hl 1 rfl) ?_
                        refine co_rV (As := []) (rest := []) S (c_X3_countLiving l G Z b σd_20 (va_up (va_up μ' 4 f_13) 2 f_19) hqd_20) (cwV 0 hts gX3_leave_X3_countLiving rfl rfl rfl (by decide +kernel) ⟨Nat.le_of_ble_eq_true rfl, Nat.le_of_ble_eq_true rfl⟩) hK hP (va_recv hK hP (ci := 2) (q0 := 0) rfl rfl) rfl hl.1 rfl (Nat.le_of_ble_eq_true rfl) dX3_leave_99 ⟨Nat.zero_le _, Nat.zero_le _⟩ ?_
                        exact co_endI (va_up (va_up μ' 4 f_13) 2 f_19) S hr hlocks dX3_leave_102 hK hP hD hS (by have hcd : cdA σ (nI n) = 0 := (by simp only [cdA, okR_id hn0, haln, c_2, c_4, c_7, c_15, (eq_true c_18), eq_self, Bool.false_eq_true, ite_self, ↓reduceIte]); exact ⟨by rw [hcd]; exact (congrFun hkd_20.1 0), fun _ => ⟨by rw [hF], by rw [hF]; exact hqd_20⟩, fun h => absurd hcd h⟩)
                      · refine lv_aload_n hx hb dX3_leave_85 rfl (lv_at hl 1 rfl) ?_
                        refine lv_iload_n hx hb dX3_leave_86 rfl (lv_at hl 0 rfl) ?_
                        refine lv_iload_n hx hb dX3_leave_87 rfl (lv_at hl 3 rfl) ?_
                        refine co_mVv (As := [.int (nI j_8), .int (nI j_3)]) (rest := []) S (c_X3_follows l G Z b σq (va_up μ' 4 f_13) hRq j_8 j_3 hj_8 (Lv.tr h0q lj_3)) (cwV 2 hts gX3_leave_X3_follows rfl rfl rfl (by decide +kernel) ⟨Nat.le_of_ble_eq_true rfl, Nat.le_of_ble_eq_true rfl⟩) hK hP hD hS hA (va_recv hK hP (ci := 2) (q0 := 0) rfl rfl) rfl hl.1 rfl (Nat.le_of_ble_eq_true rfl) dX3_leave_88 ⟨Nat.zero_le _, Nat.zero_le _⟩ (fun u_21 H locs hu_21 hP hD hS => ?_)
                        obtain ⟨hq_21, hk_21⟩ := hu_21
                        obtain ⟨σ_21, eσ_21⟩ : ∃ z9, z9 = (foS σq (nI j_8) (nI j_3)) := ⟨_, rfl⟩
                        have hq_21 : Rl Z σ_21 u_21 := (by rw [eσ_21]; exact hq_21)
                        have hc0_21 : σ_21 0 = (σ 0) := (by rw [eσ_21]; exact (foS_0).trans h0q)
                        have hc2_21 : σ_21 2 = (σq 2) := (by rw [eσ_21]; exact rfl)
                        have hc3_21 : σ_21 3 = (σq 3) := (by rw [eσ_21]; exact rfl)
                        have hc4_21 : σ_21 4 = (σq 4) := (by rw [eσ_21]; exact rfl)
                        have hc5_21 : σ_21 5 = (σq 5) := (by rw [eσ_21]; exact rfl)
                        have hk_21 := Kp.tr hKq hk_21
                        have hP : pG G (wM G b u_21) H := hP
                        have hD : va_D A (wM G b u_21) := hD
                        have hL : lvA σ (nI n) = σ_21 := (by rw [lvA, ej_3, if_neg c_4, hoS_q h9 hqq, ej_8, if_neg c_18, h0q, c_15, if_pos rfl]; exact eσ_21.symm)
                        refine lv_aload_n hx hb dX3_leave_91 rfl (lv_at hl 1 rfl) ?_
                        refine va_get (D := G.1) (ci := 2) (v := .ref (b 1)) (C := RX3) (T := TX3) (N := 13) hx hb hts uX3 hown hK hP 0 rfl rfl 2 (by decide) (hts (.fieldLink RX3 7 "ChordOverlayModel" "lives" "[Z") (by decide +kernel)) (fun _ h9 => h9) rfl dX3_leave_92 ?_
                        refine lv_iload_n hx hb dX3_leave_95 rfl (lv_at hl 2 rfl) ?_
                        refine lv_iconst (v := 0) hx hb dX3_leave_96 (by decide) ?_
                        refine va_zast hx hb hK hP hD hS 1 1 (f := (u_21 2)) rfl rfl (vi_1 hn0) dX3_leave_97 (fun H locs hP hD hS => ?_)
                        obtain ⟨f_22, ef_22⟩ : ∃ z9, z9 = (upd (u_21 2) (nI n).toNatClampNeg (vp_nar .boolean 0)) := ⟨_, rfl⟩
                        rw [← ef_22] at hP hD
                        have hP : pG G (wM G b (va_up u_21 2 f_22)) H := hP
                        have hD : va_D A (wM G b (va_up u_21 2 f_22)) := hD
                        obtain ⟨σd_23, eσd_23⟩ : ∃ z9, z9 = saS σ_21 (nI n) 0 := ⟨_, rfl⟩
                        have hqd_23 : Rl Z σd_23 (va_up u_21 2 f_22) := (by rw [eσd_23, ef_22]; exact rl_die hq_21 hn0)
                        have hkd_23 := Kp.tr hk_21 (Kp.s2 (f := f_22))
                        have hF : lvS σ (nI n) = σd_23 := (by rw [lvS, hL, eσd_23])
                        refine lv_aload_n hx hb dX3_leave_98 rfl (lv_at hl 1 rfl) ?_
                        refine co_rV (As := []) (rest := []) S (c_X3_countLiving l G Z b σd_23 (va_up u_21 2 f_22) hqd_23) (cwV 0 hts gX3_leave_X3_countLiving rfl rfl rfl (by decide +kernel) ⟨Nat.le_of_ble_eq_true rfl, Nat.le_of_ble_eq_true rfl⟩) hK hP (va_recv hK hP (ci := 2) (q0 := 0) rfl rfl) rfl hl.1 rfl (Nat.le_of_ble_eq_true rfl) dX3_leave_99 ⟨Nat.zero_le _, Nat.zero_le _⟩ ?_
                        exact co_endI (va_up u_21 2 f_22) S hr hlocks dX3_leave_102 hK hP hD hS (by have hcd : cdA σ (nI n) = 0 := (by simp only [cdA, okR_id hn0, haln, c_2, c_4, c_7, c_15, c_18, eq_self, Bool.false_eq_true, ite_self, ↓reduceIte]); exact ⟨by rw [hcd]; exact (congrFun hkd_23.1 0), fun _ => ⟨by rw [hF], by rw [hF]; exact hqd_23⟩, fun h => absurd hcd h⟩)
              · exact absurd (nI_le (a := 64) (b := k) (by omega) (by omega)) c_7
            | succ d ih =>
              intro k σ' μ' hk hR9 hK9 h9 H locs hP hD hS ls hl
              have h09 : σ' 0 = σ 0 := (by rw [h9]; exact hoL_0 k)
              refine lv_iload_n hx hb dX3_leave_31 rfl (lv_at hl 3 rfl) ?_
              refine lv_bipush (v := 64) hx hb dX3_leave_32 (by decide) ?_
              refine lv_icmp_ge (tgt := 52) hx hb dX3_leave_34 (by decide) (fun c_24 => ?_) (fun c_24 => ?_)
              · exact absurd c_24 (nI_ge (a := k) (b := 64) (by omega) (by omega))
              · refine lv_aload_n hx hb dX3_leave_37 rfl (lv_at hl 0 rfl) ?_
                refine lv_iload_n hx hb dX3_leave_38 rfl (lv_at hl 1 rfl) ?_
                refine lv_iload_n hx hb dX3_leave_39 rfl (lv_at hl 3 rfl) ?_
                refine lv_iload_n hx hb dX3_leave_40 rfl (lv_at hl 2 rfl) ?_
                refine co_mVi (As := [.int (nI n), .int (nI k), .int (nI j_3)]) (rest := []) S (c_X3_copy l G Z b σ' μ' hR9 n k j_3 (Lv.tr h09 ⟨hn0, haln⟩) (show k < 64 by omega) (Lv.tr h09 lj_3)) (cwV 3 hts gX3_leave_X3_copy rfl rfl rfl (by decide +kernel) ⟨Nat.le_of_ble_eq_true rfl, Nat.le_of_ble_eq_true rfl⟩) hK hP hD hS hA (va_recv hK hP (ci := 2) (q0 := 0) rfl rfl) rfl hl.1 rfl (Nat.le_of_ble_eq_true rfl) dX3_leave_41 ⟨Nat.zero_le _, Nat.zero_le _⟩ (fun r_25 u_25 H locs hu_25 hP hD hS => ?_)
                obtain ⟨hr_25, hq_25, hk_25⟩ := hu_25
                have hr_25 : r_25 = (gcC σ' (nI n) (nI j_3) (nI k)) := hr_25
                obtain ⟨σ_25, eσ_25⟩ : ∃ z9, z9 = (gcS σ' (nI n) (nI j_3) (nI k)) := ⟨_, rfl⟩
                have hq_25 : Rl Z σ_25 u_25 := (by rw [eσ_25]; exact hq_25)
                have hc0_25 : σ_25 0 = (σ 0) := (by rw [eσ_25]; exact (gcS_0).trans h09)
                have hc1_25 : σ_25 1 = (σ' 1) := (by rw [eσ_25]; exact gcS_1)
                have hc2_25 : σ_25 2 = (σ' 2) := (by rw [eσ_25]; exact gcS_2)
                have hc3_25 : σ_25 3 = (σ' 3) := (by rw [eσ_25]; exact gcS_3)
                have hk_25 := Kp.tr hK9 hk_25
                have hP : pG G (wM G b u_25) H := hP
                have hD : va_D A (wM G b u_25) := hD
                refine lv_istore (lv' := [(4, .int r_25), (0, .ref (b 0)), (1, .int (nI n)), (2, .int (nI j_3)), (3, .int (nI k))]) hx hb dX3_leave_44 hl (by decide) rfl (fun ls hl => ?_)
                refine lv_iinc (v := (nI (k + 1))) (lv' := [(3, .int (nI (k + 1))), (4, .int r_25), (0, .ref (b 0)), (1, .int (nI n)), (2, .int (nI j_3))]) hx hb dX3_leave_46 hl (k := 4) rfl (nI_1 k) (by decide) rfl (fun ls hl => ?_)
                refine lv_goto (tgt := 31) hx hb dX3_leave_49 (by decide) ?_
                exact ih (k + 1) σ_25 u_25 (by omega) hq_25 hk_25 (by rw [eσ_25, h9]; rfl) _ _ hP hD hS ls (lv_sub hl [2, 3, 4, 0] rfl)
          exact LP 64 0 _ _ rfl hz_1 Kp.rf rfl _ _ hP hD hS ls (lv_sub hl [2, 3, 1, 0] rfl)
      · exact absurd (by decide) c_2
  · refine co_bodyI (cc := cX3_leave) (maxL := 5) (ret := (some .int)) (by decide) rfl (Nat.le_of_ble_eq_true rfl) ?_
    intro p e s m args below meth c S hr hlocks hK A hA hP hD hS ls hl
    have S : CallFix p m c cX3_leave 5 s args wsX3_leave RX3 := S
    obtain ⟨hx, hb, hml, hown, hts⟩ := id S
    have hl : lv_has ls 5 [(0, .ref (b 0)), (1, .int x)] := hl
    have uX3 := uX3_X3_leave
    refine lv_aload_n hx hb dX3_leave_0 rfl (lv_at hl 0 rfl) ?_
    refine lv_aload_n hx hb dX3_leave_1 rfl (lv_at hl 0 rfl) ?_
    refine lv_iload_n hx hb dX3_leave_2 rfl (lv_at hl 1 rfl) ?_
    refine co_rV (As := [.int x]) (rest := [.ref (b 0)]) S (c_X3_refuses l G Z b σ μ hR x) (cwV 1 hts gX3_leave_X3_refuses rfl rfl rfl (by decide +kernel) ⟨Nat.le_of_ble_eq_true rfl, Nat.le_of_ble_eq_true rfl⟩) hK hP (va_recv hK hP (ci := 2) (q0 := 0) rfl rfl) rfl hl.1 rfl (Nat.le_of_ble_eq_true rfl) dX3_leave_3 ⟨Nat.zero_le _, Nat.zero_le _⟩ ?_
    refine co_eq (show nI (cdA σ x) = 1 from congrArg nI (show cdA σ x = 1 by simp only [cdA, hon0, eq_self, Bool.false_eq_true, ite_self, ↓reduceIte])) ?_
    refine va_put (D := G.1) (ci := 2) (v := .int 1) (ty := .int) (C := RX3) (T := TX3) (N := 13) hx hb hts uX3 tyX3 tyX3_ok nmX3 hown hK hP hD hS 0 rfl rfl 0 (by decide) (hts (.fieldLink RX3 41 "ChordOverlayModel" "thrown" "I") (by decide +kernel)) (fun _ h9 => h9) rfl (by decide +kernel) rfl rfl (Nat.le_of_ble_eq_true rfl) dX3_leave_6 (fun H locs hP hD hS => ?_)
    have hP : pG G (wM G b (va_up μ 0 (fun _ => 1))) H := hP
    have hD : va_D A (wM G b (va_up μ 0 (fun _ => 1))) := hD
    have hz_1 : Rl Z σ (va_up μ 0 (fun _ => 1)) := Rl.s0 (f := fun _ => 1) hR
    refine lv_aload_n hx hb dX3_leave_9 rfl (lv_at hl 0 rfl) ?_
    refine va_get (D := G.1) (ci := 2) (v := .int 1) (C := RX3) (T := TX3) (N := 13) hx hb hts uX3 hown hK hP 0 rfl rfl 0 (by decide) (hts (.fieldLink RX3 41 "ChordOverlayModel" "thrown" "I") (by decide +kernel)) (fun _ h9 => h9) rfl dX3_leave_10 ?_
    refine lv_if_le (tgt := 18) hx hb dX3_leave_13 (by decide) (fun c_2 => ?_) (fun c_2 => ?_)
    · exact absurd c_2 (by decide)
    · refine lv_iconst (v := 0) hx hb dX3_leave_16 (by decide) ?_
      exact co_endI (va_up μ 0 (fun _ => 1)) S hr hlocks dX3_leave_17 hK hP hD hS (by have hcd : cdA σ x = 1 := (by simp only [cdA, hon0, c_2, eq_self, Bool.false_eq_true, ite_self, ↓reduceIte]); exact ⟨by rw [hcd]; exact rfl, fun h => absurd (hcd.symm.trans h) (by decide), fun _ => hz_1⟩)
