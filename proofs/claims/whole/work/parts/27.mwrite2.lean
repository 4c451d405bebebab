set_option maxRecDepth 20000 in
theorem uX3_X3_replicates : ∀ w ∈ u_ws RX3 TX3 13, w ∈ wsX3_replicates := by decide +kernel
abbrev rm_X3_replicates : Room := { frames := 5, cells := 0, slots := 0, locals := 117 }
set_option maxHeartbeats 4000000 in
set_option maxRecDepth 100000 in
theorem c_X3_replicates (l : Launch) (G : cG) (Z : Nat) (b : Nat → Nat) (σ μ : cS) (hR : Rl Z σ μ)(n : Nat) (hn : Lv σ n) : MetI l yX3_replicates wsX3_replicates rm_X3_replicates G (wM G b μ) [.ref (b 0), .int (nI n)] (fun u : cS => wM G b u) (fun r u => r = (svC σ (nI n) 64) ∧ Rl Z (svS σ (nI n) 64) u ∧ Kp μ u) := by
  refine co_bodyI (cc := cX3_replicates) (maxL := 6) (ret := (some .int)) (by decide) rfl (Nat.le_of_ble_eq_true rfl) ?_
  intro p e s m args below meth c S hr hlocks hK A hA hP hD hS ls hl
  have S : CallFix p m c cX3_replicates 6 s args wsX3_replicates RX3 := S
  obtain ⟨hx, hb, hml, hown, hts⟩ := id S
  have hl : lv_has ls 6 [(0, .ref (b 0)), (1, .int (nI n))] := hl
  have uX3 := uX3_X3_replicates
  refine lv_iconst (v := 0) hx hb dX3_replicates_0 (by decide) ?_
  refine lv_istore_n (lv' := [(2, .int 0), (0, .ref (b 0)), (1, .int (nI n))]) hx hb dX3_replicates_1 rfl hl (by decide) rfl (fun ls hl => ?_)
  refine lv_iconst (v := 0) hx hb dX3_replicates_2 (by decide) ?_
  refine lv_istore_n (lv' := [(3, .int 0), (2, .int 0), (0, .ref (b 0)), (1, .int (nI n))]) hx hb dX3_replicates_3 rfl hl (by decide) rfl (fun ls hl => ?_)
  have LP : ∀ (d : Nat) (k : Nat) (x : Int32) (σ' μ' : cS), k + d = 64 → Rl Z σ' μ' → Kp μ μ' → x = svC σ (nI n) k → σ' = svS σ (nI n) k → ∀ (H : Heap) (locs : List Loc), pG G (wM G b μ') H → va_D A (wM G b μ') → va_S A s.heap H locs → ∀ ls : Array Slot, lv_has ls 6 [(0, .ref (b 0)), (1, .int (nI n)), (2, .int x), (3, .int (nI k))] → W p l e rm_X3_replicates s m args below meth c H locs 0 0 (QI below G A (fun u : cS => wM G b u) (fun r u => r = (svC σ (nI n) 64) ∧ Rl Z (svS σ (nI n) 64) u ∧ Kp μ u) args s) (F0 m 4 ls []) := by
    intro d
    induction d with
    | zero =>
      intro k x σ' μ' hk hR9 hK9 hx9 h9 H locs hP hD hS ls hl
      refine lv_iload_n hx hb dX3_replicates_4 rfl (lv_at hl 3 rfl) ?_
      refine lv_bipush (v := 64) hx hb dX3_replicates_5 (by decide) ?_
      refine lv_icmp_ge (tgt := 113) hx hb dX3_replicates_7 (by decide) (fun c_1 => ?_) (fun c_1 => ?_)
      · refine lv_iload_n hx hb dX3_replicates_113 rfl (lv_at hl 2 rfl) ?_
        exact co_endI μ' S hr hlocks dX3_replicates_114 hK hP hD hS (by have hk6 : k = 64 := (by omega); subst hk6; exact ⟨hx9, by rw [← h9]; exact hR9, hK9⟩)
      · exact absurd (nI_le (a := 64) (b := k) (by omega) (by omega)) c_1
    | succ d ih =>
      intro k x σ' μ' hk hR9 hK9 hx9 h9 H locs hP hD hS ls hl
      have hn9 : Lv σ' n := Lv.tr (by rw [h9]; exact svS_0 k) hn
      refine lv_iload_n hx hb dX3_replicates_4 rfl (lv_at hl 3 rfl) ?_
      refine lv_bipush (v := 64) hx hb dX3_replicates_5 (by decide) ?_
      refine lv_icmp_ge (tgt := 113) hx hb dX3_replicates_7 (by decide) (fun c_2 => ?_) (fun c_2 => ?_)
      · exact absurd c_2 (nI_ge (a := k) (b := 64) (by omega) (by omega))
      · refine lv_aload_n hx hb dX3_replicates_10 rfl (lv_at hl 0 rfl) ?_
        refine va_get (D := G.1) (ci := 2) (v := .ref (b 6)) (C := RX3) (T := TX3) (N := 13) hx hb hts uX3 hown hK hP 0 rfl rfl 7 (by decide) (hts (.fieldLink RX3 26 "ChordOverlayModel" "stamp" "[I") (by decide +kernel)) (fun _ h9 => h9) rfl dX3_replicates_11 ?_
        refine lv_bipush (v := 64) hx hb dX3_replicates_14 (by decide) ?_
        refine lv_iload_n hx hb dX3_replicates_16 rfl (lv_at hl 1 rfl) ?_
        refine lv_imul hx hb dX3_replicates_17 ?_
        refine lv_iload_n hx hb dX3_replicates_18 rfl (lv_at hl 3 rfl) ?_
        refine lv_iadd hx hb dX3_replicates_19 ?_
        refine va_iald hx hb hK hP 6 0 rfl rfl (vi_w (w := 64) (p := k) (by decide) hn.1 (show k < 64 by omega)) dX3_replicates_20 ?_
        rcases rl_v hR9 hn9 k (show k < 64 by omega) with ⟨at_3, bt_3, mt_3⟩ | ⟨tt_3, vt_3, gt_3, ht_3, it_3, at_3, bt_3, mt_3, nt_3⟩
        · have at_3 : tat 64 (σ' 5) (nI n) (nI k) = -1 := at_3
          have bt_3 : tat 64 (σ' 4) (nI n) (nI k) = -1 := bt_3
          refine co_eq mt_3 ?_
          refine lv_if_le (tgt := 107) hx hb dX3_replicates_21 (by decide) (fun c_4 => ?_) (fun c_4 => ?_)
          · refine lv_iinc (v := (nI (k + 1))) (lv' := [(3, .int (nI (k + 1))), (0, .ref (b 0)), (1, .int (nI n)), (2, .int x)]) hx hb dX3_replicates_107 hl (k := 3) rfl (nI_1 k) (by decide) rfl (fun ls hl => ?_)
            refine lv_goto (tgt := 4) hx hb dX3_replicates_110 (by decide) ?_
            exact ih (k + 1) _ σ' μ' (by omega) hR9 hK9 (sv_c0 h9 hx9 bt_3) (sv_s0 h9 bt_3) _ _ hP hD hS ls (lv_sub hl [1, 2, 3, 0] rfl)
          · exact absurd (by decide) c_4
        · have at_3 : tat 64 (σ' 5) (nI n) (nI k) = nI tt_3 := at_3
          have bt_3 : tat 64 (σ' 4) (nI n) (nI k) = nI vt_3 := bt_3
          refine co_eq mt_3 ?_
          refine lv_if_le (tgt := 107) hx hb dX3_replicates_21 (by decide) (fun c_5 => ?_) (fun c_5 => ?_)
          · exact absurd c_5 (nI_nle (by omega) (by omega))
          · refine lv_aload_n hx hb dX3_replicates_24 rfl (lv_at hl 0 rfl) ?_
            refine va_get (D := G.1) (ci := 2) (v := .ref (b 3)) (C := RX3) (T := TX3) (N := 13) hx hb hts uX3 hown hK hP 0 rfl rfl 4 (by decide) (hts (.fieldLink RX3 17 "ChordOverlayModel" "predecessor" "[I") (by decide +kernel)) (fun _ h9 => h9) rfl dX3_replicates_25 ?_
            refine lv_iload_n hx hb dX3_replicates_28 rfl (lv_at hl 1 rfl) ?_
            refine va_iald hx hb hK hP 3 0 rfl rfl (vi_1 hn.1) dX3_replicates_29 ?_
            rcases rl_p hR9 hn9 with ⟨ej_6, mj_6⟩ | ⟨j_6, hj_6, ej_6, mj_6⟩
            · have ej_6 : tat 1 (σ' 2) (nI n) 0 = (-1) := ej_6
              refine co_eq mj_6 ?_
              refine lv_iconst (v := (-1)) hx hb dX3_replicates_30 (by decide) ?_
              refine lv_icmp_eq (tgt := 48) hx hb dX3_replicates_31 (by decide) (fun c_7 => ?_) (fun c_7 => ?_)
              · refine lv_iconst (v := 1) hx hb dX3_replicates_48 (by decide) ?_
                refine lv_goto (tgt := 53) hx hb dX3_replicates_49 (by decide) ?_
                refine lv_istore (lv' := [(4, .int 1), (0, .ref (b 0)), (1, .int (nI n)), (2, .int x), (3, .int (nI k))]) hx hb dX3_replicates_53 hl (by decide) rfl (fun ls hl => ?_)
                refine lv_iload hx hb dX3_replicates_55 (lv_at hl 0 rfl) ?_
                refine lv_if_eq (tgt := 64) hx hb dX3_replicates_57 (by decide) (fun c_8 => ?_) (fun c_8 => ?_)
                · exact absurd c_8 (by decide)
                · refine lv_iconst (v := (-1)) hx hb dX3_replicates_60 (by decide) ?_
                  refine lv_goto (tgt := 70) hx hb dX3_replicates_61 (by decide) ?_
                  refine lv_istore (lv' := [(5, .int (-1)), (4, .int 1), (0, .ref (b 0)), (1, .int (nI n)), (2, .int x), (3, .int (nI k))]) hx hb dX3_replicates_70 hl (by decide) rfl (fun ls hl => ?_)
                  refine lv_iload_n hx hb dX3_replicates_72 rfl (lv_at hl 4 rfl) ?_
                  refine lv_iload hx hb dX3_replicates_73 (lv_at hl 1 rfl) ?_
                  refine lv_if_eq (tgt := 87) hx hb dX3_replicates_75 (by decide) (fun c_9 => ?_) (fun c_9 => ?_)
                  · exact absurd c_9 (by decide)
                  · refine lv_aload_n hx hb dX3_replicates_78 rfl (lv_at hl 2 rfl) ?_
                    refine lv_iload_n hx hb dX3_replicates_79 rfl (lv_at hl 3 rfl) ?_
                    refine lv_iload_n hx hb dX3_replicates_80 rfl (lv_at hl 5 rfl) ?_
                    refine co_mVi (As := [.int (nI n), .int (nI k)]) (rest := [.int x]) S (c_X3_spreads l G Z b σ' μ' hR9 n k hn9 (show k < 64 by omega)) (cwV 2 hts gX3_replicates_X3_spreads rfl rfl rfl (by decide +kernel) ⟨Nat.le_of_ble_eq_true rfl, Nat.le_of_ble_eq_true rfl⟩) hK hP hD hS hA (va_recv hK hP (ci := 2) (q0 := 0) rfl rfl) rfl hl.1 rfl (Nat.le_of_ble_eq_true rfl) dX3_replicates_81 ⟨Nat.zero_le _, Nat.zero_le _⟩ (fun r_10 u_10 H locs hu_10 hP hD hS => ?_)
                    obtain ⟨hr_10, hq_10, hk_10⟩ := hu_10
                    have hr_10 : r_10 = (chC σ' (nI n) (nI k)) := hr_10
                    obtain ⟨σ_10, eσ_10⟩ : ∃ z9, z9 = (chS σ' (nI n) (nI k)) := ⟨_, rfl⟩
                    have hq_10 : Rl Z σ_10 u_10 := (by rw [eσ_10]; exact hq_10)
                    have hc0_10 : σ_10 0 = (σ' 0) := (by rw [eσ_10]; exact chS_0)
                    have hk_10 := Kp.tr hK9 hk_10
                    have hP : pG G (wM G b u_10) H := hP
                    have hD : va_D A (wM G b u_10) := hD
                    refine lv_goto (tgt := 105) hx hb dX3_replicates_84 (by decide) ?_
                    refine lv_iadd hx hb dX3_replicates_105 ?_
                    refine lv_istore_n (lv' := [(2, .int (x + r_10)), (5, .int (-1)), (4, .int 1), (0, .ref (b 0)), (1, .int (nI n)), (3, .int (nI k))]) hx hb dX3_replicates_106 rfl hl (by decide) rfl (fun ls hl => ?_)
                    refine lv_iinc (v := (nI (k + 1))) (lv' := [(3, .int (nI (k + 1))), (2, .int (x + r_10)), (5, .int (-1)), (4, .int 1), (0, .ref (b 0)), (1, .int (nI n))]) hx hb dX3_replicates_107 hl (k := 5) rfl (nI_1 k) (by decide) rfl (fun ls hl => ?_)
                    refine lv_goto (tgt := 4) hx hb dX3_replicates_110 (by decide) ?_
                    exact ih (k + 1) _ σ_10 u_10 (by omega) hq_10 hk_10 (sv_c h9 hx9 (tat_ne bt_3 it_3) (by rw [hr_10]; simp only [spC, at_3, bt_3, ej_6, c_2, c_5, (eq_true c_7), c_8, c_9, eq_self, Bool.false_eq_true, ↓reduceIte])) (sv_s h9 (tat_ne bt_3 it_3) (by rw [eσ_10]; simp only [spS, at_3, bt_3, ej_6, c_2, c_5, (eq_true c_7), c_8, c_9, eq_self, Bool.false_eq_true, ↓reduceIte])) _ _ hP hD hS ls (lv_sub hl [4, 5, 1, 0] rfl)
              · exact absurd (by decide) c_7
            · have ej_6 : tat 1 (σ' 2) (nI n) 0 = (nI j_6) := ej_6
              refine co_eq mj_6 ?_
              refine lv_iconst (v := (-1)) hx hb dX3_replicates_30 (by decide) ?_
              refine lv_icmp_eq (tgt := 48) hx hb dX3_replicates_31 (by decide) (fun c_11 => ?_) (fun c_11 => ?_)
              · exact absurd c_11 (nI_nem hj_6)
              · refine lv_iload_n hx hb dX3_replicates_34 rfl (lv_at hl 3 rfl) ?_
                refine lv_aload_n hx hb dX3_replicates_35 rfl (lv_at hl 0 rfl) ?_
                refine va_get (D := G.1) (ci := 2) (v := .ref (b 3)) (C := RX3) (T := TX3) (N := 13) hx hb hts uX3 hown hK hP 0 rfl rfl 4 (by decide) (hts (.fieldLink RX3 17 "ChordOverlayModel" "predecessor" "[I") (by decide +kernel)) (fun _ h9 => h9) rfl dX3_replicates_36 ?_
                refine lv_iload_n hx hb dX3_replicates_39 rfl (lv_at hl 1 rfl) ?_
                refine va_iald hx hb hK hP 3 0 rfl rfl (vi_1 hn.1) dX3_replicates_40 ?_
                refine co_eq mj_6 ?_
                refine lv_iload_n hx hb dX3_replicates_41 rfl (lv_at hl 1 rfl) ?_
                refine co_rS (As := [.int (nI k), .int (nI j_6), .int (nI n)]) (rest := []) S (c_X3_isWithin l G k j_6 n (show k < 64 by omega) hj_6 hn.1) (va_cwS 3 hts gX3_replicates_X3_isWithin rfl rfl rfl (by decide +kernel) ⟨Nat.le_of_ble_eq_true rfl, Nat.le_of_ble_eq_true rfl⟩) hK (pG_nil) rfl hl.1 rfl (Nat.le_of_ble_eq_true rfl) dX3_replicates_42 ⟨Nat.zero_le _, Nat.zero_le _⟩ ?_
                refine co_ifeq (tgt := 52) S dX3_replicates_45 (by decide) (fun c_12 => ?_) (fun c_12 => ?_)
                · refine lv_iconst (v := 0) hx hb dX3_replicates_52 (by decide) ?_
                  refine lv_istore (lv' := [(4, .int 0), (0, .ref (b 0)), (1, .int (nI n)), (2, .int x), (3, .int (nI k))]) hx hb dX3_replicates_53 hl (by decide) rfl (fun ls hl => ?_)
                  refine lv_iload hx hb dX3_replicates_55 (lv_at hl 0 rfl) ?_
                  refine lv_if_eq (tgt := 64) hx hb dX3_replicates_57 (by decide) (fun c_13 => ?_) (fun c_13 => ?_)
                  · refine lv_aload_n hx hb dX3_replicates_64 rfl (lv_at hl 1 rfl) ?_
                    refine lv_iload_n hx hb dX3_replicates_65 rfl (lv_at hl 2 rfl) ?_
                    refine lv_iload_n hx hb dX3_replicates_66 rfl (lv_at hl 4 rfl) ?_
                    obtain ⟨j_14, ej_14, lj_14⟩ := Lv.fn hR9 hn9 (show k < 64 by omega)
                    refine co_mVi (As := [.int (nI n), .int (nI k)]) (rest := []) S (c_X3_find l G Z b σ' μ' hR9 n k hn9 (show k < 64 by omega)) (cwV 2 hts gX3_replicates_X3_find rfl rfl rfl (by decide +kernel) ⟨Nat.le_of_ble_eq_true rfl, Nat.le_of_ble_eq_true rfl⟩) hK hP hD hS hA (va_recv hK hP (ci := 2) (q0 := 0) rfl rfl) rfl hl.1 rfl (Nat.le_of_ble_eq_true rfl) dX3_replicates_67 ⟨Nat.zero_le _, Nat.zero_le _⟩ (fun r_15 u_15 H locs hu_15 hP hD hS => ?_)
                    obtain ⟨hr_15, hq_15, hk_15, hp_15, hw_15⟩ := hu_15
                    have hr_15 : r_15 = nI j_14 := hr_15.trans ej_14
                    subst hr_15
                    have hk_15 := Kp.tr hK9 hk_15
                    have hP : pG G (wM G b u_15) H := hP
                    have hD : va_D A (wM G b u_15) := hD
                    refine lv_istore (lv' := [(5, .int (nI j_14)), (4, .int 0), (0, .ref (b 0)), (1, .int (nI n)), (2, .int x), (3, .int (nI k))]) hx hb dX3_replicates_70 hl (by decide) rfl (fun ls hl => ?_)
                    refine lv_iload_n hx hb dX3_replicates_72 rfl (lv_at hl 4 rfl) ?_
                    refine lv_iload hx hb dX3_replicates_73 (lv_at hl 1 rfl) ?_
                    refine lv_if_eq (tgt := 87) hx hb dX3_replicates_75 (by decide) (fun c_16 => ?_) (fun c_16 => ?_)
                    · refine lv_iload hx hb dX3_replicates_87 (lv_at hl 0 rfl) ?_
                      refine lv_iconst (v := (-1)) hx hb dX3_replicates_89 (by decide) ?_
                      refine lv_icmp_ne (tgt := 97) hx hb dX3_replicates_90 (by decide) (fun c_17 => ?_) (fun c_17 => ?_)
                      · refine lv_aload_n hx hb dX3_replicates_97 rfl (lv_at hl 2 rfl) ?_
                        refine lv_iload_n hx hb dX3_replicates_98 rfl (lv_at hl 3 rfl) ?_
                        refine lv_iload_n hx hb dX3_replicates_99 rfl (lv_at hl 5 rfl) ?_
                        refine lv_iload hx hb dX3_replicates_100 (lv_at hl 0 rfl) ?_
                        refine co_mVi (As := [.int (nI n), .int (nI k), .int (nI j_14)]) (rest := [.int x]) S (c_X3_copy l G Z b σ' u_15 hq_15 n k j_14 hn9 (show k < 64 by omega) lj_14) (cwV 3 hts gX3_replicates_X3_copy rfl rfl rfl (by decide +kernel) ⟨Nat.le_of_ble_eq_true rfl, Nat.le_of_ble_eq_true rfl⟩) hK hP hD hS hA (va_recv hK hP (ci := 2) (q0 := 0) rfl rfl) rfl hl.1 rfl (Nat.le_of_ble_eq_true rfl) dX3_replicates_102 ⟨Nat.zero_le _, Nat.zero_le _⟩ (fun r_18 u_18 H locs hu_18 hP hD hS => ?_)
                        obtain ⟨hr_18, hq_18, hk_18⟩ := hu_18
                        have hr_18 : r_18 = (gcC σ' (nI n) (nI j_14) (nI k)) := hr_18
                        obtain ⟨σ_18, eσ_18⟩ : ∃ z9, z9 = (gcS σ' (nI n) (nI j_14) (nI k)) := ⟨_, rfl⟩
                        have hq_18 : Rl Z σ_18 u_18 := (by rw [eσ_18]; exact hq_18)
                        have hc0_18 : σ_18 0 = (σ' 0) := (by rw [eσ_18]; exact gcS_0)
                        have hc1_18 : σ_18 1 = (σ' 1) := (by rw [eσ_18]; exact gcS_1)
                        have hc2_18 : σ_18 2 = (σ' 2) := (by rw [eσ_18]; exact gcS_2)
                        have hc3_18 : σ_18 3 = (σ' 3) := (by rw [eσ_18]; exact gcS_3)
                        have hk_18 := Kp.tr hk_15 hk_18
                        have hP : pG G (wM G b u_18) H := hP
                        have hD : va_D A (wM G b u_18) := hD
                        refine lv_iadd hx hb dX3_replicates_105 ?_
                        refine lv_istore_n (lv' := [(2, .int (x + r_18)), (5, .int (nI j_14)), (4, .int 0), (0, .ref (b 0)), (1, .int (nI n)), (3, .int (nI k))]) hx hb dX3_replicates_106 rfl hl (by decide) rfl (fun ls hl => ?_)
                        refine lv_iinc (v := (nI (k + 1))) (lv' := [(3, .int (nI (k + 1))), (2, .int (x + r_18)), (5, .int (nI j_14)), (4, .int 0), (0, .ref (b 0)), (1, .int (nI n))]) hx hb dX3_replicates_107 hl (k := 5) rfl (nI_1 k) (by decide) rfl (fun ls hl => ?_)
                        refine lv_goto (tgt := 4) hx hb dX3_replicates_110 (by decide) ?_
                        exact ih (k + 1) _ σ_18 u_18 (by omega) hq_18 hk_18 (sv_c h9 hx9 (tat_ne bt_3 it_3) (by rw [hr_18]; simp only [spC, at_3, bt_3, ej_6, ej_14, c_2, c_5, c_12, (eq_true c_13), (eq_true c_16), nI_nem hj_6, nI_nem lj_14.1, eq_self, Bool.false_eq_true, ↓reduceIte])) (sv_s h9 (tat_ne bt_3 it_3) (by rw [eσ_18]; simp only [spS, at_3, bt_3, ej_6, ej_14, c_2, c_5, c_12, (eq_true c_13), (eq_true c_16), nI_nem hj_6, nI_nem lj_14.1, eq_self, Bool.false_eq_true, ↓reduceIte])) _ _ hP hD hS ls (lv_sub hl [4, 5, 1, 0] rfl)
                      · exact absurd c_17 (nI_nem lj_14.1)
                    · exact absurd (by decide) c_16
                  · exact absurd (by decide) c_13
                · refine lv_iconst (v := 1) hx hb dX3_replicates_48 (by decide) ?_
                  refine lv_goto (tgt := 53) hx hb dX3_replicates_49 (by decide) ?_
                  refine lv_istore (lv' := [(4, .int 1), (0, .ref (b 0)), (1, .int (nI n)), (2, .int x), (3, .int (nI k))]) hx hb dX3_replicates_53 hl (by decide) rfl (fun ls hl => ?_)
                  refine lv_iload hx hb dX3_replicates_55 (lv_at hl 0 rfl) ?_
                  refine lv_if_eq (tgt := 64) hx hb dX3_replicates_57 (by decide) (fun c_19 => ?_) (fun c_19 => ?_)
                  · exact absurd c_19 (by decide)
                  · refine lv_iconst (v := (-1)) hx hb dX3_replicates_60 (by decide) ?_
                    refine lv_goto (tgt := 70) hx hb dX3_replicates_61 (by decide) ?_
                    refine lv_istore (lv' := [(5, .int (-1)), (4, .int 1), (0, .ref (b 0)), (1, .int (nI n)), (2, .int x), (3, .int (nI k))]) hx hb dX3_replicates_70 hl (by decide) rfl (fun ls hl => ?_)
                    refine lv_iload_n hx hb dX3_replicates_72 rfl (lv_at hl 4 rfl) ?_
                    refine lv_iload hx hb dX3_replicates_73 (lv_at hl 1 rfl) ?_
                    refine lv_if_eq (tgt := 87) hx hb dX3_replicates_75 (by decide) (fun c_20 => ?_) (fun c_20 => ?_)
                    · exact absurd c_20 (by decide)
                    · refine lv_aload_n hx hb dX3_replicates_78 rfl (lv_at hl 2 rfl) ?_
                      refine lv_iload_n hx hb dX3_replicates_79 rfl (lv_at hl 3 rfl) ?_
                      refine lv_iload_n hx hb dX3_replicates_80 rfl (lv_at hl 5 rfl) ?_
                      refine co_mVi (As := [.int (nI n), .int (nI k)]) (rest := [.int x]) S (c_X3_spreads l G Z b σ' μ' hR9 n k hn9 (show k < 64 by omega)) (cwV 2 hts gX3_replicates_X3_spreads rfl rfl rfl (by decide +kernel) ⟨Nat.le_of_ble_eq_true rfl, Nat.le_of_ble_eq_true rfl⟩) hK hP hD hS hA (va_recv hK hP (ci := 2) (q0 := 0) rfl rfl) rfl hl.1 rfl (Nat.le_of_ble_eq_true rfl) dX3_replicates_81 ⟨Nat.zero_le _, Nat.zero_le _⟩ (fun r_21 u_21 H locs hu_21 hP hD hS => ?_)
                      obtain ⟨hr_21, hq_21, hk_21⟩ := hu_21
                      have hr_21 : r_21 = (chC σ' (nI n) (nI k)) := hr_21
                      obtain ⟨σ_21, eσ_21⟩ : ∃ z9, z9 = (chS σ' (nI n) (nI k)) := ⟨_, rfl⟩
                      have hq_21 : Rl Z σ_21 u_21 := (by rw [eσ_21]; exact hq_21)
                      have hc0_21 : σ_21 0 = (σ' 0) := (by rw [eσ_21]; exact chS_0)
                      have hk_21 := Kp.tr hK9 hk_21
                      have hP : pG G (wM G b u_21) H := hP
                      have hD : va_D A (wM G b u_21) := hD
                      refine lv_goto (tgt := 105) hx hb dX3_replicates_84 (by decide) ?_
                      refine lv_iadd hx hb dX3_replicates_105 ?_
                      refine lv_istore_n (lv' := [(2, .int (x + r_21)), (5, .int (-1)), (4, .int 1), (0, .ref (b 0)), (1, .int (nI n)), (3, .int (nI k))]) hx hb dX3_replicates_106 rfl hl (by decide) rfl (fun ls hl => ?_)
                      refine lv_iinc (v := (nI (k + 1))) (lv' := [(3, .int (nI (k + 1))), (2, .int (x + r_21)), (5, .int (-1)), (4, .int 1), (0, .ref (b 0)), (1, .int (nI n))]) hx hb dX3_replicates_107 hl (k := 5) rfl (nI_1 k) (by decide) rfl (fun ls hl => ?_)
                      refine lv_goto (tgt := 4) hx hb dX3_replicates_110 (by decide) ?_
                      exact ih (k + 1) _ σ_21 u_21 (by omega) hq_21 hk_21 (sv_c h9 hx9 (tat_ne bt_3 it_3) (by rw [hr_21]; simp only [spC, at_3, bt_3, ej_6, c_2, c_5, c_12, c_19, c_20, nI_nem hj_6, eq_self, Bool.false_eq_true, ↓reduceIte])) (sv_s h9 (tat_ne bt_3 it_3) (by rw [eσ_21]; simp only [spS, at_3, bt_3, ej_6, c_2, c_5, c_12, c_19, c_20, nI_nem hj_6, eq_self, Bool.false_eq_true, ↓reduceIte])) _ _ hP hD hS ls (lv_sub hl [4, 5, 1, 0] rfl)
  exact LP 64 0 _ _ _ rfl hR Kp.rf rfl rfl _ _ hP hD hS ls (lv_sub hl [2, 3, 1, 0] rfl)

set_option maxRecDepth 20000 in
theorem uX3_X3_round : ∀ w ∈ u_ws RX3 TX3 13, w ∈ wsX3_round := by decide +kernel
abbrev rm_X3_round : Room := { frames := 6, cells := 0, slots := 0, locals := 142 }
set_option maxHeartbeats 4000000 in
set_option maxRecDepth 100000 in
theorem c_X3_round (l : Launch) (G : cG) (Z : Nat) (b : Nat → Nat) (σ μ : cS) (hR : Rl Z σ μ)(w : Bool) : MetV l yX3_round wsX3_round rm_X3_round G (wM G b μ) [.ref (b 0), .int (bI w)] (fun u : cS => wM G b u) (fun u => Rl Z (lrS w σ 64) u ∧ Kp μ u) := by
  refine co_bodyV (cc := cX3_round) (maxL := 5) (ret := none) (by decide) rfl (Nat.le_of_ble_eq_true rfl) ?_
  intro p e s m args below meth c S hr hlocks hK A hA hP hD hS ls hl
  have S : CallFix p m c cX3_round 5 s args wsX3_round RX3 := S
  obtain ⟨hx, hb, hml, hown, hts⟩ := id S
  have hl : lv_has ls 5 [(0, .ref (b 0)), (1, .int (bI w))] := hl
  have uX3 := uX3_X3_round
  refine lv_iconst (v := 0) hx hb dX3_round_0 (by decide) ?_
  refine lv_istore_n (lv' := [(2, .int 0), (0, .ref (b 0)), (1, .int (bI w))]) hx hb dX3_round_1 rfl hl (by decide) rfl (fun ls hl => ?_)
  have LP : ∀ (d : Nat) (k : Nat) (σ' μ' : cS), k + d = 64 → Rl Z σ' μ' → Kp μ μ' → σ' = lrS w σ k → ∀ (H : Heap) (locs : List Loc), pG G (wM G b μ') H → va_D A (wM G b μ') → va_S A s.heap H locs → ∀ ls : Array Slot, lv_has ls 5 [(0, .ref (b 0)), (1, .int (bI w)), (2, .int (nI k))] → W p l e rm_X3_round s m args below meth c H locs 0 0 (QV below G A (fun u : cS => wM G b u) (fun u => Rl Z (lrS w σ 64) u ∧ Kp μ u) args s) (F0 m 2 ls []) := by
    intro d
    induction d with
    | zero =>
      intro k σ' μ' hk hR9 hK9 h9 H locs hP hD hS ls hl
      refine lv_iload_n hx hb dX3_round_2 rfl (lv_at hl 2 rfl) ?_
      refine lv_bipush (v := 64) hx hb dX3_round_3 (by decide) ?_
      refine lv_icmp_ge (tgt := 54) hx hb dX3_round_5 (by decide) (fun c_1 => ?_) (fun c_1 => ?_)
      · exact co_endV μ' S hr hlocks dX3_round_54 hK hP hD hS (by have hk6 : k = 64 := (by omega); subst hk6; exact ⟨by rw [← h9]; exact hR9, hK9⟩)
      · exact absurd (nI_le (a := 64) (b := k) (by omega) (by omega)) c_1
    | succ d ih =>
      intro k σ' μ' hk hR9 hK9 h9 H locs hP hD hS ls hl
      refine lv_iload_n hx hb dX3_round_2 rfl (lv_at hl 2 rfl) ?_
      refine lv_bipush (v := 64) hx hb dX3_round_3 (by decide) ?_
      refine lv_icmp_ge (tgt := 54) hx hb dX3_round_5 (by decide) (fun c_2 => ?_) (fun c_2 => ?_)
      · exact absurd c_2 (nI_ge (a := k) (b := 64) (by omega) (by omega))
      · refine lv_aload_n hx hb dX3_round_8 rfl (lv_at hl 0 rfl) ?_
        refine va_get (D := G.1) (ci := 2) (v := .ref (b 1)) (C := RX3) (T := TX3) (N := 13) hx hb hts uX3 hown hK hP 0 rfl rfl 2 (by decide) (hts (.fieldLink RX3 7 "ChordOverlayModel" "lives" "[Z") (by decide +kernel)) (fun _ h9 => h9) rfl dX3_round_9 ?_
        refine lv_iload_n hx hb dX3_round_12 rfl (lv_at hl 2 rfl) ?_
        refine va_zald hx hb hK hP 1 1 rfl rfl (vi_1 (show k < 64 by omega)) dX3_round_13 ?_
        refine co_eq (y := bI (alv (σ' 0) (nI k))) (rl_l hR9 (show k < 64 by omega)) ?_
        refine co_ifeq (tgt := 48) S dX3_round_14 (by decide) (fun c_3 => ?_) (fun c_3 => ?_)
        · refine lv_iinc (v := (nI (k + 1))) (lv' := [(2, .int (nI (k + 1))), (0, .ref (b 0)), (1, .int (bI w))]) hx hb dX3_round_48 hl (k := 2) rfl (nI_1 k) (by decide) rfl (fun ls hl => ?_)
          refine lv_goto (tgt := 2) hx hb dX3_round_51 (by decide) ?_
          exact ih (k + 1) σ' μ' (by omega) hR9 hK9 (lr_no h9 c_3) _ _ hP hD hS ls (lv_sub hl [1, 2, 0] rfl)
        · refine lv_aload_n hx hb dX3_round_17 rfl (lv_at hl 0 rfl) ?_
          refine lv_iload_n hx hb dX3_round_18 rfl (lv_at hl 2 rfl) ?_
          refine co_mVv (As := [.int (nI k)]) (rest := []) S (c_X3_checks l G Z b σ' μ' hR9 k ⟨(show k < 64 by omega), c_3⟩) (cwV 1 hts gX3_round_X3_checks rfl rfl rfl (by decide +kernel) ⟨Nat.le_of_ble_eq_true rfl, Nat.le_of_ble_eq_true rfl⟩) hK hP hD hS hA (va_recv hK hP (ci := 2) (q0 := 0) rfl rfl) rfl hl.1 rfl (Nat.le_of_ble_eq_true rfl) dX3_round_19 ⟨Nat.zero_le _, Nat.zero_le _⟩ (fun u_4 H locs hu_4 hP hD hS => ?_)
          obtain ⟨hq_4, hk_4⟩ := hu_4
          obtain ⟨σ_4, eσ_4⟩ : ∃ z9, z9 = (ddS σ' (nI k)) := ⟨_, rfl⟩
          have hq_4 : Rl Z σ_4 u_4 := (by rw [eσ_4]; exact hq_4)
          have hc0_4 : σ_4 0 = (σ' 0) := (by rw [eσ_4]; exact ddS_0)
          have hk_4 := Kp.tr hK9 hk_4
          have hP : pG G (wM G b u_4) H := hP
          have hD : va_D A (wM G b u_4) := hD
          refine lv_aload_n hx hb dX3_round_22 rfl (lv_at hl 0 rfl) ?_
          refine lv_iload_n hx hb dX3_round_23 rfl (lv_at hl 2 rfl) ?_
          refine co_mVv (As := [.int (nI k)]) (rest := []) S (c_X3_stabilizes l G Z b σ_4 u_4 hq_4 k (Lv.tr hc0_4 ⟨(show k < 64 by omega), c_3⟩)) (cwV 1 hts gX3_round_X3_stabilizes rfl rfl rfl (by decide +kernel) ⟨Nat.le_of_ble_eq_true rfl, Nat.le_of_ble_eq_true rfl⟩) hK hP hD hS hA (va_recv hK hP (ci := 2) (q0 := 0) rfl rfl) rfl hl.1 rfl (Nat.le_of_ble_eq_true rfl) dX3_round_24 ⟨Nat.zero_le _, Nat.zero_le _⟩ (fun u_5 H locs hu_5 hP hD hS => ?_)
          obtain ⟨hq_5, hk_5⟩ := hu_5
          obtain ⟨σ_5, eσ_5⟩ : ∃ z9, z9 = (msS σ_4 (nI k)) := ⟨_, rfl⟩
          have hq_5 : Rl Z σ_5 u_5 := (by rw [eσ_5]; exact hq_5)
          have hc0_5 : σ_5 0 = (σ' 0) := (by rw [eσ_5]; exact (msS_0).trans hc0_4)
          have hk_5 := Kp.tr hk_4 hk_5
          have hP : pG G (wM G b u_5) H := hP
          have hD : va_D A (wM G b u_5) := hD
          refine lv_aload_n hx hb dX3_round_27 rfl (lv_at hl 0 rfl) ?_
          refine lv_iload_n hx hb dX3_round_28 rfl (lv_at hl 2 rfl) ?_
          refine co_mVi (As := [.int (nI k)]) (rest := []) S (c_X3_fixes l G Z b σ_5 u_5 hq_5 k (Lv.tr hc0_5 ⟨(show k < 64 by omega), c_3⟩)) (cwV 1 hts gX3_round_X3_fixes rfl rfl rfl (by decide +kernel) ⟨Nat.le_of_ble_eq_true rfl, Nat.le_of_ble_eq_true rfl⟩) hK hP hD hS hA (va_recv hK hP (ci := 2) (q0 := 0) rfl rfl) rfl hl.1 rfl (Nat.le_of_ble_eq_true rfl) dX3_round_29 ⟨Nat.zero_le _, Nat.zero_le _⟩ (fun r_6 u_6 H locs hu_6 hP hD hS => ?_)
          obtain ⟨hr_6, hq_6, hk_6⟩ := hu_6
          have hr_6 : r_6 = (rfC σ_5 (nI k) 6) := hr_6
          obtain ⟨σ_6, eσ_6⟩ : ∃ z9, z9 = (rfS σ_5 (nI k) 6) := ⟨_, rfl⟩
          have hq_6 : Rl Z σ_6 u_6 := (by rw [eσ_6]; exact hq_6)
          have hc0_6 : σ_6 0 = (σ' 0) := (by rw [eσ_6]; exact ((rfS_0 6)).trans hc0_5)
          have hk_6 := Kp.tr hk_5 hk_6
          have hP : pG G (wM G b u_6) H := hP
          have hD : va_D A (wM G b u_6) := hD
          refine lv_istore_n (lv' := [(3, .int r_6), (0, .ref (b 0)), (1, .int (bI w)), (2, .int (nI k))]) hx hb dX3_round_32 rfl hl (by decide) rfl (fun ls hl => ?_)
          refine lv_iload_n hx hb dX3_round_33 rfl (lv_at hl 2 rfl) ?_
          refine co_ifeq (tgt := 45) S dX3_round_34 (by decide) (fun c_7 => ?_) (fun c_7 => ?_)
          · refine lv_iconst (v := 0) hx hb dX3_round_45 (by decide) ?_
            refine lv_istore (lv' := [(4, .int 0), (3, .int r_6), (0, .ref (b 0)), (1, .int (bI w)), (2, .int (nI k))]) hx hb dX3_round_46 hl (by decide) rfl (fun ls hl => ?_)
            refine lv_iinc (v := (nI (k + 1))) (lv' := [(2, .int (nI (k + 1))), (4, .int 0), (3, .int r_6), (0, .ref (b 0)), (1, .int (bI w))]) hx hb dX3_round_48 hl (k := 4) rfl (nI_1 k) (by decide) rfl (fun ls hl => ?_)
            refine lv_goto (tgt := 2) hx hb dX3_round_51 (by decide) ?_
            exact ih (k + 1) σ_6 u_6 (by omega) hq_6 hk_6 (lr_f h9 c_3 eσ_4 eσ_5 eσ_6 c_7) _ _ hP hD hS ls (lv_sub hl [3, 4, 0] rfl)
          · refine lv_aload_n hx hb dX3_round_37 rfl (lv_at hl 1 rfl) ?_
            refine lv_iload_n hx hb dX3_round_38 rfl (lv_at hl 3 rfl) ?_
            refine co_mVi (As := [.int (nI k)]) (rest := []) S (c_X3_replicates l G Z b σ_6 u_6 hq_6 k (Lv.tr hc0_6 ⟨(show k < 64 by omega), c_3⟩)) (cwV 1 hts gX3_round_X3_replicates rfl rfl rfl (by decide +kernel) ⟨Nat.le_of_ble_eq_true rfl, Nat.le_of_ble_eq_true rfl⟩) hK hP hD hS hA (va_recv hK hP (ci := 2) (q0 := 0) rfl rfl) rfl hl.1 rfl (Nat.le_of_ble_eq_true rfl) dX3_round_39 ⟨Nat.zero_le _, Nat.zero_le _⟩ (fun r_8 u_8 H locs hu_8 hP hD hS => ?_)
            obtain ⟨hr_8, hq_8, hk_8⟩ := hu_8
            have hr_8 : r_8 = (svC σ_6 (nI k) 64) := hr_8
            obtain ⟨σ_8, eσ_8⟩ : ∃ z9, z9 = (svS σ_6 (nI k) 64) := ⟨_, rfl⟩
            have hq_8 : Rl Z σ_8 u_8 := (by rw [eσ_8]; exact hq_8)
            have hc0_8 : σ_8 0 = (σ' 0) := (by rw [eσ_8]; exact ((svS_0 64)).trans hc0_6)
            have hk_8 := Kp.tr hk_6 hk_8
            have hP : pG G (wM G b u_8) H := hP
            have hD : va_D A (wM G b u_8) := hD
            refine lv_goto (tgt := 46) hx hb dX3_round_42 (by decide) ?_
            refine lv_istore (lv' := [(4, .int r_8), (3, .int r_6), (0, .ref (b 0)), (1, .int (bI w)), (2, .int (nI k))]) hx hb dX3_round_46 hl (by decide) rfl (fun ls hl => ?_)
            refine lv_iinc (v := (nI (k + 1))) (lv' := [(2, .int (nI (k + 1))), (4, .int r_8), (3, .int r_6), (0, .ref (b 0)), (1, .int (bI w))]) hx hb dX3_round_48 hl (k := 4) rfl (nI_1 k) (by decide) rfl (fun ls hl => ?_)
            refine lv_goto (tgt := 2) hx hb dX3_round_51 (by decide) ?_
            exact ih (k + 1) σ_8 u_8 (by omega) hq_8 hk_8 (lr_t h9 c_3 eσ_4 eσ_5 eσ_6 c_7 eσ_8) _ _ hP hD hS ls (lv_sub hl [3, 4, 0] rfl)
  exact LP 64 0 _ _ rfl hR Kp.rf rfl _ _ hP hD hS ls (lv_sub hl [1, 2, 0] rfl)

set_option maxRecDepth 20000 in
theorem uX3_X3_begins : ∀ w ∈ u_ws RX3 TX3 13, w ∈ wsX3_begins := by decide +kernel
abbrev rm_X3_begins : Room := { frames := 0, cells := 0, slots := 0, locals := 0 }
set_option maxHeartbeats 4000000 in
set_option maxRecDepth 100000 in
theorem c_X3_begins (l : Launch) (G : cG) (Z : Nat) (b : Nat → Nat) (σ μ : cS) (hR : Rl Z σ μ)(n x y z : Nat) (hn0 : n < 64) (hx0 : x < 64) (hy0 : y < 64) (hz0 : z < 64) : MetV l yX3_begins wsX3_begins rm_X3_begins G (wM G b μ) [.ref (b 0), .int (nI n), .int (nI x), .int (nI y), .int (nI z)] (fun u : cS => wM G b u) (fun u => Rl Z (blS σ (nI n) (nI x) (nI y) (nI z)) u ∧ Kp μ u) := by
  refine co_bodyV (cc := cX3_begins) (maxL := 6) (ret := none) (by decide) rfl (Nat.le_of_ble_eq_true rfl) ?_
  intro p e s m args below meth c S hr hlocks hK A hA hP hD hS ls hl
  have S : CallFix p m c cX3_begins 6 s args wsX3_begins RX3 := S
  obtain ⟨hx, hb, hml, hown, hts⟩ := id S
  have hl : lv_has ls 6 [(0, .ref (b 0)), (1, .int (nI n)), (2, .int (nI x)), (3, .int (nI y)), (4, .int (nI z))] := hl
  have uX3 := uX3_X3_begins
  refine lv_aload_n hx hb dX3_begins_0 rfl (lv_at hl 0 rfl) ?_
  refine va_get (D := G.1) (ci := 2) (v := .ref (b 1)) (C := RX3) (T := TX3) (N := 13) hx hb hts uX3 hown hK hP 0 rfl rfl 2 (by decide) (hts (.fieldLink RX3 7 "ChordOverlayModel" "lives" "[Z") (by decide +kernel)) (fun _ h9 => h9) rfl dX3_begins_1 ?_
  refine lv_iload_n hx hb dX3_begins_4 rfl (lv_at hl 1 rfl) ?_
  refine lv_iconst (v := 1) hx hb dX3_begins_5 (by decide) ?_
  refine va_zast hx hb hK hP hD hS 1 1 (f := (μ 2)) rfl rfl (vi_1 hn0) dX3_begins_6 (fun H locs hP hD hS => ?_)
  obtain ⟨f_1, ef_1⟩ : ∃ z9, z9 = (upd (μ 2) (nI n).toNatClampNeg (vp_nar .boolean 1)) := ⟨_, rfl⟩
  rw [← ef_1] at hP hD
  have hP : pG G (wM G b (va_up μ 2 f_1)) H := hP
  have hD : va_D A (wM G b (va_up μ 2 f_1)) := hD
  refine lv_aload_n hx hb dX3_begins_7 rfl (lv_at hl 0 rfl) ?_
  refine va_get (D := G.1) (ci := 2) (v := .ref (b 2)) (C := RX3) (T := TX3) (N := 13) hx hb hts uX3 hown hK hP 0 rfl rfl 3 (by decide) (hts (.fieldLink RX3 13 "ChordOverlayModel" "successor" "[I") (by decide +kernel)) (fun _ h9 => h9) rfl dX3_begins_8 ?_
  refine lv_iconst (v := 3) hx hb dX3_begins_11 (by decide) ?_
  refine lv_iload_n hx hb dX3_begins_12 rfl (lv_at hl 1 rfl) ?_
  refine lv_imul hx hb dX3_begins_13 ?_
  refine lv_iload_n hx hb dX3_begins_14 rfl (lv_at hl 2 rfl) ?_
  refine va_iast hx hb hK hP hD hS 2 0 (f := (μ 3)) rfl rfl (vi_30 hn0) dX3_begins_15 (fun H locs hP hD hS => ?_)
  obtain ⟨f_2, ef_2⟩ : ∃ z9, z9 = (upd (μ 3) (3 * (nI n)).toNatClampNeg (nI x)) := ⟨_, rfl⟩
  rw [← ef_2] at hP hD
  have hP : pG G (wM G b (va_up (va_up μ 2 f_1) 3 f_2)) H := hP
  have hD : va_D A (wM G b (va_up (va_up μ 2 f_1) 3 f_2)) := hD
  refine lv_aload_n hx hb dX3_begins_16 rfl (lv_at hl 0 rfl) ?_
  refine va_get (D := G.1) (ci := 2) (v := .ref (b 2)) (C := RX3) (T := TX3) (N := 13) hx hb hts uX3 hown hK hP 0 rfl rfl 3 (by decide) (hts (.fieldLink RX3 13 "ChordOverlayModel" "successor" "[I") (by decide +kernel)) (fun _ h9 => h9) rfl dX3_begins_17 ?_
  refine lv_iconst (v := 3) hx hb dX3_begins_20 (by decide) ?_
  refine lv_iload_n hx hb dX3_begins_21 rfl (lv_at hl 1 rfl) ?_
  refine lv_imul hx hb dX3_begins_22 ?_
  refine lv_iconst (v := 1) hx hb dX3_begins_23 (by decide) ?_
  refine lv_iadd hx hb dX3_begins_24 ?_
  refine lv_iload_n hx hb dX3_begins_25 rfl (lv_at hl 3 rfl) ?_
  refine va_iast hx hb hK hP hD hS 2 0 (f := f_2) rfl rfl (vi_w (w := 3) (p := 1) (by decide) hn0 (by decide)) dX3_begins_26 (fun H locs hP hD hS => ?_)
  obtain ⟨f_3, ef_3⟩ : ∃ z9, z9 = (upd f_2 ((3 * (nI n)) + 1).toNatClampNeg (nI y)) := ⟨_, rfl⟩
  rw [← ef_3] at hP hD
  have hP : pG G (wM G b (va_up (va_up μ 2 f_1) 3 f_3)) H := hP
  have hD : va_D A (wM G b (va_up (va_up μ 2 f_1) 3 f_3)) := hD
  refine lv_aload_n hx hb dX3_begins_27 rfl (lv_at hl 0 rfl) ?_
  refine va_get (D := G.1) (ci := 2) (v := .ref (b 2)) (C := RX3) (T := TX3) (N := 13) hx hb hts uX3 hown hK hP 0 rfl rfl 3 (by decide) (hts (.fieldLink RX3 13 "ChordOverlayModel" "successor" "[I") (by decide +kernel)) (fun _ h9 => h9) rfl dX3_begins_28 ?_
  refine lv_iconst (v := 3) hx hb dX3_begins_31 (by decide) ?_
  refine lv_iload_n hx hb dX3_begins_32 rfl (lv_at hl 1 rfl) ?_
  refine lv_imul hx hb dX3_begins_33 ?_
  refine lv_iconst (v := 2) hx hb dX3_begins_34 (by decide) ?_
  refine lv_iadd hx hb dX3_begins_35 ?_
  refine lv_iload hx hb dX3_begins_36 (lv_at hl 4 rfl) ?_
  refine va_iast hx hb hK hP hD hS 2 0 (f := f_3) rfl rfl (vi_w (w := 3) (p := 2) (by decide) hn0 (by decide)) dX3_begins_38 (fun H locs hP hD hS => ?_)
  obtain ⟨f_4, ef_4⟩ : ∃ z9, z9 = (upd f_3 ((3 * (nI n)) + 2).toNatClampNeg (nI z)) := ⟨_, rfl⟩
  rw [← ef_4] at hP hD
  have hP : pG G (wM G b (va_up (va_up μ 2 f_1) 3 f_4)) H := hP
  have hD : va_D A (wM G b (va_up (va_up μ 2 f_1) 3 f_4)) := hD
  refine lv_aload_n hx hb dX3_begins_39 rfl (lv_at hl 0 rfl) ?_
  refine va_get (D := G.1) (ci := 2) (v := .ref (b 3)) (C := RX3) (T := TX3) (N := 13) hx hb hts uX3 hown hK hP 0 rfl rfl 4 (by decide) (hts (.fieldLink RX3 17 "ChordOverlayModel" "predecessor" "[I") (by decide +kernel)) (fun _ h9 => h9) rfl dX3_begins_40 ?_
  refine lv_iload_n hx hb dX3_begins_43 rfl (lv_at hl 1 rfl) ?_
  refine lv_iconst (v := (-1)) hx hb dX3_begins_44 (by decide) ?_
  refine va_iast hx hb hK hP hD hS 3 0 (f := (μ 4)) rfl rfl (vi_1 hn0) dX3_begins_45 (fun H locs hP hD hS => ?_)
  obtain ⟨f_5, ef_5⟩ : ∃ z9, z9 = (upd (μ 4) (nI n).toNatClampNeg (-1)) := ⟨_, rfl⟩
  rw [← ef_5] at hP hD
  have hP : pG G (wM G b (va_up (va_up (va_up μ 2 f_1) 3 f_4) 4 f_5)) H := hP
  have hD : va_D A (wM G b (va_up (va_up (va_up μ 2 f_1) 3 f_4) 4 f_5)) := hD
  refine lv_iconst (v := 0) hx hb dX3_begins_46 (by decide) ?_
  refine lv_istore (lv' := [(5, .int 0), (0, .ref (b 0)), (1, .int (nI n)), (2, .int (nI x)), (3, .int (nI y)), (4, .int (nI z))]) hx hb dX3_begins_47 hl (by decide) rfl (fun ls hl => ?_)
  have LP1 : ∀ (d : Nat) (k : Nat) (f' : Nat → Int32), k + d = 6 → f' = mclr 6 (-1) (μ 5) n k → ∀ (H : Heap) (locs : List Loc), pG G (wM G b (va_up (va_up (va_up (va_up μ 2 f_1) 3 f_4) 4 f_5) 5 f')) H → va_D A (wM G b (va_up (va_up (va_up (va_up μ 2 f_1) 3 f_4) 4 f_5) 5 f')) → va_S A s.heap H locs → ∀ ls : Array Slot, lv_has ls 6 [(0, .ref (b 0)), (1, .int (nI n)), (2, .int (nI x)), (3, .int (nI y)), (4, .int (nI z)), (5, .int (nI k))] → W p l e rm_X3_begins s m args below meth c H locs 0 0 (QV below G A (fun u : cS => wM G b u) (fun u => Rl Z (blS σ (nI n) (nI x) (nI y) (nI z)) u ∧ Kp μ u) args s) (F0 m 49 ls []) := by
    intro d
    induction d with
    | zero =>
      intro k f' hk h9 H locs hP hD hS ls hl
      have h9a : f' = mclr 6 (-1) (μ 5) n 6 := (by rw [h9, show k = 6 by omega])
      refine lv_iload hx hb dX3_begins_49 (lv_at hl 5 rfl) ?_
      refine lv_bipush (v := 6) hx hb dX3_begins_51 (by decide) ?_
      refine lv_icmp_ge (tgt := 75) hx hb dX3_begins_53 (by decide) (fun c_6 => ?_) (fun c_6 => ?_)
      · refine lv_iconst (v := 0) hx hb dX3_begins_75 (by decide) ?_
        refine lv_istore (lv' := [(5, .int 0), (0, .ref (b 0)), (1, .int (nI n)), (2, .int (nI x)), (3, .int (nI y)), (4, .int (nI z))]) hx hb dX3_begins_76 hl (by decide) rfl (fun ls hl => ?_)
        have LP2 : ∀ (d : Nat) (k2 : Nat) (g' : Nat → Int32), k2 + d = 64 → g' = mclr 64 0 (μ 7) n k2 → ∀ (H : Heap) (locs : List Loc), pG G (wM G b (va_up (va_up (va_up (va_up (va_up μ 2 f_1) 3 f_4) 4 f_5) 5 f') 7 g')) H → va_D A (wM G b (va_up (va_up (va_up (va_up (va_up μ 2 f_1) 3 f_4) 4 f_5) 5 f') 7 g')) → va_S A s.heap H locs → ∀ ls : Array Slot, lv_has ls 6 [(0, .ref (b 0)), (1, .int (nI n)), (5, .int (nI k2))] → W p l e rm_X3_begins s m args below meth c H locs 0 0 (QV below G A (fun u : cS => wM G b u) (fun u => Rl Z (blS σ (nI n) (nI x) (nI y) (nI z)) u ∧ Kp μ u) args s) (F0 m 78 ls []) := by
          intro d
          induction d with
          | zero =>
            intro k2 g' hk2 h8 H locs hP hD hS ls hl
            have h8a : g' = mclr 64 0 (μ 7) n 64 := (by rw [h8, show k2 = 64 by omega])
            refine lv_iload hx hb dX3_begins_78 (lv_at hl 2 rfl) ?_
            refine lv_bipush (v := 64) hx hb dX3_begins_80 (by decide) ?_
            refine lv_icmp_ge (tgt := 104) hx hb dX3_begins_82 (by decide) (fun c_7 => ?_) (fun c_7 => ?_)
            · exact co_endV (va_up (va_up (va_up (va_up (va_up μ 2 f_1) 3 f_4) 4 f_5) 5 f') 7 g') S hr hlocks dX3_begins_104 hK hP hD hS (by refine ⟨rl_beg hR hn0 hx0 hy0 hz0 (blS_0 hn0) (blS_1 hn0) (blS_2 hn0) (blS_3 hn0) (blS_4 hn0) (blS_5 hn0) (blS_6 hn0) rfl (by show f_1 = _; rw [ef_1, nI_clamp (by have := hn0; omega)]; rfl) (by show f_4 = _; rw [ef_4, ef_3, ef_2, ix_0 hn0, show ((3 : Int32) * nI n + 1).toNatClampNeg = n * 3 + 1 from ix_3 (p := 1) hn0 (by decide), show ((3 : Int32) * nI n + 2).toNatClampNeg = n * 3 + 2 from ix_3 (p := 2) hn0 (by decide)]) (by show f_5 = _; rw [ef_5, nI_clamp (by have := hn0; omega)]) h9a rfl h8a, ⟨rfl, rfl, rfl, rfl⟩⟩)
            · exact absurd (nI_le (a := 64) (b := k2) (by omega) (by omega)) c_7
          | succ d ih =>
            intro k2 g' hk2 h8 H locs hP hD hS ls hl
            refine lv_iload hx hb dX3_begins_78 (lv_at hl 2 rfl) ?_
            refine lv_bipush (v := 64) hx hb dX3_begins_80 (by decide) ?_
            refine lv_icmp_ge (tgt := 104) hx hb dX3_begins_82 (by decide) (fun c_8 => ?_) (fun c_8 => ?_)
            · exact absurd c_8 (nI_ge (a := k2) (b := 64) (by omega) (by omega))
            · refine lv_aload_n hx hb dX3_begins_85 rfl (lv_at hl 0 rfl) ?_
              refine va_get (D := G.1) (ci := 2) (v := .ref (b 6)) (C := RX3) (T := TX3) (N := 13) hx hb hts uX3 hown hK hP 0 rfl rfl 7 (by decide) (hts (.fieldLink RX3 26 "ChordOverlayModel" "stamp" "[I") (by decide +kernel)) (fun _ h9 => h9) rfl dX3_begins_86 ?_
              refine lv_bipush (v := 64) hx hb dX3_begins_89 (by decide) ?_
              refine lv_iload_n hx hb dX3_begins_91 rfl (lv_at hl 1 rfl) ?_
              refine lv_imul hx hb dX3_begins_92 ?_
              refine lv_iload hx hb dX3_begins_93 (lv_at hl 2 rfl) ?_
              refine lv_iadd hx hb dX3_begins_95 ?_
              refine lv_iconst (v := 0) hx hb dX3_begins_96 (by decide) ?_
              refine va_iast hx hb hK hP hD hS 6 0 (f := g') rfl rfl (vi_w (w := 64) (p := k2) (by decide) hn0 (show k2 < 64 by omega)) dX3_begins_97 (fun H locs hP hD hS => ?_)
              obtain ⟨f_9, ef_9⟩ : ∃ z9, z9 = (upd g' ((64 * (nI n)) + (nI k2)).toNatClampNeg 0) := ⟨_, rfl⟩
              rw [← ef_9] at hP hD
              have hP : pG G (wM G b (va_up (va_up (va_up (va_up (va_up μ 2 f_1) 3 f_4) 4 f_5) 5 f') 7 f_9)) H := hP
              have hD : va_D A (wM G b (va_up (va_up (va_up (va_up (va_up μ 2 f_1) 3 f_4) 4 f_5) 5 f') 7 f_9)) := hD
              refine lv_iinc (v := (nI (k2 + 1))) (lv' := [(5, .int (nI (k2 + 1))), (0, .ref (b 0)), (1, .int (nI n))]) hx hb dX3_begins_98 hl (k := 2) rfl (nI_1 k2) (by decide) rfl (fun ls hl => ?_)
              refine lv_goto (tgt := 78) hx hb dX3_begins_101 (by decide) ?_
              exact ih (k2 + 1) f_9 (by omega) (by rw [ef_9, h8]; rfl) _ _ hP hD hS ls (lv_sub hl [1, 2, 0] rfl)
        exact LP2 64 0 (μ 7) rfl rfl _ _ hP hD hS ls (lv_sub hl [1, 2, 0] rfl)
      · exact absurd (nI_le (a := 6) (b := k) (by omega) (by omega)) c_6
    | succ d ih =>
      intro k f' hk h9 H locs hP hD hS ls hl
      refine lv_iload hx hb dX3_begins_49 (lv_at hl 5 rfl) ?_
      refine lv_bipush (v := 6) hx hb dX3_begins_51 (by decide) ?_
      refine lv_icmp_ge (tgt := 75) hx hb dX3_begins_53 (by decide) (fun c_10 => ?_) (fun c_10 => ?_)
      · exact absurd c_10 (nI_ge (a := k) (b := 6) (by omega) (by omega))
      · refine lv_aload_n hx hb dX3_begins_56 rfl (lv_at hl 0 rfl) ?_
        refine va_get (D := G.1) (ci := 2) (v := .ref (b 4)) (C := RX3) (T := TX3) (N := 13) hx hb hts uX3 hown hK hP 0 rfl rfl 5 (by decide) (hts (.fieldLink RX3 20 "ChordOverlayModel" "finger" "[I") (by decide +kernel)) (fun _ h9 => h9) rfl dX3_begins_57 ?_
        refine lv_bipush (v := 6) hx hb dX3_begins_60 (by decide) ?_
        refine lv_iload_n hx hb dX3_begins_62 rfl (lv_at hl 1 rfl) ?_
        refine lv_imul hx hb dX3_begins_63 ?_
        refine lv_iload hx hb dX3_begins_64 (lv_at hl 5 rfl) ?_
        refine lv_iadd hx hb dX3_begins_66 ?_
        refine lv_iconst (v := (-1)) hx hb dX3_begins_67 (by decide) ?_
        refine va_iast hx hb hK hP hD hS 4 0 (f := f') rfl rfl (vi_w (w := 6) (p := k) (by decide) hn0 (show k < 6 by omega)) dX3_begins_68 (fun H locs hP hD hS => ?_)
        obtain ⟨f_11, ef_11⟩ : ∃ z9, z9 = (upd f' ((6 * (nI n)) + (nI k)).toNatClampNeg (-1)) := ⟨_, rfl⟩
        rw [← ef_11] at hP hD
        have hP : pG G (wM G b (va_up (va_up (va_up (va_up μ 2 f_1) 3 f_4) 4 f_5) 5 f_11)) H := hP
        have hD : va_D A (wM G b (va_up (va_up (va_up (va_up μ 2 f_1) 3 f_4) 4 f_5) 5 f_11)) := hD
        refine lv_iinc (v := (nI (k + 1))) (lv' := [(5, .int (nI (k + 1))), (0, .ref (b 0)), (1, .int (nI n)), (2, .int (nI x)), (3, .int (nI y)), (4, .int (nI z))]) hx hb dX3_begins_69 hl (k := 5) rfl (nI_1 k) (by decide) rfl (fun ls hl => ?_)
        refine lv_goto (tgt := 49) hx hb dX3_begins_72 (by decide) ?_
        exact ih (k + 1) f_11 (by omega) (by rw [ef_11, h9]; rfl) _ _ hP hD hS ls (lv_sub hl [1, 2, 3, 4, 5, 0] rfl)
  exact LP1 6 0 (μ 5) rfl rfl _ _ hP hD hS ls (lv_sub hl [1, 2, 3, 4, 5, 0] rfl)

abbrev rm_X3_move : Room := { frames := 0, cells := 0, slots := 0, locals := 0 }
set_option maxHeartbeats 4000000 in
set_option maxRecDepth 100000 in
theorem c_X3_move (l : Launch) (G : cG) (p0 q0 N : Nat) (f g : Nat → Int32) (hN : N < 2 ^ 31) : MetV l yX3_move wsX3_move rm_X3_move G (wV G p0 q0 N f g) [.ref p0, .ref q0] (fun u => wV G p0 q0 N f u) (fun u => u = mvA N f g) := by
  refine co_bodyV (cc := cX3_move) (maxL := 3) (ret := none) (by decide) rfl (Nat.le_of_ble_eq_true rfl) ?_
  intro p e s m args below meth c S hr hlocks hK A hA hP hD hS ls hl
  have S : CallFix p m c cX3_move 3 s args wsX3_move RX3 := S
  obtain ⟨hx, hb, hml, hown, hts⟩ := id S
  have hl : lv_has ls 3 [(0, .ref p0), (1, .ref q0)] := hl
  refine lv_iconst (v := 0) hx hb dX3_move_0 (by decide) ?_
  refine lv_istore_n (lv' := [(2, .int 0), (0, .ref p0), (1, .ref q0)]) hx hb dX3_move_1 rfl hl (by decide) rfl (fun ls hl => ?_)
  have LP : ∀ (d : Nat) (k : Nat) (g' : Nat → Int32), k + d = N → g' = mvA k f g → ∀ (H : Heap) (locs : List Loc), pG G (wV G p0 q0 N f g') H → va_D A (wV G p0 q0 N f g') → va_S A s.heap H locs → ∀ ls : Array Slot, lv_has ls 3 [(0, .ref p0), (1, .ref q0), (2, .int (nI k))] → W p l e rm_X3_move s m args below meth c H locs 0 0 (QV below G A (fun u => wV G p0 q0 N f u) (fun u => u = mvA N f g) args s) (F0 m 2 ls []) := by
    intro d
    induction d with
    | zero =>
      intro k g' hk h9 H locs hP hD hS ls hl
      refine lv_iload_n hx hb dX3_move_2 rfl (lv_at hl 2 rfl) ?_
      refine lv_aload_n hx hb dX3_move_3 rfl (lv_at hl 0 rfl) ?_
      refine va_alen (v := nI N) hx hb hK hP 0 0 rfl rfl rfl dX3_move_4 ?_
      refine lv_icmp_ge (tgt := 20) hx hb dX3_move_5 (by decide) (fun c_1 => ?_) (fun c_1 => ?_)
      · exact co_endV g' S hr hlocks dX3_move_20 hK hP hD hS (by show g' = mvA N f g; rw [h9, show k = N by omega])
      · exact absurd (nI_le (a := N) (b := k) (by omega) (by omega)) c_1
    | succ d ih =>
      intro k g' hk h9 H locs hP hD hS ls hl
      refine lv_iload_n hx hb dX3_move_2 rfl (lv_at hl 2 rfl) ?_
      refine lv_aload_n hx hb dX3_move_3 rfl (lv_at hl 0 rfl) ?_
      refine va_alen (v := nI N) hx hb hK hP 0 0 rfl rfl rfl dX3_move_4 ?_
      refine lv_icmp_ge (tgt := 20) hx hb dX3_move_5 (by decide) (fun c_2 => ?_) (fun c_2 => ?_)
      · exact absurd c_2 (nI_ge (a := k) (b := N) (by omega) (by omega))
      · refine lv_aload_n hx hb dX3_move_8 rfl (lv_at hl 1 rfl) ?_
        refine lv_iload_n hx hb dX3_move_9 rfl (lv_at hl 2 rfl) ?_
        refine lv_aload_n hx hb dX3_move_10 rfl (lv_at hl 0 rfl) ?_
        refine lv_iload_n hx hb dX3_move_11 rfl (lv_at hl 2 rfl) ?_
        refine va_iald hx hb hK hP 0 0 rfl rfl (vp_in_nI (by omega) (by omega)) dX3_move_12 ?_
        refine va_iast hx hb hK hP hD hS 1 0 rfl rfl (vp_in_nI (by omega) (by omega)) dX3_move_13 (fun H locs hP hD hS => ?_)
        obtain ⟨f_3, ef_3⟩ : ∃ z9, z9 = (upd g' (nI k).toNatClampNeg (f (nI k).toNatClampNeg)) := ⟨_, rfl⟩
        rw [← ef_3] at hP hD
        have hP : pG G (wV G p0 q0 N f f_3) H := hP
        have hD : va_D A (wV G p0 q0 N f f_3) := hD
        refine lv_iinc (v := (nI (k + 1))) (lv' := [(2, .int (nI (k + 1))), (0, .ref p0), (1, .ref q0)]) hx hb dX3_move_14 hl (k := 2) rfl (nI_1 k) (by decide) rfl (fun ls hl => ?_)
        refine lv_goto (tgt := 2) hx hb dX3_move_17 (by decide) ?_
        exact ih (k + 1) f_3 (by omega) (by rw [ef_3, h9]; exact mvA_s (by omega)) _ _ hP hD hS ls (lv_sub hl [1, 2, 0] rfl)
  exact LP N 0 g (Nat.zero_add N) mvA_0.symm _ _ hP hD hS ls (lv_sub hl [1, 2, 0] rfl)
