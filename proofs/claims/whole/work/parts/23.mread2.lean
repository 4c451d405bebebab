set_option maxRecDepth 20000 in
theorem uX3_X3_wrongOf : ∀ w ∈ u_ws RX3 TX3 13, w ∈ wsX3_wrongOf := by decide +kernel
abbrev rm_X3_wrongOf : Room := { frames := 1, cells := 0, slots := 0, locals := 23 }
set_option maxHeartbeats 4000000 in
set_option maxRecDepth 100000 in
theorem c_X3_wrongOf (l : Launch) (G : cG) (Z : Nat) (b : Nat → Nat) (σ μ : cS) (hR : Rl Z σ μ)(n : Nat) (hn : Lv σ n) : MetR l yX3_wrongOf wsX3_wrongOf rm_X3_wrongOf G (wM G b μ) [.ref (b 0), .int (nI n)] (wrg σ (nI n)) := by
  refine co_bodyR (cc := cX3_wrongOf) (maxL := 4) (ret := (some .int)) (by decide) rfl (Nat.le_of_ble_eq_true rfl) ?_
  intro p e s m args below meth c S hr hlocks hK hP ls hl
  have S : CallFix p m c cX3_wrongOf 4 s args wsX3_wrongOf RX3 := S
  obtain ⟨hx, hb, hml, hown, hts⟩ := id S
  have hl : lv_has ls 4 [(0, .ref (b 0)), (1, .int (nI n))] := hl
  have uX3 := uX3_X3_wrongOf
  refine lv_aload_n hx hb dX3_wrongOf_0 rfl (lv_at hl 0 rfl) ?_
  refine lv_iload_n hx hb dX3_wrongOf_1 rfl (lv_at hl 1 rfl) ?_
  obtain ⟨j_1, ej_1, lj_1⟩ := Lv.ls hR hn
  refine co_rV (As := [.int (nI n)]) (rest := []) S (c_X3_liveSuccessorOf l G Z b σ μ hR n hn) (cwV 1 hts gX3_wrongOf_X3_liveSuccessorOf rfl rfl rfl (by decide +kernel) ⟨Nat.le_of_ble_eq_true rfl, Nat.le_of_ble_eq_true rfl⟩) hK hP (va_recv hK hP (ci := 2) (q0 := 0) rfl rfl) rfl hl.1 rfl (Nat.le_of_ble_eq_true rfl) dX3_wrongOf_2 ⟨Nat.zero_le _, Nat.zero_le _⟩ ?_
  refine co_eq ej_1 ?_
  refine lv_aload_n hx hb dX3_wrongOf_5 rfl (lv_at hl 0 rfl) ?_
  refine lv_iload_n hx hb dX3_wrongOf_6 rfl (lv_at hl 1 rfl) ?_
  refine lv_iconst (v := 1) hx hb dX3_wrongOf_7 (by decide) ?_
  refine lv_iadd hx hb dX3_wrongOf_8 ?_
  refine lv_bipush (v := 64) hx hb dX3_wrongOf_9 (by decide) ?_
  refine lv_irem hx hb dX3_wrongOf_11 (by decide) ?_
  refine co_eq (ad_rem (k := 1) hn.1 (by decide)) ?_
  refine co_rV (As := [.int (nI ((n + 1) % 64))]) (rest := [.int (nI j_1)]) S (c_X3_ownerOf l G Z b σ μ hR ((n + 1) % 64) (Nat.mod_lt _ (by decide))) (cwV 1 hts gX3_wrongOf_X3_ownerOf rfl rfl rfl (by decide +kernel) ⟨Nat.le_of_ble_eq_true rfl, Nat.le_of_ble_eq_true rfl⟩) hK hP (va_recv hK hP (ci := 2) (q0 := 0) rfl rfl) rfl hl.1 rfl (Nat.le_of_ble_eq_true rfl) dX3_wrongOf_12 ⟨Nat.zero_le _, Nat.zero_le _⟩ ?_
  refine lv_icmp_ne (tgt := 22) hx hb dX3_wrongOf_15 (by decide) (fun c_2 => ?_) (fun c_2 => ?_)
  · refine lv_iconst (v := 1) hx hb dX3_wrongOf_22 (by decide) ?_
    refine lv_istore_n (lv' := [(2, .int 1), (0, .ref (b 0)), (1, .int (nI n))]) hx hb dX3_wrongOf_23 rfl hl (by decide) rfl (fun ls hl => ?_)
    refine lv_iload_n hx hb dX3_wrongOf_24 rfl (lv_at hl 0 rfl) ?_
    refine lv_aload_n hx hb dX3_wrongOf_25 rfl (lv_at hl 1 rfl) ?_
    refine va_get (D := G.1) (ci := 2) (v := .ref (b 3)) (C := RX3) (T := TX3) (N := 13) hx hb hts uX3 hown hK hP 0 rfl rfl 4 (by decide) (hts (.fieldLink RX3 17 "ChordOverlayModel" "predecessor" "[I") (by decide +kernel)) (fun _ h9 => h9) rfl dX3_wrongOf_26 ?_
    refine lv_iload_n hx hb dX3_wrongOf_29 rfl (lv_at hl 2 rfl) ?_
    refine va_iald hx hb hK hP 3 0 rfl rfl (vi_1 hn.1) dX3_wrongOf_30 ?_
    rcases rl_p hR hn with ⟨ej_3, mj_3⟩ | ⟨j_3, hj_3, ej_3, mj_3⟩
    · have ej_3 : tat 1 (σ 2) (nI n) 0 = (-1) := ej_3
      refine co_eq mj_3 ?_
      refine lv_aload_n hx hb dX3_wrongOf_31 rfl (lv_at hl 1 rfl) ?_
      refine lv_iload_n hx hb dX3_wrongOf_32 rfl (lv_at hl 2 rfl) ?_
      refine co_rV (As := [.int (nI n)]) (rest := [.int (-1), .int 1]) S (c_X3_before l G Z b σ μ hR n hn) (cwV 1 hts gX3_wrongOf_X3_before rfl rfl rfl (by decide +kernel) ⟨Nat.le_of_ble_eq_true rfl, Nat.le_of_ble_eq_true rfl⟩) hK hP (va_recv hK hP (ci := 2) (q0 := 0) rfl rfl) rfl hl.1 rfl (Nat.le_of_ble_eq_true rfl) dX3_wrongOf_33 ⟨Nat.zero_le _, Nat.zero_le _⟩ ?_
      refine lv_icmp_ne (tgt := 43) hx hb dX3_wrongOf_36 (by decide) (fun c_4 => ?_) (fun c_4 => ?_)
      · refine lv_iconst (v := 1) hx hb dX3_wrongOf_43 (by decide) ?_
        refine lv_iadd hx hb dX3_wrongOf_44 ?_
        refine lv_istore_n (lv' := [(2, .int (1 + 1)), (0, .ref (b 0)), (1, .int (nI n))]) hx hb dX3_wrongOf_45 rfl hl (by decide) rfl (fun ls hl => ?_)
        refine lv_iconst (v := 0) hx hb dX3_wrongOf_46 (by decide) ?_
        refine lv_istore_n (lv' := [(3, .int 0), (2, .int (1 + 1)), (0, .ref (b 0)), (1, .int (nI n))]) hx hb dX3_wrongOf_47 rfl hl (by decide) rfl (fun ls hl => ?_)
        have LP : ∀ (d : Nat) (k : Nat) (x : Int32), k + d = 6 → x = wF (σ 0) (σ 3) (nI n) (w2S (σ 0) (σ 2) (nI n) (w1S (σ 0) (σ 1) (nI n))) k → ∀ ls : Array Slot, lv_has ls 4 [(0, .ref (b 0)), (1, .int (nI n)), (2, .int x), (3, .int (nI k))] → W p l e rm_X3_wrongOf s m args below meth c s.heap [] 0 0 (QR below (wrg σ (nI n)) args s) (F0 m 48 ls []) := by
          intro d
          induction d with
          | zero =>
            intro k x hk hx9 ls hl
            refine lv_iload_n hx hb dX3_wrongOf_48 rfl (lv_at hl 3 rfl) ?_
            refine lv_bipush (v := 6) hx hb dX3_wrongOf_49 (by decide) ?_
            refine lv_icmp_ge (tgt := 94) hx hb dX3_wrongOf_51 (by decide) (fun c_5 => ?_) (fun c_5 => ?_)
            · refine lv_iload_n hx hb dX3_wrongOf_94 rfl (lv_at hl 2 rfl) ?_
              exact co_endR S hr hlocks dX3_wrongOf_95 (by rw [hx9, show k = 6 by omega]; rfl)
            · exact absurd (nI_le (a := 6) (b := k) (by omega) (by omega)) c_5
          | succ d ih =>
            intro k x hk hx9 ls hl
            refine lv_iload_n hx hb dX3_wrongOf_48 rfl (lv_at hl 3 rfl) ?_
            refine lv_bipush (v := 6) hx hb dX3_wrongOf_49 (by decide) ?_
            refine lv_icmp_ge (tgt := 94) hx hb dX3_wrongOf_51 (by decide) (fun c_6 => ?_) (fun c_6 => ?_)
            · exact absurd c_6 (nI_ge (a := k) (b := 6) (by omega) (by omega))
            · refine lv_iload_n hx hb dX3_wrongOf_54 rfl (lv_at hl 2 rfl) ?_
              refine lv_aload_n hx hb dX3_wrongOf_55 rfl (lv_at hl 0 rfl) ?_
              refine va_get (D := G.1) (ci := 2) (v := .ref (b 4)) (C := RX3) (T := TX3) (N := 13) hx hb hts uX3 hown hK hP 0 rfl rfl 5 (by decide) (hts (.fieldLink RX3 20 "ChordOverlayModel" "finger" "[I") (by decide +kernel)) (fun _ h9 => h9) rfl dX3_wrongOf_56 ?_
              refine lv_bipush (v := 6) hx hb dX3_wrongOf_59 (by decide) ?_
              refine lv_iload_n hx hb dX3_wrongOf_61 rfl (lv_at hl 1 rfl) ?_
              refine lv_imul hx hb dX3_wrongOf_62 ?_
              refine lv_iload_n hx hb dX3_wrongOf_63 rfl (lv_at hl 3 rfl) ?_
              refine lv_iadd hx hb dX3_wrongOf_64 ?_
              refine va_iald hx hb hK hP 4 0 rfl rfl (vi_w (w := 6) (p := k) (by decide) hn.1 (show k < 6 by omega)) dX3_wrongOf_65 ?_
              rcases rl_f hR hn k (show k < 6 by omega) with ⟨ej_7, mj_7⟩ | ⟨j_7, hj_7, ej_7, mj_7⟩
              · have ej_7 : tat 6 (σ 3) (nI n) (nI k) = (-1) := ej_7
                refine co_eq mj_7 ?_
                refine lv_aload_n hx hb dX3_wrongOf_66 rfl (lv_at hl 0 rfl) ?_
                refine lv_iload_n hx hb dX3_wrongOf_67 rfl (lv_at hl 1 rfl) ?_
                refine lv_iconst (v := 1) hx hb dX3_wrongOf_68 (by decide) ?_
                refine lv_iload_n hx hb dX3_wrongOf_69 rfl (lv_at hl 3 rfl) ?_
                refine lv_ishl hx hb dX3_wrongOf_70 ?_
                refine lv_iadd hx hb dX3_wrongOf_71 ?_
                refine lv_bipush (v := 64) hx hb dX3_wrongOf_72 (by decide) ?_
                refine lv_irem hx hb dX3_wrongOf_74 (by decide) ?_
                refine co_eq (fg_rem hn.1 (show k < 6 by omega)) ?_
                refine co_rV (As := [.int (nI ((n + 2 ^ k) % 64))]) (rest := [.int (-1), .int x]) S (c_X3_ownerOf l G Z b σ μ hR ((n + 2 ^ k) % 64) (Nat.mod_lt _ (by decide))) (cwV 1 hts gX3_wrongOf_X3_ownerOf rfl rfl rfl (by decide +kernel) ⟨Nat.le_of_ble_eq_true rfl, Nat.le_of_ble_eq_true rfl⟩) hK hP (va_recv hK hP (ci := 2) (q0 := 0) rfl rfl) rfl hl.1 rfl (Nat.le_of_ble_eq_true rfl) dX3_wrongOf_75 ⟨Nat.zero_le _, Nat.zero_le _⟩ ?_
                refine lv_icmp_ne (tgt := 85) hx hb dX3_wrongOf_78 (by decide) (fun c_8 => ?_) (fun c_8 => ?_)
                · refine lv_iconst (v := 1) hx hb dX3_wrongOf_85 (by decide) ?_
                  refine lv_iadd hx hb dX3_wrongOf_86 ?_
                  refine lv_istore_n (lv' := [(2, .int (x + 1)), (0, .ref (b 0)), (1, .int (nI n)), (3, .int (nI k))]) hx hb dX3_wrongOf_87 rfl hl (by decide) rfl (fun ls hl => ?_)
                  refine lv_iinc (v := (nI (k + 1))) (lv' := [(3, .int (nI (k + 1))), (2, .int (x + 1)), (0, .ref (b 0)), (1, .int (nI n))]) hx hb dX3_wrongOf_88 hl (k := 3) rfl (nI_1 k) (by decide) rfl (fun ls hl => ?_)
                  refine lv_goto (tgt := 48) hx hb dX3_wrongOf_91 (by decide) ?_
                  exact ih (k + 1) _ (by omega) (by subst hx9; simp only [wF, fgs_nI hn.1 (show k < 6 by omega), ej_1, ej_3, ej_7, c_6, c_8, eq_self, Bool.false_eq_true, ↓reduceIte, Int32.add_zero]) ls (lv_sub hl [2, 3, 1, 0] rfl)
                · refine lv_iconst (v := 0) hx hb dX3_wrongOf_81 (by decide) ?_
                  refine lv_goto (tgt := 86) hx hb dX3_wrongOf_82 (by decide) ?_
                  refine lv_iadd hx hb dX3_wrongOf_86 ?_
                  refine lv_istore_n (lv' := [(2, .int (x + 0)), (0, .ref (b 0)), (1, .int (nI n)), (3, .int (nI k))]) hx hb dX3_wrongOf_87 rfl hl (by decide) rfl (fun ls hl => ?_)
                  refine lv_iinc (v := (nI (k + 1))) (lv' := [(3, .int (nI (k + 1))), (2, .int (x + 0)), (0, .ref (b 0)), (1, .int (nI n))]) hx hb dX3_wrongOf_88 hl (k := 3) rfl (nI_1 k) (by decide) rfl (fun ls hl => ?_)
                  refine lv_goto (tgt := 48) hx hb dX3_wrongOf_91 (by decide) ?_
                  exact ih (k + 1) _ (by omega) (by subst hx9; simp only [wF, fgs_nI hn.1 (show k < 6 by omega), ej_1, ej_3, ej_7, c_6, (eq_true c_8), eq_self, Bool.false_eq_true, ↓reduceIte, Int32.add_zero]) ls (lv_sub hl [2, 3, 1, 0] rfl)
              · have ej_7 : tat 6 (σ 3) (nI n) (nI k) = (nI j_7) := ej_7
                refine co_eq mj_7 ?_
                refine lv_aload_n hx hb dX3_wrongOf_66 rfl (lv_at hl 0 rfl) ?_
                refine lv_iload_n hx hb dX3_wrongOf_67 rfl (lv_at hl 1 rfl) ?_
                refine lv_iconst (v := 1) hx hb dX3_wrongOf_68 (by decide) ?_
                refine lv_iload_n hx hb dX3_wrongOf_69 rfl (lv_at hl 3 rfl) ?_
                refine lv_ishl hx hb dX3_wrongOf_70 ?_
                refine lv_iadd hx hb dX3_wrongOf_71 ?_
                refine lv_bipush (v := 64) hx hb dX3_wrongOf_72 (by decide) ?_
                refine lv_irem hx hb dX3_wrongOf_74 (by decide) ?_
                refine co_eq (fg_rem hn.1 (show k < 6 by omega)) ?_
                refine co_rV (As := [.int (nI ((n + 2 ^ k) % 64))]) (rest := [.int (nI j_7), .int x]) S (c_X3_ownerOf l G Z b σ μ hR ((n + 2 ^ k) % 64) (Nat.mod_lt _ (by decide))) (cwV 1 hts gX3_wrongOf_X3_ownerOf rfl rfl rfl (by decide +kernel) ⟨Nat.le_of_ble_eq_true rfl, Nat.le_of_ble_eq_true rfl⟩) hK hP (va_recv hK hP (ci := 2) (q0 := 0) rfl rfl) rfl hl.1 rfl (Nat.le_of_ble_eq_true rfl) dX3_wrongOf_75 ⟨Nat.zero_le _, Nat.zero_le _⟩ ?_
                refine lv_icmp_ne (tgt := 85) hx hb dX3_wrongOf_78 (by decide) (fun c_9 => ?_) (fun c_9 => ?_)
                · refine lv_iconst (v := 1) hx hb dX3_wrongOf_85 (by decide) ?_
                  refine lv_iadd hx hb dX3_wrongOf_86 ?_
                  refine lv_istore_n (lv' := [(2, .int (x + 1)), (0, .ref (b 0)), (1, .int (nI n)), (3, .int (nI k))]) hx hb dX3_wrongOf_87 rfl hl (by decide) rfl (fun ls hl => ?_)
                  refine lv_iinc (v := (nI (k + 1))) (lv' := [(3, .int (nI (k + 1))), (2, .int (x + 1)), (0, .ref (b 0)), (1, .int (nI n))]) hx hb dX3_wrongOf_88 hl (k := 3) rfl (nI_1 k) (by decide) rfl (fun ls hl => ?_)
                  refine lv_goto (tgt := 48) hx hb dX3_wrongOf_91 (by decide) ?_
                  exact ih (k + 1) _ (by omega) (by subst hx9; simp only [wF, fgs_nI hn.1 (show k < 6 by omega), ej_1, ej_3, ej_7, c_6, c_9, eq_self, Bool.false_eq_true, ↓reduceIte, Int32.add_zero]) ls (lv_sub hl [2, 3, 1, 0] rfl)
                · refine lv_iconst (v := 0) hx hb dX3_wrongOf_81 (by decide) ?_
                  refine lv_goto (tgt := 86) hx hb dX3_wrongOf_82 (by decide) ?_
                  refine lv_iadd hx hb dX3_wrongOf_86 ?_
                  refine lv_istore_n (lv' := [(2, .int (x + 0)), (0, .ref (b 0)), (1, .int (nI n)), (3, .int (nI k))]) hx hb dX3_wrongOf_87 rfl hl (by decide) rfl (fun ls hl => ?_)
                  refine lv_iinc (v := (nI (k + 1))) (lv' := [(3, .int (nI (k + 1))), (2, .int (x + 0)), (0, .ref (b 0)), (1, .int (nI n))]) hx hb dX3_wrongOf_88 hl (k := 3) rfl (nI_1 k) (by decide) rfl (fun ls hl => ?_)
                  refine lv_goto (tgt := 48) hx hb dX3_wrongOf_91 (by decide) ?_
                  exact ih (k + 1) _ (by omega) (by subst hx9; simp only [wF, fgs_nI hn.1 (show k < 6 by omega), ej_1, ej_3, ej_7, c_6, (eq_true c_9), eq_self, Bool.false_eq_true, ↓reduceIte, Int32.add_zero]) ls (lv_sub hl [2, 3, 1, 0] rfl)
        exact LP 6 0 _ rfl (by simp only [wF, w1S, w2S, show onw (nI n) 1 = nI ((n + 1) % 64) from onw_nI (k := 1) hn.1 (by decide), ej_1, ej_3, c_2, c_4, ↓reduceIte, Int32.add_zero] <;> decide) ls (lv_sub hl [2, 3, 1, 0] rfl)
      · refine lv_iconst (v := 0) hx hb dX3_wrongOf_39 (by decide) ?_
        refine lv_goto (tgt := 44) hx hb dX3_wrongOf_40 (by decide) ?_
        refine lv_iadd hx hb dX3_wrongOf_44 ?_
        refine lv_istore_n (lv' := [(2, .int (1 + 0)), (0, .ref (b 0)), (1, .int (nI n))]) hx hb dX3_wrongOf_45 rfl hl (by decide) rfl (fun ls hl => ?_)
        refine lv_iconst (v := 0) hx hb dX3_wrongOf_46 (by decide) ?_
        refine lv_istore_n (lv' := [(3, .int 0), (2, .int (1 + 0)), (0, .ref (b 0)), (1, .int (nI n))]) hx hb dX3_wrongOf_47 rfl hl (by decide) rfl (fun ls hl => ?_)
        have LP : ∀ (d : Nat) (k : Nat) (x : Int32), k + d = 6 → x = wF (σ 0) (σ 3) (nI n) (w2S (σ 0) (σ 2) (nI n) (w1S (σ 0) (σ 1) (nI n))) k → ∀ ls : Array Slot, lv_has ls 4 [(0, .ref (b 0)), (1, .int (nI n)), (2, .int x), (3, .int (nI k))] → W p l e rm_X3_wrongOf s m args below meth c s.heap [] 0 0 (QR below (wrg σ (nI n)) args s) (F0 m 48 ls []) := by
          intro d
          induction d with
          | zero =>
            intro k x hk hx9 ls hl
            refine lv_iload_n hx hb dX3_wrongOf_48 rfl (lv_at hl 3 rfl) ?_
            refine lv_bipush (v := 6) hx hb dX3_wrongOf_49 (by decide) ?_
            refine lv_icmp_ge (tgt := 94) hx hb dX3_wrongOf_51 (by decide) (fun c_10 => ?_) (fun c_10 => ?_)
            · refine lv_iload_n hx hb dX3_wrongOf_94 rfl (lv_at hl 2 rfl) ?_
              exact co_endR S hr hlocks dX3_wrongOf_95 (by rw [hx9, show k = 6 by omega]; rfl)
            · exact absurd (nI_le (a := 6) (b := k) (by omega) (by omega)) c_10
          | succ d ih =>
            intro k x hk hx9 ls hl
            refine lv_iload_n hx hb dX3_wrongOf_48 rfl (lv_at hl 3 rfl) ?_
            refine lv_bipush (v := 6) hx hb dX3_wrongOf_49 (by decide) ?_
            refine lv_icmp_ge (tgt := 94) hx hb dX3_wrongOf_51 (by decide) (fun c_11 => ?_) (fun c_11 => ?_)
            · exact absurd c_11 (nI_ge (a := k) (b := 6) (by omega) (by omega))
            · refine lv_iload_n hx hb dX3_wrongOf_54 rfl (lv_at hl 2 rfl) ?_
              refine lv_aload_n hx hb dX3_wrongOf_55 rfl (lv_at hl 0 rfl) ?_
              refine va_get (D := G.1) (ci := 2) (v := .ref (b 4)) (C := RX3) (T := TX3) (N := 13) hx hb hts uX3 hown hK hP 0 rfl rfl 5 (by decide) (hts (.fieldLink RX3 20 "ChordOverlayModel" "finger" "[I") (by decide +kernel)) (fun _ h9 => h9) rfl dX3_wrongOf_56 ?_
              refine lv_bipush (v := 6) hx hb dX3_wrongOf_59 (by decide) ?_
              refine lv_iload_n hx hb dX3_wrongOf_61 rfl (lv_at hl 1 rfl) ?_
              refine lv_imul hx hb dX3_wrongOf_62 ?_
              refine lv_iload_n hx hb dX3_wrongOf_63 rfl (lv_at hl 3 rfl) ?_
              refine lv_iadd hx hb dX3_wrongOf_64 ?_
              refine va_iald hx hb hK hP 4 0 rfl rfl (vi_w (w := 6) (p := k) (by decide) hn.1 (show k < 6 by omega)) dX3_wrongOf_65 ?_
              rcases rl_f hR hn k (show k < 6 by omega) with ⟨ej_12, mj_12⟩ | ⟨j_12, hj_12, ej_12, mj_12⟩
              · have ej_12 : tat 6 (σ 3) (nI n) (nI k) = (-1) := ej_12
                refine co_eq mj_12 ?_
                refine lv_aload_n hx hb dX3_wrongOf_66 rfl (lv_at hl 0 rfl) ?_
                refine lv_iload_n hx hb dX3_wrongOf_67 rfl (lv_at hl 1 rfl) ?_
                refine lv_iconst (v := 1) hx hb dX3_wrongOf_68 (by decide) ?_
                refine lv_iload_n hx hb dX3_wrongOf_69 rfl (lv_at hl 3 rfl) ?_
                refine lv_ishl hx hb dX3_wrongOf_70 ?_
                refine lv_iadd hx hb dX3_wrongOf_71 ?_
                refine lv_bipush (v := 64) hx hb dX3_wrongOf_72 (by decide) ?_
                refine lv_irem hx hb dX3_wrongOf_74 (by decide) ?_
                refine co_eq (fg_rem hn.1 (show k < 6 by omega)) ?_
                refine co_rV (As := [.int (nI ((n + 2 ^ k) % 64))]) (rest := [.int (-1), .int x]) S (c_X3_ownerOf l G Z b σ μ hR ((n + 2 ^ k) % 64) (Nat.mod_lt _ (by decide))) (cwV 1 hts gX3_wrongOf_X3_ownerOf rfl rfl rfl (by decide +kernel) ⟨Nat.le_of_ble_eq_true rfl, Nat.le_of_ble_eq_true rfl⟩) hK hP (va_recv hK hP (ci := 2) (q0 := 0) rfl rfl) rfl hl.1 rfl (Nat.le_of_ble_eq_true rfl) dX3_wrongOf_75 ⟨Nat.zero_le _, Nat.zero_le _⟩ ?_
                refine lv_icmp_ne (tgt := 85) hx hb dX3_wrongOf_78 (by decide) (fun c_13 => ?_) (fun c_13 => ?_)
                · refine lv_iconst (v := 1) hx hb dX3_wrongOf_85 (by decide) ?_
                  refine lv_iadd hx hb dX3_wrongOf_86 ?_
                  refine lv_istore_n (lv' := [(2, .int (x + 1)), (0, .ref (b 0)), (1, .int (nI n)), (3, .int (nI k))]) hx hb dX3_wrongOf_87 rfl hl (by decide) rfl (fun ls hl => ?_)
                  refine lv_iinc (v := (nI (k + 1))) (lv' := [(3, .int (nI (k + 1))), (2, .int (x + 1)), (0, .ref (b 0)), (1, .int (nI n))]) hx hb dX3_wrongOf_88 hl (k := 3) rfl (nI_1 k) (by decide) rfl (fun ls hl => ?_)
                  refine lv_goto (tgt := 48) hx hb dX3_wrongOf_91 (by decide) ?_
                  exact ih (k + 1) _ (by omega) (by subst hx9; simp only [wF, fgs_nI hn.1 (show k < 6 by omega), ej_1, ej_3, ej_12, c_11, c_13, eq_self, Bool.false_eq_true, ↓reduceIte, Int32.add_zero]) ls (lv_sub hl [2, 3, 1, 0] rfl)
                · refine lv_iconst (v := 0) hx hb dX3_wrongOf_81 (by decide) ?_
                  refine lv_goto (tgt := 86) hx hb dX3_wrongOf_82 (by decide) ?_
                  refine lv_iadd hx hb dX3_wrongOf_86 ?_
                  refine lv_istore_n (lv' := [(2, .int (x + 0)), (0, .ref (b 0)), (1, .int (nI n)), (3, .int (nI k))]) hx hb dX3_wrongOf_87 rfl hl (by decide) rfl (fun ls hl => ?_)
                  refine lv_iinc (v := (nI (k + 1))) (lv' := [(3, .int (nI (k + 1))), (2, .int (x + 0)), (0, .ref (b 0)), (1, .int (nI n))]) hx hb dX3_wrongOf_88 hl (k := 3) rfl (nI_1 k) (by decide) rfl (fun ls hl => ?_)
                  refine lv_goto (tgt := 48) hx hb dX3_wrongOf_91 (by decide) ?_
                  exact ih (k + 1) _ (by omega) (by subst hx9; simp only [wF, fgs_nI hn.1 (show k < 6 by omega), ej_1, ej_3, ej_12, c_11, (eq_true c_13), eq_self, Bool.false_eq_true, ↓reduceIte, Int32.add_zero]) ls (lv_sub hl [2, 3, 1, 0] rfl)
              · have ej_12 : tat 6 (σ 3) (nI n) (nI k) = (nI j_12) := ej_12
                refine co_eq mj_12 ?_
                refine lv_aload_n hx hb dX3_wrongOf_66 rfl (lv_at hl 0 rfl) ?_
                refine lv_iload_n hx hb dX3_wrongOf_67 rfl (lv_at hl 1 rfl) ?_
                refine lv_iconst (v := 1) hx hb dX3_wrongOf_68 (by decide) ?_
                refine lv_iload_n hx hb dX3_wrongOf_69 rfl (lv_at hl 3 rfl) ?_
                refine lv_ishl hx hb dX3_wrongOf_70 ?_
                refine lv_iadd hx hb dX3_wrongOf_71 ?_
                refine lv_bipush (v := 64) hx hb dX3_wrongOf_72 (by decide) ?_
                refine lv_irem hx hb dX3_wrongOf_74 (by decide) ?_
                refine co_eq (fg_rem hn.1 (show k < 6 by omega)) ?_
                refine co_rV (As := [.int (nI ((n + 2 ^ k) % 64))]) (rest := [.int (nI j_12), .int x]) S (c_X3_ownerOf l G Z b σ μ hR ((n + 2 ^ k) % 64) (Nat.mod_lt _ (by decide))) (cwV 1 hts gX3_wrongOf_X3_ownerOf rfl rfl rfl (by decide +kernel) ⟨Nat.le_of_ble_eq_true rfl, Nat.le_of_ble_eq_true rfl⟩) hK hP (va_recv hK hP (ci := 2) (q0 := 0) rfl rfl) rfl hl.1 rfl (Nat.le_of_ble_eq_true rfl) dX3_wrongOf_75 ⟨Nat.zero_le _, Nat.zero_le _⟩ ?_
                refine lv_icmp_ne (tgt := 85) hx hb dX3_wrongOf_78 (by decide) (fun c_14 => ?_) (fun c_14 => ?_)
                · refine lv_iconst (v := 1) hx hb dX3_wrongOf_85 (by decide) ?_
                  refine lv_iadd hx hb dX3_wrongOf_86 ?_
                  refine lv_istore_n (lv' := [(2, .int (x + 1)), (0, .ref (b 0)), (1, .int (nI n)), (3, .int (nI k))]) hx hb dX3_wrongOf_87 rfl hl (by decide) rfl (fun ls hl => ?_)
                  refine lv_iinc (v := (nI (k + 1))) (lv' := [(3, .int (nI (k + 1))), (2, .int (x + 1)), (0, .ref (b 0)), (1, .int (nI n))]) hx hb dX3_wrongOf_88 hl (k := 3) rfl (nI_1 k) (by decide) rfl (fun ls hl => ?_)
                  refine lv_goto (tgt := 48) hx hb dX3_wrongOf_91 (by decide) ?_
                  exact ih (k + 1) _ (by omega) (by subst hx9; simp only [wF, fgs_nI hn.1 (show k < 6 by omega), ej_1, ej_3, ej_12, c_11, c_14, eq_self, Bool.false_eq_true, ↓reduceIte, Int32.add_zero]) ls (lv_sub hl [2, 3, 1, 0] rfl)
                · refine lv_iconst (v := 0) hx hb dX3_wrongOf_81 (by decide) ?_
                  refine lv_goto (tgt := 86) hx hb dX3_wrongOf_82 (by decide) ?_
                  refine lv_iadd hx hb dX3_wrongOf_86 ?_
                  refine lv_istore_n (lv' := [(2, .int (x + 0)), (0, .ref (b 0)), (1, .int (nI n)), (3, .int (nI k))]) hx hb dX3_wrongOf_87 rfl hl (by decide) rfl (fun ls hl => ?_)
                  refine lv_iinc (v := (nI (k + 1))) (lv' := [(3, .int (nI (k + 1))), (2, .int (x + 0)), (0, .ref (b 0)), (1, .int (nI n))]) hx hb dX3_wrongOf_88 hl (k := 3) rfl (nI_1 k) (by decide) rfl (fun ls hl => ?_)
                  refine lv_goto (tgt := 48) hx hb dX3_wrongOf_91 (by decide) ?_
                  exact ih (k + 1) _ (by omega) (by subst hx9; simp only [wF, fgs_nI hn.1 (show k < 6 by omega), ej_1, ej_3, ej_12, c_11, (eq_true c_14), eq_self, Bool.false_eq_true, ↓reduceIte, Int32.add_zero]) ls (lv_sub hl [2, 3, 1, 0] rfl)
        exact LP 6 0 _ rfl (by simp only [wF, w1S, w2S, show onw (nI n) 1 = nI ((n + 1) % 64) from onw_nI (k := 1) hn.1 (by decide), ej_1, ej_3, c_2, (eq_true c_4), ↓reduceIte, Int32.add_zero] <;> decide) ls (lv_sub hl [2, 3, 1, 0] rfl)
    · have ej_3 : tat 1 (σ 2) (nI n) 0 = (nI j_3) := ej_3
      refine co_eq mj_3 ?_
      refine lv_aload_n hx hb dX3_wrongOf_31 rfl (lv_at hl 1 rfl) ?_
      refine lv_iload_n hx hb dX3_wrongOf_32 rfl (lv_at hl 2 rfl) ?_
      refine co_rV (As := [.int (nI n)]) (rest := [.int (nI j_3), .int 1]) S (c_X3_before l G Z b σ μ hR n hn) (cwV 1 hts gX3_wrongOf_X3_before rfl rfl rfl (by decide +kernel) ⟨Nat.le_of_ble_eq_true rfl, Nat.le_of_ble_eq_true rfl⟩) hK hP (va_recv hK hP (ci := 2) (q0 := 0) rfl rfl) rfl hl.1 rfl (Nat.le_of_ble_eq_true rfl) dX3_wrongOf_33 ⟨Nat.zero_le _, Nat.zero_le _⟩ ?_
      refine lv_icmp_ne (tgt := 43) hx hb dX3_wrongOf_36 (by decide) (fun c_15 => ?_) (fun c_15 => ?_)
      · refine lv_iconst (v := 1) hx hb dX3_wrongOf_43 (by decide) ?_
        refine lv_iadd hx hb dX3_wrongOf_44 ?_
        refine lv_istore_n (lv' := [(2, .int (1 + 1)), (0, .ref (b 0)), (1, .int (nI n))]) hx hb dX3_wrongOf_45 rfl hl (by decide) rfl (fun ls hl => ?_)
        refine lv_iconst (v := 0) hx hb dX3_wrongOf_46 (by decide) ?_
        refine lv_istore_n (lv' := [(3, .int 0), (2, .int (1 + 1)), (0, .ref (b 0)), (1, .int (nI n))]) hx hb dX3_wrongOf_47 rfl hl (by decide) rfl (fun ls hl => ?_)
        have LP : ∀ (d : Nat) (k : Nat) (x : Int32), k + d = 6 → x = wF (σ 0) (σ 3) (nI n) (w2S (σ 0) (σ 2) (nI n) (w1S (σ 0) (σ 1) (nI n))) k → ∀ ls : Array Slot, lv_has ls 4 [(0, .ref (b 0)), (1, .int (nI n)), (2, .int x), (3, .int (nI k))] → W p l e rm_X3_wrongOf s m args below meth c s.heap [] 0 0 (QR below (wrg σ (nI n)) args s) (F0 m 48 ls []) := by
          intro d
          induction d with
          | zero =>
            intro k x hk hx9 ls hl
            refine lv_iload_n hx hb dX3_wrongOf_48 rfl (lv_at hl 3 rfl) ?_
            refine lv_bipush (v := 6) hx hb dX3_wrongOf_49 (by decide) ?_
            refine lv_icmp_ge (tgt := 94) hx hb dX3_wrongOf_51 (by decide) (fun c_16 => ?_) (fun c_16 => ?_)
            · refine lv_iload_n hx hb dX3_wrongOf_94 rfl (lv_at hl 2 rfl) ?_
              exact co_endR S hr hlocks dX3_wrongOf_95 (by rw [hx9, show k = 6 by omega]; rfl)
            · exact absurd (nI_le (a := 6) (b := k) (by omega) (by omega)) c_16
          | succ d ih =>
            intro k x hk hx9 ls hl
            refine lv_iload_n hx hb dX3_wrongOf_48 rfl (lv_at hl 3 rfl) ?_
            refine lv_bipush (v := 6) hx hb dX3_wrongOf_49 (by decide) ?_
            refine lv_icmp_ge (tgt := 94) hx hb dX3_wrongOf_51 (by decide) (fun c_17 => ?_) (fun c_17 => ?_)
            · exact absurd c_17 (nI_ge (a := k) (b := 6) (by omega) (by omega))
            · refine lv_iload_n hx hb dX3_wrongOf_54 rfl (lv_at hl 2 rfl) ?_
              refine lv_aload_n hx hb dX3_wrongOf_55 rfl (lv_at hl 0 rfl) ?_
              refine va_get (D := G.1) (ci := 2) (v := .ref (b 4)) (C := RX3) (T := TX3) (N := 13) hx hb hts uX3 hown hK hP 0 rfl rfl 5 (by decide) (hts (.fieldLink RX3 20 "ChordOverlayModel" "finger" "[I") (by decide +kernel)) (fun _ h9 => h9) rfl dX3_wrongOf_56 ?_
              refine lv_bipush (v := 6) hx hb dX3_wrongOf_59 (by decide) ?_
              refine lv_iload_n hx hb dX3_wrongOf_61 rfl (lv_at hl 1 rfl) ?_
              refine lv_imul hx hb dX3_wrongOf_62 ?_
              refine lv_iload_n hx hb dX3_wrongOf_63 rfl (lv_at hl 3 rfl) ?_
              refine lv_iadd hx hb dX3_wrongOf_64 ?_
              refine va_iald hx hb hK hP 4 0 rfl rfl (vi_w (w := 6) (p := k) (by decide) hn.1 (show k < 6 by omega)) dX3_wrongOf_65 ?_
              rcases rl_f hR hn k (show k < 6 by omega) with ⟨ej_18, mj_18⟩ | ⟨j_18, hj_18, ej_18, mj_18⟩
              · have ej_18 : tat 6 (σ 3) (nI n) (nI k) = (-1) := ej_18
                refine co_eq mj_18 ?_
                refine lv_aload_n hx hb dX3_wrongOf_66 rfl (lv_at hl 0 rfl) ?_
                refine lv_iload_n hx hb dX3_wrongOf_67 rfl (lv_at hl 1 rfl) ?_
                refine lv_iconst (v := 1) hx hb dX3_wrongOf_68 (by decide) ?_
                refine lv_iload_n hx hb dX3_wrongOf_69 rfl (lv_at hl 3 rfl) ?_
                refine lv_ishl hx hb dX3_wrongOf_70 ?_
                refine lv_iadd hx hb dX3_wrongOf_71 ?_
                refine lv_bipush (v := 64) hx hb dX3_wrongOf_72 (by decide) ?_
                refine lv_irem hx hb dX3_wrongOf_74 (by decide) ?_
                refine co_eq (fg_rem hn.1 (show k < 6 by omega)) ?_
                refine co_rV (As := [.int (nI ((n + 2 ^ k) % 64))]) (rest := [.int (-1), .int x]) S (c_X3_ownerOf l G Z b σ μ hR ((n + 2 ^ k) % 64) (Nat.mod_lt _ (by decide))) (cwV 1 hts gX3_wrongOf_X3_ownerOf rfl rfl rfl (by decide +kernel) ⟨Nat.le_of_ble_eq_true rfl, Nat.le_of_ble_eq_true rfl⟩) hK hP (va_recv hK hP (ci := 2) (q0 := 0) rfl rfl) rfl hl.1 rfl (Nat.le_of_ble_eq_true rfl) dX3_wrongOf_75 ⟨Nat.zero_le _, Nat.zero_le _⟩ ?_
                refine lv_icmp_ne (tgt := 85) hx hb dX3_wrongOf_78 (by decide) (fun c_19 => ?_) (fun c_19 => ?_)
                · refine lv_iconst (v := 1) hx hb dX3_wrongOf_85 (by decide) ?_
                  refine lv_iadd hx hb dX3_wrongOf_86 ?_
                  refine lv_istore_n (lv' := [(2, .int (x + 1)), (0, .ref (b 0)), (1, .int (nI n)), (3, .int (nI k))]) hx hb dX3_wrongOf_87 rfl hl (by decide) rfl (fun ls hl => ?_)
                  refine lv_iinc (v := (nI (k + 1))) (lv' := [(3, .int (nI (k + 1))), (2, .int (x + 1)), (0, .ref (b 0)), (1, .int (nI n))]) hx hb dX3_wrongOf_88 hl (k := 3) rfl (nI_1 k) (by decide) rfl (fun ls hl => ?_)
                  refine lv_goto (tgt := 48) hx hb dX3_wrongOf_91 (by decide) ?_
                  exact ih (k + 1) _ (by omega) (by subst hx9; simp only [wF, fgs_nI hn.1 (show k < 6 by omega), ej_1, ej_3, ej_18, c_17, c_19, eq_self, Bool.false_eq_true, ↓reduceIte, Int32.add_zero]) ls (lv_sub hl [2, 3, 1, 0] rfl)
                · refine lv_iconst (v := 0) hx hb dX3_wrongOf_81 (by decide) ?_
                  refine lv_goto (tgt := 86) hx hb dX3_wrongOf_82 (by decide) ?_
                  refine lv_iadd hx hb dX3_wrongOf_86 ?_
                  refine lv_istore_n (lv' := [(2, .int (x + 0)), (0, .ref (b 0)), (1, .int (nI n)), (3, .int (nI k))]) hx hb dX3_wrongOf_87 rfl hl (by decide) rfl (fun ls hl => ?_)
                  refine lv_iinc (v := (nI (k + 1))) (lv' := [(3, .int (nI (k + 1))), (2, .int (x + 0)), (0, .ref (b 0)), (1, .int (nI n))]) hx hb dX3_wrongOf_88 hl (k := 3) rfl (nI_1 k) (by decide) rfl (fun ls hl => ?_)
                  refine lv_goto (tgt := 48) hx hb dX3_wrongOf_91 (by decide) ?_
                  exact ih (k + 1) _ (by omega) (by subst hx9; simp only [wF, fgs_nI hn.1 (show k < 6 by omega), ej_1, ej_3, ej_18, c_17, (eq_true c_19), eq_self, Bool.false_eq_true, ↓reduceIte, Int32.add_zero]) ls (lv_sub hl [2, 3, 1, 0] rfl)
              · have ej_18 : tat 6 (σ 3) (nI n) (nI k) = (nI j_18) := ej_18
                refine co_eq mj_18 ?_
                refine lv_aload_n hx hb dX3_wrongOf_66 rfl (lv_at hl 0 rfl) ?_
                refine lv_iload_n hx hb dX3_wrongOf_67 rfl (lv_at hl 1 rfl) ?_
                refine lv_iconst (v := 1) hx hb dX3_wrongOf_68 (by decide) ?_
                refine lv_iload_n hx hb dX3_wrongOf_69 rfl (lv_at hl 3 rfl) ?_
                refine lv_ishl hx hb dX3_wrongOf_70 ?_
                refine lv_iadd hx hb dX3_wrongOf_71 ?_
                refine lv_bipush (v := 64) hx hb dX3_wrongOf_72 (by decide) ?_
                refine lv_irem hx hb dX3_wrongOf_74 (by decide) ?_
                refine co_eq (fg_rem hn.1 (show k < 6 by omega)) ?_
                refine co_rV (As := [.int (nI ((n + 2 ^ k) % 64))]) (rest := [.int (nI j_18), .int x]) S (c_X3_ownerOf l G Z b σ μ hR ((n + 2 ^ k) % 64) (Nat.mod_lt _ (by decide))) (cwV 1 hts gX3_wrongOf_X3_ownerOf rfl rfl rfl (by decide +kernel) ⟨Nat.le_of_ble_eq_true rfl, Nat.le_of_ble_eq_true rfl⟩) hK hP (va_recv hK hP (ci := 2) (q0 := 0) rfl rfl) rfl hl.1 rfl (Nat.le_of_ble_eq_true rfl) dX3_wrongOf_75 ⟨Nat.zero_le _, Nat.zero_le _⟩ ?_
                refine lv_icmp_ne (tgt := 85) hx hb dX3_wrongOf_78 (by decide) (fun c_20 => ?_) (fun c_20 => ?_)
                · refine lv_iconst (v := 1) hx hb dX3_wrongOf_85 (by decide) ?_
                  refine lv_iadd hx hb dX3_wrongOf_86 ?_
                  refine lv_istore_n (lv' := [(2, .int (x + 1)), (0, .ref (b 0)), (1, .int (nI n)), (3, .int (nI k))]) hx hb dX3_wrongOf_87 rfl hl (by decide) rfl (fun ls hl => ?_)
                  refine lv_iinc (v := (nI (k + 1))) (lv' := [(3, .int (nI (k + 1))), (2, .int (x + 1)), (0, .ref (b 0)), (1, .int (nI n))]) hx hb dX3_wrongOf_88 hl (k := 3) rfl (nI_1 k) (by decide) rfl (fun ls hl => ?_)
                  refine lv_goto (tgt := 48) hx hb dX3_wrongOf_91 (by decide) ?_
                  exact ih (k + 1) _ (by omega) (by subst hx9; simp only [wF, fgs_nI hn.1 (show k < 6 by omega), ej_1, ej_3, ej_18, c_17, c_20, eq_self, Bool.false_eq_true, ↓reduceIte, Int32.add_zero]) ls (lv_sub hl [2, 3, 1, 0] rfl)
                · refine lv_iconst (v := 0) hx hb dX3_wrongOf_81 (by decide) ?_
                  refine lv_goto (tgt := 86) hx hb dX3_wrongOf_82 (by decide) ?_
                  refine lv_iadd hx hb dX3_wrongOf_86 ?_
                  refine lv_istore_n (lv' := [(2, .int (x + 0)), (0, .ref (b 0)), (1, .int (nI n)), (3, .int (nI k))]) hx hb dX3_wrongOf_87 rfl hl (by decide) rfl (fun ls hl => ?_)
                  refine lv_iinc (v := (nI (k + 1))) (lv' := [(3, .int (nI (k + 1))), (2, .int (x + 0)), (0, .ref (b 0)), (1, .int (nI n))]) hx hb dX3_wrongOf_88 hl (k := 3) rfl (nI_1 k) (by decide) rfl (fun ls hl => ?_)
                  refine lv_goto (tgt := 48) hx hb dX3_wrongOf_91 (by decide) ?_
                  exact ih (k + 1) _ (by omega) (by subst hx9; simp only [wF, fgs_nI hn.1 (show k < 6 by omega), ej_1, ej_3, ej_18, c_17, (eq_true c_20), eq_self, Bool.false_eq_true, ↓reduceIte, Int32.add_zero]) ls (lv_sub hl [2, 3, 1, 0] rfl)
        exact LP 6 0 _ rfl (by simp only [wF, w1S, w2S, show onw (nI n) 1 = nI ((n + 1) % 64) from onw_nI (k := 1) hn.1 (by decide), ej_1, ej_3, c_2, c_15, ↓reduceIte, Int32.add_zero] <;> decide) ls (lv_sub hl [2, 3, 1, 0] rfl)
      · refine lv_iconst (v := 0) hx hb dX3_wrongOf_39 (by decide) ?_
        refine lv_goto (tgt := 44) hx hb dX3_wrongOf_40 (by decide) ?_
        refine lv_iadd hx hb dX3_wrongOf_44 ?_
        refine lv_istore_n (lv' := [(2, .int (1 + 0)), (0, .ref (b 0)), (1, .int (nI n))]) hx hb dX3_wrongOf_45 rfl hl (by decide) rfl (fun ls hl => ?_)
        refine lv_iconst (v := 0) hx hb dX3_wrongOf_46 (by decide) ?_
        refine lv_istore_n (lv' := [(3, .int 0), (2, .int (1 + 0)), (0, .ref (b 0)), (1, .int (nI n))]) hx hb dX3_wrongOf_47 rfl hl (by decide) rfl (fun ls hl => ?_)
        have LP : ∀ (d : Nat) (k : Nat) (x : Int32), k + d = 6 → x = wF (σ 0) (σ 3) (nI n) (w2S (σ 0) (σ 2) (nI n) (w1S (σ 0) (σ 1) (nI n))) k → ∀ ls : Array Slot, lv_has ls 4 [(0, .ref (b 0)), (1, .int (nI n)), (2, .int x), (3, .int (nI k))] → W p l e rm_X3_wrongOf s m args below meth c s.heap [] 0 0 (QR below (wrg σ (nI n)) args s) (F0 m 48 ls []) := by
          intro d
          induction d with
          | zero =>
            intro k x hk hx9 ls hl
            refine lv_iload_n hx hb dX3_wrongOf_48 rfl (lv_at hl 3 rfl) ?_
            refine lv_bipush (v := 6) hx hb dX3_wrongOf_49 (by decide) ?_
            refine lv_icmp_ge (tgt := 94) hx hb dX3_wrongOf_51 (by decide) (fun c_21 => ?_) (fun c_21 => ?_)
            · refine lv_iload_n hx hb dX3_wrongOf_94 rfl (lv_at hl 2 rfl) ?_
              exact co_endR S hr hlocks dX3_wrongOf_95 (by rw [hx9, show k = 6 by omega]; rfl)
            · exact absurd (nI_le (a := 6) (b := k) (by omega) (by omega)) c_21
          | succ d ih =>
            intro k x hk hx9 ls hl
            refine lv_iload_n hx hb dX3_wrongOf_48 rfl (lv_at hl 3 rfl) ?_
            refine lv_bipush (v := 6) hx hb dX3_wrongOf_49 (by decide) ?_
            refine lv_icmp_ge (tgt := 94) hx hb dX3_wrongOf_51 (by decide) (fun c_22 => ?_) (fun c_22 => ?_)
            · exact absurd c_22 (nI_ge (a := k) (b := 6) (by omega) (by omega))
            · refine lv_iload_n hx hb dX3_wrongOf_54 rfl (lv_at hl 2 rfl) ?_
              refine lv_aload_n hx hb dX3_wrongOf_55 rfl (lv_at hl 0 rfl) ?_
              refine va_get (D := G.1) (ci := 2) (v := .ref (b 4)) (C := RX3) (T := TX3) (N := 13) hx hb hts uX3 hown hK hP 0 rfl rfl 5 (by decide) (hts (.fieldLink RX3 20 "ChordOverlayModel" "finger" "[I") (by decide +kernel)) (fun _ h9 => h9) rfl dX3_wrongOf_56 ?_
              refine lv_bipush (v := 6) hx hb dX3_wrongOf_59 (by decide) ?_
              refine lv_iload_n hx hb dX3_wrongOf_61 rfl (lv_at hl 1 rfl) ?_
              refine lv_imul hx hb dX3_wrongOf_62 ?_
              refine lv_iload_n hx hb dX3_wrongOf_63 rfl (lv_at hl 3 rfl) ?_
              refine lv_iadd hx hb dX3_wrongOf_64 ?_
              refine va_iald hx hb hK hP 4 0 rfl rfl (vi_w (w := 6) (p := k) (by decide) hn.1 (show k < 6 by omega)) dX3_wrongOf_65 ?_
              rcases rl_f hR hn k (show k < 6 by omega) with ⟨ej_23, mj_23⟩ | ⟨j_23, hj_23, ej_23, mj_23⟩
              · have ej_23 : tat 6 (σ 3) (nI n) (nI k) = (-1) := ej_23
                refine co_eq mj_23 ?_
                refine lv_aload_n hx hb dX3_wrongOf_66 rfl (lv_at hl 0 rfl) ?_
                refine lv_iload_n hx hb dX3_wrongOf_67 rfl (lv_at hl 1 rfl) ?_
                refine lv_iconst (v := 1) hx hb dX3_wrongOf_68 (by decide) ?_
                refine lv_iload_n hx hb dX3_wrongOf_69 rfl (lv_at hl 3 rfl) ?_
                refine lv_ishl hx hb dX3_wrongOf_70 ?_
                refine lv_iadd hx hb dX3_wrongOf_71 ?_
                refine lv_bipush (v := 64) hx hb dX3_wrongOf_72 (by decide) ?_
                refine lv_irem hx hb dX3_wrongOf_74 (by decide) ?_
                refine co_eq (fg_rem hn.1 (show k < 6 by omega)) ?_
                refine co_rV (As := [.int (nI ((n + 2 ^ k) % 64))]) (rest := [.int (-1), .int x]) S (c_X3_ownerOf l G Z b σ μ hR ((n + 2 ^ k) % 64) (Nat.mod_lt _ (by decide))) (cwV 1 hts gX3_wrongOf_X3_ownerOf rfl rfl rfl (by decide +kernel) ⟨Nat.le_of_ble_eq_true rfl, Nat.le_of_ble_eq_true rfl⟩) hK hP (va_recv hK hP (ci := 2) (q0 := 0) rfl rfl) rfl hl.1 rfl (Nat.le_of_ble_eq_true rfl) dX3_wrongOf_75 ⟨Nat.zero_le _, Nat.zero_le _⟩ ?_
                refine lv_icmp_ne (tgt := 85) hx hb dX3_wrongOf_78 (by decide) (fun c_24 => ?_) (fun c_24 => ?_)
                · refine lv_iconst (v := 1) hx hb dX3_wrongOf_85 (by decide) ?_
                  refine lv_iadd hx hb dX3_wrongOf_86 ?_
                  refine lv_istore_n (lv' := [(2, .int (x + 1)), (0, .ref (b 0)), (1, .int (nI n)), (3, .int (nI k))]) hx hb dX3_wrongOf_87 rfl hl (by decide) rfl (fun ls hl => ?_)
                  refine lv_iinc (v := (nI (k + 1))) (lv' := [(3, .int (nI (k + 1))), (2, .int (x + 1)), (0, .ref (b 0)), (1, .int (nI n))]) hx hb dX3_wrongOf_88 hl (k := 3) rfl (nI_1 k) (by decide) rfl (fun ls hl => ?_)
                  refine lv_goto (tgt := 48) hx hb dX3_wrongOf_91 (by decide) ?_
                  exact ih (k + 1) _ (by omega) (by subst hx9; simp only [wF, fgs_nI hn.1 (show k < 6 by omega), ej_1, ej_3, ej_23, c_22, c_24, eq_self, Bool.false_eq_true, ↓reduceIte, Int32.add_zero]) ls (lv_sub hl [2, 3, 1, 0] rfl)
                · refine lv_iconst (v := 0) hx hb dX3_wrongOf_81 (by decide) ?_
                  refine lv_goto (tgt := 86) hx hb dX3_wrongOf_82 (by decide) ?_
                  refine lv_iadd hx hb dX3_wrongOf_86 ?_
                  refine lv_istore_n (lv' := [(2, .int (x + 0)), (0, .ref (b 0)), (1, .int (nI n)), (3, .int (nI k))]) hx hb dX3_wrongOf_87 rfl hl (by decide) rfl (fun ls hl => ?_)
                  refine lv_iinc (v := (nI (k + 1))) (lv' := [(3, .int (nI (k + 1))), (2, .int (x + 0)), (0, .ref (b 0)), (1, .int (nI n))]) hx hb dX3_wrongOf_88 hl (k := 3) rfl (nI_1 k) (by decide) rfl (fun ls hl => ?_)
                  refine lv_goto (tgt := 48) hx hb dX3_wrongOf_91 (by decide) ?_
                  exact ih (k + 1) _ (by omega) (by subst hx9; simp only [wF, fgs_nI hn.1 (show k < 6 by omega), ej_1, ej_3, ej_23, c_22, (eq_true c_24), eq_self, Bool.false_eq_true, ↓reduceIte, Int32.add_zero]) ls (lv_sub hl [2, 3, 1, 0] rfl)
              · have ej_23 : tat 6 (σ 3) (nI n) (nI k) = (nI j_23) := ej_23
                refine co_eq mj_23 ?_
                refine lv_aload_n hx hb dX3_wrongOf_66 rfl (lv_at hl 0 rfl) ?_
                refine lv_iload_n hx hb dX3_wrongOf_67 rfl (lv_at hl 1 rfl) ?_
                refine lv_iconst (v := 1) hx hb dX3_wrongOf_68 (by decide) ?_
                refine lv_iload_n hx hb dX3_wrongOf_69 rfl (lv_at hl 3 rfl) ?_
                refine lv_ishl hx hb dX3_wrongOf_70 ?_
                refine lv_iadd hx hb dX3_wrongOf_71 ?_
                refine lv_bipush (v := 64) hx hb dX3_wrongOf_72 (by decide) ?_
                refine lv_irem hx hb dX3_wrongOf_74 (by decide) ?_
                refine co_eq (fg_rem hn.1 (show k < 6 by omega)) ?_
                refine co_rV (As := [.int (nI ((n + 2 ^ k) % 64))]) (rest := [.int (nI j_23), .int x]) S (c_X3_ownerOf l G Z b σ μ hR ((n + 2 ^ k) % 64) (Nat.mod_lt _ (by decide))) (cwV 1 hts gX3_wrongOf_X3_ownerOf rfl rfl rfl (by decide +kernel) ⟨Nat.le_of_ble_eq_true rfl, Nat.le_of_ble_eq_true rfl⟩) hK hP (va_recv hK hP (ci := 2) (q0 := 0) rfl rfl) rfl hl.1 rfl (Nat.le_of_ble_eq_true rfl) dX3_wrongOf_75 ⟨Nat.zero_le _, Nat.zero_le _⟩ ?_
                refine lv_icmp_ne (tgt := 85) hx hb dX3_wrongOf_78 (by decide) (fun c_25 => ?_) (fun c_25 => ?_)
                · refine lv_iconst (v := 1) hx hb dX3_wrongOf_85 (by decide) ?_
                  refine lv_iadd hx hb dX3_wrongOf_86 ?_
                  refine lv_istore_n (lv' := [(2, .int (x + 1)), (0, .ref (b 0)), (1, .int (nI n)), (3, .int (nI k))]) hx hb dX3_wrongOf_87 rfl hl (by decide) rfl (fun ls hl => ?_)
                  refine lv_iinc (v := (nI (k + 1))) (lv' := [(3, .int (nI (k + 1))), (2, .int (x + 1)), (0, .ref (b 0)), (1, .int (nI n))]) hx hb dX3_wrongOf_88 hl (k := 3) rfl (nI_1 k) (by decide) rfl (fun ls hl => ?_)
                  refine lv_goto (tgt := 48) hx hb dX3_wrongOf_91 (by decide) ?_
                  exact ih (k + 1) _ (by omega) (by subst hx9; simp only [wF, fgs_nI hn.1 (show k < 6 by omega), ej_1, ej_3, ej_23, c_22, c_25, eq_self, Bool.false_eq_true, ↓reduceIte, Int32.add_zero]) ls (lv_sub hl [2, 3, 1, 0] rfl)
                · refine lv_iconst (v := 0) hx hb dX3_wrongOf_81 (by decide) ?_
                  refine lv_goto (tgt := 86) hx hb dX3_wrongOf_82 (by decide) ?_
                  refine lv_iadd hx hb dX3_wrongOf_86 ?_
                  refine lv_istore_n (lv' := [(2, .int (x + 0)), (0, .ref (b 0)), (1, .int (nI n)), (3, .int (nI k))]) hx hb dX3_wrongOf_87 rfl hl (by decide) rfl (fun ls hl => ?_)
                  refine lv_iinc (v := (nI (k + 1))) (lv' := [(3, .int (nI (k + 1))), (2, .int (x + 0)), (0, .ref (b 0)), (1, .int (nI n))]) hx hb dX3_wrongOf_88 hl (k := 3) rfl (nI_1 k) (by decide) rfl (fun ls hl => ?_)
                  refine lv_goto (tgt := 48) hx hb dX3_wrongOf_91 (by decide) ?_
                  exact ih (k + 1) _ (by omega) (by subst hx9; simp only [wF, fgs_nI hn.1 (show k < 6 by omega), ej_1, ej_3, ej_23, c_22, (eq_true c_25), eq_self, Bool.false_eq_true, ↓reduceIte, Int32.add_zero]) ls (lv_sub hl [2, 3, 1, 0] rfl)
        exact LP 6 0 _ rfl (by simp only [wF, w1S, w2S, show onw (nI n) 1 = nI ((n + 1) % 64) from onw_nI (k := 1) hn.1 (by decide), ej_1, ej_3, c_2, (eq_true c_15), ↓reduceIte, Int32.add_zero] <;> decide) ls (lv_sub hl [2, 3, 1, 0] rfl)
  · refine lv_iconst (v := 0) hx hb dX3_wrongOf_18 (by decide) ?_
    refine lv_goto (tgt := 23) hx hb dX3_wrongOf_19 (by decide) ?_
    refine lv_istore_n (lv' := [(2, .int 0), (0, .ref (b 0)), (1, .int (nI n))]) hx hb dX3_wrongOf_23 rfl hl (by decide) rfl (fun ls hl => ?_)
    refine lv_iload_n hx hb dX3_wrongOf_24 rfl (lv_at hl 0 rfl) ?_
    refine lv_aload_n hx hb dX3_wrongOf_25 rfl (lv_at hl 1 rfl) ?_
    refine va_get (D := G.1) (ci := 2) (v := .ref (b 3)) (C := RX3) (T := TX3) (N := 13) hx hb hts uX3 hown hK hP 0 rfl rfl 4 (by decide) (hts (.fieldLink RX3 17 "ChordOverlayModel" "predecessor" "[I") (by decide +kernel)) (fun _ h9 => h9) rfl dX3_wrongOf_26 ?_
    refine lv_iload_n hx hb dX3_wrongOf_29 rfl (lv_at hl 2 rfl) ?_
    refine va_iald hx hb hK hP 3 0 rfl rfl (vi_1 hn.1) dX3_wrongOf_30 ?_
    rcases rl_p hR hn with ⟨ej_26, mj_26⟩ | ⟨j_26, hj_26, ej_26, mj_26⟩
    · have ej_26 : tat 1 (σ 2) (nI n) 0 = (-1) := ej_26
      refine co_eq mj_26 ?_
      refine lv_aload_n hx hb dX3_wrongOf_31 rfl (lv_at hl 1 rfl) ?_
      refine lv_iload_n hx hb dX3_wrongOf_32 rfl (lv_at hl 2 rfl) ?_
      refine co_rV (As := [.int (nI n)]) (rest := [.int (-1), .int 0]) S (c_X3_before l G Z b σ μ hR n hn) (cwV 1 hts gX3_wrongOf_X3_before rfl rfl rfl (by decide +kernel) ⟨Nat.le_of_ble_eq_true rfl, Nat.le_of_ble_eq_true rfl⟩) hK hP (va_recv hK hP (ci := 2) (q0 := 0) rfl rfl) rfl hl.1 rfl (Nat.le_of_ble_eq_true rfl) dX3_wrongOf_33 ⟨Nat.zero_le _, Nat.zero_le _⟩ ?_
      refine lv_icmp_ne (tgt := 43) hx hb dX3_wrongOf_36 (by decide) (fun c_27 => ?_) (fun c_27 => ?_)
      · refine lv_iconst (v := 1) hx hb dX3_wrongOf_43 (by decide) ?_
        refine lv_iadd hx hb dX3_wrongOf_44 ?_
        refine lv_istore_n (lv' := [(2, .int (0 + 1)), (0, .ref (b 0)), (1, .int (nI n))]) hx hb dX3_wrongOf_45 rfl hl (by decide) rfl (fun ls hl => ?_)
        refine lv_iconst (v := 0) hx hb dX3_wrongOf_46 (by decide) ?_
        refine lv_istore_n (lv' := [(3, .int 0), (2, .int (0 + 1)), (0, .ref (b 0)), (1, .int (nI n))]) hx hb dX3_wrongOf_47 rfl hl (by decide) rfl (fun ls hl => ?_)
        have LP : ∀ (d : Nat) (k : Nat) (x : Int32), k + d = 6 → x = wF (σ 0) (σ 3) (nI n) (w2S (σ 0) (σ 2) (nI n) (w1S (σ 0) (σ 1) (nI n))) k → ∀ ls : Array Slot, lv_has ls 4 [(0, .ref (b 0)), (1, .int (nI n)), (2, .int x), (3, .int (nI k))] → W p l e rm_X3_wrongOf s m args below meth c s.heap [] 0 0 (QR below (wrg σ (nI n)) args s) (F0 m 48 ls []) := by
          intro d
          induction d with
          | zero =>
            intro k x hk hx9 ls hl
            refine lv_iload_n hx hb dX3_wrongOf_48 rfl (lv_at hl 3 rfl) ?_
            refine lv_bipush (v := 6) hx hb dX3_wrongOf_49 (by decide) ?_
            refine lv_icmp_ge (tgt := 94) hx hb dX3_wrongOf_51 (by decide) (fun c_28 => ?_) (fun c_28 => ?_)
            · refine lv_iload_n hx hb dX3_wrongOf_94 rfl (lv_at hl 2 rfl) ?_
              exact co_endR S hr hlocks dX3_wrongOf_95 (by rw [hx9, show k = 6 by omega]; rfl)
            · exact absurd (nI_le (a := 6) (b := k) (by omega) (by omega)) c_28
          | succ d ih =>
            intro k x hk hx9 ls hl
            refine lv_iload_n hx hb dX3_wrongOf_48 rfl (lv_at hl 3 rfl) ?_
            refine lv_bipush (v := 6) hx hb dX3_wrongOf_49 (by decide) ?_
            refine lv_icmp_ge (tgt := 94) hx hb dX3_wrongOf_51 (by decide) (fun c_29 => ?_) (fun c_29 => ?_)
            · exact absurd c_29 (nI_ge (a := k) (b := 6) (by omega) (by omega))
            · refine lv_iload_n hx hb dX3_wrongOf_54 rfl (lv_at hl 2 rfl) ?_
              refine lv_aload_n hx hb dX3_wrongOf_55 rfl (lv_at hl 0 rfl) ?_
              refine va_get (D := G.1) (ci := 2) (v := .ref (b 4)) (C := RX3) (T := TX3) (N := 13) hx hb hts uX3 hown hK hP 0 rfl rfl 5 (by decide) (hts (.fieldLink RX3 20 "ChordOverlayModel" "finger" "[I") (by decide +kernel)) (fun _ h9 => h9) rfl dX3_wrongOf_56 ?_
              refine lv_bipush (v := 6) hx hb dX3_wrongOf_59 (by decide) ?_
              refine lv_iload_n hx hb dX3_wrongOf_61 rfl (lv_at hl 1 rfl) ?_
              refine lv_imul hx hb dX3_wrongOf_62 ?_
              refine lv_iload_n hx hb dX3_wrongOf_63 rfl (lv_at hl 3 rfl) ?_
              refine lv_iadd hx hb dX3_wrongOf_64 ?_
              refine va_iald hx hb hK hP 4 0 rfl rfl (vi_w (w := 6) (p := k) (by decide) hn.1 (show k < 6 by omega)) dX3_wrongOf_65 ?_
              rcases rl_f hR hn k (show k < 6 by omega) with ⟨ej_30, mj_30⟩ | ⟨j_30, hj_30, ej_30, mj_30⟩
              · have ej_30 : tat 6 (σ 3) (nI n) (nI k) = (-1) := ej_30
                refine co_eq mj_30 ?_
                refine lv_aload_n hx hb dX3_wrongOf_66 rfl (lv_at hl 0 rfl) ?_
                refine lv_iload_n hx hb dX3_wrongOf_67 rfl (lv_at hl 1 rfl) ?_
                refine lv_iconst (v := 1) hx hb dX3_wrongOf_68 (by decide) ?_
                refine lv_iload_n hx hb dX3_wrongOf_69 rfl (lv_at hl 3 rfl) ?_
                refine lv_ishl hx hb dX3_wrongOf_70 ?_
                refine lv_iadd hx hb dX3_wrongOf_71 ?_
                refine lv_bipush (v := 64) hx hb dX3_wrongOf_72 (by decide) ?_
                refine lv_irem hx hb dX3_wrongOf_74 (by decide) ?_
                refine co_eq (fg_rem hn.1 (show k < 6 by omega)) ?_
                refine co_rV (As := [.int (nI ((n + 2 ^ k) % 64))]) (rest := [.int (-1), .int x]) S (c_X3_ownerOf l G Z b σ μ hR ((n + 2 ^ k) % 64) (Nat.mod_lt _ (by decide))) (cwV 1 hts gX3_wrongOf_X3_ownerOf rfl rfl rfl (by decide +kernel) ⟨Nat.le_of_ble_eq_true rfl, Nat.le_of_ble_eq_true rfl⟩) hK hP (va_recv hK hP (ci := 2) (q0 := 0) rfl rfl) rfl hl.1 rfl (Nat.le_of_ble_eq_true rfl) dX3_wrongOf_75 ⟨Nat.zero_le _, Nat.zero_le _⟩ ?_
                refine lv_icmp_ne (tgt := 85) hx hb dX3_wrongOf_78 (by decide) (fun c_31 => ?_) (fun c_31 => ?_)
                · refine lv_iconst (v := 1) hx hb dX3_wrongOf_85 (by decide) ?_
                  refine lv_iadd hx hb dX3_wrongOf_86 ?_
                  refine lv_istore_n (lv' := [(2, .int (x + 1)), (0, .ref (b 0)), (1, .int (nI n)), (3, .int (nI k))]) hx hb dX3_wrongOf_87 rfl hl (by decide) rfl (fun ls hl => ?_)
                  refine lv_iinc (v := (nI (k + 1))) (lv' := [(3, .int (nI (k + 1))), (2, .int (x + 1)), (0, .ref (b 0)), (1, .int (nI n))]) hx hb dX3_wrongOf_88 hl (k := 3) rfl (nI_1 k) (by decide) rfl (fun ls hl => ?_)
                  refine lv_goto (tgt := 48) hx hb dX3_wrongOf_91 (by decide) ?_
                  exact ih (k + 1) _ (by omega) (by subst hx9; simp only [wF, fgs_nI hn.1 (show k < 6 by omega), ej_1, ej_26, ej_30, c_29, c_31, eq_self, Bool.false_eq_true, ↓reduceIte, Int32.add_zero]) ls (lv_sub hl [2, 3, 1, 0] rfl)
                · refine lv_iconst (v := 0) hx hb dX3_wrongOf_81 (by decide) ?_
                  refine lv_goto (tgt := 86) hx hb dX3_wrongOf_82 (by decide) ?_
                  refine lv_iadd hx hb dX3_wrongOf_86 ?_
                  refine lv_istore_n (lv' := [(2, .int (x + 0)), (0, .ref (b 0)), (1, .int (nI n)), (3, .int (nI k))]) hx hb dX3_wrongOf_87 rfl hl (by decide) rfl (fun ls hl => ?_)
                  refine lv_iinc (v := (nI (k + 1))) (lv' := [(3, .int (nI (k + 1))), (2, .int (x + 0)), (0, .ref (b 0)), (1, .int (nI n))]) hx hb dX3_wrongOf_88 hl (k := 3) rfl (nI_1 k) (by decide) rfl (fun ls hl => ?_)
                  refine lv_goto (tgt := 48) hx hb dX3_wrongOf_91 (by decide) ?_
                  exact ih (k + 1) _ (by omega) (by subst hx9; simp only [wF, fgs_nI hn.1 (show k < 6 by omega), ej_1, ej_26, ej_30, c_29, (eq_true c_31), eq_self, Bool.false_eq_true, ↓reduceIte, Int32.add_zero]) ls (lv_sub hl [2, 3, 1, 0] rfl)
              · have ej_30 : tat 6 (σ 3) (nI n) (nI k) = (nI j_30) := ej_30
                refine co_eq mj_30 ?_
                refine lv_aload_n hx hb dX3_wrongOf_66 rfl (lv_at hl 0 rfl) ?_
                refine lv_iload_n hx hb dX3_wrongOf_67 rfl (lv_at hl 1 rfl) ?_
                refine lv_iconst (v := 1) hx hb dX3_wrongOf_68 (by decide) ?_
                refine lv_iload_n hx hb dX3_wrongOf_69 rfl (lv_at hl 3 rfl) ?_
                refine lv_ishl hx hb dX3_wrongOf_70 ?_
                refine lv_iadd hx hb dX3_wrongOf_71 ?_
                refine lv_bipush (v := 64) hx hb dX3_wrongOf_72 (by decide) ?_
                refine lv_irem hx hb dX3_wrongOf_74 (by decide) ?_
                refine co_eq (fg_rem hn.1 (show k < 6 by omega)) ?_
                refine co_rV (As := [.int (nI ((n + 2 ^ k) % 64))]) (rest := [.int (nI j_30), .int x]) S (c_X3_ownerOf l G Z b σ μ hR ((n + 2 ^ k) % 64) (Nat.mod_lt _ (by decide))) (cwV 1 hts gX3_wrongOf_X3_ownerOf rfl rfl rfl (by decide +kernel) ⟨Nat.le_of_ble_eq_true rfl, Nat.le_of_ble_eq_true rfl⟩) hK hP (va_recv hK hP (ci := 2) (q0 := 0) rfl rfl) rfl hl.1 rfl (Nat.le_of_ble_eq_true rfl) dX3_wrongOf_75 ⟨Nat.zero_le _, Nat.zero_le _⟩ ?_
                refine lv_icmp_ne (tgt := 85) hx hb dX3_wrongOf_78 (by decide) (fun c_32 => ?_) (fun c_32 => ?_)
                · refine lv_iconst (v := 1) hx hb dX3_wrongOf_85 (by decide) ?_
                  refine lv_iadd hx hb dX3_wrongOf_86 ?_
                  refine lv_istore_n (lv' := [(2, .int (x + 1)), (0, .ref (b 0)), (1, .int (nI n)), (3, .int (nI k))]) hx hb dX3_wrongOf_87 rfl hl (by decide) rfl (fun ls hl => ?_)
                  refine lv_iinc (v := (nI (k + 1))) (lv' := [(3, .int (nI (k + 1))), (2, .int (x + 1)), (0, .ref (b 0)), (1, .int (nI n))]) hx hb dX3_wrongOf_88 hl (k := 3) rfl (nI_1 k) (by decide) rfl (fun ls hl => ?_)
                  refine lv_goto (tgt := 48) hx hb dX3_wrongOf_91 (by decide) ?_
                  exact ih (k + 1) _ (by omega) (by subst hx9; simp only [wF, fgs_nI hn.1 (show k < 6 by omega), ej_1, ej_26, ej_30, c_29, c_32, eq_self, Bool.false_eq_true, ↓reduceIte, Int32.add_zero]) ls (lv_sub hl [2, 3, 1, 0] rfl)
                · refine lv_iconst (v := 0) hx hb dX3_wrongOf_81 (by decide) ?_
                  refine lv_goto (tgt := 86) hx hb dX3_wrongOf_82 (by decide) ?_
                  refine lv_iadd hx hb dX3_wrongOf_86 ?_
                  refine lv_istore_n (lv' := [(2, .int (x + 0)), (0, .ref (b 0)), (1, .int (nI n)), (3, .int (nI k))]) hx hb dX3_wrongOf_87 rfl hl (by decide) rfl (fun ls hl => ?_)
                  refine lv_iinc (v := (nI (k + 1))) (lv' := [(3, .int (nI (k + 1))), (2, .int (x + 0)), (0, .ref (b 0)), (1, .int (nI n))]) hx hb dX3_wrongOf_88 hl (k := 3) rfl (nI_1 k) (by decide) rfl (fun ls hl => ?_)
                  refine lv_goto (tgt := 48) hx hb dX3_wrongOf_91 (by decide) ?_
                  exact ih (k + 1) _ (by omega) (by subst hx9; simp only [wF, fgs_nI hn.1 (show k < 6 by omega), ej_1, ej_26, ej_30, c_29, (eq_true c_32), eq_self, Bool.false_eq_true, ↓reduceIte, Int32.add_zero]) ls (lv_sub hl [2, 3, 1, 0] rfl)
        exact LP 6 0 _ rfl (by simp only [wF, w1S, w2S, show onw (nI n) 1 = nI ((n + 1) % 64) from onw_nI (k := 1) hn.1 (by decide), ej_1, ej_26, (eq_true c_2), c_27, ↓reduceIte, Int32.add_zero] <;> decide) ls (lv_sub hl [2, 3, 1, 0] rfl)
      · refine lv_iconst (v := 0) hx hb dX3_wrongOf_39 (by decide) ?_
        refine lv_goto (tgt := 44) hx hb dX3_wrongOf_40 (by decide) ?_
        refine lv_iadd hx hb dX3_wrongOf_44 ?_
        refine lv_istore_n (lv' := [(2, .int (0 + 0)), (0, .ref (b 0)), (1, .int (nI n))]) hx hb dX3_wrongOf_45 rfl hl (by decide) rfl (fun ls hl => ?_)
        refine lv_iconst (v := 0) hx hb dX3_wrongOf_46 (by decide) ?_
        refine lv_istore_n (lv' := [(3, .int 0), (2, .int (0 + 0)), (0, .ref (b 0)), (1, .int (nI n))]) hx hb dX3_wrongOf_47 rfl hl (by decide) rfl (fun ls hl => ?_)
        have LP : ∀ (d : Nat) (k : Nat) (x : Int32), k + d = 6 → x = wF (σ 0) (σ 3) (nI n) (w2S (σ 0) (σ 2) (nI n) (w1S (σ 0) (σ 1) (nI n))) k → ∀ ls : Array Slot, lv_has ls 4 [(0, .ref (b 0)), (1, .int (nI n)), (2, .int x), (3, .int (nI k))] → W p l e rm_X3_wrongOf s m args below meth c s.heap [] 0 0 (QR below (wrg σ (nI n)) args s) (F0 m 48 ls []) := by
          intro d
          induction d with
          | zero =>
            intro k x hk hx9 ls hl
            refine lv_iload_n hx hb dX3_wrongOf_48 rfl (lv_at hl 3 rfl) ?_
            refine lv_bipush (v := 6) hx hb dX3_wrongOf_49 (by decide) ?_
            refine lv_icmp_ge (tgt := 94) hx hb dX3_wrongOf_51 (by decide) (fun c_33 => ?_) (fun c_33 => ?_)
            · refine lv_iload_n hx hb dX3_wrongOf_94 rfl (lv_at hl 2 rfl) ?_
              exact co_endR S hr hlocks dX3_wrongOf_95 (by rw [hx9, show k = 6 by omega]; rfl)
            · exact absurd (nI_le (a := 6) (b := k) (by omega) (by omega)) c_33
          | succ d ih =>
            intro k x hk hx9 ls hl
            refine lv_iload_n hx hb dX3_wrongOf_48 rfl (lv_at hl 3 rfl) ?_
            refine lv_bipush (v := 6) hx hb dX3_wrongOf_49 (by decide) ?_
            refine lv_icmp_ge (tgt := 94) hx hb dX3_wrongOf_51 (by decide) (fun c_34 => ?_) (fun c_34 => ?_)
            · exact absurd c_34 (nI_ge (a := k) (b := 6) (by omega) (by omega))
            · refine lv_iload_n hx hb dX3_wrongOf_54 rfl (lv_at hl 2 rfl) ?_
              refine lv_aload_n hx hb dX3_wrongOf_55 rfl (lv_at hl 0 rfl) ?_
              refine va_get (D := G.1) (ci := 2) (v := .ref (b 4)) (C := RX3) (T := TX3) (N := 13) hx hb hts uX3 hown hK hP 0 rfl rfl 5 (by decide) (hts (.fieldLink RX3 20 "ChordOverlayModel" "finger" "[I") (by decide +kernel)) (fun _ h9 => h9) rfl dX3_wrongOf_56 ?_
              refine lv_bipush (v := 6) hx hb dX3_wrongOf_59 (by decide) ?_
              refine lv_iload_n hx hb dX3_wrongOf_61 rfl (lv_at hl 1 rfl) ?_
              refine lv_imul hx hb dX3_wrongOf_62 ?_
              refine lv_iload_n hx hb dX3_wrongOf_63 rfl (lv_at hl 3 rfl) ?_
              refine lv_iadd hx hb dX3_wrongOf_64 ?_
              refine va_iald hx hb hK hP 4 0 rfl rfl (vi_w (w := 6) (p := k) (by decide) hn.1 (show k < 6 by omega)) dX3_wrongOf_65 ?_
              rcases rl_f hR hn k (show k < 6 by omega) with ⟨ej_35, mj_35⟩ | ⟨j_35, hj_35, ej_35, mj_35⟩
              · have ej_35 : tat 6 (σ 3) (nI n) (nI k) = (-1) := ej_35
                refine co_eq mj_35 ?_
                refine lv_aload_n hx hb dX3_wrongOf_66 rfl (lv_at hl 0 rfl) ?_
                refine lv_iload_n hx hb dX3_wrongOf_67 rfl (lv_at hl 1 rfl) ?_
                refine lv_iconst (v := 1) hx hb dX3_wrongOf_68 (by decide) ?_
                refine lv_iload_n hx hb dX3_wrongOf_69 rfl (lv_at hl 3 rfl) ?_
                refine lv_ishl hx hb dX3_wrongOf_70 ?_
                refine lv_iadd hx hb dX3_wrongOf_71 ?_
                refine lv_bipush (v := 64) hx hb dX3_wrongOf_72 (by decide) ?_
                refine lv_irem hx hb dX3_wrongOf_74 (by decide) ?_
                refine co_eq (fg_rem hn.1 (show k < 6 by omega)) ?_
                refine co_rV (As := [.int (nI ((n + 2 ^ k) % 64))]) (rest := [.int (-1), .int x]) S (c_X3_ownerOf l G Z b σ μ hR ((n + 2 ^ k) % 64) (Nat.mod_lt _ (by decide))) (cwV 1 hts gX3_wrongOf_X3_ownerOf rfl rfl rfl (by decide +kernel) ⟨Nat.le_of_ble_eq_true rfl, Nat.le_of_ble_eq_true rfl⟩) hK hP (va_recv hK hP (ci := 2) (q0 := 0) rfl rfl) rfl hl.1 rfl (Nat.le_of_ble_eq_true rfl) dX3_wrongOf_75 ⟨Nat.zero_le _, Nat.zero_le _⟩ ?_
                refine lv_icmp_ne (tgt := 85) hx hb dX3_wrongOf_78 (by decide) (fun c_36 => ?_) (fun c_36 => ?_)
                · refine lv_iconst (v := 1) hx hb dX3_wrongOf_85 (by decide) ?_
                  refine lv_iadd hx hb dX3_wrongOf_86 ?_
                  refine lv_istore_n (lv' := [(2, .int (x + 1)), (0, .ref (b 0)), (1, .int (nI n)), (3, .int (nI k))]) hx hb dX3_wrongOf_87 rfl hl (by decide) rfl (fun ls hl => ?_)
                  refine lv_iinc (v := (nI (k + 1))) (lv' := [(3, .int (nI (k + 1))), (2, .int (x + 1)), (0, .ref (b 0)), (1, .int (nI n))]) hx hb dX3_wrongOf_88 hl (k := 3) rfl (nI_1 k) (by decide) rfl (fun ls hl => ?_)
                  refine lv_goto (tgt := 48) hx hb dX3_wrongOf_91 (by decide) ?_
                  exact ih (k + 1) _ (by omega) (by subst hx9; simp only [wF, fgs_nI hn.1 (show k < 6 by omega), ej_1, ej_26, ej_35, c_34, c_36, eq_self, Bool.false_eq_true, ↓reduceIte, Int32.add_zero]) ls (lv_sub hl [2, 3, 1, 0] rfl)
                · refine lv_iconst (v := 0) hx hb dX3_wrongOf_81 (by decide) ?_
                  refine lv_goto (tgt := 86) hx hb dX3_wrongOf_82 (by decide) ?_
                  refine lv_iadd hx hb dX3_wrongOf_86 ?_
                  refine lv_istore_n (lv' := [(2, .int (x + 0)), (0, .ref (b 0)), (1, .int (nI n)), (3, .int (nI k))]) hx hb dX3_wrongOf_87 rfl hl (by decide) rfl (fun ls hl => ?_)
                  refine lv_iinc (v := (nI (k + 1))) (lv' := [(3, .int (nI (k + 1))), (2, .int (x + 0)), (0, .ref (b 0)), (1, .int (nI n))]) hx hb dX3_wrongOf_88 hl (k := 3) rfl (nI_1 k) (by decide) rfl (fun ls hl => ?_)
                  refine lv_goto (tgt := 48) hx hb dX3_wrongOf_91 (by decide) ?_
                  exact ih (k + 1) _ (by omega) (by subst hx9; simp only [wF, fgs_nI hn.1 (show k < 6 by omega), ej_1, ej_26, ej_35, c_34, (eq_true c_36), eq_self, Bool.false_eq_true, ↓reduceIte, Int32.add_zero]) ls (lv_sub hl [2, 3, 1, 0] rfl)
              · have ej_35 : tat 6 (σ 3) (nI n) (nI k) = (nI j_35) := ej_35
                refine co_eq mj_35 ?_
                refine lv_aload_n hx hb dX3_wrongOf_66 rfl (lv_at hl 0 rfl) ?_
                refine lv_iload_n hx hb dX3_wrongOf_67 rfl (lv_at hl 1 rfl) ?_
                refine lv_iconst (v := 1) hx hb dX3_wrongOf_68 (by decide) ?_
                refine lv_iload_n hx hb dX3_wrongOf_69 rfl (lv_at hl 3 rfl) ?_
                refine lv_ishl hx hb dX3_wrongOf_70 ?_
                refine lv_iadd hx hb dX3_wrongOf_71 ?_
                refine lv_bipush (v := 64) hx hb dX3_wrongOf_72 (by decide) ?_
                refine lv_irem hx hb dX3_wrongOf_74 (by decide) ?_
                refine co_eq (fg_rem hn.1 (show k < 6 by omega)) ?_
                refine co_rV (As := [.int (nI ((n + 2 ^ k) % 64))]) (rest := [.int (nI j_35), .int x]) S (c_X3_ownerOf l G Z b σ μ hR ((n + 2 ^ k) % 64) (Nat.mod_lt _ (by decide))) (cwV 1 hts gX3_wrongOf_X3_ownerOf rfl rfl rfl (by decide +kernel) ⟨Nat.le_of_ble_eq_true rfl, Nat.le_of_ble_eq_true rfl⟩) hK hP (va_recv hK hP (ci := 2) (q0 := 0) rfl rfl) rfl hl.1 rfl (Nat.le_of_ble_eq_true rfl) dX3_wrongOf_75 ⟨Nat.zero_le _, Nat.zero_le _⟩ ?_
                refine lv_icmp_ne (tgt := 85) hx hb dX3_wrongOf_78 (by decide) (fun c_37 => ?_) (fun c_37 => ?_)
                · refine lv_iconst (v := 1) hx hb dX3_wrongOf_85 (by decide) ?_
                  refine lv_iadd hx hb dX3_wrongOf_86 ?_
                  refine lv_istore_n (lv' := [(2, .int (x + 1)), (0, .ref (b 0)), (1, .int (nI n)), (3, .int (nI k))]) hx hb dX3_wrongOf_87 rfl hl (by decide) rfl (fun ls hl => ?_)
                  refine lv_iinc (v := (nI (k + 1))) (lv' := [(3, .int (nI (k + 1))), (2, .int (x + 1)), (0, .ref (b 0)), (1, .int (nI n))]) hx hb dX3_wrongOf_88 hl (k := 3) rfl (nI_1 k) (by decide) rfl (fun ls hl => ?_)
                  refine lv_goto (tgt := 48) hx hb dX3_wrongOf_91 (by decide) ?_
                  exact ih (k + 1) _ (by omega) (by subst hx9; simp only [wF, fgs_nI hn.1 (show k < 6 by omega), ej_1, ej_26, ej_35, c_34, c_37, eq_self, Bool.false_eq_true, ↓reduceIte, Int32.add_zero]) ls (lv_sub hl [2, 3, 1, 0] rfl)
                · refine lv_iconst (v := 0) hx hb dX3_wrongOf_81 (by decide) ?_
                  refine lv_goto (tgt := 86) hx hb dX3_wrongOf_82 (by decide) ?_
                  refine lv_iadd hx hb dX3_wrongOf_86 ?_
                  refine lv_istore_n (lv' := [(2, .int (x + 0)), (0, .ref (b 0)), (1, .int (nI n)), (3, .int (nI k))]) hx hb dX3_wrongOf_87 rfl hl (by decide) rfl (fun ls hl => ?_)
                  refine lv_iinc (v := (nI (k + 1))) (lv' := [(3, .int (nI (k + 1))), (2, .int (x + 0)), (0, .ref (b 0)), (1, .int (nI n))]) hx hb dX3_wrongOf_88 hl (k := 3) rfl (nI_1 k) (by decide) rfl (fun ls hl => ?_)
                  refine lv_goto (tgt := 48) hx hb dX3_wrongOf_91 (by decide) ?_
                  exact ih (k + 1) _ (by omega) (by subst hx9; simp only [wF, fgs_nI hn.1 (show k < 6 by omega), ej_1, ej_26, ej_35, c_34, (eq_true c_37), eq_self, Bool.false_eq_true, ↓reduceIte, Int32.add_zero]) ls (lv_sub hl [2, 3, 1, 0] rfl)
        exact LP 6 0 _ rfl (by simp only [wF, w1S, w2S, show onw (nI n) 1 = nI ((n + 1) % 64) from onw_nI (k := 1) hn.1 (by decide), ej_1, ej_26, (eq_true c_2), (eq_true c_27), ↓reduceIte, Int32.add_zero] <;> decide) ls (lv_sub hl [2, 3, 1, 0] rfl)
    · have ej_26 : tat 1 (σ 2) (nI n) 0 = (nI j_26) := ej_26
      refine co_eq mj_26 ?_
      refine lv_aload_n hx hb dX3_wrongOf_31 rfl (lv_at hl 1 rfl) ?_
      refine lv_iload_n hx hb dX3_wrongOf_32 rfl (lv_at hl 2 rfl) ?_
      refine co_rV (As := [.int (nI n)]) (rest := [.int (nI j_26), .int 0]) S (c_X3_before l G Z b σ μ hR n hn) (cwV 1 hts gX3_wrongOf_X3_before rfl rfl rfl (by decide +kernel) ⟨Nat.le_of_ble_eq_true rfl, Nat.le_of_ble_eq_true rfl⟩) hK hP (va_recv hK hP (ci := 2) (q0 := 0) rfl rfl) rfl hl.1 rfl (Nat.le_of_ble_eq_true rfl) dX3_wrongOf_33 ⟨Nat.zero_le _, Nat.zero_le _⟩ ?_
      refine lv_icmp_ne (tgt := 43) hx hb dX3_wrongOf_36 (by decide) (fun c_38 => ?_) (fun c_38 => ?_)
      · refine lv_iconst (v := 1) hx hb dX3_wrongOf_43 (by decide) ?_
        refine lv_iadd hx hb dX3_wrongOf_44 ?_
        refine lv_istore_n (lv' := [(2, .int (0 + 1)), (0, .ref (b 0)), (1, .int (nI n))]) hx hb dX3_wrongOf_45 rfl hl (by decide) rfl (fun ls hl => ?_)
        refine lv_iconst (v := 0) hx hb dX3_wrongOf_46 (by decide) ?_
        refine lv_istore_n (lv' := [(3, .int 0), (2, .int (0 + 1)), (0, .ref (b 0)), (1, .int (nI n))]) hx hb dX3_wrongOf_47 rfl hl (by decide) rfl (fun ls hl => ?_)
        have LP : ∀ (d : Nat) (k : Nat) (x : Int32), k + d = 6 → x = wF (σ 0) (σ 3) (nI n) (w2S (σ 0) (σ 2) (nI n) (w1S (σ 0) (σ 1) (nI n))) k → ∀ ls : Array Slot, lv_has ls 4 [(0, .ref (b 0)), (1, .int (nI n)), (2, .int x), (3, .int (nI k))] → W p l e rm_X3_wrongOf s m args below meth c s.heap [] 0 0 (QR below (wrg σ (nI n)) args s) (F0 m 48 ls []) := by
          intro d
          induction d with
          | zero =>
            intro k x hk hx9 ls hl
            refine lv_iload_n hx hb dX3_wrongOf_48 rfl (lv_at hl 3 rfl) ?_
            refine lv_bipush (v := 6) hx hb dX3_wrongOf_49 (by decide) ?_
            refine lv_icmp_ge (tgt := 94) hx hb dX3_wrongOf_51 (by decide) (fun c_39 => ?_) (fun c_39 => ?_)
            · refine lv_iload_n hx hb dX3_wrongOf_94 rfl (lv_at hl 2 rfl) ?_
              exact co_endR S hr hlocks dX3_wrongOf_95 (by rw [hx9, show k = 6 by omega]; rfl)
            · exact absurd (nI_le (a := 6) (b := k) (by omega) (by omega)) c_39
          | succ d ih =>
            intro k x hk hx9 ls hl
            refine lv_iload_n hx hb dX3_wrongOf_48 rfl (lv_at hl 3 rfl) ?_
            refine lv_bipush (v := 6) hx hb dX3_wrongOf_49 (by decide) ?_
            refine lv_icmp_ge (tgt := 94) hx hb dX3_wrongOf_51 (by decide) (fun c_40 => ?_) (fun c_40 => ?_)
            · exact absurd c_40 (nI_ge (a := k) (b := 6) (by omega) (by omega))
            · refine lv_iload_n hx hb dX3_wrongOf_54 rfl (lv_at hl 2 rfl) ?_
              refine lv_aload_n hx hb dX3_wrongOf_55 rfl (lv_at hl 0 rfl) ?_
              refine va_get (D := G.1) (ci := 2) (v := .ref (b 4)) (C := RX3) (T := TX3) (N := 13) hx hb hts uX3 hown hK hP 0 rfl rfl 5 (by decide) (hts (.fieldLink RX3 20 "ChordOverlayModel" "finger" "[I") (by decide +kernel)) (fun _ h9 => h9) rfl dX3_wrongOf_56 ?_
              refine lv_bipush (v := 6) hx hb dX3_wrongOf_59 (by decide) ?_
              refine lv_iload_n hx hb dX3_wrongOf_61 rfl (lv_at hl 1 rfl) ?_
              refine lv_imul hx hb dX3_wrongOf_62 ?_
              refine lv_iload_n hx hb dX3_wrongOf_63 rfl (lv_at hl 3 rfl) ?_
              refine lv_iadd hx hb dX3_wrongOf_64 ?_
              refine va_iald hx hb hK hP 4 0 rfl rfl (vi_w (w := 6) (p := k) (by decide) hn.1 (show k < 6 by omega)) dX3_wrongOf_65 ?_
              rcases rl_f hR hn k (show k < 6 by omega) with ⟨ej_41, mj_41⟩ | ⟨j_41, hj_41, ej_41, mj_41⟩
              · have ej_41 : tat 6 (σ 3) (nI n) (nI k) = (-1) := ej_41
                refine co_eq mj_41 ?_
                refine lv_aload_n hx hb dX3_wrongOf_66 rfl (lv_at hl 0 rfl) ?_
                refine lv_iload_n hx hb dX3_wrongOf_67 rfl (lv_at hl 1 rfl) ?_
                refine lv_iconst (v := 1) hx hb dX3_wrongOf_68 (by decide) ?_
                refine lv_iload_n hx hb dX3_wrongOf_69 rfl (lv_at hl 3 rfl) ?_
                refine lv_ishl hx hb dX3_wrongOf_70 ?_
                refine lv_iadd hx hb dX3_wrongOf_71 ?_
                refine lv_bipush (v := 64) hx hb dX3_wrongOf_72 (by decide) ?_
                refine lv_irem hx hb dX3_wrongOf_74 (by decide) ?_
                refine co_eq (fg_rem hn.1 (show k < 6 by omega)) ?_
                refine co_rV (As := [.int (nI ((n + 2 ^ k) % 64))]) (rest := [.int (-1), .int x]) S (c_X3_ownerOf l G Z b σ μ hR ((n + 2 ^ k) % 64) (Nat.mod_lt _ (by decide))) (cwV 1 hts gX3_wrongOf_X3_ownerOf rfl rfl rfl (by decide +kernel) ⟨Nat.le_of_ble_eq_true rfl, Nat.le_of_ble_eq_true rfl⟩) hK hP (va_recv hK hP (ci := 2) (q0 := 0) rfl rfl) rfl hl.1 rfl (Nat.le_of_ble_eq_true rfl) dX3_wrongOf_75 ⟨Nat.zero_le _, Nat.zero_le _⟩ ?_
                refine lv_icmp_ne (tgt := 85) hx hb dX3_wrongOf_78 (by decide) (fun c_42 => ?_) (fun c_42 => ?_)
                · refine lv_iconst (v := 1) hx hb dX3_wrongOf_85 (by decide) ?_
                  refine lv_iadd hx hb dX3_wrongOf_86 ?_
                  refine lv_istore_n (lv' := [(2, .int (x + 1)), (0, .ref (b 0)), (1, .int (nI n)), (3, .int (nI k))]) hx hb dX3_wrongOf_87 rfl hl (by decide) rfl (fun ls hl => ?_)
                  refine lv_iinc (v := (nI (k + 1))) (lv' := [(3, .int (nI (k + 1))), (2, .int (x + 1)), (0, .ref (b 0)), (1, .int (nI n))]) hx hb dX3_wrongOf_88 hl (k := 3) rfl (nI_1 k) (by decide) rfl (fun ls hl => ?_)
                  refine lv_goto (tgt := 48) hx hb dX3_wrongOf_91 (by decide) ?_
                  exact ih (k + 1) _ (by omega) (by subst hx9; simp only [wF, fgs_nI hn.1 (show k < 6 by omega), ej_1, ej_26, ej_41, c_40, c_42, eq_self, Bool.false_eq_true, ↓reduceIte, Int32.add_zero]) ls (lv_sub hl [2, 3, 1, 0] rfl)
                · refine lv_iconst (v := 0) hx hb dX3_wrongOf_81 (by decide) ?_
                  refine lv_goto (tgt := 86) hx hb dX3_wrongOf_82 (by decide) ?_
                  refine lv_iadd hx hb dX3_wrongOf_86 ?_
                  refine lv_istore_n (lv' := [(2, .int (x + 0)), (0, .ref (b 0)), (1, .int (nI n)), (3, .int (nI k))]) hx hb dX3_wrongOf_87 rfl hl (by decide) rfl (fun ls hl => ?_)
                  refine lv_iinc (v := (nI (k + 1))) (lv' := [(3, .int (nI (k + 1))), (2, .int (x + 0)), (0, .ref (b 0)), (1, .int (nI n))]) hx hb dX3_wrongOf_88 hl (k := 3) rfl (nI_1 k) (by decide) rfl (fun ls hl => ?_)
                  refine lv_goto (tgt := 48) hx hb dX3_wrongOf_91 (by decide) ?_
                  exact ih (k + 1) _ (by omega) (by subst hx9; simp only [wF, fgs_nI hn.1 (show k < 6 by omega), ej_1, ej_26, ej_41, c_40, (eq_true c_42), eq_self, Bool.false_eq_true, ↓reduceIte, Int32.add_zero]) ls (lv_sub hl [2, 3, 1, 0] rfl)
              · have ej_41 : tat 6 (σ 3) (nI n) (nI k) = (nI j_41) := ej_41
                refine co_eq mj_41 ?_
                refine lv_aload_n hx hb dX3_wrongOf_66 rfl (lv_at hl 0 rfl) ?_
                refine lv_iload_n hx hb dX3_wrongOf_67 rfl (lv_at hl 1 rfl) ?_
                refine lv_iconst (v := 1) hx hb dX3_wrongOf_68 (by decide) ?_
                refine lv_iload_n hx hb dX3_wrongOf_69 rfl (lv_at hl 3 rfl) ?_
                refine lv_ishl hx hb dX3_wrongOf_70 ?_
                refine lv_iadd hx hb dX3_wrongOf_71 ?_
                refine lv_bipush (v := 64) hx hb dX3_wrongOf_72 (by decide) ?_
                refine lv_irem hx hb dX3_wrongOf_74 (by decide) ?_
                refine co_eq (fg_rem hn.1 (show k < 6 by omega)) ?_
                refine co_rV (As := [.int (nI ((n + 2 ^ k) % 64))]) (rest := [.int (nI j_41), .int x]) S (c_X3_ownerOf l G Z b σ μ hR ((n + 2 ^ k) % 64) (Nat.mod_lt _ (by decide))) (cwV 1 hts gX3_wrongOf_X3_ownerOf rfl rfl rfl (by decide +kernel) ⟨Nat.le_of_ble_eq_true rfl, Nat.le_of_ble_eq_true rfl⟩) hK hP (va_recv hK hP (ci := 2) (q0 := 0) rfl rfl) rfl hl.1 rfl (Nat.le_of_ble_eq_true rfl) dX3_wrongOf_75 ⟨Nat.zero_le _, Nat.zero_le _⟩ ?_
                refine lv_icmp_ne (tgt := 85) hx hb dX3_wrongOf_78 (by decide) (fun c_43 => ?_) (fun c_43 => ?_)
                · refine lv_iconst (v := 1) hx hb dX3_wrongOf_85 (by decide) ?_
                  refine lv_iadd hx hb dX3_wrongOf_86 ?_
                  refine lv_istore_n (lv' := [(2, .int (x + 1)), (0, .ref (b 0)), (1, .int (nI n)), (3, .int (nI k))]) hx hb dX3_wrongOf_87 rfl hl (by decide) rfl (fun ls hl => ?_)
                  refine lv_iinc (v := (nI (k + 1))) (lv' := [(3, .int (nI (k + 1))), (2, .int (x + 1)), (0, .ref (b 0)), (1, .int (nI n))]) hx hb dX3_wrongOf_88 hl (k := 3) rfl (nI_1 k) (by decide) rfl (fun ls hl => ?_)
                  refine lv_goto (tgt := 48) hx hb dX3_wrongOf_91 (by decide) ?_
                  exact ih (k + 1) _ (by omega) (by subst hx9; simp only [wF, fgs_nI hn.1 (show k < 6 by omega), ej_1, ej_26, ej_41, c_40, c_43, eq_self, Bool.false_eq_true, ↓reduceIte, Int32.add_zero]) ls (lv_sub hl [2, 3, 1, 0] rfl)
                · refine lv_iconst (v := 0) hx hb dX3_wrongOf_81 (by decide) ?_
                  refine lv_goto (tgt := 86) hx hb dX3_wrongOf_82 (by decide) ?_
                  refine lv_iadd hx hb dX3_wrongOf_86 ?_
                  refine lv_istore_n (lv' := [(2, .int (x + 0)), (0, .ref (b 0)), (1, .int (nI n)), (3, .int (nI k))]) hx hb dX3_wrongOf_87 rfl hl (by decide) rfl (fun ls hl => ?_)
                  refine lv_iinc (v := (nI (k + 1))) (lv' := [(3, .int (nI (k + 1))), (2, .int (x + 0)), (0, .ref (b 0)), (1, .int (nI n))]) hx hb dX3_wrongOf_88 hl (k := 3) rfl (nI_1 k) (by decide) rfl (fun ls hl => ?_)
                  refine lv_goto (tgt := 48) hx hb dX3_wrongOf_91 (by decide) ?_
                  exact ih (k + 1) _ (by omega) (by subst hx9; simp only [wF, fgs_nI hn.1 (show k < 6 by omega), ej_1, ej_26, ej_41, c_40, (eq_true c_43), eq_self, Bool.false_eq_true, ↓reduceIte, Int32.add_zero]) ls (lv_sub hl [2, 3, 1, 0] rfl)
        exact LP 6 0 _ rfl (by simp only [wF, w1S, w2S, show onw (nI n) 1 = nI ((n + 1) % 64) from onw_nI (k := 1) hn.1 (by decide), ej_1, ej_26, (eq_true c_2), c_38, ↓reduceIte, Int32.add_zero] <;> decide) ls (lv_sub hl [2, 3, 1, 0] rfl)
      · refine lv_iconst (v := 0) hx hb dX3_wrongOf_39 (by decide) ?_
        refine lv_goto (tgt := 44) hx hb dX3_wrongOf_40 (by decide) ?_
        refine lv_iadd hx hb dX3_wrongOf_44 ?_
        refine lv_istore_n (lv' := [(2, .int (0 + 0)), (0, .ref (b 0)), (1, .int (nI n))]) hx hb dX3_wrongOf_45 rfl hl (by decide) rfl (fun ls hl => ?_)
        refine lv_iconst (v := 0) hx hb dX3_wrongOf_46 (by decide) ?_
        refine lv_istore_n (lv' := [(3, .int 0), (2, .int (0 + 0)), (0, .ref (b 0)), (1, .int (nI n))]) hx hb dX3_wrongOf_47 rfl hl (by decide) rfl (fun ls hl => ?_)
        have LP : ∀ (d : Nat) (k : Nat) (x : Int32), k + d = 6 → x = wF (σ 0) (σ 3) (nI n) (w2S (σ 0) (σ 2) (nI n) (w1S (σ 0) (σ 1) (nI n))) k → ∀ ls : Array Slot, lv_has ls 4 [(0, .ref (b 0)), (1, .int (nI n)), (2, .int x), (3, .int (nI k))] → W p l e rm_X3_wrongOf s m args below meth c s.heap [] 0 0 (QR below (wrg σ (nI n)) args s) (F0 m 48 ls []) := by
          intro d
          induction d with
          | zero =>
            intro k x hk hx9 ls hl
            refine lv_iload_n hx hb dX3_wrongOf_48 rfl (lv_at hl 3 rfl) ?_
            refine lv_bipush (v := 6) hx hb dX3_wrongOf_49 (by decide) ?_
            refine lv_icmp_ge (tgt := 94) hx hb dX3_wrongOf_51 (by decide) (fun c_44 => ?_) (fun c_44 => ?_)
            · refine lv_iload_n hx hb dX3_wrongOf_94 rfl (lv_at hl 2 rfl) ?_
              exact co_endR S hr hlocks dX3_wrongOf_95 (by rw [hx9, show k = 6 by omega]; rfl)
            · exact absurd (nI_le (a := 6) (b := k) (by omega) (by omega)) c_44
          | succ d ih =>
            intro k x hk hx9 ls hl
            refine lv_iload_n hx hb dX3_wrongOf_48 rfl (lv_at hl 3 rfl) ?_
            refine lv_bipush (v := 6) hx hb dX3_wrongOf_49 (by decide) ?_
            refine lv_icmp_ge (tgt := 94) hx hb dX3_wrongOf_51 (by decide) (fun c_45 => ?_) (fun c_45 => ?_)
            · exact absurd c_45 (nI_ge (a := k) (b := 6) (by omega) (by omega))
            · refine lv_iload_n hx hb dX3_wrongOf_54 rfl (lv_at hl 2 rfl) ?_
              refine lv_aload_n hx hb dX3_wrongOf_55 rfl (lv_at hl 0 rfl) ?_
              refine va_get (D := G.1) (ci := 2) (v := .ref (b 4)) (C := RX3) (T := TX3) (N := 13) hx hb hts uX3 hown hK hP 0 rfl rfl 5 (by decide) (hts (.fieldLink RX3 20 "ChordOverlayModel" "finger" "[I") (by decide +kernel)) (fun _ h9 => h9) rfl dX3_wrongOf_56 ?_
              refine lv_bipush (v := 6) hx hb dX3_wrongOf_59 (by decide) ?_
              refine lv_iload_n hx hb dX3_wrongOf_61 rfl (lv_at hl 1 rfl) ?_
              refine lv_imul hx hb dX3_wrongOf_62 ?_
              refine lv_iload_n hx hb dX3_wrongOf_63 rfl (lv_at hl 3 rfl) ?_
              refine lv_iadd hx hb dX3_wrongOf_64 ?_
              refine va_iald hx hb hK hP 4 0 rfl rfl (vi_w (w := 6) (p := k) (by decide) hn.1 (show k < 6 by omega)) dX3_wrongOf_65 ?_
              rcases rl_f hR hn k (show k < 6 by omega) with ⟨ej_46, mj_46⟩ | ⟨j_46, hj_46, ej_46, mj_46⟩
              · have ej_46 : tat 6 (σ 3) (nI n) (nI k) = (-1) := ej_46
                refine co_eq mj_46 ?_
                refine lv_aload_n hx hb dX3_wrongOf_66 rfl (lv_at hl 0 rfl) ?_
                refine lv_iload_n hx hb dX3_wrongOf_67 rfl (lv_at hl 1 rfl) ?_
                refine lv_iconst (v := 1) hx hb dX3_wrongOf_68 (by decide) ?_
                refine lv_iload_n hx hb dX3_wrongOf_69 rfl (lv_at hl 3 rfl) ?_
                refine lv_ishl hx hb dX3_wrongOf_70 ?_
                refine lv_iadd hx hb dX3_wrongOf_71 ?_
                refine lv_bipush (v := 64) hx hb dX3_wrongOf_72 (by decide) ?_
                refine lv_irem hx hb dX3_wrongOf_74 (by decide) ?_
                refine co_eq (fg_rem hn.1 (show k < 6 by omega)) ?_
                refine co_rV (As := [.int (nI ((n + 2 ^ k) % 64))]) (rest := [.int (-1), .int x]) S (c_X3_ownerOf l G Z b σ μ hR ((n + 2 ^ k) % 64) (Nat.mod_lt _ (by decide))) (cwV 1 hts gX3_wrongOf_X3_ownerOf rfl rfl rfl (by decide +kernel) ⟨Nat.le_of_ble_eq_true rfl, Nat.le_of_ble_eq_true rfl⟩) hK hP (va_recv hK hP (ci := 2) (q0 := 0) rfl rfl) rfl hl.1 rfl (Nat.le_of_ble_eq_true rfl) dX3_wrongOf_75 ⟨Nat.zero_le _, Nat.zero_le _⟩ ?_
                refine lv_icmp_ne (tgt := 85) hx hb dX3_wrongOf_78 (by decide) (fun c_47 => ?_) (fun c_47 => ?_)
                · refine lv_iconst (v := 1) hx hb dX3_wrongOf_85 (by decide) ?_
                  refine lv_iadd hx hb dX3_wrongOf_86 ?_
                  refine lv_istore_n (lv' := [(2, .int (x + 1)), (0, .ref (b 0)), (1, .int (nI n)), (3, .int (nI k))]) hx hb dX3_wrongOf_87 rfl hl (by decide) rfl (fun ls hl => ?_)
                  refine lv_iinc (v := (nI (k + 1))) (lv' := [(3, .int (nI (k + 1))), (2, .int (x + 1)), (0, .ref (b 0)), (1, .int (nI n))]) hx hb dX3_wrongOf_88 hl (k := 3) rfl (nI_1 k) (by decide) rfl (fun ls hl => ?_)
                  refine lv_goto (tgt := 48) hx hb dX3_wrongOf_91 (by decide) ?_
                  exact ih (k + 1) _ (by omega) (by subst hx9; simp only [wF, fgs_nI hn.1 (show k < 6 by omega), ej_1, ej_26, ej_46, c_45, c_47, eq_self, Bool.false_eq_true, ↓reduceIte, Int32.add_zero]) ls (lv_sub hl [2, 3, 1, 0] rfl)
                · refine lv_iconst (v := 0) hx hb dX3_wrongOf_81 (by decide) ?_
                  refine lv_goto (tgt := 86) hx hb dX3_wrongOf_82 (by decide) ?_
                  refine lv_iadd hx hb dX3_wrongOf_86 ?_
                  refine lv_istore_n (lv' := [(2, .int (x + 0)), (0, .ref (b 0)), (1, .int (nI n)), (3, .int (nI k))]) hx hb dX3_wrongOf_87 rfl hl (by decide) rfl (fun ls hl => ?_)
                  refine lv_iinc (v := (nI (k + 1))) (lv' := [(3, .int (nI (k + 1))), (2, .int (x + 0)), (0, .ref (b 0)), (1, .int (nI n))]) hx hb dX3_wrongOf_88 hl (k := 3) rfl (nI_1 k) (by decide) rfl (fun ls hl => ?_)
                  refine lv_goto (tgt := 48) hx hb dX3_wrongOf_91 (by decide) ?_
                  exact ih (k + 1) _ (by omega) (by subst hx9; simp only [wF, fgs_nI hn.1 (show k < 6 by omega), ej_1, ej_26, ej_46, c_45, (eq_true c_47), eq_self, Bool.false_eq_true, ↓reduceIte, Int32.add_zero]) ls (lv_sub hl [2, 3, 1, 0] rfl)
              · have ej_46 : tat 6 (σ 3) (nI n) (nI k) = (nI j_46) := ej_46
                refine co_eq mj_46 ?_
                refine lv_aload_n hx hb dX3_wrongOf_66 rfl (lv_at hl 0 rfl) ?_
                refine lv_iload_n hx hb dX3_wrongOf_67 rfl (lv_at hl 1 rfl) ?_
                refine lv_iconst (v := 1) hx hb dX3_wrongOf_68 (by decide) ?_
                refine lv_iload_n hx hb dX3_wrongOf_69 rfl (lv_at hl 3 rfl) ?_
                refine lv_ishl hx hb dX3_wrongOf_70 ?_
                refine lv_iadd hx hb dX3_wrongOf_71 ?_
                refine lv_bipush (v := 64) hx hb dX3_wrongOf_72 (by decide) ?_
                refine lv_irem hx hb dX3_wrongOf_74 (by decide) ?_
                refine co_eq (fg_rem hn.1 (show k < 6 by omega)) ?_
                refine co_rV (As := [.int (nI ((n + 2 ^ k) % 64))]) (rest := [.int (nI j_46), .int x]) S (c_X3_ownerOf l G Z b σ μ hR ((n + 2 ^ k) % 64) (Nat.mod_lt _ (by decide))) (cwV 1 hts gX3_wrongOf_X3_ownerOf rfl rfl rfl (by decide +kernel) ⟨Nat.le_of_ble_eq_true rfl, Nat.le_of_ble_eq_true rfl⟩) hK hP (va_recv hK hP (ci := 2) (q0 := 0) rfl rfl) rfl hl.1 rfl (Nat.le_of_ble_eq_true rfl) dX3_wrongOf_75 ⟨Nat.zero_le _, Nat.zero_le _⟩ ?_
                refine lv_icmp_ne (tgt := 85) hx hb dX3_wrongOf_78 (by decide) (fun c_48 => ?_) (fun c_48 => ?_)
                · refine lv_iconst (v := 1) hx hb dX3_wrongOf_85 (by decide) ?_
                  refine lv_iadd hx hb dX3_wrongOf_86 ?_
                  refine lv_istore_n (lv' := [(2, .int (x + 1)), (0, .ref (b 0)), (1, .int (nI n)), (3, .int (nI k))]) hx hb dX3_wrongOf_87 rfl hl (by decide) rfl (fun ls hl => ?_)
                  refine lv_iinc (v := (nI (k + 1))) (lv' := [(3, .int (nI (k + 1))), (2, .int (x + 1)), (0, .ref (b 0)), (1, .int (nI n))]) hx hb dX3_wrongOf_88 hl (k := 3) rfl (nI_1 k) (by decide) rfl (fun ls hl => ?_)
                  refine lv_goto (tgt := 48) hx hb dX3_wrongOf_91 (by decide) ?_
                  exact ih (k + 1) _ (by omega) (by subst hx9; simp only [wF, fgs_nI hn.1 (show k < 6 by omega), ej_1, ej_26, ej_46, c_45, c_48, eq_self, Bool.false_eq_true, ↓reduceIte, Int32.add_zero]) ls (lv_sub hl [2, 3, 1, 0] rfl)
                · refine lv_iconst (v := 0) hx hb dX3_wrongOf_81 (by decide) ?_
                  refine lv_goto (tgt := 86) hx hb dX3_wrongOf_82 (by decide) ?_
                  refine lv_iadd hx hb dX3_wrongOf_86 ?_
                  refine lv_istore_n (lv' := [(2, .int (x + 0)), (0, .ref (b 0)), (1, .int (nI n)), (3, .int (nI k))]) hx hb dX3_wrongOf_87 rfl hl (by decide) rfl (fun ls hl => ?_)
                  refine lv_iinc (v := (nI (k + 1))) (lv' := [(3, .int (nI (k + 1))), (2, .int (x + 0)), (0, .ref (b 0)), (1, .int (nI n))]) hx hb dX3_wrongOf_88 hl (k := 3) rfl (nI_1 k) (by decide) rfl (fun ls hl => ?_)
                  refine lv_goto (tgt := 48) hx hb dX3_wrongOf_91 (by decide) ?_
                  exact ih (k + 1) _ (by omega) (by subst hx9; simp only [wF, fgs_nI hn.1 (show k < 6 by omega), ej_1, ej_26, ej_46, c_45, (eq_true c_48), eq_self, Bool.false_eq_true, ↓reduceIte, Int32.add_zero]) ls (lv_sub hl [2, 3, 1, 0] rfl)
        exact LP 6 0 _ rfl (by simp only [wF, w1S, w2S, show onw (nI n) 1 = nI ((n + 1) % 64) from onw_nI (k := 1) hn.1 (by decide), ej_1, ej_26, (eq_true c_2), (eq_true c_38), ↓reduceIte, Int32.add_zero] <;> decide) ls (lv_sub hl [2, 3, 1, 0] rfl)

set_option maxRecDepth 20000 in
theorem uX3_X3_countWrong : ∀ w ∈ u_ws RX3 TX3 13, w ∈ wsX3_countWrong := by decide +kernel
abbrev rm_X3_countWrong : Room := { frames := 2, cells := 0, slots := 0, locals := 46 }
set_option maxHeartbeats 4000000 in
set_option maxRecDepth 100000 in
theorem c_X3_countWrong (l : Launch) (G : cG) (Z : Nat) (b : Nat → Nat) (σ μ : cS) (hR : Rl Z σ μ) : MetR l yX3_countWrong wsX3_countWrong rm_X3_countWrong G (wM G b μ) [.ref (b 0)] (cwp σ 64) := by
  refine co_bodyR (cc := cX3_countWrong) (maxL := 3) (ret := (some .int)) (by decide) rfl (Nat.le_of_ble_eq_true rfl) ?_
  intro p e s m args below meth c S hr hlocks hK hP ls hl
  have S : CallFix p m c cX3_countWrong 3 s args wsX3_countWrong RX3 := S
  obtain ⟨hx, hb, hml, hown, hts⟩ := id S
  have hl : lv_has ls 3 [(0, .ref (b 0))] := hl
  have uX3 := uX3_X3_countWrong
  refine lv_iconst (v := 0) hx hb dX3_countWrong_0 (by decide) ?_
  refine lv_istore_n (lv' := [(1, .int 0), (0, .ref (b 0))]) hx hb dX3_countWrong_1 rfl hl (by decide) rfl (fun ls hl => ?_)
  refine lv_iconst (v := 0) hx hb dX3_countWrong_2 (by decide) ?_
  refine lv_istore_n (lv' := [(2, .int 0), (1, .int 0), (0, .ref (b 0))]) hx hb dX3_countWrong_3 rfl hl (by decide) rfl (fun ls hl => ?_)
  have LP : ∀ (d : Nat) (k : Nat) (x : Int32), k + d = 64 → x = cwp σ k → ∀ ls : Array Slot, lv_has ls 3 [(0, .ref (b 0)), (1, .int x), (2, .int (nI k))] → W p l e rm_X3_countWrong s m args below meth c s.heap [] 0 0 (QR below (cwp σ 64) args s) (F0 m 4 ls []) := by
    intro d
    induction d with
    | zero =>
      intro k x hk hx9 ls hl
      refine lv_iload_n hx hb dX3_countWrong_4 rfl (lv_at hl 2 rfl) ?_
      refine lv_bipush (v := 64) hx hb dX3_countWrong_5 (by decide) ?_
      refine lv_icmp_ge (tgt := 37) hx hb dX3_countWrong_7 (by decide) (fun c_1 => ?_) (fun c_1 => ?_)
      · refine lv_iload_n hx hb dX3_countWrong_37 rfl (lv_at hl 1 rfl) ?_
        exact co_endR S hr hlocks dX3_countWrong_38 (by rw [hx9, show k = 64 by omega])
      · exact absurd (nI_le (a := 64) (b := k) (by omega) (by omega)) c_1
    | succ d ih =>
      intro k x hk hx9 ls hl
      refine lv_iload_n hx hb dX3_countWrong_4 rfl (lv_at hl 2 rfl) ?_
      refine lv_bipush (v := 64) hx hb dX3_countWrong_5 (by decide) ?_
      refine lv_icmp_ge (tgt := 37) hx hb dX3_countWrong_7 (by decide) (fun c_2 => ?_) (fun c_2 => ?_)
      · exact absurd c_2 (nI_ge (a := k) (b := 64) (by omega) (by omega))
      · refine lv_iload_n hx hb dX3_countWrong_10 rfl (lv_at hl 1 rfl) ?_
        refine lv_aload_n hx hb dX3_countWrong_11 rfl (lv_at hl 0 rfl) ?_
        refine va_get (D := G.1) (ci := 2) (v := .ref (b 1)) (C := RX3) (T := TX3) (N := 13) hx hb hts uX3 hown hK hP 0 rfl rfl 2 (by decide) (hts (.fieldLink RX3 7 "ChordOverlayModel" "lives" "[Z") (by decide +kernel)) (fun _ h9 => h9) rfl dX3_countWrong_12 ?_
        refine lv_iload_n hx hb dX3_countWrong_15 rfl (lv_at hl 2 rfl) ?_
        refine va_zald hx hb hK hP 1 1 rfl rfl (vi_1 (show k < 64 by omega)) dX3_countWrong_16 ?_
        refine co_eq (y := bI (alv (σ 0) (nI k))) (rl_l hR (show k < 64 by omega)) ?_
        refine co_ifeq (tgt := 28) S dX3_countWrong_17 (by decide) (fun c_3 => ?_) (fun c_3 => ?_)
        · refine lv_iconst (v := 0) hx hb dX3_countWrong_28 (by decide) ?_
          refine lv_iadd hx hb dX3_countWrong_29 ?_
          refine lv_istore_n (lv' := [(1, .int (x + 0)), (0, .ref (b 0)), (2, .int (nI k))]) hx hb dX3_countWrong_30 rfl hl (by decide) rfl (fun ls hl => ?_)
          refine lv_iinc (v := (nI (k + 1))) (lv' := [(2, .int (nI (k + 1))), (1, .int (x + 0)), (0, .ref (b 0))]) hx hb dX3_countWrong_31 hl (k := 2) rfl (nI_1 k) (by decide) rfl (fun ls hl => ?_)
          refine lv_goto (tgt := 4) hx hb dX3_countWrong_34 (by decide) ?_
          exact ih (k + 1) _ (by omega) (by subst hx9; simp only [cwp, c_2, c_3, eq_self, Bool.false_eq_true, ↓reduceIte, Int32.add_zero]) ls (lv_sub hl [2, 1, 0] rfl)
        · refine lv_aload_n hx hb dX3_countWrong_20 rfl (lv_at hl 0 rfl) ?_
          refine lv_iload_n hx hb dX3_countWrong_21 rfl (lv_at hl 2 rfl) ?_
          refine co_rV (As := [.int (nI k)]) (rest := [.int x]) S (c_X3_wrongOf l G Z b σ μ hR k ⟨(show k < 64 by omega), c_3⟩) (cwV 1 hts gX3_countWrong_X3_wrongOf rfl rfl rfl (by decide +kernel) ⟨Nat.le_of_ble_eq_true rfl, Nat.le_of_ble_eq_true rfl⟩) hK hP (va_recv hK hP (ci := 2) (q0 := 0) rfl rfl) rfl hl.1 rfl (Nat.le_of_ble_eq_true rfl) dX3_countWrong_22 ⟨Nat.zero_le _, Nat.zero_le _⟩ ?_
          refine lv_goto (tgt := 29) hx hb dX3_countWrong_25 (by decide) ?_
          refine lv_iadd hx hb dX3_countWrong_29 ?_
          refine lv_istore_n (lv' := [(1, .int (x + (wrg σ (nI k)))), (0, .ref (b 0)), (2, .int (nI k))]) hx hb dX3_countWrong_30 rfl hl (by decide) rfl (fun ls hl => ?_)
          refine lv_iinc (v := (nI (k + 1))) (lv' := [(2, .int (nI (k + 1))), (1, .int (x + (wrg σ (nI k)))), (0, .ref (b 0))]) hx hb dX3_countWrong_31 hl (k := 2) rfl (nI_1 k) (by decide) rfl (fun ls hl => ?_)
          refine lv_goto (tgt := 4) hx hb dX3_countWrong_34 (by decide) ?_
          exact ih (k + 1) _ (by omega) (by subst hx9; simp only [cwp, c_2, c_3, eq_self, Bool.false_eq_true, ↓reduceIte, Int32.add_zero]) ls (lv_sub hl [2, 1, 0] rfl)
  exact LP 64 0 _ rfl rfl ls (lv_sub hl [2, 1, 0] rfl)

set_option maxRecDepth 20000 in
theorem uX3_X3_find : ∀ w ∈ u_ws RX3 TX3 13, w ∈ wsX3_find := by decide +kernel
abbrev rm_X3_find : Room := { frames := 4, cells := 0, slots := 0, locals := 93 }
set_option maxHeartbeats 4000000 in
set_option maxRecDepth 100000 in
theorem c_X3_find (l : Launch) (G : cG) (Z : Nat) (b : Nat → Nat) (σ μ : cS) (hR : Rl Z σ μ)(n key : Nat) (hn : Lv σ n) (hk0 : key < 64) : MetI l yX3_find wsX3_find rm_X3_find G (wM G b μ) [.ref (b 0), .int (nI n), .int (nI key)] (fun u : cS => wM G b u) (fun r u => r = fnR σ (nI n) (nI key) ∧ Rl Z σ u ∧ Kp μ u ∧ u 9 0 = nI (hpc (σ 0) (σ 1) (σ 3) (nI key) 64 (nI n)) ∧ ∀ j, j ≤ hpc (σ 0) (σ 1) (σ 3) (nI key) 64 (nI n) → u 8 j = pth (σ 0) (σ 1) (σ 3) (nI key) (nI n) j) := by
  refine co_bodyI (cc := cX3_find) (maxL := 5) (ret := (some .int)) (by decide) rfl (Nat.le_of_ble_eq_true rfl) ?_
  intro p e s m args below meth c S hr hlocks hK A hA hP hD hS ls hl
  have S : CallFix p m c cX3_find 5 s args wsX3_find RX3 := S
  obtain ⟨hx, hb, hml, hown, hts⟩ := id S
  have hl : lv_has ls 5 [(0, .ref (b 0)), (1, .int (nI n)), (2, .int (nI key))] := hl
  have uX3 := uX3_X3_find
  refine lv_iload_n hx hb dX3_find_0 rfl (lv_at hl 1 rfl) ?_
  refine lv_istore_n (lv' := [(3, .int (nI n)), (0, .ref (b 0)), (1, .int (nI n)), (2, .int (nI key))]) hx hb dX3_find_1 rfl hl (by decide) rfl (fun ls hl => ?_)
  refine lv_aload_n hx hb dX3_find_2 rfl (lv_at hl 1 rfl) ?_
  refine lv_iload_n hx hb dX3_find_3 rfl (lv_at hl 0 rfl) ?_
  obtain ⟨j_1, ej_1, lj_1⟩ := Lv.ls hR hn
  refine co_rV (As := [.int (nI n)]) (rest := []) S (c_X3_liveSuccessorOf l G Z b σ μ hR n hn) (cwV 1 hts gX3_find_X3_liveSuccessorOf rfl rfl rfl (by decide +kernel) ⟨Nat.le_of_ble_eq_true rfl, Nat.le_of_ble_eq_true rfl⟩) hK hP (va_recv hK hP (ci := 2) (q0 := 0) rfl rfl) rfl hl.1 rfl (Nat.le_of_ble_eq_true rfl) dX3_find_4 ⟨Nat.zero_le _, Nat.zero_le _⟩ ?_
  refine co_eq ej_1 ?_
  refine lv_istore (lv' := [(4, .int (nI j_1)), (3, .int (nI n)), (0, .ref (b 0)), (1, .int (nI n)), (2, .int (nI key))]) hx hb dX3_find_7 hl (by decide) rfl (fun ls hl => ?_)
  refine lv_aload_n hx hb dX3_find_9 rfl (lv_at hl 2 rfl) ?_
  refine lv_iconst (v := 0) hx hb dX3_find_10 (by decide) ?_
  refine va_put (D := G.1) (ci := 2) (v := .int 0) (ty := .int) (C := RX3) (T := TX3) (N := 13) hx hb hts uX3 tyX3 tyX3_ok nmX3 hown hK hP hD hS 0 rfl rfl 9 (by decide) (hts (.fieldLink RX3 60 "ChordOverlayModel" "hopped" "I") (by decide +kernel)) (fun _ h9 => h9) rfl (by decide +kernel) rfl rfl (Nat.le_of_ble_eq_true rfl) dX3_find_11 (fun H locs hP hD hS => ?_)
  have hP : pG G (wM G b (va_up μ 9 (fun _ => 0))) H := hP
  have hD : va_D A (wM G b (va_up μ 9 (fun _ => 0))) := hD
  refine lv_aload_n hx hb dX3_find_14 rfl (lv_at hl 2 rfl) ?_
  refine va_get (D := G.1) (ci := 2) (v := .ref (b 7)) (C := RX3) (T := TX3) (N := 13) hx hb hts uX3 hown hK hP 0 rfl rfl 8 (by decide) (hts (.fieldLink RX3 29 "ChordOverlayModel" "way" "[I") (by decide +kernel)) (fun _ h9 => h9) rfl dX3_find_15 ?_
  refine lv_iconst (v := 0) hx hb dX3_find_18 (by decide) ?_
  refine lv_iload_n hx hb dX3_find_19 rfl (lv_at hl 3 rfl) ?_
  refine va_iast hx hb hK hP hD hS 7 0 (f := (μ 8)) rfl rfl (vp_in_nI (n := 0) (N := 65) (by decide) (by decide)) dX3_find_20 (fun H locs hP hD hS => ?_)
  have hP : pG G (wM G b (va_up (va_up μ 9 (fun _ => 0)) 8 (upd (μ 8) (0 : Int32).toNatClampNeg (nI n)))) H := hP
  have hD : va_D A (wM G b (va_up (va_up μ 9 (fun _ => 0)) 8 (upd (μ 8) (0 : Int32).toNatClampNeg (nI n)))) := hD
  have LP : ∀ (d : Nat) (k x y : Nat) (μ' : cS), k + d = 64 → Lv σ x → lsF (σ 0) (σ 1) (nI x) = nI y → Lv σ y → upw x key < d → Rl Z σ μ' → Kp μ μ' → μ' 9 0 = nI k → (∀ j, j ≤ k → μ' 8 j = pth (σ 0) (σ 1) (σ 3) (nI key) (nI n) j) → pth (σ 0) (σ 1) (σ 3) (nI key) (nI n) k = nI x → fnd (σ 0) (σ 1) (σ 3) (nI key) d (nI x) = fnd (σ 0) (σ 1) (σ 3) (nI key) 64 (nI n) → hpc (σ 0) (σ 1) (σ 3) (nI key) d (nI x) + k = hpc (σ 0) (σ 1) (σ 3) (nI key) 64 (nI n) → ∀ (H : Heap) (locs : List Loc), pG G (wM G b μ') H → va_D A (wM G b μ') → va_S A s.heap H locs → ∀ ls : Array Slot, lv_has ls 5 [(0, .ref (b 0)), (1, .int (nI n)), (2, .int (nI key)), (3, .int (nI x)), (4, .int (nI y))] → W p l e rm_X3_find s m args below meth c H locs 0 0 (QI below G A (fun u : cS => wM G b u) (fun r u => r = fnR σ (nI n) (nI key) ∧ Rl Z σ u ∧ Kp μ u ∧ u 9 0 = nI (hpc (σ 0) (σ 1) (σ 3) (nI key) 64 (nI n)) ∧ ∀ j, j ≤ hpc (σ 0) (σ 1) (σ 3) (nI key) 64 (nI n) → u 8 j = pth (σ 0) (σ 1) (σ 3) (nI key) (nI n) j) args s) (F0 m 21 ls []) := by
    intro d
    induction d with
    | zero =>
      intro k x y μ' hk hx9 hy9 ly9 hd9 hR9 hK9 h09 hw9 hp9 hf9 hh9 H locs hP hD hS ls hl
      exact absurd hd9 (Nat.not_lt_zero _)
    | succ d ih =>
      intro k x y μ' hk hx9 hy9 ly9 hd9 hR9 hK9 h09 hw9 hp9 hf9 hh9 H locs hP hD hS ls hl
      refine lv_iload_n hx hb dX3_find_21 rfl (lv_at hl 2 rfl) ?_
      refine lv_iload_n hx hb dX3_find_22 rfl (lv_at hl 3 rfl) ?_
      refine lv_iload hx hb dX3_find_23 (lv_at hl 4 rfl) ?_
      refine co_rS (As := [.int (nI key), .int (nI x), .int (nI y)]) (rest := []) S (c_X3_isWithin l G key x y hk0 hx9.1 ly9.1) (va_cwS 3 hts gX3_find_X3_isWithin rfl rfl rfl (by decide +kernel) ⟨Nat.le_of_ble_eq_true rfl, Nat.le_of_ble_eq_true rfl⟩) hK (pG_nil) rfl hl.1 rfl (Nat.le_of_ble_eq_true rfl) dX3_find_25 ⟨Nat.zero_le _, Nat.zero_le _⟩ ?_
      refine co_ifne (tgt := 81) S dX3_find_28 (by decide) (fun c_2 => ?_) (fun c_2 => ?_)
      · refine lv_iload hx hb dX3_find_81 (lv_at hl 4 rfl) ?_
        exact co_endI μ' S hr hlocks dX3_find_83 hK hP hD hS (by exact ⟨by show nI y = fnd (σ 0) (σ 1) (σ 3) (nI key) 64 (nI n); rw [← hf9, fnd, if_pos (by rw [hy9]; exact c_2), hy9], hR9, hK9, by rw [h09, ← hh9, hpc, if_pos (by rw [hy9]; exact c_2), Nat.zero_add], by intro j hj; rw [← hh9, hpc, if_pos (by rw [hy9]; exact c_2), Nat.zero_add] at hj; exact hw9 j hj⟩)
      · refine lv_aload_n hx hb dX3_find_31 rfl (lv_at hl 0 rfl) ?_
        refine va_get (D := G.1) (ci := 2) (v := .int (μ' 9 0)) (C := RX3) (T := TX3) (N := 13) hx hb hts uX3 hown hK hP 0 rfl rfl 9 (by decide) (hts (.fieldLink RX3 60 "ChordOverlayModel" "hopped" "I") (by decide +kernel)) (fun _ h9 => h9) rfl dX3_find_32 ?_
        refine co_eq (h09) ?_
        refine lv_bipush (v := 64) hx hb dX3_find_35 (by decide) ?_
        refine lv_icmp_ne (tgt := 42) hx hb dX3_find_37 (by decide) (fun c_3 => ?_) (fun c_3 => ?_)
        · refine lv_aload_n hx hb dX3_find_42 rfl (lv_at hl 0 rfl) ?_
          refine lv_iload_n hx hb dX3_find_43 rfl (lv_at hl 3 rfl) ?_
          refine lv_iload hx hb dX3_find_44 (lv_at hl 4 rfl) ?_
          refine lv_iload_n hx hb dX3_find_46 rfl (lv_at hl 2 rfl) ?_
          have c9x : upTo (nI key) (nI x) (lsF (σ 0) (σ 1) (nI x)) = false := (by rw [hy9]; exact c_2)
          obtain ⟨j_4, ej_4, lj_4, nj_4⟩ := Lv.nx hR9 hx9 hk0 c9x
          have nj_4 : upw j_4 key < d := (by omega)
          have gj_4 : hopT (σ 0) (σ 3) (nI key) (nI x) (nI y) 6 = nI j_4 := (by rw [← hy9]; exact ej_4)
          refine co_rV (As := [.int (nI x), .int (nI y), .int (nI key)]) (rest := []) S (c_X3_nextHop l G Z b σ μ' hR9 x y key hx9 hk0) (cwV 3 hts gX3_find_X3_nextHop rfl rfl rfl (by decide +kernel) ⟨Nat.le_of_ble_eq_true rfl, Nat.le_of_ble_eq_true rfl⟩) hK hP (va_recv hK hP (ci := 2) (q0 := 0) rfl rfl) rfl hl.1 rfl (Nat.le_of_ble_eq_true rfl) dX3_find_47 ⟨Nat.zero_le _, Nat.zero_le _⟩ ?_
          refine co_eq (gj_4) ?_
          refine lv_istore_n (lv' := [(3, .int (nI j_4)), (0, .ref (b 0)), (1, .int (nI n)), (2, .int (nI key)), (4, .int (nI y))]) hx hb dX3_find_50 rfl hl (by decide) rfl (fun ls hl => ?_)
          refine lv_aload_n hx hb dX3_find_51 rfl (lv_at hl 1 rfl) ?_
          refine lv_iload_n hx hb dX3_find_52 rfl (lv_at hl 0 rfl) ?_
          obtain ⟨j_5, ej_5, lj_5⟩ := Lv.ls hR9 lj_4
          refine co_rV (As := [.int (nI j_4)]) (rest := []) S (c_X3_liveSuccessorOf l G Z b σ μ' hR9 j_4 lj_4) (cwV 1 hts gX3_find_X3_liveSuccessorOf rfl rfl rfl (by decide +kernel) ⟨Nat.le_of_ble_eq_true rfl, Nat.le_of_ble_eq_true rfl⟩) hK hP (va_recv hK hP (ci := 2) (q0 := 0) rfl rfl) rfl hl.1 rfl (Nat.le_of_ble_eq_true rfl) dX3_find_53 ⟨Nat.zero_le _, Nat.zero_le _⟩ ?_
          refine co_eq ej_5 ?_
          refine lv_istore (lv' := [(4, .int (nI j_5)), (3, .int (nI j_4)), (0, .ref (b 0)), (1, .int (nI n)), (2, .int (nI key))]) hx hb dX3_find_56 hl (by decide) rfl (fun ls hl => ?_)
          refine lv_aload_n hx hb dX3_find_58 rfl (lv_at hl 2 rfl) ?_
          refine lv_dup hx hb dX3_find_59 rfl ?_
          refine va_get (D := G.1) (ci := 2) (v := .int (μ' 9 0)) (C := RX3) (T := TX3) (N := 13) hx hb hts uX3 hown hK hP 0 rfl rfl 9 (by decide) (hts (.fieldLink RX3 60 "ChordOverlayModel" "hopped" "I") (by decide +kernel)) (fun _ h9 => h9) rfl dX3_find_60 ?_
          refine co_eq (h09) ?_
          refine lv_iconst (v := 1) hx hb dX3_find_63 (by decide) ?_
          refine lv_iadd hx hb dX3_find_64 ?_
          refine co_eq (nI_1 k) ?_
          refine va_put (D := G.1) (ci := 2) (v := .int (nI (k + 1))) (ty := .int) (C := RX3) (T := TX3) (N := 13) hx hb hts uX3 tyX3 tyX3_ok nmX3 hown hK hP hD hS 0 rfl rfl 9 (by decide) (hts (.fieldLink RX3 60 "ChordOverlayModel" "hopped" "I") (by decide +kernel)) (fun _ h9 => h9) rfl (by decide +kernel) rfl rfl (Nat.le_of_ble_eq_true rfl) dX3_find_65 (fun H locs hP hD hS => ?_)
          have hP : pG G (wM G b (va_up μ' 9 (fun _ => (nI (k + 1))))) H := hP
          have hD : va_D A (wM G b (va_up μ' 9 (fun _ => (nI (k + 1))))) := hD
          refine lv_aload_n hx hb dX3_find_68 rfl (lv_at hl 2 rfl) ?_
          refine va_get (D := G.1) (ci := 2) (v := .ref (b 7)) (C := RX3) (T := TX3) (N := 13) hx hb hts uX3 hown hK hP 0 rfl rfl 8 (by decide) (hts (.fieldLink RX3 29 "ChordOverlayModel" "way" "[I") (by decide +kernel)) (fun _ h9 => h9) rfl dX3_find_69 ?_
          refine lv_aload_n hx hb dX3_find_72 rfl (lv_at hl 2 rfl) ?_
          refine va_get (D := G.1) (ci := 2) (v := .int ((va_up μ' 9 (fun _ => (nI (k + 1)))) 9 0)) (C := RX3) (T := TX3) (N := 13) hx hb hts uX3 hown hK hP 0 rfl rfl 9 (by decide) (hts (.fieldLink RX3 60 "ChordOverlayModel" "hopped" "I") (by decide +kernel)) (fun _ h9 => h9) rfl dX3_find_73 ?_
          refine co_eq (rfl) ?_
          refine lv_iload_n hx hb dX3_find_76 rfl (lv_at hl 1 rfl) ?_
          refine va_iast hx hb hK hP hD hS 7 0 (f := (μ' 8)) rfl rfl (vp_in_nI (by omega) (by omega)) dX3_find_77 (fun H locs hP hD hS => ?_)
          have hP : pG G (wM G b (va_up (va_up μ' 9 (fun _ => (nI (k + 1)))) 8 (upd (μ' 8) (nI (k + 1)).toNatClampNeg (nI j_4)))) H := hP
          have hD : va_D A (wM G b (va_up (va_up μ' 9 (fun _ => (nI (k + 1)))) 8 (upd (μ' 8) (nI (k + 1)).toNatClampNeg (nI j_4)))) := hD
          refine lv_goto (tgt := 21) hx hb dX3_find_78 (by decide) ?_
          exact ih (k + 1) j_4 j_5 (va_up (va_up μ' 9 (fun _ => (nI (k + 1)))) 8 (upd (μ' 8) (nI (k + 1)).toNatClampNeg (nI j_4))) (by omega) lj_4 ej_5 lj_5 (by omega) (hR9.s9.s8) (hK9.tr (Kp.s9.tr Kp.s8)) rfl (fw_route (by omega) hp9 ej_4 hw9) (by show nxF (σ 0) (σ 1) (σ 3) (nI key) (pth (σ 0) (σ 1) (σ 3) (nI key) (nI n) k) = nI j_4; rw [hp9]; exact ej_4) (by rw [← hf9, fnd, if_neg (by rw [c9x]; decide), ej_4]) (by rw [← hh9, hpc, if_neg (by rw [c9x]; decide), ej_4]; omega) _ _ hP hD hS ls (lv_sub hl [2, 3, 4, 1, 0] rfl)
        · exact absurd c_3 (fun q => absurd (nI_inj (a := k) (b := 64) (by omega) (by omega) q) (by omega))
  exact LP 64 0 n j_1 _ rfl hn ej_1 lj_1 (Nat.mod_lt _ (by decide)) (hR.s9.s8) (Kp.s9.tr Kp.s8) rfl fw_0 rfl rfl rfl _ _ hP hD hS ls (lv_sub hl [2, 3, 4, 1, 0] rfl)
