/-! how many pointers are wrong -/
theorem dnF_st {L : Nat → Int32} {x : Int32} {d k : Nat} (h : alv L (onw x (-nI k)) = false) : dnF L x (d + 1) k = dnF L x d (k + 1) := by
  rw [dnF, if_neg (by rw [h]; decide)]

abbrev rm_L_wrong : Room := { frames := 2, cells := 0, slots := 0, locals := 46 }
set_option maxHeartbeats 4000000 in
set_option maxRecDepth 100000 in
theorem c_L_wrong (l : Launch) (G : cG) (Z : Nat) (q ν δ κ : Nat → Nat) (σ τ : cS) (hR : Rq Z ν δ κ σ τ) : MetR l yL_wrong wsL_wrong rm_L_wrong G (wQ G q τ) [.ref (q 0), .ref (q 1), .ref (q 2), .ref (q 3)] (cwp σ 64) := by
  refine co_bodyR (cc := cL_wrong) (maxL := 9) (ret := (some .int)) (by decide) rfl (Nat.le_of_ble_eq_true rfl) ?_
  intro p e s m args below meth c S hr hlocks hK hP ls hl
  have S : CallFix p m c cL_wrong 9 s args wsL_wrong RL := S
  obtain ⟨hx, hb, hml, hown, hts⟩ := id S
  have hl : lv_has ls 9 [(0, .ref (q 0)), (1, .ref (q 1)), (2, .ref (q 2)), (3, .ref (q 3))] := hl
  refine lv_iconst (v := 0) hx hb dL_wrong_0 (by decide) ?_
  refine lv_istore (lv' := [(4, .int 0), (0, .ref (q 0)), (1, .ref (q 1)), (2, .ref (q 2)), (3, .ref (q 3))]) hx hb dL_wrong_1 hl (by decide) rfl (fun ls hl => ?_)
  refine lv_iconst (v := 0) hx hb dL_wrong_3 (by decide) ?_
  refine lv_istore (lv' := [(5, .int 0), (4, .int 0), (0, .ref (q 0)), (1, .ref (q 1)), (2, .ref (q 2)), (3, .ref (q 3))]) hx hb dL_wrong_4 hl (by decide) rfl (fun ls hl => ?_)
  have LP : ∀ (d : Nat) (k : Nat) (x : Int32), k + d = 10 → x = smI (fun i => if alv (σ 0) (nI (ν i)) = true then wrg σ (nI (ν i)) else 0) k → ∀ ls : Array Slot, lv_has ls 9 [(0, .ref (q 0)), (1, .ref (q 1)), (2, .ref (q 2)), (3, .ref (q 3)), (4, .int x), (5, .int (nI k))] → W p l e rm_L_wrong s m args below meth c s.heap [] 0 0 (QR below (cwp σ 64) args s) (F0 m 6 ls []) := by
    intro d
    induction d with
    | zero =>
      intro k x hk hx9 ls hl
      refine lv_iload hx hb dL_wrong_6 (lv_at hl 5 rfl) ?_
      refine lv_bipush (v := 10) hx hb dL_wrong_8 (by decide) ?_
      refine lv_icmp_ge (tgt := 212) hx hb dL_wrong_10 (by decide) (fun c_1 => ?_) (fun c_1 => ?_)
      · refine lv_iload hx hb dL_wrong_212 (lv_at hl 4 rfl) ?_
        exact co_endR S hr hlocks dL_wrong_214 (by rw [hx9, show k = 10 by omega]; exact rq_cwp hR)
      · exact absurd (nI_le (a := 10) (b := k) (by omega) (by omega)) c_1
    | succ d ih =>
      intro k x hk hx9 ls hl
      have ihO := ih
      have tn9 : ν k < 64 := Rq.nu hR (show k < 10 by omega)
      refine lv_iload hx hb dL_wrong_6 (lv_at hl 5 rfl) ?_
      refine lv_bipush (v := 10) hx hb dL_wrong_8 (by decide) ?_
      refine lv_icmp_ge (tgt := 212) hx hb dL_wrong_10 (by decide) (fun c_2 => ?_) (fun c_2 => ?_)
      · exact absurd c_2 (nI_ge (a := k) (b := 10) (by omega) (by omega))
      · refine lv_aload_n hx hb dL_wrong_13 rfl (lv_at hl 1 rfl) ?_
        refine lv_iload hx hb dL_wrong_14 (lv_at hl 5 rfl) ?_
        refine va_iald hx hb hK hP 1 0 rfl rfl (vp_in_nI (n := k) (N := 27) (by omega) (by decide)) dL_wrong_16 ?_
        refine co_eq (rq_n hR (show k < 10 by omega)) ?_
        refine lv_istore (lv' := [(6, .int (nI (ν k))), (0, .ref (q 0)), (1, .ref (q 1)), (2, .ref (q 2)), (3, .ref (q 3)), (4, .int x), (5, .int (nI k))]) hx hb dL_wrong_17 hl (by decide) rfl (fun ls hl => ?_)
        refine lv_iload hx hb dL_wrong_19 (lv_at hl 0 rfl) ?_
        refine lv_bipush (v := 63) hx hb dL_wrong_21 (by decide) ?_
        refine lv_iadd hx hb dL_wrong_23 ?_
        refine co_eq (show (nI (ν k)) + (63 : Int32) = (nI ((ν k) + 63)) from nI_add (ν k) 63) ?_
        refine lv_bipush (v := 64) hx hb dL_wrong_24 (by decide) ?_
        refine lv_irem hx hb dL_wrong_26 (by decide) ?_
        refine co_eq (show (nI ((ν k) + 63)) - (nI ((ν k) + 63)) / 64 * 64 = (nI (((ν k) + 63) % 64)) from pk_rem (a := ((ν k) + 63)) (d := 64) (by omega) (by decide) (by decide)) ?_
        refine lv_istore (lv' := [(7, .int (nI (((ν k) + 63) % 64))), (6, .int (nI (ν k))), (0, .ref (q 0)), (1, .ref (q 1)), (2, .ref (q 2)), (3, .ref (q 3)), (4, .int x), (5, .int (nI k))]) hx hb dL_wrong_27 hl (by decide) rfl (fun ls hl => ?_)
        have LP2 : ∀ (d : Nat) (b₀ : Nat), d ≤ 63 → b₀ = (ν k + d) % 64 → (alv (σ 0) (nI (ν k)) = true → dnF (σ 0) (onw (nI (ν k)) (-1)) (d + 1) (63 - d) = dnF (σ 0) (onw (nI (ν k)) (-1)) 64 0) → ∀ ls : Array Slot, lv_has ls 9 [(0, .ref (q 0)), (1, .ref (q 1)), (2, .ref (q 2)), (3, .ref (q 3)), (4, .int x), (5, .int (nI k)), (6, .int (nI (ν k))), (7, .int (nI b₀))] → W p l e rm_L_wrong s m args below meth c s.heap [] 0 0 (QR below (cwp σ 64) args s) (F0 m 29 ls []) := by
          intro d
          induction d with
          | zero =>
            intro b₀ hd9 hm9 hf9 ls hl
            have tm9 : b₀ < 64 := (by omega)
            refine lv_aload_n hx hb dL_wrong_29 rfl (lv_at hl 1 rfl) ?_
            refine lv_bipush (v := 10) hx hb dL_wrong_30 (by decide) ?_
            refine lv_iload hx hb dL_wrong_32 (lv_at hl 5 rfl) ?_
            refine lv_iadd hx hb dL_wrong_34 ?_
            refine co_eq (show (10 : Int32) + (nI k) = (nI (10 + k)) from nI_add 10 k) ?_
            refine va_iald hx hb hK hP 1 0 rfl rfl (vp_in_nI (n := (10 + k)) (N := 27) (by omega) (by decide)) dL_wrong_35 ?_
            refine co_eq (y := bI (alv (σ 0) (nI (ν k)))) (rq_l hR (show k < 10 by omega)) ?_
            refine lv_iconst (v := 1) hx hb dL_wrong_36 (by decide) ?_
            refine co_icmpne1 (tgt := 63) S dL_wrong_37 (by decide) (fun c_3 => ?_) (fun c_3 => ?_)
            · refine lv_iload hx hb dL_wrong_63 (lv_at hl 4 rfl) ?_
              refine lv_aload_n hx hb dL_wrong_65 rfl (lv_at hl 1 rfl) ?_
              refine lv_bipush (v := 10) hx hb dL_wrong_66 (by decide) ?_
              refine lv_iload hx hb dL_wrong_68 (lv_at hl 5 rfl) ?_
              refine lv_iadd hx hb dL_wrong_70 ?_
              refine co_eq (show (10 : Int32) + (nI k) = (nI (10 + k)) from nI_add 10 k) ?_
              refine va_iald hx hb hK hP 1 0 rfl rfl (vp_in_nI (n := (10 + k)) (N := 27) (by omega) (by decide)) dL_wrong_71 ?_
              refine co_eq (y := bI (alv (σ 0) (nI (ν k)))) (rq_l hR (show k < 10 by omega)) ?_
              refine lv_iconst (v := 1) hx hb dL_wrong_72 (by decide) ?_
              refine co_icmpne1 (tgt := 103) S dL_wrong_73 (by decide) (fun c_4 => ?_) (fun c_4 => ?_)
              · refine lv_iconst (v := 0) hx hb dL_wrong_103 (by decide) ?_
                refine lv_iadd hx hb dL_wrong_104 ?_
                refine lv_istore (lv' := [(4, .int (x + 0)), (0, .ref (q 0)), (1, .ref (q 1)), (2, .ref (q 2)), (3, .ref (q 3)), (5, .int (nI k)), (6, .int (nI (ν k))), (7, .int (nI b₀))]) hx hb dL_wrong_105 hl (by decide) rfl (fun ls hl => ?_)
                refine lv_iload hx hb dL_wrong_107 (lv_at hl 0 rfl) ?_
                refine lv_aload_n hx hb dL_wrong_109 rfl (lv_at hl 2 rfl) ?_
                refine lv_bipush (v := 10) hx hb dL_wrong_110 (by decide) ?_
                refine lv_iload hx hb dL_wrong_112 (lv_at hl 5 rfl) ?_
                refine lv_iadd hx hb dL_wrong_114 ?_
                refine co_eq (show (10 : Int32) + (nI k) = (nI (10 + k)) from nI_add 10 k) ?_
                refine va_iald hx hb hK hP 1 0 rfl rfl (vp_in_nI (n := (10 + k)) (N := 27) (by omega) (by decide)) dL_wrong_115 ?_
                refine co_eq (y := bI (alv (σ 0) (nI (ν k)))) (rq_l hR (show k < 10 by omega)) ?_
                refine lv_iconst (v := 1) hx hb dL_wrong_116 (by decide) ?_
                refine co_icmpne1 (tgt := 137) S dL_wrong_117 (by decide) (fun c_5 => ?_) (fun c_5 => ?_)
                · refine lv_iconst (v := 0) hx hb dL_wrong_137 (by decide) ?_
                  refine lv_iadd hx hb dL_wrong_138 ?_
                  refine lv_istore (lv' := [(4, .int ((x + 0) + 0)), (0, .ref (q 0)), (1, .ref (q 1)), (2, .ref (q 2)), (3, .ref (q 3)), (5, .int (nI k)), (6, .int (nI (ν k))), (7, .int (nI b₀))]) hx hb dL_wrong_139 hl (by decide) rfl (fun ls hl => ?_)
                  refine lv_iconst (v := 0) hx hb dL_wrong_141 (by decide) ?_
                  refine lv_istore (lv' := [(8, .int 0), (4, .int ((x + 0) + 0)), (0, .ref (q 0)), (1, .ref (q 1)), (2, .ref (q 2)), (3, .ref (q 3)), (5, .int (nI k)), (6, .int (nI (ν k))), (7, .int (nI b₀))]) hx hb dL_wrong_142 hl (by decide) rfl (fun ls hl => ?_)
                  have LP3 : ∀ (d : Nat) (i : Nat) (y : Int32), i + d = 6 → y = x → ∀ ls : Array Slot, lv_has ls 9 [(0, .ref (q 0)), (1, .ref (q 1)), (2, .ref (q 2)), (3, .ref (q 3)), (4, .int y), (5, .int (nI k)), (6, .int (nI (ν k))), (7, .int (nI b₀)), (8, .int (nI i))] → W p l e rm_L_wrong s m args below meth c s.heap [] 0 0 (QR below (cwp σ 64) args s) (F0 m 144 ls []) := by
                    intro d
                    induction d with
                    | zero =>
                      intro i y hi9 hy9 ls hl
                      refine lv_iload hx hb dL_wrong_144 (lv_at hl 8 rfl) ?_
                      refine lv_bipush (v := 6) hx hb dL_wrong_146 (by decide) ?_
                      refine lv_icmp_ge (tgt := 206) hx hb dL_wrong_148 (by decide) (fun c_6 => ?_) (fun c_6 => ?_)
                      · refine lv_iinc (v := (nI (k + 1))) (lv' := [(5, .int (nI (k + 1))), (0, .ref (q 0)), (1, .ref (q 1)), (2, .ref (q 2)), (3, .ref (q 3)), (4, .int y), (6, .int (nI (ν k))), (7, .int (nI b₀)), (8, .int (nI i))]) hx hb dL_wrong_206 hl (k := 5) rfl (nI_1 k) (by decide) rfl (fun ls hl => ?_)
                        refine lv_goto (tgt := 6) hx hb dL_wrong_209 (by decide) ?_
                        exact ihO (k + 1) _ (by omega) (by show _ = smI (fun i => if alv (σ 0) (nI (ν i)) = true then wrg σ (nI (ν i)) else 0) k + (if alv (σ 0) (nI (ν k)) = true then wrg σ (nI (ν k)) else 0); rw [if_neg (by rw [c_3]; decide), ← hx9, hy9, Int32.add_zero]) ls (lv_sub hl [1, 2, 3, 4, 5, 0] rfl)
                      · exact absurd (nI_le (a := 6) (b := i) (by omega) (by omega)) c_6
                    | succ d ih =>
                      intro i y hi9 hy9 ls hl
                      refine lv_iload hx hb dL_wrong_144 (lv_at hl 8 rfl) ?_
                      refine lv_bipush (v := 6) hx hb dL_wrong_146 (by decide) ?_
                      refine lv_icmp_ge (tgt := 206) hx hb dL_wrong_148 (by decide) (fun c_7 => ?_) (fun c_7 => ?_)
                      · exact absurd c_7 (nI_ge (a := i) (b := 6) (by omega) (by omega))
                      · refine lv_iload hx hb dL_wrong_151 (lv_at hl 4 rfl) ?_
                        refine lv_aload_n hx hb dL_wrong_153 rfl (lv_at hl 1 rfl) ?_
                        refine lv_bipush (v := 10) hx hb dL_wrong_154 (by decide) ?_
                        refine lv_iload hx hb dL_wrong_156 (lv_at hl 5 rfl) ?_
                        refine lv_iadd hx hb dL_wrong_158 ?_
                        refine co_eq (show (10 : Int32) + (nI k) = (nI (10 + k)) from nI_add 10 k) ?_
                        refine va_iald hx hb hK hP 1 0 rfl rfl (vp_in_nI (n := (10 + k)) (N := 27) (by omega) (by decide)) dL_wrong_159 ?_
                        refine co_eq (y := bI (alv (σ 0) (nI (ν k)))) (rq_l hR (show k < 10 by omega)) ?_
                        refine lv_iconst (v := 1) hx hb dL_wrong_160 (by decide) ?_
                        refine co_icmpne1 (tgt := 196) S dL_wrong_161 (by decide) (fun c_8 => ?_) (fun c_8 => ?_)
                        · refine lv_iconst (v := 0) hx hb dL_wrong_196 (by decide) ?_
                          refine lv_iadd hx hb dL_wrong_197 ?_
                          refine lv_istore (lv' := [(4, .int (y + 0)), (0, .ref (q 0)), (1, .ref (q 1)), (2, .ref (q 2)), (3, .ref (q 3)), (5, .int (nI k)), (6, .int (nI (ν k))), (7, .int (nI b₀)), (8, .int (nI i))]) hx hb dL_wrong_198 hl (by decide) rfl (fun ls hl => ?_)
                          refine lv_iinc (v := (nI (i + 1))) (lv' := [(8, .int (nI (i + 1))), (4, .int (y + 0)), (0, .ref (q 0)), (1, .ref (q 1)), (2, .ref (q 2)), (3, .ref (q 3)), (5, .int (nI k)), (6, .int (nI (ν k))), (7, .int (nI b₀))]) hx hb dL_wrong_200 hl (k := 8) rfl (nI_1 i) (by decide) rfl (fun ls hl => ?_)
                          refine lv_goto (tgt := 144) hx hb dL_wrong_203 (by decide) ?_
                          exact ih (i + 1) _ (by omega) (by rw [hy9, Int32.add_zero]) ls (lv_sub hl [2, 3, 4, 5, 1, 6, 7, 8, 0] rfl)
                        · exact absurd (c_8.symm.trans c_5) (by decide)
                  exact LP3 6 0 _ rfl (by simp only [Int32.add_zero]) ls (lv_sub hl [2, 3, 4, 5, 1, 6, 7, 8, 0] rfl)
                · exact absurd (c_5.symm.trans c_4) (by decide)
              · exact absurd (c_4.symm.trans c_3) (by decide)
            · refine lv_iload hx hb dL_wrong_40 (lv_at hl 7 rfl) ?_
              refine lv_aload_n hx hb dL_wrong_42 rfl (lv_at hl 0 rfl) ?_
              refine lv_aload_n hx hb dL_wrong_43 rfl (lv_at hl 1 rfl) ?_
              refine co_rS (As := [.int (nI b₀), .ref (q 0), .ref (q 1)]) (rest := []) S (c_L_lives l G Z q ν δ κ σ τ hR b₀ tm9) (va_cwS 3 hts gL_wrong_L_lives rfl rfl rfl (by decide +kernel) ⟨Nat.le_of_ble_eq_true rfl, Nat.le_of_ble_eq_true rfl⟩) hK hP rfl hl.1 rfl (Nat.le_of_ble_eq_true rfl) dL_wrong_44 ⟨Nat.zero_le _, Nat.zero_le _⟩ ?_
              refine co_ifne (tgt := 63) S dL_wrong_47 (by decide) (fun c_9 => ?_) (fun c_9 => ?_)
              · have hb9 : dnF (σ 0) (onw (nI (ν k)) (-1)) 64 0 = nI b₀ := (by rw [← hf9 c_3, dnF, bf_dn tn9 (by omega), show (ν k + (64 - (63 - 0 + 1))) % 64 = b₀ by omega, if_pos c_9])
                refine lv_iload hx hb dL_wrong_63 (lv_at hl 4 rfl) ?_
                refine lv_aload_n hx hb dL_wrong_65 rfl (lv_at hl 1 rfl) ?_
                refine lv_bipush (v := 10) hx hb dL_wrong_66 (by decide) ?_
                refine lv_iload hx hb dL_wrong_68 (lv_at hl 5 rfl) ?_
                refine lv_iadd hx hb dL_wrong_70 ?_
                refine co_eq (show (10 : Int32) + (nI k) = (nI (10 + k)) from nI_add 10 k) ?_
                refine va_iald hx hb hK hP 1 0 rfl rfl (vp_in_nI (n := (10 + k)) (N := 27) (by omega) (by decide)) dL_wrong_71 ?_
                refine co_eq (y := bI (alv (σ 0) (nI (ν k)))) (rq_l hR (show k < 10 by omega)) ?_
                refine lv_iconst (v := 1) hx hb dL_wrong_72 (by decide) ?_
                refine co_icmpne1 (tgt := 103) S dL_wrong_73 (by decide) (fun c_10 => ?_) (fun c_10 => ?_)
                · exact absurd (c_10.symm.trans c_3) (by decide)
                · refine lv_iload hx hb dL_wrong_76 (lv_at hl 6 rfl) ?_
                  refine lv_aload_n hx hb dL_wrong_78 rfl (lv_at hl 0 rfl) ?_
                  refine lv_aload_n hx hb dL_wrong_79 rfl (lv_at hl 1 rfl) ?_
                  refine lv_aload_n hx hb dL_wrong_80 rfl (lv_at hl 2 rfl) ?_
                  obtain ⟨j_11, ej_11, lj_11⟩ := Rq.ls hR ⟨tn9, c_3⟩
                  have tj_11 : j_11 < 64 := lj_11.1
                  refine co_rS (As := [.int (nI (ν k)), .ref (q 0), .ref (q 1), .ref (q 2)]) (rest := [.int x]) S (c_L_next l G Z q ν δ κ σ τ hR (ν k) ⟨tn9, c_3⟩) (va_cwS 4 hts gL_wrong_L_next rfl rfl rfl (by decide +kernel) ⟨Nat.le_of_ble_eq_true rfl, Nat.le_of_ble_eq_true rfl⟩) hK hP rfl hl.1 rfl (Nat.le_of_ble_eq_true rfl) dL_wrong_81 ⟨Nat.zero_le _, Nat.zero_le _⟩ ?_
                  refine co_eq ej_11 ?_
                  refine lv_iload hx hb dL_wrong_84 (lv_at hl 6 rfl) ?_
                  refine lv_iconst (v := 1) hx hb dL_wrong_86 (by decide) ?_
                  refine lv_iadd hx hb dL_wrong_87 ?_
                  refine co_eq (show (nI (ν k)) + (1 : Int32) = (nI ((ν k) + 1)) from nI_add (ν k) 1) ?_
                  refine lv_bipush (v := 64) hx hb dL_wrong_88 (by decide) ?_
                  refine lv_irem hx hb dL_wrong_90 (by decide) ?_
                  refine co_eq (show (nI ((ν k) + 1)) - (nI ((ν k) + 1)) / 64 * 64 = (nI (((ν k) + 1) % 64)) from pk_rem (a := ((ν k) + 1)) (d := 64) (by omega) (by decide) (by decide)) ?_
                  refine lv_aload_n hx hb dL_wrong_91 rfl (lv_at hl 0 rfl) ?_
                  refine lv_aload_n hx hb dL_wrong_92 rfl (lv_at hl 1 rfl) ?_
                  refine co_rS (As := [.int (nI (((ν k) + 1) % 64)), .ref (q 0), .ref (q 1)]) (rest := [.int (nI j_11), .int x]) S (c_L_owner l G Z q ν δ κ σ τ hR (((ν k) + 1) % 64) (Nat.mod_lt _ (by decide))) (va_cwS 3 hts gL_wrong_L_owner rfl rfl rfl (by decide +kernel) ⟨Nat.le_of_ble_eq_true rfl, Nat.le_of_ble_eq_true rfl⟩) hK hP rfl hl.1 rfl (Nat.le_of_ble_eq_true rfl) dL_wrong_93 ⟨Nat.zero_le _, Nat.zero_le _⟩ ?_
                  refine lv_icmp_eq (tgt := 103) hx hb dL_wrong_96 (by decide) (fun c_12 => ?_) (fun c_12 => ?_)
                  · refine lv_iconst (v := 0) hx hb dL_wrong_103 (by decide) ?_
                    refine lv_iadd hx hb dL_wrong_104 ?_
                    refine lv_istore (lv' := [(4, .int (x + 0)), (0, .ref (q 0)), (1, .ref (q 1)), (2, .ref (q 2)), (3, .ref (q 3)), (5, .int (nI k)), (6, .int (nI (ν k))), (7, .int (nI b₀))]) hx hb dL_wrong_105 hl (by decide) rfl (fun ls hl => ?_)
                    refine lv_iload hx hb dL_wrong_107 (lv_at hl 0 rfl) ?_
                    refine lv_aload_n hx hb dL_wrong_109 rfl (lv_at hl 2 rfl) ?_
                    refine lv_bipush (v := 10) hx hb dL_wrong_110 (by decide) ?_
                    refine lv_iload hx hb dL_wrong_112 (lv_at hl 5 rfl) ?_
                    refine lv_iadd hx hb dL_wrong_114 ?_
                    refine co_eq (show (10 : Int32) + (nI k) = (nI (10 + k)) from nI_add 10 k) ?_
                    refine va_iald hx hb hK hP 1 0 rfl rfl (vp_in_nI (n := (10 + k)) (N := 27) (by omega) (by decide)) dL_wrong_115 ?_
                    refine co_eq (y := bI (alv (σ 0) (nI (ν k)))) (rq_l hR (show k < 10 by omega)) ?_
                    refine lv_iconst (v := 1) hx hb dL_wrong_116 (by decide) ?_
                    refine co_icmpne1 (tgt := 137) S dL_wrong_117 (by decide) (fun c_13 => ?_) (fun c_13 => ?_)
                    · exact absurd (c_13.symm.trans c_10) (by decide)
                    · refine lv_aload_n hx hb dL_wrong_120 rfl (lv_at hl 3 rfl) ?_
                      refine lv_iconst (v := 4) hx hb dL_wrong_121 (by decide) ?_
                      refine lv_iload hx hb dL_wrong_122 (lv_at hl 5 rfl) ?_
                      refine lv_imul hx hb dL_wrong_124 ?_
                      refine co_eq (show (4 : Int32) * (nI k) = (nI (4 * k)) from pk_mul 4 k) ?_
                      refine lv_iconst (v := 3) hx hb dL_wrong_125 (by decide) ?_
                      refine lv_iadd hx hb dL_wrong_126 ?_
                      refine co_eq (show (nI (4 * k)) + (3 : Int32) = (nI ((4 * k) + 3)) from nI_add (4 * k) 3) ?_
                      refine va_iald hx hb hK hP 2 0 rfl rfl (vp_in_nI (n := ((4 * k) + 3)) (N := 40) (by omega) (by decide)) dL_wrong_127 ?_
                      refine co_eq (rq_p1 hR ⟨tn9, c_3⟩ (Rq.dn hR (show k < 10 by omega)) (i := (4 * k) + 3) (by omega)) ?_
                      refine lv_iload hx hb dL_wrong_128 (lv_at hl 7 rfl) ?_
                      refine lv_icmp_eq (tgt := 137) hx hb dL_wrong_130 (by decide) (fun c_14 => ?_) (fun c_14 => ?_)
                      · refine lv_iconst (v := 0) hx hb dL_wrong_137 (by decide) ?_
                        refine lv_iadd hx hb dL_wrong_138 ?_
                        refine lv_istore (lv' := [(4, .int ((x + 0) + 0)), (0, .ref (q 0)), (1, .ref (q 1)), (2, .ref (q 2)), (3, .ref (q 3)), (5, .int (nI k)), (6, .int (nI (ν k))), (7, .int (nI b₀))]) hx hb dL_wrong_139 hl (by decide) rfl (fun ls hl => ?_)
                        refine lv_iconst (v := 0) hx hb dL_wrong_141 (by decide) ?_
                        refine lv_istore (lv' := [(8, .int 0), (4, .int ((x + 0) + 0)), (0, .ref (q 0)), (1, .ref (q 1)), (2, .ref (q 2)), (3, .ref (q 3)), (5, .int (nI k)), (6, .int (nI (ν k))), (7, .int (nI b₀))]) hx hb dL_wrong_142 hl (by decide) rfl (fun ls hl => ?_)
                        have LP3 : ∀ (d : Nat) (i : Nat) (y : Int32), i + d = 6 → y = x + wF (σ 0) (σ 3) (nI (ν k)) (w2S (σ 0) (σ 2) (nI (ν k)) (w1S (σ 0) (σ 1) (nI (ν k)))) i → ∀ ls : Array Slot, lv_has ls 9 [(0, .ref (q 0)), (1, .ref (q 1)), (2, .ref (q 2)), (3, .ref (q 3)), (4, .int y), (5, .int (nI k)), (6, .int (nI (ν k))), (7, .int (nI b₀)), (8, .int (nI i))] → W p l e rm_L_wrong s m args below meth c s.heap [] 0 0 (QR below (cwp σ 64) args s) (F0 m 144 ls []) := by
                          intro d
                          induction d with
                          | zero =>
                            intro i y hi9 hy9 ls hl
                            refine lv_iload hx hb dL_wrong_144 (lv_at hl 8 rfl) ?_
                            refine lv_bipush (v := 6) hx hb dL_wrong_146 (by decide) ?_
                            refine lv_icmp_ge (tgt := 206) hx hb dL_wrong_148 (by decide) (fun c_15 => ?_) (fun c_15 => ?_)
                            · refine lv_iinc (v := (nI (k + 1))) (lv' := [(5, .int (nI (k + 1))), (0, .ref (q 0)), (1, .ref (q 1)), (2, .ref (q 2)), (3, .ref (q 3)), (4, .int y), (6, .int (nI (ν k))), (7, .int (nI b₀)), (8, .int (nI i))]) hx hb dL_wrong_206 hl (k := 5) rfl (nI_1 k) (by decide) rfl (fun ls hl => ?_)
                              refine lv_goto (tgt := 6) hx hb dL_wrong_209 (by decide) ?_
                              exact ihO (k + 1) _ (by omega) (by show _ = smI (fun i => if alv (σ 0) (nI (ν i)) = true then wrg σ (nI (ν i)) else 0) k + (if alv (σ 0) (nI (ν k)) = true then wrg σ (nI (ν k)) else 0); rw [if_pos c_3, ← hx9, hy9, show i = 6 by omega]; rfl) ls (lv_sub hl [1, 2, 3, 4, 5, 0] rfl)
                            · exact absurd (nI_le (a := 6) (b := i) (by omega) (by omega)) c_15
                          | succ d ih =>
                            intro i y hi9 hy9 ls hl
                            refine lv_iload hx hb dL_wrong_144 (lv_at hl 8 rfl) ?_
                            refine lv_bipush (v := 6) hx hb dL_wrong_146 (by decide) ?_
                            refine lv_icmp_ge (tgt := 206) hx hb dL_wrong_148 (by decide) (fun c_16 => ?_) (fun c_16 => ?_)
                            · exact absurd c_16 (nI_ge (a := i) (b := 6) (by omega) (by omega))
                            · refine lv_iload hx hb dL_wrong_151 (lv_at hl 4 rfl) ?_
                              refine lv_aload_n hx hb dL_wrong_153 rfl (lv_at hl 1 rfl) ?_
                              refine lv_bipush (v := 10) hx hb dL_wrong_154 (by decide) ?_
                              refine lv_iload hx hb dL_wrong_156 (lv_at hl 5 rfl) ?_
                              refine lv_iadd hx hb dL_wrong_158 ?_
                              refine co_eq (show (10 : Int32) + (nI k) = (nI (10 + k)) from nI_add 10 k) ?_
                              refine va_iald hx hb hK hP 1 0 rfl rfl (vp_in_nI (n := (10 + k)) (N := 27) (by omega) (by decide)) dL_wrong_159 ?_
                              refine co_eq (y := bI (alv (σ 0) (nI (ν k)))) (rq_l hR (show k < 10 by omega)) ?_
                              refine lv_iconst (v := 1) hx hb dL_wrong_160 (by decide) ?_
                              refine co_icmpne1 (tgt := 196) S dL_wrong_161 (by decide) (fun c_17 => ?_) (fun c_17 => ?_)
                              · exact absurd (c_17.symm.trans c_13) (by decide)
                              · refine lv_aload_n hx hb dL_wrong_164 rfl (lv_at hl 3 rfl) ?_
                                refine lv_bipush (v := 6) hx hb dL_wrong_165 (by decide) ?_
                                refine lv_iload hx hb dL_wrong_167 (lv_at hl 5 rfl) ?_
                                refine lv_imul hx hb dL_wrong_169 ?_
                                refine co_eq (show (6 : Int32) * (nI k) = (nI (6 * k)) from pk_mul 6 k) ?_
                                refine lv_iload hx hb dL_wrong_170 (lv_at hl 8 rfl) ?_
                                refine lv_iadd hx hb dL_wrong_172 ?_
                                refine co_eq (show (nI (6 * k)) + (nI i) = (nI ((6 * k) + i)) from nI_add (6 * k) i) ?_
                                refine va_iald hx hb hK hP 3 0 rfl rfl (vp_in_nI (n := ((6 * k) + i)) (N := 60) (by omega) (by decide)) dL_wrong_173 ?_
                                refine co_eq (rq_f1 hR ⟨tn9, c_3⟩ (Rq.dn hR (show k < 10 by omega)) i (by omega) (i := (6 * k) + i) (by omega)) ?_
                                refine lv_iload hx hb dL_wrong_174 (lv_at hl 6 rfl) ?_
                                refine lv_iconst (v := 1) hx hb dL_wrong_176 (by decide) ?_
                                refine lv_iload hx hb dL_wrong_177 (lv_at hl 8 rfl) ?_
                                refine lv_ishl hx hb dL_wrong_179 ?_
                                refine lv_iadd hx hb dL_wrong_180 ?_
                                refine lv_bipush (v := 64) hx hb dL_wrong_181 (by decide) ?_
                                refine lv_irem hx hb dL_wrong_183 (by decide) ?_
                                refine co_eq (fg_rem tn9 (show i < 6 by omega)) ?_
                                refine lv_aload_n hx hb dL_wrong_184 rfl (lv_at hl 0 rfl) ?_
                                refine lv_aload_n hx hb dL_wrong_185 rfl (lv_at hl 1 rfl) ?_
                                refine co_rS (As := [.int (nI (((ν k) + 2 ^ i) % 64)), .ref (q 0), .ref (q 1)]) (rest := [.int (tat 6 (σ 3) (nI (ν k)) (nI i)), .int y]) S (c_L_owner l G Z q ν δ κ σ τ hR (((ν k) + 2 ^ i) % 64) (Nat.mod_lt _ (by decide))) (va_cwS 3 hts gL_wrong_L_owner rfl rfl rfl (by decide +kernel) ⟨Nat.le_of_ble_eq_true rfl, Nat.le_of_ble_eq_true rfl⟩) hK hP rfl hl.1 rfl (Nat.le_of_ble_eq_true rfl) dL_wrong_186 ⟨Nat.zero_le _, Nat.zero_le _⟩ ?_
                                refine lv_icmp_eq (tgt := 196) hx hb dL_wrong_189 (by decide) (fun c_18 => ?_) (fun c_18 => ?_)
                                · refine lv_iconst (v := 0) hx hb dL_wrong_196 (by decide) ?_
                                  refine lv_iadd hx hb dL_wrong_197 ?_
                                  refine lv_istore (lv' := [(4, .int (y + 0)), (0, .ref (q 0)), (1, .ref (q 1)), (2, .ref (q 2)), (3, .ref (q 3)), (5, .int (nI k)), (6, .int (nI (ν k))), (7, .int (nI b₀)), (8, .int (nI i))]) hx hb dL_wrong_198 hl (by decide) rfl (fun ls hl => ?_)
                                  refine lv_iinc (v := (nI (i + 1))) (lv' := [(8, .int (nI (i + 1))), (4, .int (y + 0)), (0, .ref (q 0)), (1, .ref (q 1)), (2, .ref (q 2)), (3, .ref (q 3)), (5, .int (nI k)), (6, .int (nI (ν k))), (7, .int (nI b₀))]) hx hb dL_wrong_200 hl (k := 8) rfl (nI_1 i) (by decide) rfl (fun ls hl => ?_)
                                  refine lv_goto (tgt := 144) hx hb dL_wrong_203 (by decide) ?_
                                  exact ih (i + 1) _ (by omega) (by rw [hy9, wF, fgs_nI tn9 (show i < 6 by omega)]; simp only [(eq_true c_18), Int32.add_assoc, Int32.add_zero, ↓reduceIte]) ls (lv_sub hl [2, 3, 4, 5, 1, 6, 7, 8, 0] rfl)
                                · refine lv_iconst (v := 1) hx hb dL_wrong_192 (by decide) ?_
                                  refine lv_goto (tgt := 197) hx hb dL_wrong_193 (by decide) ?_
                                  refine lv_iadd hx hb dL_wrong_197 ?_
                                  refine lv_istore (lv' := [(4, .int (y + 1)), (0, .ref (q 0)), (1, .ref (q 1)), (2, .ref (q 2)), (3, .ref (q 3)), (5, .int (nI k)), (6, .int (nI (ν k))), (7, .int (nI b₀)), (8, .int (nI i))]) hx hb dL_wrong_198 hl (by decide) rfl (fun ls hl => ?_)
                                  refine lv_iinc (v := (nI (i + 1))) (lv' := [(8, .int (nI (i + 1))), (4, .int (y + 1)), (0, .ref (q 0)), (1, .ref (q 1)), (2, .ref (q 2)), (3, .ref (q 3)), (5, .int (nI k)), (6, .int (nI (ν k))), (7, .int (nI b₀))]) hx hb dL_wrong_200 hl (k := 8) rfl (nI_1 i) (by decide) rfl (fun ls hl => ?_)
                                  refine lv_goto (tgt := 144) hx hb dL_wrong_203 (by decide) ?_
                                  exact ih (i + 1) _ (by omega) (by rw [hy9, wF, fgs_nI tn9 (show i < 6 by omega)]; simp only [c_18, Int32.add_assoc, Int32.add_zero, ↓reduceIte]) ls (lv_sub hl [2, 3, 4, 5, 1, 6, 7, 8, 0] rfl)
                        exact LP3 6 0 _ rfl (by simp only [wF, w1S, w2S, show onw (nI (ν k)) 1 = nI ((ν k + 1) % 64) from onw_nI (k := 1) tn9 (by decide), ej_11, hb9, (eq_true c_12), (eq_true c_14), Int32.add_zero, Int32.zero_add, Int32.add_assoc, ↓reduceIte]) ls (lv_sub hl [2, 3, 4, 5, 1, 6, 7, 8, 0] rfl)
                      · refine lv_iconst (v := 1) hx hb dL_wrong_133 (by decide) ?_
                        refine lv_goto (tgt := 138) hx hb dL_wrong_134 (by decide) ?_
                        refine lv_iadd hx hb dL_wrong_138 ?_
                        refine lv_istore (lv' := [(4, .int ((x + 0) + 1)), (0, .ref (q 0)), (1, .ref (q 1)), (2, .ref (q 2)), (3, .ref (q 3)), (5, .int (nI k)), (6, .int (nI (ν k))), (7, .int (nI b₀))]) hx hb dL_wrong_139 hl (by decide) rfl (fun ls hl => ?_)
                        refine lv_iconst (v := 0) hx hb dL_wrong_141 (by decide) ?_
                        refine lv_istore (lv' := [(8, .int 0), (4, .int ((x + 0) + 1)), (0, .ref (q 0)), (1, .ref (q 1)), (2, .ref (q 2)), (3, .ref (q 3)), (5, .int (nI k)), (6, .int (nI (ν k))), (7, .int (nI b₀))]) hx hb dL_wrong_142 hl (by decide) rfl (fun ls hl => ?_)
                        have LP3 : ∀ (d : Nat) (i : Nat) (y : Int32), i + d = 6 → y = x + wF (σ 0) (σ 3) (nI (ν k)) (w2S (σ 0) (σ 2) (nI (ν k)) (w1S (σ 0) (σ 1) (nI (ν k)))) i → ∀ ls : Array Slot, lv_has ls 9 [(0, .ref (q 0)), (1, .ref (q 1)), (2, .ref (q 2)), (3, .ref (q 3)), (4, .int y), (5, .int (nI k)), (6, .int (nI (ν k))), (7, .int (nI b₀)), (8, .int (nI i))] → W p l e rm_L_wrong s m args below meth c s.heap [] 0 0 (QR below (cwp σ 64) args s) (F0 m 144 ls []) := by
                          intro d
                          induction d with
                          | zero =>
                            intro i y hi9 hy9 ls hl
                            refine lv_iload hx hb dL_wrong_144 (lv_at hl 8 rfl) ?_
                            refine lv_bipush (v := 6) hx hb dL_wrong_146 (by decide) ?_
                            refine lv_icmp_ge (tgt := 206) hx hb dL_wrong_148 (by decide) (fun c_19 => ?_) (fun c_19 => ?_)
                            · refine lv_iinc (v := (nI (k + 1))) (lv' := [(5, .int (nI (k + 1))), (0, .ref (q 0)), (1, .ref (q 1)), (2, .ref (q 2)), (3, .ref (q 3)), (4, .int y), (6, .int (nI (ν k))), (7, .int (nI b₀)), (8, .int (nI i))]) hx hb dL_wrong_206 hl (k := 5) rfl (nI_1 k) (by decide) rfl (fun ls hl => ?_)
                              refine lv_goto (tgt := 6) hx hb dL_wrong_209 (by decide) ?_
                              exact ihO (k + 1) _ (by omega) (by show _ = smI (fun i => if alv (σ 0) (nI (ν i)) = true then wrg σ (nI (ν i)) else 0) k + (if alv (σ 0) (nI (ν k)) = true then wrg σ (nI (ν k)) else 0); rw [if_pos c_3, ← hx9, hy9, show i = 6 by omega]; rfl) ls (lv_sub hl [1, 2, 3, 4, 5, 0] rfl)
                            · exact absurd (nI_le (a := 6) (b := i) (by omega) (by omega)) c_19
                          | succ d ih =>
                            intro i y hi9 hy9 ls hl
                            refine lv_iload hx hb dL_wrong_144 (lv_at hl 8 rfl) ?_
                            refine lv_bipush (v := 6) hx hb dL_wrong_146 (by decide) ?_
                            refine lv_icmp_ge (tgt := 206) hx hb dL_wrong_148 (by decide) (fun c_20 => ?_) (fun c_20 => ?_)
                            · exact absurd c_20 (nI_ge (a := i) (b := 6) (by omega) (by omega))
                            · refine lv_iload hx hb dL_wrong_151 (lv_at hl 4 rfl) ?_
                              refine lv_aload_n hx hb dL_wrong_153 rfl (lv_at hl 1 rfl) ?_
                              refine lv_bipush (v := 10) hx hb dL_wrong_154 (by decide) ?_
                              refine lv_iload hx hb dL_wrong_156 (lv_at hl 5 rfl) ?_
                              refine lv_iadd hx hb dL_wrong_158 ?_
                              refine co_eq (show (10 : Int32) + (nI k) = (nI (10 + k)) from nI_add 10 k) ?_
                              refine va_iald hx hb hK hP 1 0 rfl rfl (vp_in_nI (n := (10 + k)) (N := 27) (by omega) (by decide)) dL_wrong_159 ?_
                              refine co_eq (y := bI (alv (σ 0) (nI (ν k)))) (rq_l hR (show k < 10 by omega)) ?_
                              refine lv_iconst (v := 1) hx hb dL_wrong_160 (by decide) ?_
                              refine co_icmpne1 (tgt := 196) S dL_wrong_161 (by decide) (fun c_21 => ?_) (fun c_21 => ?_)
                              · exact absurd (c_21.symm.trans c_13) (by decide)
                              · refine lv_aload_n hx hb dL_wrong_164 rfl (lv_at hl 3 rfl) ?_
                                refine lv_bipush (v := 6) hx hb dL_wrong_165 (by decide) ?_
                                refine lv_iload hx hb dL_wrong_167 (lv_at hl 5 rfl) ?_
                                refine lv_imul hx hb dL_wrong_169 ?_
                                refine co_eq (show (6 : Int32) * (nI k) = (nI (6 * k)) from pk_mul 6 k) ?_
                                refine lv_iload hx hb dL_wrong_170 (lv_at hl 8 rfl) ?_
                                refine lv_iadd hx hb dL_wrong_172 ?_
                                refine co_eq (show (nI (6 * k)) + (nI i) = (nI ((6 * k) + i)) from nI_add (6 * k) i) ?_
                                refine va_iald hx hb hK hP 3 0 rfl rfl (vp_in_nI (n := ((6 * k) + i)) (N := 60) (by omega) (by decide)) dL_wrong_173 ?_
                                refine co_eq (rq_f1 hR ⟨tn9, c_3⟩ (Rq.dn hR (show k < 10 by omega)) i (by omega) (i := (6 * k) + i) (by omega)) ?_
                                refine lv_iload hx hb dL_wrong_174 (lv_at hl 6 rfl) ?_
                                refine lv_iconst (v := 1) hx hb dL_wrong_176 (by decide) ?_
                                refine lv_iload hx hb dL_wrong_177 (lv_at hl 8 rfl) ?_
                                refine lv_ishl hx hb dL_wrong_179 ?_
                                refine lv_iadd hx hb dL_wrong_180 ?_
                                refine lv_bipush (v := 64) hx hb dL_wrong_181 (by decide) ?_
                                refine lv_irem hx hb dL_wrong_183 (by decide) ?_
                                refine co_eq (fg_rem tn9 (show i < 6 by omega)) ?_
                                refine lv_aload_n hx hb dL_wrong_184 rfl (lv_at hl 0 rfl) ?_
                                refine lv_aload_n hx hb dL_wrong_185 rfl (lv_at hl 1 rfl) ?_
                                refine co_rS (As := [.int (nI (((ν k) + 2 ^ i) % 64)), .ref (q 0), .ref (q 1)]) (rest := [.int (tat 6 (σ 3) (nI (ν k)) (nI i)), .int y]) S (c_L_owner l G Z q ν δ κ σ τ hR (((ν k) + 2 ^ i) % 64) (Nat.mod_lt _ (by decide))) (va_cwS 3 hts gL_wrong_L_owner rfl rfl rfl (by decide +kernel) ⟨Nat.le_of_ble_eq_true rfl, Nat.le_of_ble_eq_true rfl⟩) hK hP rfl hl.1 rfl (Nat.le_of_ble_eq_true rfl) dL_wrong_186 ⟨Nat.zero_le _, Nat.zero_le _⟩ ?_
                                refine lv_icmp_eq (tgt := 196) hx hb dL_wrong_189 (by decide) (fun c_22 => ?_) (fun c_22 => ?_)
                                · refine lv_iconst (v := 0) hx hb dL_wrong_196 (by decide) ?_
                                  refine lv_iadd hx hb dL_wrong_197 ?_
                                  refine lv_istore (lv' := [(4, .int (y + 0)), (0, .ref (q 0)), (1, .ref (q 1)), (2, .ref (q 2)), (3, .ref (q 3)), (5, .int (nI k)), (6, .int (nI (ν k))), (7, .int (nI b₀)), (8, .int (nI i))]) hx hb dL_wrong_198 hl (by decide) rfl (fun ls hl => ?_)
                                  refine lv_iinc (v := (nI (i + 1))) (lv' := [(8, .int (nI (i + 1))), (4, .int (y + 0)), (0, .ref (q 0)), (1, .ref (q 1)), (2, .ref (q 2)), (3, .ref (q 3)), (5, .int (nI k)), (6, .int (nI (ν k))), (7, .int (nI b₀))]) hx hb dL_wrong_200 hl (k := 8) rfl (nI_1 i) (by decide) rfl (fun ls hl => ?_)
                                  refine lv_goto (tgt := 144) hx hb dL_wrong_203 (by decide) ?_
                                  exact ih (i + 1) _ (by omega) (by rw [hy9, wF, fgs_nI tn9 (show i < 6 by omega)]; simp only [(eq_true c_22), Int32.add_assoc, Int32.add_zero, ↓reduceIte]) ls (lv_sub hl [2, 3, 4, 5, 1, 6, 7, 8, 0] rfl)
                                · refine lv_iconst (v := 1) hx hb dL_wrong_192 (by decide) ?_
                                  refine lv_goto (tgt := 197) hx hb dL_wrong_193 (by decide) ?_
                                  refine lv_iadd hx hb dL_wrong_197 ?_
                                  refine lv_istore (lv' := [(4, .int (y + 1)), (0, .ref (q 0)), (1, .ref (q 1)), (2, .ref (q 2)), (3, .ref (q 3)), (5, .int (nI k)), (6, .int (nI (ν k))), (7, .int (nI b₀)), (8, .int (nI i))]) hx hb dL_wrong_198 hl (by decide) rfl (fun ls hl => ?_)
                                  refine lv_iinc (v := (nI (i + 1))) (lv' := [(8, .int (nI (i + 1))), (4, .int (y + 1)), (0, .ref (q 0)), (1, .ref (q 1)), (2, .ref (q 2)), (3, .ref (q 3)), (5, .int (nI k)), (6, .int (nI (ν k))), (7, .int (nI b₀))]) hx hb dL_wrong_200 hl (k := 8) rfl (nI_1 i) (by decide) rfl (fun ls hl => ?_)
                                  refine lv_goto (tgt := 144) hx hb dL_wrong_203 (by decide) ?_
                                  exact ih (i + 1) _ (by omega) (by rw [hy9, wF, fgs_nI tn9 (show i < 6 by omega)]; simp only [c_22, Int32.add_assoc, Int32.add_zero, ↓reduceIte]) ls (lv_sub hl [2, 3, 4, 5, 1, 6, 7, 8, 0] rfl)
                        exact LP3 6 0 _ rfl (by simp only [wF, w1S, w2S, show onw (nI (ν k)) 1 = nI ((ν k + 1) % 64) from onw_nI (k := 1) tn9 (by decide), ej_11, hb9, (eq_true c_12), c_14, Int32.add_zero, Int32.zero_add, Int32.add_assoc, ↓reduceIte]) ls (lv_sub hl [2, 3, 4, 5, 1, 6, 7, 8, 0] rfl)
                  · refine lv_iconst (v := 1) hx hb dL_wrong_99 (by decide) ?_
                    refine lv_goto (tgt := 104) hx hb dL_wrong_100 (by decide) ?_
                    refine lv_iadd hx hb dL_wrong_104 ?_
                    refine lv_istore (lv' := [(4, .int (x + 1)), (0, .ref (q 0)), (1, .ref (q 1)), (2, .ref (q 2)), (3, .ref (q 3)), (5, .int (nI k)), (6, .int (nI (ν k))), (7, .int (nI b₀))]) hx hb dL_wrong_105 hl (by decide) rfl (fun ls hl => ?_)
                    refine lv_iload hx hb dL_wrong_107 (lv_at hl 0 rfl) ?_
                    refine lv_aload_n hx hb dL_wrong_109 rfl (lv_at hl 2 rfl) ?_
                    refine lv_bipush (v := 10) hx hb dL_wrong_110 (by decide) ?_
                    refine lv_iload hx hb dL_wrong_112 (lv_at hl 5 rfl) ?_
                    refine lv_iadd hx hb dL_wrong_114 ?_
                    refine co_eq (show (10 : Int32) + (nI k) = (nI (10 + k)) from nI_add 10 k) ?_
                    refine va_iald hx hb hK hP 1 0 rfl rfl (vp_in_nI (n := (10 + k)) (N := 27) (by omega) (by decide)) dL_wrong_115 ?_
                    refine co_eq (y := bI (alv (σ 0) (nI (ν k)))) (rq_l hR (show k < 10 by omega)) ?_
                    refine lv_iconst (v := 1) hx hb dL_wrong_116 (by decide) ?_
                    refine co_icmpne1 (tgt := 137) S dL_wrong_117 (by decide) (fun c_23 => ?_) (fun c_23 => ?_)
                    · exact absurd (c_23.symm.trans c_10) (by decide)
                    · refine lv_aload_n hx hb dL_wrong_120 rfl (lv_at hl 3 rfl) ?_
                      refine lv_iconst (v := 4) hx hb dL_wrong_121 (by decide) ?_
                      refine lv_iload hx hb dL_wrong_122 (lv_at hl 5 rfl) ?_
                      refine lv_imul hx hb dL_wrong_124 ?_
                      refine co_eq (show (4 : Int32) * (nI k) = (nI (4 * k)) from pk_mul 4 k) ?_
                      refine lv_iconst (v := 3) hx hb dL_wrong_125 (by decide) ?_
                      refine lv_iadd hx hb dL_wrong_126 ?_
                      refine co_eq (show (nI (4 * k)) + (3 : Int32) = (nI ((4 * k) + 3)) from nI_add (4 * k) 3) ?_
                      refine va_iald hx hb hK hP 2 0 rfl rfl (vp_in_nI (n := ((4 * k) + 3)) (N := 40) (by omega) (by decide)) dL_wrong_127 ?_
                      refine co_eq (rq_p1 hR ⟨tn9, c_3⟩ (Rq.dn hR (show k < 10 by omega)) (i := (4 * k) + 3) (by omega)) ?_
                      refine lv_iload hx hb dL_wrong_128 (lv_at hl 7 rfl) ?_
                      refine lv_icmp_eq (tgt := 137) hx hb dL_wrong_130 (by decide) (fun c_24 => ?_) (fun c_24 => ?_)
                      · refine lv_iconst (v := 0) hx hb dL_wrong_137 (by decide) ?_
                        refine lv_iadd hx hb dL_wrong_138 ?_
                        refine lv_istore (lv' := [(4, .int ((x + 1) + 0)), (0, .ref (q 0)), (1, .ref (q 1)), (2, .ref (q 2)), (3, .ref (q 3)), (5, .int (nI k)), (6, .int (nI (ν k))), (7, .int (nI b₀))]) hx hb dL_wrong_139 hl (by decide) rfl (fun ls hl => ?_)
                        refine lv_iconst (v := 0) hx hb dL_wrong_141 (by decide) ?_
                        refine lv_istore (lv' := [(8, .int 0), (4, .int ((x + 1) + 0)), (0, .ref (q 0)), (1, .ref (q 1)), (2, .ref (q 2)), (3, .ref (q 3)), (5, .int (nI k)), (6, .int (nI (ν k))), (7, .int (nI b₀))]) hx hb dL_wrong_142 hl (by decide) rfl (fun ls hl => ?_)
                        have LP3 : ∀ (d : Nat) (i : Nat) (y : Int32), i + d = 6 → y = x + wF (σ 0) (σ 3) (nI (ν k)) (w2S (σ 0) (σ 2) (nI (ν k)) (w1S (σ 0) (σ 1) (nI (ν k)))) i → ∀ ls : Array Slot, lv_has ls 9 [(0, .ref (q 0)), (1, .ref (q 1)), (2, .ref (q 2)), (3, .ref (q 3)), (4, .int y), (5, .int (nI k)), (6, .int (nI (ν k))), (7, .int (nI b₀)), (8, .int (nI i))] → W p l e rm_L_wrong s m args below meth c s.heap [] 0 0 (QR below (cwp σ 64) args s) (F0 m 144 ls []) := by
                          intro d
                          induction d with
                          | zero =>
                            intro i y hi9 hy9 ls hl
                            refine lv_iload hx hb dL_wrong_144 (lv_at hl 8 rfl) ?_
                            refine lv_bipush (v := 6) hx hb dL_wrong_146 (by decide) ?_
                            refine lv_icmp_ge (tgt := 206) hx hb dL_wrong_148 (by decide) (fun c_25 => ?_) (fun c_25 => ?_)
                            · refine lv_iinc (v := (nI (k + 1))) (lv' := [(5, .int (nI (k + 1))), (0, .ref (q 0)), (1, .ref (q 1)), (2, .ref (q 2)), (3, .ref (q 3)), (4, .int y), (6, .int (nI (ν k))), (7, .int (nI b₀)), (8, .int (nI i))]) hx hb dL_wrong_206 hl (k := 5) rfl (nI_1 k) (by decide) rfl (fun ls hl => ?_)
                              refine lv_goto (tgt := 6) hx hb dL_wrong_209 (by decide) ?_
                              exact ihO (k + 1) _ (by omega) (by show _ = smI (fun i => if alv (σ 0) (nI (ν i)) = true then wrg σ (nI (ν i)) else 0) k + (if alv (σ 0) (nI (ν k)) = true then wrg σ (nI (ν k)) else 0); rw [if_pos c_3, ← hx9, hy9, show i = 6 by omega]; rfl) ls (lv_sub hl [1, 2, 3, 4, 5, 0] rfl)
                            · exact absurd (nI_le (a := 6) (b := i) (by omega) (by omega)) c_25
                          | succ d ih =>
                            intro i y hi9 hy9 ls hl
                            refine lv_iload hx hb dL_wrong_144 (lv_at hl 8 rfl) ?_
                            refine lv_bipush (v := 6) hx hb dL_wrong_146 (by decide) ?_
                            refine lv_icmp_ge (tgt := 206) hx hb dL_wrong_148 (by decide) (fun c_26 => ?_) (fun c_26 => ?_)
                            · exact absurd c_26 (nI_ge (a := i) (b := 6) (by omega) (by omega))
                            · refine lv_iload hx hb dL_wrong_151 (lv_at hl 4 rfl) ?_
                              refine lv_aload_n hx hb dL_wrong_153 rfl (lv_at hl 1 rfl) ?_
                              refine lv_bipush (v := 10) hx hb dL_wrong_154 (by decide) ?_
                              refine lv_iload hx hb dL_wrong_156 (lv_at hl 5 rfl) ?_
                              refine lv_iadd hx hb dL_wrong_158 ?_
                              refine co_eq (show (10 : Int32) + (nI k) = (nI (10 + k)) from nI_add 10 k) ?_
                              refine va_iald hx hb hK hP 1 0 rfl rfl (vp_in_nI (n := (10 + k)) (N := 27) (by omega) (by decide)) dL_wrong_159 ?_
                              refine co_eq (y := bI (alv (σ 0) (nI (ν k)))) (rq_l hR (show k < 10 by omega)) ?_
                              refine lv_iconst (v := 1) hx hb dL_wrong_160 (by decide) ?_
                              refine co_icmpne1 (tgt := 196) S dL_wrong_161 (by decide) (fun c_27 => ?_) (fun c_27 => ?_)
                              · exact absurd (c_27.symm.trans c_23) (by decide)
                              · refine lv_aload_n hx hb dL_wrong_164 rfl (lv_at hl 3 rfl) ?_
                                refine lv_bipush (v := 6) hx hb dL_wrong_165 (by decide) ?_
                                refine lv_iload hx hb dL_wrong_167 (lv_at hl 5 rfl) ?_
                                refine lv_imul hx hb dL_wrong_169 ?_
                                refine co_eq (show (6 : Int32) * (nI k) = (nI (6 * k)) from pk_mul 6 k) ?_
                                refine lv_iload hx hb dL_wrong_170 (lv_at hl 8 rfl) ?_
                                refine lv_iadd hx hb dL_wrong_172 ?_
                                refine co_eq (show (nI (6 * k)) + (nI i) = (nI ((6 * k) + i)) from nI_add (6 * k) i) ?_
                                refine va_iald hx hb hK hP 3 0 rfl rfl (vp_in_nI (n := ((6 * k) + i)) (N := 60) (by omega) (by decide)) dL_wrong_173 ?_
                                refine co_eq (rq_f1 hR ⟨tn9, c_3⟩ (Rq.dn hR (show k < 10 by omega)) i (by omega) (i := (6 * k) + i) (by omega)) ?_
                                refine lv_iload hx hb dL_wrong_174 (lv_at hl 6 rfl) ?_
                                refine lv_iconst (v := 1) hx hb dL_wrong_176 (by decide) ?_
                                refine lv_iload hx hb dL_wrong_177 (lv_at hl 8 rfl) ?_
                                refine lv_ishl hx hb dL_wrong_179 ?_
                                refine lv_iadd hx hb dL_wrong_180 ?_
                                refine lv_bipush (v := 64) hx hb dL_wrong_181 (by decide) ?_
                                refine lv_irem hx hb dL_wrong_183 (by decide) ?_
                                refine co_eq (fg_rem tn9 (show i < 6 by omega)) ?_
                                refine lv_aload_n hx hb dL_wrong_184 rfl (lv_at hl 0 rfl) ?_
                                refine lv_aload_n hx hb dL_wrong_185 rfl (lv_at hl 1 rfl) ?_
                                refine co_rS (As := [.int (nI (((ν k) + 2 ^ i) % 64)), .ref (q 0), .ref (q 1)]) (rest := [.int (tat 6 (σ 3) (nI (ν k)) (nI i)), .int y]) S (c_L_owner l G Z q ν δ κ σ τ hR (((ν k) + 2 ^ i) % 64) (Nat.mod_lt _ (by decide))) (va_cwS 3 hts gL_wrong_L_owner rfl rfl rfl (by decide +kernel) ⟨Nat.le_of_ble_eq_true rfl, Nat.le_of_ble_eq_true rfl⟩) hK hP rfl hl.1 rfl (Nat.le_of_ble_eq_true rfl) dL_wrong_186 ⟨Nat.zero_le _, Nat.zero_le _⟩ ?_
                                refine lv_icmp_eq (tgt := 196) hx hb dL_wrong_189 (by decide) (fun c_28 => ?_) (fun c_28 => ?_)
                                · refine lv_iconst (v := 0) hx hb dL_wrong_196 (by decide) ?_
                                  refine lv_iadd hx hb dL_wrong_197 ?_
                                  refine lv_istore (lv' := [(4, .int (y + 0)), (0, .ref (q 0)), (1, .ref (q 1)), (2, .ref (q 2)), (3, .ref (q 3)), (5, .int (nI k)), (6, .int (nI (ν k))), (7, .int (nI b₀)), (8, .int (nI i))]) hx hb dL_wrong_198 hl (by decide) rfl (fun ls hl => ?_)
                                  refine lv_iinc (v := (nI (i + 1))) (lv' := [(8, .int (nI (i + 1))), (4, .int (y + 0)), (0, .ref (q 0)), (1, .ref (q 1)), (2, .ref (q 2)), (3, .ref (q 3)), (5, .int (nI k)), (6, .int (nI (ν k))), (7, .int (nI b₀))]) hx hb dL_wrong_200 hl (k := 8) rfl (nI_1 i) (by decide) rfl (fun ls hl => ?_)
                                  refine lv_goto (tgt := 144) hx hb dL_wrong_203 (by decide) ?_
                                  exact ih (i + 1) _ (by omega) (by rw [hy9, wF, fgs_nI tn9 (show i < 6 by omega)]; simp only [(eq_true c_28), Int32.add_assoc, Int32.add_zero, ↓reduceIte]) ls (lv_sub hl [2, 3, 4, 5, 1, 6, 7, 8, 0] rfl)
                                · refine lv_iconst (v := 1) hx hb dL_wrong_192 (by decide) ?_
                                  refine lv_goto (tgt := 197) hx hb dL_wrong_193 (by decide) ?_
                                  refine lv_iadd hx hb dL_wrong_197 ?_
                                  refine lv_istore (lv' := [(4, .int (y + 1)), (0, .ref (q 0)), (1, .ref (q 1)), (2, .ref (q 2)), (3, .ref (q 3)), (5, .int (nI k)), (6, .int (nI (ν k))), (7, .int (nI b₀)), (8, .int (nI i))]) hx hb dL_wrong_198 hl (by decide) rfl (fun ls hl => ?_)
                                  refine lv_iinc (v := (nI (i + 1))) (lv' := [(8, .int (nI (i + 1))), (4, .int (y + 1)), (0, .ref (q 0)), (1, .ref (q 1)), (2, .ref (q 2)), (3, .ref (q 3)), (5, .int (nI k)), (6, .int (nI (ν k))), (7, .int (nI b₀))]) hx hb dL_wrong_200 hl (k := 8) rfl (nI_1 i) (by decide) rfl (fun ls hl => ?_)
                                  refine lv_goto (tgt := 144) hx hb dL_wrong_203 (by decide) ?_
                                  exact ih (i + 1) _ (by omega) (by rw [hy9, wF, fgs_nI tn9 (show i < 6 by omega)]; simp only [c_28, Int32.add_assoc, Int32.add_zero, ↓reduceIte]) ls (lv_sub hl [2, 3, 4, 5, 1, 6, 7, 8, 0] rfl)
                        exact LP3 6 0 _ rfl (by simp only [wF, w1S, w2S, show onw (nI (ν k)) 1 = nI ((ν k + 1) % 64) from onw_nI (k := 1) tn9 (by decide), ej_11, hb9, c_12, (eq_true c_24), Int32.add_zero, Int32.zero_add, Int32.add_assoc, ↓reduceIte]) ls (lv_sub hl [2, 3, 4, 5, 1, 6, 7, 8, 0] rfl)
                      · refine lv_iconst (v := 1) hx hb dL_wrong_133 (by decide) ?_
                        refine lv_goto (tgt := 138) hx hb dL_wrong_134 (by decide) ?_
                        refine lv_iadd hx hb dL_wrong_138 ?_
                        refine lv_istore (lv' := [(4, .int ((x + 1) + 1)), (0, .ref (q 0)), (1, .ref (q 1)), (2, .ref (q 2)), (3, .ref (q 3)), (5, .int (nI k)), (6, .int (nI (ν k))), (7, .int (nI b₀))]) hx hb dL_wrong_139 hl (by decide) rfl (fun ls hl => ?_)
                        refine lv_iconst (v := 0) hx hb dL_wrong_141 (by decide) ?_
                        refine lv_istore (lv' := [(8, .int 0), (4, .int ((x + 1) + 1)), (0, .ref (q 0)), (1, .ref (q 1)), (2, .ref (q 2)), (3, .ref (q 3)), (5, .int (nI k)), (6, .int (nI (ν k))), (7, .int (nI b₀))]) hx hb dL_wrong_142 hl (by decide) rfl (fun ls hl => ?_)
                        have LP3 : ∀ (d : Nat) (i : Nat) (y : Int32), i + d = 6 → y = x + wF (σ 0) (σ 3) (nI (ν k)) (w2S (σ 0) (σ 2) (nI (ν k)) (w1S (σ 0) (σ 1) (nI (ν k)))) i → ∀ ls : Array Slot, lv_has ls 9 [(0, .ref (q 0)), (1, .ref (q 1)), (2, .ref (q 2)), (3, .ref (q 3)), (4, .int y), (5, .int (nI k)), (6, .int (nI (ν k))), (7, .int (nI b₀)), (8, .int (nI i))] → W p l e rm_L_wrong s m args below meth c s.heap [] 0 0 (QR below (cwp σ 64) args s) (F0 m 144 ls []) := by
                          intro d
                          induction d with
                          | zero =>
                            intro i y hi9 hy9 ls hl
                            refine lv_iload hx hb dL_wrong_144 (lv_at hl 8 rfl) ?_
                            refine lv_bipush (v := 6) hx hb dL_wrong_146 (by decide) ?_
                            refine lv_icmp_ge (tgt := 206) hx hb dL_wrong_148 (by decide) (fun c_29 => ?_) (fun c_29 => ?_)
                            · refine lv_iinc (v := (nI (k + 1))) (lv' := [(5, .int (nI (k + 1))), (0, .ref (q 0)), (1, .ref (q 1)), (2, .ref (q 2)), (3, .ref (q 3)), (4, .int y), (6, .int (nI (ν k))), (7, .int (nI b₀)), (8, .int (nI i))]) hx hb dL_wrong_206 hl (k := 5) rfl (nI_1 k) (by decide) rfl (fun ls hl => ?_)
                              refine lv_goto (tgt := 6) hx hb dL_wrong_209 (by decide) ?_
                              exact ihO (k + 1) _ (by omega) (by show _ = smI (fun i => if alv (σ 0) (nI (ν i)) = true then wrg σ (nI (ν i)) else 0) k + (if alv (σ 0) (nI (ν k)) = true then wrg σ (nI (ν k)) else 0); rw [if_pos c_3, ← hx9, hy9, show i = 6 by omega]; rfl) ls (lv_sub hl [1, 2, 3, 4, 5, 0] rfl)
                            · exact absurd (nI_le (a := 6) (b := i) (by omega) (by omega)) c_29
                          | succ d ih =>
                            intro i y hi9 hy9 ls hl
                            refine lv_iload hx hb dL_wrong_144 (lv_at hl 8 rfl) ?_
                            refine lv_bipush (v := 6) hx hb dL_wrong_146 (by decide) ?_
                            refine lv_icmp_ge (tgt := 206) hx hb dL_wrong_148 (by decide) (fun c_30 => ?_) (fun c_30 => ?_)
                            · exact absurd c_30 (nI_ge (a := i) (b := 6) (by omega) (by omega))
                            · refine lv_iload hx hb dL_wrong_151 (lv_at hl 4 rfl) ?_
                              refine lv_aload_n hx hb dL_wrong_153 rfl (lv_at hl 1 rfl) ?_
                              refine lv_bipush (v := 10) hx hb dL_wrong_154 (by decide) ?_
                              refine lv_iload hx hb dL_wrong_156 (lv_at hl 5 rfl) ?_
                              refine lv_iadd hx hb dL_wrong_158 ?_
                              refine co_eq (show (10 : Int32) + (nI k) = (nI (10 + k)) from nI_add 10 k) ?_
                              refine va_iald hx hb hK hP 1 0 rfl rfl (vp_in_nI (n := (10 + k)) (N := 27) (by omega) (by decide)) dL_wrong_159 ?_
                              refine co_eq (y := bI (alv (σ 0) (nI (ν k)))) (rq_l hR (show k < 10 by omega)) ?_
                              refine lv_iconst (v := 1) hx hb dL_wrong_160 (by decide) ?_
                              refine co_icmpne1 (tgt := 196) S dL_wrong_161 (by decide) (fun c_31 => ?_) (fun c_31 => ?_)
                              · exact absurd (c_31.symm.trans c_23) (by decide)
                              · refine lv_aload_n hx hb dL_wrong_164 rfl (lv_at hl 3 rfl) ?_
                                refine lv_bipush (v := 6) hx hb dL_wrong_165 (by decide) ?_
                                refine lv_iload hx hb dL_wrong_167 (lv_at hl 5 rfl) ?_
                                refine lv_imul hx hb dL_wrong_169 ?_
                                refine co_eq (show (6 : Int32) * (nI k) = (nI (6 * k)) from pk_mul 6 k) ?_
                                refine lv_iload hx hb dL_wrong_170 (lv_at hl 8 rfl) ?_
                                refine lv_iadd hx hb dL_wrong_172 ?_
                                refine co_eq (show (nI (6 * k)) + (nI i) = (nI ((6 * k) + i)) from nI_add (6 * k) i) ?_
                                refine va_iald hx hb hK hP 3 0 rfl rfl (vp_in_nI (n := ((6 * k) + i)) (N := 60) (by omega) (by decide)) dL_wrong_173 ?_
                                refine co_eq (rq_f1 hR ⟨tn9, c_3⟩ (Rq.dn hR (show k < 10 by omega)) i (by omega) (i := (6 * k) + i) (by omega)) ?_
                                refine lv_iload hx hb dL_wrong_174 (lv_at hl 6 rfl) ?_
                                refine lv_iconst (v := 1) hx hb dL_wrong_176 (by decide) ?_
                                refine lv_iload hx hb dL_wrong_177 (lv_at hl 8 rfl) ?_
                                refine lv_ishl hx hb dL_wrong_179 ?_
                                refine lv_iadd hx hb dL_wrong_180 ?_
                                refine lv_bipush (v := 64) hx hb dL_wrong_181 (by decide) ?_
                                refine lv_irem hx hb dL_wrong_183 (by decide) ?_
                                refine co_eq (fg_rem tn9 (show i < 6 by omega)) ?_
                                refine lv_aload_n hx hb dL_wrong_184 rfl (lv_at hl 0 rfl) ?_
                                refine lv_aload_n hx hb dL_wrong_185 rfl (lv_at hl 1 rfl) ?_
                                refine co_rS (As := [.int (nI (((ν k) + 2 ^ i) % 64)), .ref (q 0), .ref (q 1)]) (rest := [.int (tat 6 (σ 3) (nI (ν k)) (nI i)), .int y]) S (c_L_owner l G Z q ν δ κ σ τ hR (((ν k) + 2 ^ i) % 64) (Nat.mod_lt _ (by decide))) (va_cwS 3 hts gL_wrong_L_owner rfl rfl rfl (by decide +kernel) ⟨Nat.le_of_ble_eq_true rfl, Nat.le_of_ble_eq_true rfl⟩) hK hP rfl hl.1 rfl (Nat.le_of_ble_eq_true rfl) dL_wrong_186 ⟨Nat.zero_le _, Nat.zero_le _⟩ ?_
                                refine lv_icmp_eq (tgt := 196) hx hb dL_wrong_189 (by decide) (fun c_32 => ?_) (fun c_32 => ?_)
                                · refine lv_iconst (v := 0) hx hb dL_wrong_196 (by decide) ?_
                                  refine lv_iadd hx hb dL_wrong_197 ?_
                                  refine lv_istore (lv' := [(4, .int (y + 0)), (0, .ref (q 0)), (1, .ref (q 1)), (2, .ref (q 2)), (3, .ref (q 3)), (5, .int (nI k)), (6, .int (nI (ν k))), (7, .int (nI b₀)), (8, .int (nI i))]) hx hb dL_wrong_198 hl (by decide) rfl (fun ls hl => ?_)
                                  refine lv_iinc (v := (nI (i + 1))) (lv' := [(8, .int (nI (i + 1))), (4, .int (y + 0)), (0, .ref (q 0)), (1, .ref (q 1)), (2, .ref (q 2)), (3, .ref (q 3)), (5, .int (nI k)), (6, .int (nI (ν k))), (7, .int (nI b₀))]) hx hb dL_wrong_200 hl (k := 8) rfl (nI_1 i) (by decide) rfl (fun ls hl => ?_)
                                  refine lv_goto (tgt := 144) hx hb dL_wrong_203 (by decide) ?_
                                  exact ih (i + 1) _ (by omega) (by rw [hy9, wF, fgs_nI tn9 (show i < 6 by omega)]; simp only [(eq_true c_32), Int32.add_assoc, Int32.add_zero, ↓reduceIte]) ls (lv_sub hl [2, 3, 4, 5, 1, 6, 7, 8, 0] rfl)
                                · refine lv_iconst (v := 1) hx hb dL_wrong_192 (by decide) ?_
                                  refine lv_goto (tgt := 197) hx hb dL_wrong_193 (by decide) ?_
                                  refine lv_iadd hx hb dL_wrong_197 ?_
                                  refine lv_istore (lv' := [(4, .int (y + 1)), (0, .ref (q 0)), (1, .ref (q 1)), (2, .ref (q 2)), (3, .ref (q 3)), (5, .int (nI k)), (6, .int (nI (ν k))), (7, .int (nI b₀)), (8, .int (nI i))]) hx hb dL_wrong_198 hl (by decide) rfl (fun ls hl => ?_)
                                  refine lv_iinc (v := (nI (i + 1))) (lv' := [(8, .int (nI (i + 1))), (4, .int (y + 1)), (0, .ref (q 0)), (1, .ref (q 1)), (2, .ref (q 2)), (3, .ref (q 3)), (5, .int (nI k)), (6, .int (nI (ν k))), (7, .int (nI b₀))]) hx hb dL_wrong_200 hl (k := 8) rfl (nI_1 i) (by decide) rfl (fun ls hl => ?_)
                                  refine lv_goto (tgt := 144) hx hb dL_wrong_203 (by decide) ?_
                                  exact ih (i + 1) _ (by omega) (by rw [hy9, wF, fgs_nI tn9 (show i < 6 by omega)]; simp only [c_32, Int32.add_assoc, Int32.add_zero, ↓reduceIte]) ls (lv_sub hl [2, 3, 4, 5, 1, 6, 7, 8, 0] rfl)
                        exact LP3 6 0 _ rfl (by simp only [wF, w1S, w2S, show onw (nI (ν k)) 1 = nI ((ν k + 1) % 64) from onw_nI (k := 1) tn9 (by decide), ej_11, hb9, c_12, c_24, Int32.add_zero, Int32.zero_add, Int32.add_assoc, ↓reduceIte]) ls (lv_sub hl [2, 3, 4, 5, 1, 6, 7, 8, 0] rfl)
              · exact absurd (c_9.symm.trans (show alv (σ 0) (nI b₀) = true by rw [show b₀ = ν k by omega]; exact c_3)) (by decide)
          | succ d ih =>
            intro b₀ hd9 hm9 hf9 ls hl
            have tm9 : b₀ < 64 := (by omega)
            refine lv_aload_n hx hb dL_wrong_29 rfl (lv_at hl 1 rfl) ?_
            refine lv_bipush (v := 10) hx hb dL_wrong_30 (by decide) ?_
            refine lv_iload hx hb dL_wrong_32 (lv_at hl 5 rfl) ?_
            refine lv_iadd hx hb dL_wrong_34 ?_
            refine co_eq (show (10 : Int32) + (nI k) = (nI (10 + k)) from nI_add 10 k) ?_
            refine va_iald hx hb hK hP 1 0 rfl rfl (vp_in_nI (n := (10 + k)) (N := 27) (by omega) (by decide)) dL_wrong_35 ?_
            refine co_eq (y := bI (alv (σ 0) (nI (ν k)))) (rq_l hR (show k < 10 by omega)) ?_
            refine lv_iconst (v := 1) hx hb dL_wrong_36 (by decide) ?_
            refine co_icmpne1 (tgt := 63) S dL_wrong_37 (by decide) (fun c_33 => ?_) (fun c_33 => ?_)
            · refine lv_iload hx hb dL_wrong_63 (lv_at hl 4 rfl) ?_
              refine lv_aload_n hx hb dL_wrong_65 rfl (lv_at hl 1 rfl) ?_
              refine lv_bipush (v := 10) hx hb dL_wrong_66 (by decide) ?_
              refine lv_iload hx hb dL_wrong_68 (lv_at hl 5 rfl) ?_
              refine lv_iadd hx hb dL_wrong_70 ?_
              refine co_eq (show (10 : Int32) + (nI k) = (nI (10 + k)) from nI_add 10 k) ?_
              refine va_iald hx hb hK hP 1 0 rfl rfl (vp_in_nI (n := (10 + k)) (N := 27) (by omega) (by decide)) dL_wrong_71 ?_
              refine co_eq (y := bI (alv (σ 0) (nI (ν k)))) (rq_l hR (show k < 10 by omega)) ?_
              refine lv_iconst (v := 1) hx hb dL_wrong_72 (by decide) ?_
              refine co_icmpne1 (tgt := 103) S dL_wrong_73 (by decide) (fun c_34 => ?_) (fun c_34 => ?_)
              · refine lv_iconst (v := 0) hx hb dL_wrong_103 (by decide) ?_
                refine lv_iadd hx hb dL_wrong_104 ?_
                refine lv_istore (lv' := [(4, .int (x + 0)), (0, .ref (q 0)), (1, .ref (q 1)), (2, .ref (q 2)), (3, .ref (q 3)), (5, .int (nI k)), (6, .int (nI (ν k))), (7, .int (nI b₀))]) hx hb dL_wrong_105 hl (by decide) rfl (fun ls hl => ?_)
                refine lv_iload hx hb dL_wrong_107 (lv_at hl 0 rfl) ?_
                refine lv_aload_n hx hb dL_wrong_109 rfl (lv_at hl 2 rfl) ?_
                refine lv_bipush (v := 10) hx hb dL_wrong_110 (by decide) ?_
                refine lv_iload hx hb dL_wrong_112 (lv_at hl 5 rfl) ?_
                refine lv_iadd hx hb dL_wrong_114 ?_
                refine co_eq (show (10 : Int32) + (nI k) = (nI (10 + k)) from nI_add 10 k) ?_
                refine va_iald hx hb hK hP 1 0 rfl rfl (vp_in_nI (n := (10 + k)) (N := 27) (by omega) (by decide)) dL_wrong_115 ?_
                refine co_eq (y := bI (alv (σ 0) (nI (ν k)))) (rq_l hR (show k < 10 by omega)) ?_
                refine lv_iconst (v := 1) hx hb dL_wrong_116 (by decide) ?_
                refine co_icmpne1 (tgt := 137) S dL_wrong_117 (by decide) (fun c_35 => ?_) (fun c_35 => ?_)
                · refine lv_iconst (v := 0) hx hb dL_wrong_137 (by decide) ?_
                  refine lv_iadd hx hb dL_wrong_138 ?_
                  refine lv_istore (lv' := [(4, .int ((x + 0) + 0)), (0, .ref (q 0)), (1, .ref (q 1)), (2, .ref (q 2)), (3, .ref (q 3)), (5, .int (nI k)), (6, .int (nI (ν k))), (7, .int (nI b₀))]) hx hb dL_wrong_139 hl (by decide) rfl (fun ls hl => ?_)
                  refine lv_iconst (v := 0) hx hb dL_wrong_141 (by decide) ?_
                  refine lv_istore (lv' := [(8, .int 0), (4, .int ((x + 0) + 0)), (0, .ref (q 0)), (1, .ref (q 1)), (2, .ref (q 2)), (3, .ref (q 3)), (5, .int (nI k)), (6, .int (nI (ν k))), (7, .int (nI b₀))]) hx hb dL_wrong_142 hl (by decide) rfl (fun ls hl => ?_)
                  have LP3 : ∀ (d : Nat) (i : Nat) (y : Int32), i + d = 6 → y = x → ∀ ls : Array Slot, lv_has ls 9 [(0, .ref (q 0)), (1, .ref (q 1)), (2, .ref (q 2)), (3, .ref (q 3)), (4, .int y), (5, .int (nI k)), (6, .int (nI (ν k))), (7, .int (nI b₀)), (8, .int (nI i))] → W p l e rm_L_wrong s m args below meth c s.heap [] 0 0 (QR below (cwp σ 64) args s) (F0 m 144 ls []) := by
                    intro d
                    induction d with
                    | zero =>
                      intro i y hi9 hy9 ls hl
                      refine lv_iload hx hb dL_wrong_144 (lv_at hl 8 rfl) ?_
                      refine lv_bipush (v := 6) hx hb dL_wrong_146 (by decide) ?_
                      refine lv_icmp_ge (tgt := 206) hx hb dL_wrong_148 (by decide) (fun c_36 => ?_) (fun c_36 => ?_)
                      · refine lv_iinc (v := (nI (k + 1))) (lv' := [(5, .int (nI (k + 1))), (0, .ref (q 0)), (1, .ref (q 1)), (2, .ref (q 2)), (3, .ref (q 3)), (4, .int y), (6, .int (nI (ν k))), (7, .int (nI b₀)), (8, .int (nI i))]) hx hb dL_wrong_206 hl (k := 5) rfl (nI_1 k) (by decide) rfl (fun ls hl => ?_)
                        refine lv_goto (tgt := 6) hx hb dL_wrong_209 (by decide) ?_
                        exact ihO (k + 1) _ (by omega) (by show _ = smI (fun i => if alv (σ 0) (nI (ν i)) = true then wrg σ (nI (ν i)) else 0) k + (if alv (σ 0) (nI (ν k)) = true then wrg σ (nI (ν k)) else 0); rw [if_neg (by rw [c_33]; decide), ← hx9, hy9, Int32.add_zero]) ls (lv_sub hl [1, 2, 3, 4, 5, 0] rfl)
                      · exact absurd (nI_le (a := 6) (b := i) (by omega) (by omega)) c_36
                    | succ d ih =>
                      intro i y hi9 hy9 ls hl
                      refine lv_iload hx hb dL_wrong_144 (lv_at hl 8 rfl) ?_
                      refine lv_bipush (v := 6) hx hb dL_wrong_146 (by decide) ?_
                      refine lv_icmp_ge (tgt := 206) hx hb dL_wrong_148 (by decide) (fun c_37 => ?_) (fun c_37 => ?_)
                      · exact absurd c_37 (nI_ge (a := i) (b := 6) (by omega) (by omega))
                      · refine lv_iload hx hb dL_wrong_151 (lv_at hl 4 rfl) ?_
                        refine lv_aload_n hx hb dL_wrong_153 rfl (lv_at hl 1 rfl) ?_
                        refine lv_bipush (v := 10) hx hb dL_wrong_154 (by decide) ?_
                        refine lv_iload hx hb dL_wrong_156 (lv_at hl 5 rfl) ?_
                        refine lv_iadd hx hb dL_wrong_158 ?_
                        refine co_eq (show (10 : Int32) + (nI k) = (nI (10 + k)) from nI_add 10 k) ?_
                        refine va_iald hx hb hK hP 1 0 rfl rfl (vp_in_nI (n := (10 + k)) (N := 27) (by omega) (by decide)) dL_wrong_159 ?_
                        refine co_eq (y := bI (alv (σ 0) (nI (ν k)))) (rq_l hR (show k < 10 by omega)) ?_
                        refine lv_iconst (v := 1) hx hb dL_wrong_160 (by decide) ?_
                        refine co_icmpne1 (tgt := 196) S dL_wrong_161 (by decide) (fun c_38 => ?_) (fun c_38 => ?_)
                        · refine lv_iconst (v := 0) hx hb dL_wrong_196 (by decide) ?_
                          refine lv_iadd hx hb dL_wrong_197 ?_
                          refine lv_istore (lv' := [(4, .int (y + 0)), (0, .ref (q 0)), (1, .ref (q 1)), (2, .ref (q 2)), (3, .ref (q 3)), (5, .int (nI k)), (6, .int (nI (ν k))), (7, .int (nI b₀)), (8, .int (nI i))]) hx hb dL_wrong_198 hl (by decide) rfl (fun ls hl => ?_)
                          refine lv_iinc (v := (nI (i + 1))) (lv' := [(8, .int (nI (i + 1))), (4, .int (y + 0)), (0, .ref (q 0)), (1, .ref (q 1)), (2, .ref (q 2)), (3, .ref (q 3)), (5, .int (nI k)), (6, .int (nI (ν k))), (7, .int (nI b₀))]) hx hb dL_wrong_200 hl (k := 8) rfl (nI_1 i) (by decide) rfl (fun ls hl => ?_)
                          refine lv_goto (tgt := 144) hx hb dL_wrong_203 (by decide) ?_
                          exact ih (i + 1) _ (by omega) (by rw [hy9, Int32.add_zero]) ls (lv_sub hl [2, 3, 4, 5, 1, 6, 7, 8, 0] rfl)
                        · exact absurd (c_38.symm.trans c_35) (by decide)
                  exact LP3 6 0 _ rfl (by simp only [Int32.add_zero]) ls (lv_sub hl [2, 3, 4, 5, 1, 6, 7, 8, 0] rfl)
                · exact absurd (c_35.symm.trans c_34) (by decide)
              · exact absurd (c_34.symm.trans c_33) (by decide)
            · refine lv_iload hx hb dL_wrong_40 (lv_at hl 7 rfl) ?_
              refine lv_aload_n hx hb dL_wrong_42 rfl (lv_at hl 0 rfl) ?_
              refine lv_aload_n hx hb dL_wrong_43 rfl (lv_at hl 1 rfl) ?_
              refine co_rS (As := [.int (nI b₀), .ref (q 0), .ref (q 1)]) (rest := []) S (c_L_lives l G Z q ν δ κ σ τ hR b₀ tm9) (va_cwS 3 hts gL_wrong_L_lives rfl rfl rfl (by decide +kernel) ⟨Nat.le_of_ble_eq_true rfl, Nat.le_of_ble_eq_true rfl⟩) hK hP rfl hl.1 rfl (Nat.le_of_ble_eq_true rfl) dL_wrong_44 ⟨Nat.zero_le _, Nat.zero_le _⟩ ?_
              refine co_ifne (tgt := 63) S dL_wrong_47 (by decide) (fun c_39 => ?_) (fun c_39 => ?_)
              · have hb9 : dnF (σ 0) (onw (nI (ν k)) (-1)) 64 0 = nI b₀ := (by rw [← hf9 c_33, dnF, bf_dn tn9 (by omega), show (ν k + (64 - (63 - (d + 1) + 1))) % 64 = b₀ by omega, if_pos c_39])
                refine lv_iload hx hb dL_wrong_63 (lv_at hl 4 rfl) ?_
                refine lv_aload_n hx hb dL_wrong_65 rfl (lv_at hl 1 rfl) ?_
                refine lv_bipush (v := 10) hx hb dL_wrong_66 (by decide) ?_
                refine lv_iload hx hb dL_wrong_68 (lv_at hl 5 rfl) ?_
                refine lv_iadd hx hb dL_wrong_70 ?_
                refine co_eq (show (10 : Int32) + (nI k) = (nI (10 + k)) from nI_add 10 k) ?_
                refine va_iald hx hb hK hP 1 0 rfl rfl (vp_in_nI (n := (10 + k)) (N := 27) (by omega) (by decide)) dL_wrong_71 ?_
                refine co_eq (y := bI (alv (σ 0) (nI (ν k)))) (rq_l hR (show k < 10 by omega)) ?_
                refine lv_iconst (v := 1) hx hb dL_wrong_72 (by decide) ?_
                refine co_icmpne1 (tgt := 103) S dL_wrong_73 (by decide) (fun c_40 => ?_) (fun c_40 => ?_)
                · exact absurd (c_40.symm.trans c_33) (by decide)
                · refine lv_iload hx hb dL_wrong_76 (lv_at hl 6 rfl) ?_
                  refine lv_aload_n hx hb dL_wrong_78 rfl (lv_at hl 0 rfl) ?_
                  refine lv_aload_n hx hb dL_wrong_79 rfl (lv_at hl 1 rfl) ?_
                  refine lv_aload_n hx hb dL_wrong_80 rfl (lv_at hl 2 rfl) ?_
                  obtain ⟨j_41, ej_41, lj_41⟩ := Rq.ls hR ⟨tn9, c_33⟩
                  have tj_41 : j_41 < 64 := lj_41.1
                  refine co_rS (As := [.int (nI (ν k)), .ref (q 0), .ref (q 1), .ref (q 2)]) (rest := [.int x]) S (c_L_next l G Z q ν δ κ σ τ hR (ν k) ⟨tn9, c_33⟩) (va_cwS 4 hts gL_wrong_L_next rfl rfl rfl (by decide +kernel) ⟨Nat.le_of_ble_eq_true rfl, Nat.le_of_ble_eq_true rfl⟩) hK hP rfl hl.1 rfl (Nat.le_of_ble_eq_true rfl) dL_wrong_81 ⟨Nat.zero_le _, Nat.zero_le _⟩ ?_
                  refine co_eq ej_41 ?_
                  refine lv_iload hx hb dL_wrong_84 (lv_at hl 6 rfl) ?_
                  refine lv_iconst (v := 1) hx hb dL_wrong_86 (by decide) ?_
                  refine lv_iadd hx hb dL_wrong_87 ?_
                  refine co_eq (show (nI (ν k)) + (1 : Int32) = (nI ((ν k) + 1)) from nI_add (ν k) 1) ?_
                  refine lv_bipush (v := 64) hx hb dL_wrong_88 (by decide) ?_
                  refine lv_irem hx hb dL_wrong_90 (by decide) ?_
                  refine co_eq (show (nI ((ν k) + 1)) - (nI ((ν k) + 1)) / 64 * 64 = (nI (((ν k) + 1) % 64)) from pk_rem (a := ((ν k) + 1)) (d := 64) (by omega) (by decide) (by decide)) ?_
                  refine lv_aload_n hx hb dL_wrong_91 rfl (lv_at hl 0 rfl) ?_
                  refine lv_aload_n hx hb dL_wrong_92 rfl (lv_at hl 1 rfl) ?_
                  refine co_rS (As := [.int (nI (((ν k) + 1) % 64)), .ref (q 0), .ref (q 1)]) (rest := [.int (nI j_41), .int x]) S (c_L_owner l G Z q ν δ κ σ τ hR (((ν k) + 1) % 64) (Nat.mod_lt _ (by decide))) (va_cwS 3 hts gL_wrong_L_owner rfl rfl rfl (by decide +kernel) ⟨Nat.le_of_ble_eq_true rfl, Nat.le_of_ble_eq_true rfl⟩) hK hP rfl hl.1 rfl (Nat.le_of_ble_eq_true rfl) dL_wrong_93 ⟨Nat.zero_le _, Nat.zero_le _⟩ ?_
                  refine lv_icmp_eq (tgt := 103) hx hb dL_wrong_96 (by decide) (fun c_42 => ?_) (fun c_42 => ?_)
                  · refine lv_iconst (v := 0) hx hb dL_wrong_103 (by decide) ?_
                    refine lv_iadd hx hb dL_wrong_104 ?_
                    refine lv_istore (lv' := [(4, .int (x + 0)), (0, .ref (q 0)), (1, .ref (q 1)), (2, .ref (q 2)), (3, .ref (q 3)), (5, .int (nI k)), (6, .int (nI (ν k))), (7, .int (nI b₀))]) hx hb dL_wrong_105 hl (by decide) rfl (fun ls hl => ?_)
                    refine lv_iload hx hb dL_wrong_107 (lv_at hl 0 rfl) ?_
                    refine lv_aload_n hx hb dL_wrong_109 rfl (lv_at hl 2 rfl) ?_
                    refine lv_bipush (v := 10) hx hb dL_wrong_110 (by decide) ?_
                    refine lv_iload hx hb dL_wrong_112 (lv_at hl 5 rfl) ?_
                    refine lv_iadd hx hb dL_wrong_114 ?_
                    refine co_eq (show (10 : Int32) + (nI k) = (nI (10 + k)) from nI_add 10 k) ?_
                    refine va_iald hx hb hK hP 1 0 rfl rfl (vp_in_nI (n := (10 + k)) (N := 27) (by omega) (by decide)) dL_wrong_115 ?_
                    refine co_eq (y := bI (alv (σ 0) (nI (ν k)))) (rq_l hR (show k < 10 by omega)) ?_
                    refine lv_iconst (v := 1) hx hb dL_wrong_116 (by decide) ?_
                    refine co_icmpne1 (tgt := 137) S dL_wrong_117 (by decide) (fun c_43 => ?_) (fun c_43 => ?_)
                    · exact absurd (c_43.symm.trans c_40) (by decide)
                    · refine lv_aload_n hx hb dL_wrong_120 rfl (lv_at hl 3 rfl) ?_
                      refine lv_iconst (v := 4) hx hb dL_wrong_121 (by decide) ?_
                      refine lv_iload hx hb dL_wrong_122 (lv_at hl 5 rfl) ?_
                      refine lv_imul hx hb dL_wrong_124 ?_
                      refine co_eq (show (4 : Int32) * (nI k) = (nI (4 * k)) from pk_mul 4 k) ?_
                      refine lv_iconst (v := 3) hx hb dL_wrong_125 (by decide) ?_
                      refine lv_iadd hx hb dL_wrong_126 ?_
                      refine co_eq (show (nI (4 * k)) + (3 : Int32) = (nI ((4 * k) + 3)) from nI_add (4 * k) 3) ?_
                      refine va_iald hx hb hK hP 2 0 rfl rfl (vp_in_nI (n := ((4 * k) + 3)) (N := 40) (by omega) (by decide)) dL_wrong_127 ?_
                      refine co_eq (rq_p1 hR ⟨tn9, c_33⟩ (Rq.dn hR (show k < 10 by omega)) (i := (4 * k) + 3) (by omega)) ?_
                      refine lv_iload hx hb dL_wrong_128 (lv_at hl 7 rfl) ?_
                      refine lv_icmp_eq (tgt := 137) hx hb dL_wrong_130 (by decide) (fun c_44 => ?_) (fun c_44 => ?_)
                      · refine lv_iconst (v := 0) hx hb dL_wrong_137 (by decide) ?_
                        refine lv_iadd hx hb dL_wrong_138 ?_
                        refine lv_istore (lv' := [(4, .int ((x + 0) + 0)), (0, .ref (q 0)), (1, .ref (q 1)), (2, .ref (q 2)), (3, .ref (q 3)), (5, .int (nI k)), (6, .int (nI (ν k))), (7, .int (nI b₀))]) hx hb dL_wrong_139 hl (by decide) rfl (fun ls hl => ?_)
                        refine lv_iconst (v := 0) hx hb dL_wrong_141 (by decide) ?_
                        refine lv_istore (lv' := [(8, .int 0), (4, .int ((x + 0) + 0)), (0, .ref (q 0)), (1, .ref (q 1)), (2, .ref (q 2)), (3, .ref (q 3)), (5, .int (nI k)), (6, .int (nI (ν k))), (7, .int (nI b₀))]) hx hb dL_wrong_142 hl (by decide) rfl (fun ls hl => ?_)
                        have LP3 : ∀ (d : Nat) (i : Nat) (y : Int32), i + d = 6 → y = x + wF (σ 0) (σ 3) (nI (ν k)) (w2S (σ 0) (σ 2) (nI (ν k)) (w1S (σ 0) (σ 1) (nI (ν k)))) i → ∀ ls : Array Slot, lv_has ls 9 [(0, .ref (q 0)), (1, .ref (q 1)), (2, .ref (q 2)), (3, .ref (q 3)), (4, .int y), (5, .int (nI k)), (6, .int (nI (ν k))), (7, .int (nI b₀)), (8, .int (nI i))] → W p l e rm_L_wrong s m args below meth c s.heap [] 0 0 (QR below (cwp σ 64) args s) (F0 m 144 ls []) := by
                          intro d
                          induction d with
                          | zero =>
                            intro i y hi9 hy9 ls hl
                            refine lv_iload hx hb dL_wrong_144 (lv_at hl 8 rfl) ?_
                            refine lv_bipush (v := 6) hx hb dL_wrong_146 (by decide) ?_
                            refine lv_icmp_ge (tgt := 206) hx hb dL_wrong_148 (by decide) (fun c_45 => ?_) (fun c_45 => ?_)
                            · refine lv_iinc (v := (nI (k + 1))) (lv' := [(5, .int (nI (k + 1))), (0, .ref (q 0)), (1, .ref (q 1)), (2, .ref (q 2)), (3, .ref (q 3)), (4, .int y), (6, .int (nI (ν k))), (7, .int (nI b₀)), (8, .int (nI i))]) hx hb dL_wrong_206 hl (k := 5) rfl (nI_1 k) (by decide) rfl (fun ls hl => ?_)
                              refine lv_goto (tgt := 6) hx hb dL_wrong_209 (by decide) ?_
                              exact ihO (k + 1) _ (by omega) (by show _ = smI (fun i => if alv (σ 0) (nI (ν i)) = true then wrg σ (nI (ν i)) else 0) k + (if alv (σ 0) (nI (ν k)) = true then wrg σ (nI (ν k)) else 0); rw [if_pos c_33, ← hx9, hy9, show i = 6 by omega]; rfl) ls (lv_sub hl [1, 2, 3, 4, 5, 0] rfl)
                            · exact absurd (nI_le (a := 6) (b := i) (by omega) (by omega)) c_45
                          | succ d ih =>
                            intro i y hi9 hy9 ls hl
                            refine lv_iload hx hb dL_wrong_144 (lv_at hl 8 rfl) ?_
                            refine lv_bipush (v := 6) hx hb dL_wrong_146 (by decide) ?_
                            refine lv_icmp_ge (tgt := 206) hx hb dL_wrong_148 (by decide) (fun c_46 => ?_) (fun c_46 => ?_)
                            · exact absurd c_46 (nI_ge (a := i) (b := 6) (by omega) (by omega))
                            · refine lv_iload hx hb dL_wrong_151 (lv_at hl 4 rfl) ?_
                              refine lv_aload_n hx hb dL_wrong_153 rfl (lv_at hl 1 rfl) ?_
                              refine lv_bipush (v := 10) hx hb dL_wrong_154 (by decide) ?_
                              refine lv_iload hx hb dL_wrong_156 (lv_at hl 5 rfl) ?_
                              refine lv_iadd hx hb dL_wrong_158 ?_
                              refine co_eq (show (10 : Int32) + (nI k) = (nI (10 + k)) from nI_add 10 k) ?_
                              refine va_iald hx hb hK hP 1 0 rfl rfl (vp_in_nI (n := (10 + k)) (N := 27) (by omega) (by decide)) dL_wrong_159 ?_
                              refine co_eq (y := bI (alv (σ 0) (nI (ν k)))) (rq_l hR (show k < 10 by omega)) ?_
                              refine lv_iconst (v := 1) hx hb dL_wrong_160 (by decide) ?_
                              refine co_icmpne1 (tgt := 196) S dL_wrong_161 (by decide) (fun c_47 => ?_) (fun c_47 => ?_)
                              · exact absurd (c_47.symm.trans c_43) (by decide)
                              · refine lv_aload_n hx hb dL_wrong_164 rfl (lv_at hl 3 rfl) ?_
                                refine lv_bipush (v := 6) hx hb dL_wrong_165 (by decide) ?_
                                refine lv_iload hx hb dL_wrong_167 (lv_at hl 5 rfl) ?_
                                refine lv_imul hx hb dL_wrong_169 ?_
                                refine co_eq (show (6 : Int32) * (nI k) = (nI (6 * k)) from pk_mul 6 k) ?_
                                refine lv_iload hx hb dL_wrong_170 (lv_at hl 8 rfl) ?_
                                refine lv_iadd hx hb dL_wrong_172 ?_
                                refine co_eq (show (nI (6 * k)) + (nI i) = (nI ((6 * k) + i)) from nI_add (6 * k) i) ?_
                                refine va_iald hx hb hK hP 3 0 rfl rfl (vp_in_nI (n := ((6 * k) + i)) (N := 60) (by omega) (by decide)) dL_wrong_173 ?_
                                refine co_eq (rq_f1 hR ⟨tn9, c_33⟩ (Rq.dn hR (show k < 10 by omega)) i (by omega) (i := (6 * k) + i) (by omega)) ?_
                                refine lv_iload hx hb dL_wrong_174 (lv_at hl 6 rfl) ?_
                                refine lv_iconst (v := 1) hx hb dL_wrong_176 (by decide) ?_
                                refine lv_iload hx hb dL_wrong_177 (lv_at hl 8 rfl) ?_
                                refine lv_ishl hx hb dL_wrong_179 ?_
                                refine lv_iadd hx hb dL_wrong_180 ?_
                                refine lv_bipush (v := 64) hx hb dL_wrong_181 (by decide) ?_
                                refine lv_irem hx hb dL_wrong_183 (by decide) ?_
                                refine co_eq (fg_rem tn9 (show i < 6 by omega)) ?_
                                refine lv_aload_n hx hb dL_wrong_184 rfl (lv_at hl 0 rfl) ?_
                                refine lv_aload_n hx hb dL_wrong_185 rfl (lv_at hl 1 rfl) ?_
                                refine co_rS (As := [.int (nI (((ν k) + 2 ^ i) % 64)), .ref (q 0), .ref (q 1)]) (rest := [.int (tat 6 (σ 3) (nI (ν k)) (nI i)), .int y]) S (c_L_owner l G Z q ν δ κ σ τ hR (((ν k) + 2 ^ i) % 64) (Nat.mod_lt _ (by decide))) (va_cwS 3 hts gL_wrong_L_owner rfl rfl rfl (by decide +kernel) ⟨Nat.le_of_ble_eq_true rfl, Nat.le_of_ble_eq_true rfl⟩) hK hP rfl hl.1 rfl (Nat.le_of_ble_eq_true rfl) dL_wrong_186 ⟨Nat.zero_le _, Nat.zero_le _⟩ ?_
                                refine lv_icmp_eq (tgt := 196) hx hb dL_wrong_189 (by decide) (fun c_48 => ?_) (fun c_48 => ?_)
                                · refine lv_iconst (v := 0) hx hb dL_wrong_196 (by decide) ?_
                                  refine lv_iadd hx hb dL_wrong_197 ?_
                                  refine lv_istore (lv' := [(4, .int (y + 0)), (0, .ref (q 0)), (1, .ref (q 1)), (2, .ref (q 2)), (3, .ref (q 3)), (5, .int (nI k)), (6, .int (nI (ν k))), (7, .int (nI b₀)), (8, .int (nI i))]) hx hb dL_wrong_198 hl (by decide) rfl (fun ls hl => ?_)
                                  refine lv_iinc (v := (nI (i + 1))) (lv' := [(8, .int (nI (i + 1))), (4, .int (y + 0)), (0, .ref (q 0)), (1, .ref (q 1)), (2, .ref (q 2)), (3, .ref (q 3)), (5, .int (nI k)), (6, .int (nI (ν k))), (7, .int (nI b₀))]) hx hb dL_wrong_200 hl (k := 8) rfl (nI_1 i) (by decide) rfl (fun ls hl => ?_)
                                  refine lv_goto (tgt := 144) hx hb dL_wrong_203 (by decide) ?_
                                  exact ih (i + 1) _ (by omega) (by rw [hy9, wF, fgs_nI tn9 (show i < 6 by omega)]; simp only [(eq_true c_48), Int32.add_assoc, Int32.add_zero, ↓reduceIte]) ls (lv_sub hl [2, 3, 4, 5, 1, 6, 7, 8, 0] rfl)
                                · refine lv_iconst (v := 1) hx hb dL_wrong_192 (by decide) ?_
                                  refine lv_goto (tgt := 197) hx hb dL_wrong_193 (by decide) ?_
                                  refine lv_iadd hx hb dL_wrong_197 ?_
                                  refine lv_istore (lv' := [(4, .int (y + 1)), (0, .ref (q 0)), (1, .ref (q 1)), (2, .ref (q 2)), (3, .ref (q 3)), (5, .int (nI k)), (6, .int (nI (ν k))), (7, .int (nI b₀)), (8, .int (nI i))]) hx hb dL_wrong_198 hl (by decide) rfl (fun ls hl => ?_)
                                  refine lv_iinc (v := (nI (i + 1))) (lv' := [(8, .int (nI (i + 1))), (4, .int (y + 1)), (0, .ref (q 0)), (1, .ref (q 1)), (2, .ref (q 2)), (3, .ref (q 3)), (5, .int (nI k)), (6, .int (nI (ν k))), (7, .int (nI b₀))]) hx hb dL_wrong_200 hl (k := 8) rfl (nI_1 i) (by decide) rfl (fun ls hl => ?_)
                                  refine lv_goto (tgt := 144) hx hb dL_wrong_203 (by decide) ?_
                                  exact ih (i + 1) _ (by omega) (by rw [hy9, wF, fgs_nI tn9 (show i < 6 by omega)]; simp only [c_48, Int32.add_assoc, Int32.add_zero, ↓reduceIte]) ls (lv_sub hl [2, 3, 4, 5, 1, 6, 7, 8, 0] rfl)
                        exact LP3 6 0 _ rfl (by simp only [wF, w1S, w2S, show onw (nI (ν k)) 1 = nI ((ν k + 1) % 64) from onw_nI (k := 1) tn9 (by decide), ej_41, hb9, (eq_true c_42), (eq_true c_44), Int32.add_zero, Int32.zero_add, Int32.add_assoc, ↓reduceIte]) ls (lv_sub hl [2, 3, 4, 5, 1, 6, 7, 8, 0] rfl)
                      · refine lv_iconst (v := 1) hx hb dL_wrong_133 (by decide) ?_
                        refine lv_goto (tgt := 138) hx hb dL_wrong_134 (by decide) ?_
                        refine lv_iadd hx hb dL_wrong_138 ?_
                        refine lv_istore (lv' := [(4, .int ((x + 0) + 1)), (0, .ref (q 0)), (1, .ref (q 1)), (2, .ref (q 2)), (3, .ref (q 3)), (5, .int (nI k)), (6, .int (nI (ν k))), (7, .int (nI b₀))]) hx hb dL_wrong_139 hl (by decide) rfl (fun ls hl => ?_)
                        refine lv_iconst (v := 0) hx hb dL_wrong_141 (by decide) ?_
                        refine lv_istore (lv' := [(8, .int 0), (4, .int ((x + 0) + 1)), (0, .ref (q 0)), (1, .ref (q 1)), (2, .ref (q 2)), (3, .ref (q 3)), (5, .int (nI k)), (6, .int (nI (ν k))), (7, .int (nI b₀))]) hx hb dL_wrong_142 hl (by decide) rfl (fun ls hl => ?_)
                        have LP3 : ∀ (d : Nat) (i : Nat) (y : Int32), i + d = 6 → y = x + wF (σ 0) (σ 3) (nI (ν k)) (w2S (σ 0) (σ 2) (nI (ν k)) (w1S (σ 0) (σ 1) (nI (ν k)))) i → ∀ ls : Array Slot, lv_has ls 9 [(0, .ref (q 0)), (1, .ref (q 1)), (2, .ref (q 2)), (3, .ref (q 3)), (4, .int y), (5, .int (nI k)), (6, .int (nI (ν k))), (7, .int (nI b₀)), (8, .int (nI i))] → W p l e rm_L_wrong s m args below meth c s.heap [] 0 0 (QR below (cwp σ 64) args s) (F0 m 144 ls []) := by
                          intro d
                          induction d with
                          | zero =>
                            intro i y hi9 hy9 ls hl
                            refine lv_iload hx hb dL_wrong_144 (lv_at hl 8 rfl) ?_
                            refine lv_bipush (v := 6) hx hb dL_wrong_146 (by decide) ?_
                            refine lv_icmp_ge (tgt := 206) hx hb dL_wrong_148 (by decide) (fun c_49 => ?_) (fun c_49 => ?_)
                            · refine lv_iinc (v := (nI (k + 1))) (lv' := [(5, .int (nI (k + 1))), (0, .ref (q 0)), (1, .ref (q 1)), (2, .ref (q 2)), (3, .ref (q 3)), (4, .int y), (6, .int (nI (ν k))), (7, .int (nI b₀)), (8, .int (nI i))]) hx hb dL_wrong_206 hl (k := 5) rfl (nI_1 k) (by decide) rfl (fun ls hl => ?_)
                              refine lv_goto (tgt := 6) hx hb dL_wrong_209 (by decide) ?_
                              exact ihO (k + 1) _ (by omega) (by show _ = smI (fun i => if alv (σ 0) (nI (ν i)) = true then wrg σ (nI (ν i)) else 0) k + (if alv (σ 0) (nI (ν k)) = true then wrg σ (nI (ν k)) else 0); rw [if_pos c_33, ← hx9, hy9, show i = 6 by omega]; rfl) ls (lv_sub hl [1, 2, 3, 4, 5, 0] rfl)
                            · exact absurd (nI_le (a := 6) (b := i) (by omega) (by omega)) c_49
                          | succ d ih =>
                            intro i y hi9 hy9 ls hl
                            refine lv_iload hx hb dL_wrong_144 (lv_at hl 8 rfl) ?_
                            refine lv_bipush (v := 6) hx hb dL_wrong_146 (by decide) ?_
                            refine lv_icmp_ge (tgt := 206) hx hb dL_wrong_148 (by decide) (fun c_50 => ?_) (fun c_50 => ?_)
                            · exact absurd c_50 (nI_ge (a := i) (b := 6) (by omega) (by omega))
                            · refine lv_iload hx hb dL_wrong_151 (lv_at hl 4 rfl) ?_
                              refine lv_aload_n hx hb dL_wrong_153 rfl (lv_at hl 1 rfl) ?_
                              refine lv_bipush (v := 10) hx hb dL_wrong_154 (by decide) ?_
                              refine lv_iload hx hb dL_wrong_156 (lv_at hl 5 rfl) ?_
                              refine lv_iadd hx hb dL_wrong_158 ?_
                              refine co_eq (show (10 : Int32) + (nI k) = (nI (10 + k)) from nI_add 10 k) ?_
                              refine va_iald hx hb hK hP 1 0 rfl rfl (vp_in_nI (n := (10 + k)) (N := 27) (by omega) (by decide)) dL_wrong_159 ?_
                              refine co_eq (y := bI (alv (σ 0) (nI (ν k)))) (rq_l hR (show k < 10 by omega)) ?_
                              refine lv_iconst (v := 1) hx hb dL_wrong_160 (by decide) ?_
                              refine co_icmpne1 (tgt := 196) S dL_wrong_161 (by decide) (fun c_51 => ?_) (fun c_51 => ?_)
                              · exact absurd (c_51.symm.trans c_43) (by decide)
                              · refine lv_aload_n hx hb dL_wrong_164 rfl (lv_at hl 3 rfl) ?_
                                refine lv_bipush (v := 6) hx hb dL_wrong_165 (by decide) ?_
                                refine lv_iload hx hb dL_wrong_167 (lv_at hl 5 rfl) ?_
                                refine lv_imul hx hb dL_wrong_169 ?_
                                refine co_eq (show (6 : Int32) * (nI k) = (nI (6 * k)) from pk_mul 6 k) ?_
                                refine lv_iload hx hb dL_wrong_170 (lv_at hl 8 rfl) ?_
                                refine lv_iadd hx hb dL_wrong_172 ?_
                                refine co_eq (show (nI (6 * k)) + (nI i) = (nI ((6 * k) + i)) from nI_add (6 * k) i) ?_
                                refine va_iald hx hb hK hP 3 0 rfl rfl (vp_in_nI (n := ((6 * k) + i)) (N := 60) (by omega) (by decide)) dL_wrong_173 ?_
                                refine co_eq (rq_f1 hR ⟨tn9, c_33⟩ (Rq.dn hR (show k < 10 by omega)) i (by omega) (i := (6 * k) + i) (by omega)) ?_
                                refine lv_iload hx hb dL_wrong_174 (lv_at hl 6 rfl) ?_
                                refine lv_iconst (v := 1) hx hb dL_wrong_176 (by decide) ?_
                                refine lv_iload hx hb dL_wrong_177 (lv_at hl 8 rfl) ?_
                                refine lv_ishl hx hb dL_wrong_179 ?_
                                refine lv_iadd hx hb dL_wrong_180 ?_
                                refine lv_bipush (v := 64) hx hb dL_wrong_181 (by decide) ?_
                                refine lv_irem hx hb dL_wrong_183 (by decide) ?_
                                refine co_eq (fg_rem tn9 (show i < 6 by omega)) ?_
                                refine lv_aload_n hx hb dL_wrong_184 rfl (lv_at hl 0 rfl) ?_
                                refine lv_aload_n hx hb dL_wrong_185 rfl (lv_at hl 1 rfl) ?_
                                refine co_rS (As := [.int (nI (((ν k) + 2 ^ i) % 64)), .ref (q 0), .ref (q 1)]) (rest := [.int (tat 6 (σ 3) (nI (ν k)) (nI i)), .int y]) S (c_L_owner l G Z q ν δ κ σ τ hR (((ν k) + 2 ^ i) % 64) (Nat.mod_lt _ (by decide))) (va_cwS 3 hts gL_wrong_L_owner rfl rfl rfl (by decide +kernel) ⟨Nat.le_of_ble_eq_true rfl, Nat.le_of_ble_eq_true rfl⟩) hK hP rfl hl.1 rfl (Nat.le_of_ble_eq_true rfl) dL_wrong_186 ⟨Nat.zero_le _, Nat.zero_le _⟩ ?_
                                refine lv_icmp_eq (tgt := 196) hx hb dL_wrong_189 (by decide) (fun c_52 => ?_) (fun c_52 => ?_)
                                · refine lv_iconst (v := 0) hx hb dL_wrong_196 (by decide) ?_
                                  refine lv_iadd hx hb dL_wrong_197 ?_
                                  refine lv_istore (lv' := [(4, .int (y + 0)), (0, .ref (q 0)), (1, .ref (q 1)), (2, .ref (q 2)), (3, .ref (q 3)), (5, .int (nI k)), (6, .int (nI (ν k))), (7, .int (nI b₀)), (8, .int (nI i))]) hx hb dL_wrong_198 hl (by decide) rfl (fun ls hl => ?_)
                                  refine lv_iinc (v := (nI (i + 1))) (lv' := [(8, .int (nI (i + 1))), (4, .int (y + 0)), (0, .ref (q 0)), (1, .ref (q 1)), (2, .ref (q 2)), (3, .ref (q 3)), (5, .int (nI k)), (6, .int (nI (ν k))), (7, .int (nI b₀))]) hx hb dL_wrong_200 hl (k := 8) rfl (nI_1 i) (by decide) rfl (fun ls hl => ?_)
                                  refine lv_goto (tgt := 144) hx hb dL_wrong_203 (by decide) ?_
                                  exact ih (i + 1) _ (by omega) (by rw [hy9, wF, fgs_nI tn9 (show i < 6 by omega)]; simp only [(eq_true c_52), Int32.add_assoc, Int32.add_zero, ↓reduceIte]) ls (lv_sub hl [2, 3, 4, 5, 1, 6, 7, 8, 0] rfl)
                                · refine lv_iconst (v := 1) hx hb dL_wrong_192 (by decide) ?_
                                  refine lv_goto (tgt := 197) hx hb dL_wrong_193 (by decide) ?_
                                  refine lv_iadd hx hb dL_wrong_197 ?_
                                  refine lv_istore (lv' := [(4, .int (y + 1)), (0, .ref (q 0)), (1, .ref (q 1)), (2, .ref (q 2)), (3, .ref (q 3)), (5, .int (nI k)), (6, .int (nI (ν k))), (7, .int (nI b₀)), (8, .int (nI i))]) hx hb dL_wrong_198 hl (by decide) rfl (fun ls hl => ?_)
                                  refine lv_iinc (v := (nI (i + 1))) (lv' := [(8, .int (nI (i + 1))), (4, .int (y + 1)), (0, .ref (q 0)), (1, .ref (q 1)), (2, .ref (q 2)), (3, .ref (q 3)), (5, .int (nI k)), (6, .int (nI (ν k))), (7, .int (nI b₀))]) hx hb dL_wrong_200 hl (k := 8) rfl (nI_1 i) (by decide) rfl (fun ls hl => ?_)
                                  refine lv_goto (tgt := 144) hx hb dL_wrong_203 (by decide) ?_
                                  exact ih (i + 1) _ (by omega) (by rw [hy9, wF, fgs_nI tn9 (show i < 6 by omega)]; simp only [c_52, Int32.add_assoc, Int32.add_zero, ↓reduceIte]) ls (lv_sub hl [2, 3, 4, 5, 1, 6, 7, 8, 0] rfl)
                        exact LP3 6 0 _ rfl (by simp only [wF, w1S, w2S, show onw (nI (ν k)) 1 = nI ((ν k + 1) % 64) from onw_nI (k := 1) tn9 (by decide), ej_41, hb9, (eq_true c_42), c_44, Int32.add_zero, Int32.zero_add, Int32.add_assoc, ↓reduceIte]) ls (lv_sub hl [2, 3, 4, 5, 1, 6, 7, 8, 0] rfl)
                  · refine lv_iconst (v := 1) hx hb dL_wrong_99 (by decide) ?_
                    refine lv_goto (tgt := 104) hx hb dL_wrong_100 (by decide) ?_
                    refine lv_iadd hx hb dL_wrong_104 ?_
                    refine lv_istore (lv' := [(4, .int (x + 1)), (0, .ref (q 0)), (1, .ref (q 1)), (2, .ref (q 2)), (3, .ref (q 3)), (5, .int (nI k)), (6, .int (nI (ν k))), (7, .int (nI b₀))]) hx hb dL_wrong_105 hl (by decide) rfl (fun ls hl => ?_)
                    refine lv_iload hx hb dL_wrong_107 (lv_at hl 0 rfl) ?_
                    refine lv_aload_n hx hb dL_wrong_109 rfl (lv_at hl 2 rfl) ?_
                    refine lv_bipush (v := 10) hx hb dL_wrong_110 (by decide) ?_
                    refine lv_iload hx hb dL_wrong_112 (lv_at hl 5 rfl) ?_
                    refine lv_iadd hx hb dL_wrong_114 ?_
                    refine co_eq (show (10 : Int32) + (nI k) = (nI (10 + k)) from nI_add 10 k) ?_
                    refine va_iald hx hb hK hP 1 0 rfl rfl (vp_in_nI (n := (10 + k)) (N := 27) (by omega) (by decide)) dL_wrong_115 ?_
                    refine co_eq (y := bI (alv (σ 0) (nI (ν k)))) (rq_l hR (show k < 10 by omega)) ?_
                    refine lv_iconst (v := 1) hx hb dL_wrong_116 (by decide) ?_
                    refine co_icmpne1 (tgt := 137) S dL_wrong_117 (by decide) (fun c_53 => ?_) (fun c_53 => ?_)
                    · exact absurd (c_53.symm.trans c_40) (by decide)
                    · refine lv_aload_n hx hb dL_wrong_120 rfl (lv_at hl 3 rfl) ?_
                      refine lv_iconst (v := 4) hx hb dL_wrong_121 (by decide) ?_
                      refine lv_iload hx hb dL_wrong_122 (lv_at hl 5 rfl) ?_
                      refine lv_imul hx hb dL_wrong_124 ?_
                      refine co_eq (show (4 : Int32) * (nI k) = (nI (4 * k)) from pk_mul 4 k) ?_
                      refine lv_iconst (v := 3) hx hb dL_wrong_125 (by decide) ?_
                      refine lv_iadd hx hb dL_wrong_126 ?_
                      refine co_eq (show (nI (4 * k)) + (3 : Int32) = (nI ((4 * k) + 3)) from nI_add (4 * k) 3) ?_
                      refine va_iald hx hb hK hP 2 0 rfl rfl (vp_in_nI (n := ((4 * k) + 3)) (N := 40) (by omega) (by decide)) dL_wrong_127 ?_
                      refine co_eq (rq_p1 hR ⟨tn9, c_33⟩ (Rq.dn hR (show k < 10 by omega)) (i := (4 * k) + 3) (by omega)) ?_
                      refine lv_iload hx hb dL_wrong_128 (lv_at hl 7 rfl) ?_
                      refine lv_icmp_eq (tgt := 137) hx hb dL_wrong_130 (by decide) (fun c_54 => ?_) (fun c_54 => ?_)
                      · refine lv_iconst (v := 0) hx hb dL_wrong_137 (by decide) ?_
                        refine lv_iadd hx hb dL_wrong_138 ?_
                        refine lv_istore (lv' := [(4, .int ((x + 1) + 0)), (0, .ref (q 0)), (1, .ref (q 1)), (2, .ref (q 2)), (3, .ref (q 3)), (5, .int (nI k)), (6, .int (nI (ν k))), (7, .int (nI b₀))]) hx hb dL_wrong_139 hl (by decide) rfl (fun ls hl => ?_)
                        refine lv_iconst (v := 0) hx hb dL_wrong_141 (by decide) ?_
                        refine lv_istore (lv' := [(8, .int 0), (4, .int ((x + 1) + 0)), (0, .ref (q 0)), (1, .ref (q 1)), (2, .ref (q 2)), (3, .ref (q 3)), (5, .int (nI k)), (6, .int (nI (ν k))), (7, .int (nI b₀))]) hx hb dL_wrong_142 hl (by decide) rfl (fun ls hl => ?_)
                        have LP3 : ∀ (d : Nat) (i : Nat) (y : Int32), i + d = 6 → y = x + wF (σ 0) (σ 3) (nI (ν k)) (w2S (σ 0) (σ 2) (nI (ν k)) (w1S (σ 0) (σ 1) (nI (ν k)))) i → ∀ ls : Array Slot, lv_has ls 9 [(0, .ref (q 0)), (1, .ref (q 1)), (2, .ref (q 2)), (3, .ref (q 3)), (4, .int y), (5, .int (nI k)), (6, .int (nI (ν k))), (7, .int (nI b₀)), (8, .int (nI i))] → W p l e rm_L_wrong s m args below meth c s.heap [] 0 0 (QR below (cwp σ 64) args s) (F0 m 144 ls []) := by
                          intro d
                          induction d with
                          | zero =>
                            intro i y hi9 hy9 ls hl
                            refine lv_iload hx hb dL_wrong_144 (lv_at hl 8 rfl) ?_
                            refine lv_bipush (v := 6) hx hb dL_wrong_146 (by decide) ?_
                            refine lv_icmp_ge (tgt := 206) hx hb dL_wrong_148 (by decide) (fun c_55 => ?_) (fun c_55 => ?_)
                            · refine lv_iinc (v := (nI (k + 1))) (lv' := [(5, .int (nI (k + 1))), (0, .ref (q 0)), (1, .ref (q 1)), (2, .ref (q 2)), (3, .ref (q 3)), (4, .int y), (6, .int (nI (ν k))), (7, .int (nI b₀)), (8, .int (nI i))]) hx hb dL_wrong_206 hl (k := 5) rfl (nI_1 k) (by decide) rfl (fun ls hl => ?_)
                              refine lv_goto (tgt := 6) hx hb dL_wrong_209 (by decide) ?_
                              exact ihO (k + 1) _ (by omega) (by show _ = smI (fun i => if alv (σ 0) (nI (ν i)) = true then wrg σ (nI (ν i)) else 0) k + (if alv (σ 0) (nI (ν k)) = true then wrg σ (nI (ν k)) else 0); rw [if_pos c_33, ← hx9, hy9, show i = 6 by omega]; rfl) ls (lv_sub hl [1, 2, 3, 4, 5, 0] rfl)
                            · exact absurd (nI_le (a := 6) (b := i) (by omega) (by omega)) c_55
                          | succ d ih =>
                            intro i y hi9 hy9 ls hl
                            refine lv_iload hx hb dL_wrong_144 (lv_at hl 8 rfl) ?_
                            refine lv_bipush (v := 6) hx hb dL_wrong_146 (by decide) ?_
                            refine lv_icmp_ge (tgt := 206) hx hb dL_wrong_148 (by decide) (fun c_56 => ?_) (fun c_56 => ?_)
                            · exact absurd c_56 (nI_ge (a := i) (b := 6) (by omega) (by omega))
                            · refine lv_iload hx hb dL_wrong_151 (lv_at hl 4 rfl) ?_
                              refine lv_aload_n hx hb dL_wrong_153 rfl (lv_at hl 1 rfl) ?_
                              refine lv_bipush (v := 10) hx hb dL_wrong_154 (by decide) ?_
                              refine lv_iload hx hb dL_wrong_156 (lv_at hl 5 rfl) ?_
                              refine lv_iadd hx hb dL_wrong_158 ?_
                              refine co_eq (show (10 : Int32) + (nI k) = (nI (10 + k)) from nI_add 10 k) ?_
                              refine va_iald hx hb hK hP 1 0 rfl rfl (vp_in_nI (n := (10 + k)) (N := 27) (by omega) (by decide)) dL_wrong_159 ?_
                              refine co_eq (y := bI (alv (σ 0) (nI (ν k)))) (rq_l hR (show k < 10 by omega)) ?_
                              refine lv_iconst (v := 1) hx hb dL_wrong_160 (by decide) ?_
                              refine co_icmpne1 (tgt := 196) S dL_wrong_161 (by decide) (fun c_57 => ?_) (fun c_57 => ?_)
                              · exact absurd (c_57.symm.trans c_53) (by decide)
                              · refine lv_aload_n hx hb dL_wrong_164 rfl (lv_at hl 3 rfl) ?_
                                refine lv_bipush (v := 6) hx hb dL_wrong_165 (by decide) ?_
                                refine lv_iload hx hb dL_wrong_167 (lv_at hl 5 rfl) ?_
                                refine lv_imul hx hb dL_wrong_169 ?_
                                refine co_eq (show (6 : Int32) * (nI k) = (nI (6 * k)) from pk_mul 6 k) ?_
                                refine lv_iload hx hb dL_wrong_170 (lv_at hl 8 rfl) ?_
                                refine lv_iadd hx hb dL_wrong_172 ?_
                                refine co_eq (show (nI (6 * k)) + (nI i) = (nI ((6 * k) + i)) from nI_add (6 * k) i) ?_
                                refine va_iald hx hb hK hP 3 0 rfl rfl (vp_in_nI (n := ((6 * k) + i)) (N := 60) (by omega) (by decide)) dL_wrong_173 ?_
                                refine co_eq (rq_f1 hR ⟨tn9, c_33⟩ (Rq.dn hR (show k < 10 by omega)) i (by omega) (i := (6 * k) + i) (by omega)) ?_
                                refine lv_iload hx hb dL_wrong_174 (lv_at hl 6 rfl) ?_
                                refine lv_iconst (v := 1) hx hb dL_wrong_176 (by decide) ?_
                                refine lv_iload hx hb dL_wrong_177 (lv_at hl 8 rfl) ?_
                                refine lv_ishl hx hb dL_wrong_179 ?_
                                refine lv_iadd hx hb dL_wrong_180 ?_
                                refine lv_bipush (v := 64) hx hb dL_wrong_181 (by decide) ?_
                                refine lv_irem hx hb dL_wrong_183 (by decide) ?_
                                refine co_eq (fg_rem tn9 (show i < 6 by omega)) ?_
                                refine lv_aload_n hx hb dL_wrong_184 rfl (lv_at hl 0 rfl) ?_
                                refine lv_aload_n hx hb dL_wrong_185 rfl (lv_at hl 1 rfl) ?_
                                refine co_rS (As := [.int (nI (((ν k) + 2 ^ i) % 64)), .ref (q 0), .ref (q 1)]) (rest := [.int (tat 6 (σ 3) (nI (ν k)) (nI i)), .int y]) S (c_L_owner l G Z q ν δ κ σ τ hR (((ν k) + 2 ^ i) % 64) (Nat.mod_lt _ (by decide))) (va_cwS 3 hts gL_wrong_L_owner rfl rfl rfl (by decide +kernel) ⟨Nat.le_of_ble_eq_true rfl, Nat.le_of_ble_eq_true rfl⟩) hK hP rfl hl.1 rfl (Nat.le_of_ble_eq_true rfl) dL_wrong_186 ⟨Nat.zero_le _, Nat.zero_le _⟩ ?_
                                refine lv_icmp_eq (tgt := 196) hx hb dL_wrong_189 (by decide) (fun c_58 => ?_) (fun c_58 => ?_)
                                · refine lv_iconst (v := 0) hx hb dL_wrong_196 (by decide) ?_
                                  refine lv_iadd hx hb dL_wrong_197 ?_
                                  refine lv_istore (lv' := [(4, .int (y + 0)), (0, .ref (q 0)), (1, .ref (q 1)), (2, .ref (q 2)), (3, .ref (q 3)), (5, .int (nI k)), (6, .int (nI (ν k))), (7, .int (nI b₀)), (8, .int (nI i))]) hx hb dL_wrong_198 hl (by decide) rfl (fun ls hl => ?_)
                                  refine lv_iinc (v := (nI (i + 1))) (lv' := [(8, .int (nI (i + 1))), (4, .int (y + 0)), (0, .ref (q 0)), (1, .ref (q 1)), (2, .ref (q 2)), (3, .ref (q 3)), (5, .int (nI k)), (6, .int (nI (ν k))), (7, .int (nI b₀))]) hx hb dL_wrong_200 hl (k := 8) rfl (nI_1 i) (by decide) rfl (fun ls hl => ?_)
                                  refine lv_goto (tgt := 144) hx hb dL_wrong_203 (by decide) ?_
                                  exact ih (i + 1) _ (by omega) (by rw [hy9, wF, fgs_nI tn9 (show i < 6 by omega)]; simp only [(eq_true c_58), Int32.add_assoc, Int32.add_zero, ↓reduceIte]) ls (lv_sub hl [2, 3, 4, 5, 1, 6, 7, 8, 0] rfl)
                                · refine lv_iconst (v := 1) hx hb dL_wrong_192 (by decide) ?_
                                  refine lv_goto (tgt := 197) hx hb dL_wrong_193 (by decide) ?_
                                  refine lv_iadd hx hb dL_wrong_197 ?_
                                  refine lv_istore (lv' := [(4, .int (y + 1)), (0, .ref (q 0)), (1, .ref (q 1)), (2, .ref (q 2)), (3, .ref (q 3)), (5, .int (nI k)), (6, .int (nI (ν k))), (7, .int (nI b₀)), (8, .int (nI i))]) hx hb dL_wrong_198 hl (by decide) rfl (fun ls hl => ?_)
                                  refine lv_iinc (v := (nI (i + 1))) (lv' := [(8, .int (nI (i + 1))), (4, .int (y + 1)), (0, .ref (q 0)), (1, .ref (q 1)), (2, .ref (q 2)), (3, .ref (q 3)), (5, .int (nI k)), (6, .int (nI (ν k))), (7, .int (nI b₀))]) hx hb dL_wrong_200 hl (k := 8) rfl (nI_1 i) (by decide) rfl (fun ls hl => ?_)
                                  refine lv_goto (tgt := 144) hx hb dL_wrong_203 (by decide) ?_
                                  exact ih (i + 1) _ (by omega) (by rw [hy9, wF, fgs_nI tn9 (show i < 6 by omega)]; simp only [c_58, Int32.add_assoc, Int32.add_zero, ↓reduceIte]) ls (lv_sub hl [2, 3, 4, 5, 1, 6, 7, 8, 0] rfl)
                        exact LP3 6 0 _ rfl (by simp only [wF, w1S, w2S, show onw (nI (ν k)) 1 = nI ((ν k + 1) % 64) from onw_nI (k := 1) tn9 (by decide), ej_41, hb9, c_42, (eq_true c_54), Int32.add_zero, Int32.zero_add, Int32.add_assoc, ↓reduceIte]) ls (lv_sub hl [2, 3, 4, 5, 1, 6, 7, 8, 0] rfl)
                      · refine lv_iconst (v := 1) hx hb dL_wrong_133 (by decide) ?_
                        refine lv_goto (tgt := 138) hx hb dL_wrong_134 (by decide) ?_
                        refine lv_iadd hx hb dL_wrong_138 ?_
                        refine lv_istore (lv' := [(4, .int ((x + 1) + 1)), (0, .ref (q 0)), (1, .ref (q 1)), (2, .ref (q 2)), (3, .ref (q 3)), (5, .int (nI k)), (6, .int (nI (ν k))), (7, .int (nI b₀))]) hx hb dL_wrong_139 hl (by decide) rfl (fun ls hl => ?_)
                        refine lv_iconst (v := 0) hx hb dL_wrong_141 (by decide) ?_
                        refine lv_istore (lv' := [(8, .int 0), (4, .int ((x + 1) + 1)), (0, .ref (q 0)), (1, .ref (q 1)), (2, .ref (q 2)), (3, .ref (q 3)), (5, .int (nI k)), (6, .int (nI (ν k))), (7, .int (nI b₀))]) hx hb dL_wrong_142 hl (by decide) rfl (fun ls hl => ?_)
                        have LP3 : ∀ (d : Nat) (i : Nat) (y : Int32), i + d = 6 → y = x + wF (σ 0) (σ 3) (nI (ν k)) (w2S (σ 0) (σ 2) (nI (ν k)) (w1S (σ 0) (σ 1) (nI (ν k)))) i → ∀ ls : Array Slot, lv_has ls 9 [(0, .ref (q 0)), (1, .ref (q 1)), (2, .ref (q 2)), (3, .ref (q 3)), (4, .int y), (5, .int (nI k)), (6, .int (nI (ν k))), (7, .int (nI b₀)), (8, .int (nI i))] → W p l e rm_L_wrong s m args below meth c s.heap [] 0 0 (QR below (cwp σ 64) args s) (F0 m 144 ls []) := by
                          intro d
                          induction d with
                          | zero =>
                            intro i y hi9 hy9 ls hl
                            refine lv_iload hx hb dL_wrong_144 (lv_at hl 8 rfl) ?_
                            refine lv_bipush (v := 6) hx hb dL_wrong_146 (by decide) ?_
                            refine lv_icmp_ge (tgt := 206) hx hb dL_wrong_148 (by decide) (fun c_59 => ?_) (fun c_59 => ?_)
                            · refine lv_iinc (v := (nI (k + 1))) (lv' := [(5, .int (nI (k + 1))), (0, .ref (q 0)), (1, .ref (q 1)), (2, .ref (q 2)), (3, .ref (q 3)), (4, .int y), (6, .int (nI (ν k))), (7, .int (nI b₀)), (8, .int (nI i))]) hx hb dL_wrong_206 hl (k := 5) rfl (nI_1 k) (by decide) rfl (fun ls hl => ?_)
                              refine lv_goto (tgt := 6) hx hb dL_wrong_209 (by decide) ?_
                              exact ihO (k + 1) _ (by omega) (by show _ = smI (fun i => if alv (σ 0) (nI (ν i)) = true then wrg σ (nI (ν i)) else 0) k + (if alv (σ 0) (nI (ν k)) = true then wrg σ (nI (ν k)) else 0); rw [if_pos c_33, ← hx9, hy9, show i = 6 by omega]; rfl) ls (lv_sub hl [1, 2, 3, 4, 5, 0] rfl)
                            · exact absurd (nI_le (a := 6) (b := i) (by omega) (by omega)) c_59
                          | succ d ih =>
                            intro i y hi9 hy9 ls hl
                            refine lv_iload hx hb dL_wrong_144 (lv_at hl 8 rfl) ?_
                            refine lv_bipush (v := 6) hx hb dL_wrong_146 (by decide) ?_
                            refine lv_icmp_ge (tgt := 206) hx hb dL_wrong_148 (by decide) (fun c_60 => ?_) (fun c_60 => ?_)
                            · exact absurd c_60 (nI_ge (a := i) (b := 6) (by omega) (by omega))
                            · refine lv_iload hx hb dL_wrong_151 (lv_at hl 4 rfl) ?_
                              refine lv_aload_n hx hb dL_wrong_153 rfl (lv_at hl 1 rfl) ?_
                              refine lv_bipush (v := 10) hx hb dL_wrong_154 (by decide) ?_
                              refine lv_iload hx hb dL_wrong_156 (lv_at hl 5 rfl) ?_
                              refine lv_iadd hx hb dL_wrong_158 ?_
                              refine co_eq (show (10 : Int32) + (nI k) = (nI (10 + k)) from nI_add 10 k) ?_
                              refine va_iald hx hb hK hP 1 0 rfl rfl (vp_in_nI (n := (10 + k)) (N := 27) (by omega) (by decide)) dL_wrong_159 ?_
                              refine co_eq (y := bI (alv (σ 0) (nI (ν k)))) (rq_l hR (show k < 10 by omega)) ?_
                              refine lv_iconst (v := 1) hx hb dL_wrong_160 (by decide) ?_
                              refine co_icmpne1 (tgt := 196) S dL_wrong_161 (by decide) (fun c_61 => ?_) (fun c_61 => ?_)
                              · exact absurd (c_61.symm.trans c_53) (by decide)
                              · refine lv_aload_n hx hb dL_wrong_164 rfl (lv_at hl 3 rfl) ?_
                                refine lv_bipush (v := 6) hx hb dL_wrong_165 (by decide) ?_
                                refine lv_iload hx hb dL_wrong_167 (lv_at hl 5 rfl) ?_
                                refine lv_imul hx hb dL_wrong_169 ?_
                                refine co_eq (show (6 : Int32) * (nI k) = (nI (6 * k)) from pk_mul 6 k) ?_
                                refine lv_iload hx hb dL_wrong_170 (lv_at hl 8 rfl) ?_
                                refine lv_iadd hx hb dL_wrong_172 ?_
                                refine co_eq (show (nI (6 * k)) + (nI i) = (nI ((6 * k) + i)) from nI_add (6 * k) i) ?_
                                refine va_iald hx hb hK hP 3 0 rfl rfl (vp_in_nI (n := ((6 * k) + i)) (N := 60) (by omega) (by decide)) dL_wrong_173 ?_
                                refine co_eq (rq_f1 hR ⟨tn9, c_33⟩ (Rq.dn hR (show k < 10 by omega)) i (by omega) (i := (6 * k) + i) (by omega)) ?_
                                refine lv_iload hx hb dL_wrong_174 (lv_at hl 6 rfl) ?_
                                refine lv_iconst (v := 1) hx hb dL_wrong_176 (by decide) ?_
                                refine lv_iload hx hb dL_wrong_177 (lv_at hl 8 rfl) ?_
                                refine lv_ishl hx hb dL_wrong_179 ?_
                                refine lv_iadd hx hb dL_wrong_180 ?_
                                refine lv_bipush (v := 64) hx hb dL_wrong_181 (by decide) ?_
                                refine lv_irem hx hb dL_wrong_183 (by decide) ?_
                                refine co_eq (fg_rem tn9 (show i < 6 by omega)) ?_
                                refine lv_aload_n hx hb dL_wrong_184 rfl (lv_at hl 0 rfl) ?_
                                refine lv_aload_n hx hb dL_wrong_185 rfl (lv_at hl 1 rfl) ?_
                                refine co_rS (As := [.int (nI (((ν k) + 2 ^ i) % 64)), .ref (q 0), .ref (q 1)]) (rest := [.int (tat 6 (σ 3) (nI (ν k)) (nI i)), .int y]) S (c_L_owner l G Z q ν δ κ σ τ hR (((ν k) + 2 ^ i) % 64) (Nat.mod_lt _ (by decide))) (va_cwS 3 hts gL_wrong_L_owner rfl rfl rfl (by decide +kernel) ⟨Nat.le_of_ble_eq_true rfl, Nat.le_of_ble_eq_true rfl⟩) hK hP rfl hl.1 rfl (Nat.le_of_ble_eq_true rfl) dL_wrong_186 ⟨Nat.zero_le _, Nat.zero_le _⟩ ?_
                                refine lv_icmp_eq (tgt := 196) hx hb dL_wrong_189 (by decide) (fun c_62 => ?_) (fun c_62 => ?_)
                                · refine lv_iconst (v := 0) hx hb dL_wrong_196 (by decide) ?_
                                  refine lv_iadd hx hb dL_wrong_197 ?_
                                  refine lv_istore (lv' := [(4, .int (y + 0)), (0, .ref (q 0)), (1, .ref (q 1)), (2, .ref (q 2)), (3, .ref (q 3)), (5, .int (nI k)), (6, .int (nI (ν k))), (7, .int (nI b₀)), (8, .int (nI i))]) hx hb dL_wrong_198 hl (by decide) rfl (fun ls hl => ?_)
                                  refine lv_iinc (v := (nI (i + 1))) (lv' := [(8, .int (nI (i + 1))), (4, .int (y + 0)), (0, .ref (q 0)), (1, .ref (q 1)), (2, .ref (q 2)), (3, .ref (q 3)), (5, .int (nI k)), (6, .int (nI (ν k))), (7, .int (nI b₀))]) hx hb dL_wrong_200 hl (k := 8) rfl (nI_1 i) (by decide) rfl (fun ls hl => ?_)
                                  refine lv_goto (tgt := 144) hx hb dL_wrong_203 (by decide) ?_
                                  exact ih (i + 1) _ (by omega) (by rw [hy9, wF, fgs_nI tn9 (show i < 6 by omega)]; simp only [(eq_true c_62), Int32.add_assoc, Int32.add_zero, ↓reduceIte]) ls (lv_sub hl [2, 3, 4, 5, 1, 6, 7, 8, 0] rfl)
                                · refine lv_iconst (v := 1) hx hb dL_wrong_192 (by decide) ?_
                                  refine lv_goto (tgt := 197) hx hb dL_wrong_193 (by decide) ?_
                                  refine lv_iadd hx hb dL_wrong_197 ?_
                                  refine lv_istore (lv' := [(4, .int (y + 1)), (0, .ref (q 0)), (1, .ref (q 1)), (2, .ref (q 2)), (3, .ref (q 3)), (5, .int (nI k)), (6, .int (nI (ν k))), (7, .int (nI b₀)), (8, .int (nI i))]) hx hb dL_wrong_198 hl (by decide) rfl (fun ls hl => ?_)
                                  refine lv_iinc (v := (nI (i + 1))) (lv' := [(8, .int (nI (i + 1))), (4, .int (y + 1)), (0, .ref (q 0)), (1, .ref (q 1)), (2, .ref (q 2)), (3, .ref (q 3)), (5, .int (nI k)), (6, .int (nI (ν k))), (7, .int (nI b₀))]) hx hb dL_wrong_200 hl (k := 8) rfl (nI_1 i) (by decide) rfl (fun ls hl => ?_)
                                  refine lv_goto (tgt := 144) hx hb dL_wrong_203 (by decide) ?_
                                  exact ih (i + 1) _ (by omega) (by rw [hy9, wF, fgs_nI tn9 (show i < 6 by omega)]; simp only [c_62, Int32.add_assoc, Int32.add_zero, ↓reduceIte]) ls (lv_sub hl [2, 3, 4, 5, 1, 6, 7, 8, 0] rfl)
                        exact LP3 6 0 _ rfl (by simp only [wF, w1S, w2S, show onw (nI (ν k)) 1 = nI ((ν k + 1) % 64) from onw_nI (k := 1) tn9 (by decide), ej_41, hb9, c_42, c_54, Int32.add_zero, Int32.zero_add, Int32.add_assoc, ↓reduceIte]) ls (lv_sub hl [2, 3, 4, 5, 1, 6, 7, 8, 0] rfl)
              · refine lv_iload hx hb dL_wrong_50 (lv_at hl 7 rfl) ?_
                refine lv_bipush (v := 63) hx hb dL_wrong_52 (by decide) ?_
                refine lv_iadd hx hb dL_wrong_54 ?_
                refine co_eq (show (nI b₀) + (63 : Int32) = (nI (b₀ + 63)) from nI_add b₀ 63) ?_
                refine lv_bipush (v := 64) hx hb dL_wrong_55 (by decide) ?_
                refine lv_irem hx hb dL_wrong_57 (by decide) ?_
                refine co_eq (show (nI (b₀ + 63)) - (nI (b₀ + 63)) / 64 * 64 = (nI ((b₀ + 63) % 64)) from pk_rem (a := (b₀ + 63)) (d := 64) (by omega) (by decide) (by decide)) ?_
                refine lv_istore (lv' := [(7, .int (nI ((b₀ + 63) % 64))), (0, .ref (q 0)), (1, .ref (q 1)), (2, .ref (q 2)), (3, .ref (q 3)), (4, .int x), (5, .int (nI k)), (6, .int (nI (ν k)))]) hx hb dL_wrong_58 hl (by decide) rfl (fun ls hl => ?_)
                refine lv_goto (tgt := 29) hx hb dL_wrong_60 (by decide) ?_
                exact ih ((b₀ + 63) % 64) (by omega) (by omega) (fun z9 => by rw [← hf9 z9, show 63 - d = (63 - (d + 1)) + 1 by omega]; exact (dnF_st (by rw [bf_dn tn9 (by omega), show (ν k + (64 - (63 - (d + 1) + 1))) % 64 = b₀ by omega]; exact c_39)).symm) ls (lv_sub hl [1, 2, 3, 4, 5, 6, 7, 0] rfl)
        exact LP2 63 _ (by omega) rfl (fun _ => rfl) ls (lv_sub hl [2, 3, 4, 5, 6, 7, 1, 0] rfl)
  exact LP 10 0 _ rfl rfl ls (lv_sub hl [2, 3, 4, 5, 1, 0] rfl)
