/-! the law's readers -/
theorem ii_eq {a x : Nat} (ha : a < 64) (hx : x < 64) : (nI x - nI a + 127) - (nI x - nI a + 127) / 64 * 64 = nI (upw a x) := by
  have e : nI x - nI a + 127 = nI (x + 127 - a) := by
    have h1 : nI x - nI a + 127 = nI x + nI 127 - nI a := by
      rw [show (127 : Int32) = nI 127 from rfl]
      apply Int32.toBitVec_inj.mp
      simp only [Int32.toBitVec_sub, Int32.toBitVec_add]
      bv_omega
    rw [h1, nI_add, pk_sub (by omega)]
  rw [e, rem64 (by omega)]
  congr 1
  unfold upw
  omega
theorem ii_f {x a b : Nat} (hx : x < 64) (ha : a < 64) (hb : b < 64) (c : nI (upw a b) < nI (upw a x)) : bI false = bI (upTo (nI x) (nI a) (nI b)) := by
  have h1 : upw a b < 64 := Nat.mod_lt _ (by decide)
  have h2 : upw a x < 64 := Nat.mod_lt _ (by decide)
  rw [upTo_nI hx ha hb, decide_eq_false]
  have := (nI_ltI (by omega) (by omega)).mp c
  omega
theorem ii_t {x a b : Nat} (hx : x < 64) (ha : a < 64) (hb : b < 64) (c : ¬ nI (upw a b) < nI (upw a x)) : bI true = bI (upTo (nI x) (nI a) (nI b)) := by
  have h1 : upw a b < 64 := Nat.mod_lt _ (by decide)
  have h2 : upw a x < 64 := Nat.mod_lt _ (by decide)
  rw [upTo_nI hx ha hb, decide_eq_true]
  rcases Nat.lt_or_ge (upw a b) (upw a x) with z | z
  · exact absurd ((nI_ltI (by omega) (by omega)).mpr z) c
  · exact z
theorem bI_inj {a b : Bool} (h : bI a = bI b) : a = b := by
  cases a <;> cases b <;> first | rfl | exact absurd h (by decide)
theorem bt_eq {x a b : Nat} (hx : x < 64) (ha : a < 64) (hb : b < 64) (c : nI x = nI b) : btw (nI x) (nI a) (nI b) = false := (bI_inj (ib_eq hx ha hb c)).symm
theorem bt_f {x a b : Nat} (hx : x < 64) (ha : a < 64) (hb : b < 64) (c : upTo (nI x) (nI a) (nI b) = false) : btw (nI x) (nI a) (nI b) = false := (bI_inj (ib_f hx ha hb c)).symm
theorem bt_t {x a b : Nat} (hx : x < 64) (ha : a < 64) (hb : b < 64) (n : ¬ nI x = nI b) (c : upTo (nI x) (nI a) (nI b) = true) : btw (nI x) (nI a) (nI b) = true := (bI_inj (ib_t hx ha hb n c)).symm

abbrev rm_L_isIn : Room := { frames := 0, cells := 0, slots := 0, locals := 0 }
set_option maxHeartbeats 4000000 in
set_option maxRecDepth 100000 in
theorem c_L_isIn (l : Launch) (G : cG) (x a b : Nat) (hx0 : x < 64) (ha0 : a < 64) (hb0 : b < 64) : MetR l yL_isIn wsL_isIn rm_L_isIn G ([] : va_W) [.int (nI x), .int (nI a), .int (nI b)] (bI (upTo (nI x) (nI a) (nI b))) := by
  refine co_bodyR (cc := cL_isIn) (maxL := 3) (ret := (some .boolean)) (by decide) rfl (Nat.le_of_ble_eq_true rfl) ?_
  intro p e s m args below meth c S hr hlocks hK hP ls hl
  have S : CallFix p m c cL_isIn 3 s args wsL_isIn RL := S
  obtain ⟨hx, hb, hml, hown, hts⟩ := id S
  have hl : lv_has ls 3 [(0, .int (nI x)), (1, .int (nI a)), (2, .int (nI b))] := hl
  refine lv_iload_n hx hb dL_isIn_0 rfl (lv_at hl 0 rfl) ?_
  refine lv_iload_n hx hb dL_isIn_1 rfl (lv_at hl 1 rfl) ?_
  refine lv_isub hx hb dL_isIn_2 ?_
  refine lv_bipush (v := 127) hx hb dL_isIn_3 (by decide) ?_
  refine lv_iadd hx hb dL_isIn_5 ?_
  refine lv_bipush (v := 64) hx hb dL_isIn_6 (by decide) ?_
  refine lv_irem hx hb dL_isIn_8 (by decide) ?_
  refine co_eq (ii_eq ha0 hx0) ?_
  refine lv_iload_n hx hb dL_isIn_9 rfl (lv_at hl 2 rfl) ?_
  refine lv_iload_n hx hb dL_isIn_10 rfl (lv_at hl 1 rfl) ?_
  refine lv_isub hx hb dL_isIn_11 ?_
  refine lv_bipush (v := 127) hx hb dL_isIn_12 (by decide) ?_
  refine lv_iadd hx hb dL_isIn_14 ?_
  refine lv_bipush (v := 64) hx hb dL_isIn_15 (by decide) ?_
  refine lv_irem hx hb dL_isIn_17 (by decide) ?_
  refine co_eq (ii_eq ha0 hb0) ?_
  refine lv_icmp_gt (tgt := 25) hx hb dL_isIn_18 (by decide) (fun c_1 => ?_) (fun c_1 => ?_)
  · refine lv_iconst (v := 0) hx hb dL_isIn_25 (by decide) ?_
    exact co_endRz (v := false) S hr hlocks dL_isIn_26 (by exact ii_f hx0 ha0 hb0 c_1)
  · refine lv_iconst (v := 1) hx hb dL_isIn_21 (by decide) ?_
    refine lv_goto (tgt := 26) hx hb dL_isIn_22 (by decide) ?_
    exact co_endRz (v := true) S hr hlocks dL_isIn_26 (by exact ii_t hx0 ha0 hb0 c_1)

abbrev rm_L_lives : Room := { frames := 0, cells := 0, slots := 0, locals := 0 }
set_option maxHeartbeats 4000000 in
set_option maxRecDepth 100000 in
theorem c_L_livesA (l : Launch) (G : cG) (Z : Nat) (q ν δ κ : Nat → Nat) (σ τ : cS) (hR : Rq Z ν δ κ σ τ)(n : Nat) (hn0 : n < 64) (hd : δ n < 10) : MetR l yL_lives wsL_lives rm_L_lives G (wQ G q τ) [.int (nI n), .ref (q 0), .ref (q 1)] (bI (alv (σ 0) (nI n))) := by
  refine co_bodyR (cc := cL_lives) (maxL := 3) (ret := (some .boolean)) (by decide) rfl (Nat.le_of_ble_eq_true rfl) ?_
  intro p e s m args below meth c S hr hlocks hK hP ls hl
  have S : CallFix p m c cL_lives 3 s args wsL_lives RL := S
  obtain ⟨hx, hb, hml, hown, hts⟩ := id S
  have hl : lv_has ls 3 [(0, .int (nI n)), (1, .ref (q 0)), (2, .ref (q 1))] := hl
  refine lv_iload_n hx hb dL_lives_0 rfl (lv_at hl 0 rfl) ?_
  refine lv_if_lt (tgt := 26) hx hb dL_lives_1 (by decide) (fun c_1 => ?_) (fun c_1 => ?_)
  · exact absurd c_1 (nI_pos (by omega))
  · refine lv_aload_n hx hb dL_lives_4 rfl (lv_at hl 1 rfl) ?_
    refine lv_iload_n hx hb dL_lives_5 rfl (lv_at hl 0 rfl) ?_
    refine va_iald hx hb hK hP 0 0 rfl rfl (vp_in_nI (n := n) (N := 64) (by omega) (by decide)) dL_lives_6 ?_
    refine co_eq (rq_d hR hn0 hd) ?_
    refine lv_if_lt (tgt := 26) hx hb dL_lives_7 (by decide) (fun c_2 => ?_) (fun c_2 => ?_)
    · exact absurd c_2 (nI_pos (by omega))
    · refine lv_aload_n hx hb dL_lives_10 rfl (lv_at hl 2 rfl) ?_
      refine lv_bipush (v := 10) hx hb dL_lives_11 (by decide) ?_
      refine lv_aload_n hx hb dL_lives_13 rfl (lv_at hl 1 rfl) ?_
      refine lv_iload_n hx hb dL_lives_14 rfl (lv_at hl 0 rfl) ?_
      refine va_iald hx hb hK hP 0 0 rfl rfl (vp_in_nI (n := n) (N := 64) (by omega) (by decide)) dL_lives_15 ?_
      refine co_eq (rq_d hR hn0 hd) ?_
      refine lv_iadd hx hb dL_lives_16 ?_
      refine co_eq (show (10 : Int32) + (nI (δ n)) = (nI (10 + (δ n))) from nI_add 10 (δ n)) ?_
      refine va_iald hx hb hK hP 1 0 rfl rfl (vp_in_nI (n := (10 + (δ n))) (N := 27) (by omega) (by decide)) dL_lives_17 ?_
      refine co_eq (y := bI (alv (σ 0) (nI n))) (rq_ln hR hn0 hd) ?_
      refine lv_iconst (v := 1) hx hb dL_lives_18 (by decide) ?_
      refine co_icmpne1 (tgt := 26) S dL_lives_19 (by decide) (fun c_3 => ?_) (fun c_3 => ?_)
      · refine lv_iconst (v := 0) hx hb dL_lives_26 (by decide) ?_
        exact co_endRz (v := false) S hr hlocks dL_lives_27 (by rw [c_3])
      · refine lv_iconst (v := 1) hx hb dL_lives_22 (by decide) ?_
        refine lv_goto (tgt := 27) hx hb dL_lives_23 (by decide) ?_
        exact co_endRz (v := true) S hr hlocks dL_lives_27 (by rw [c_3])

set_option maxHeartbeats 4000000 in
set_option maxRecDepth 100000 in
theorem c_L_livesB (l : Launch) (G : cG) (Z : Nat) (q ν δ κ : Nat → Nat) (σ τ : cS) (hR : Rq Z ν δ κ σ τ)(n : Nat) (hn0 : n < 64) (hd : ¬ δ n < 10) : MetR l yL_lives wsL_lives rm_L_lives G (wQ G q τ) [.int (nI n), .ref (q 0), .ref (q 1)] (bI (alv (σ 0) (nI n))) := by
  refine co_bodyR (cc := cL_lives) (maxL := 3) (ret := (some .boolean)) (by decide) rfl (Nat.le_of_ble_eq_true rfl) ?_
  intro p e s m args below meth c S hr hlocks hK hP ls hl
  have S : CallFix p m c cL_lives 3 s args wsL_lives RL := S
  obtain ⟨hx, hb, hml, hown, hts⟩ := id S
  have hl : lv_has ls 3 [(0, .int (nI n)), (1, .ref (q 0)), (2, .ref (q 1))] := hl
  refine lv_iload_n hx hb dL_lives_0 rfl (lv_at hl 0 rfl) ?_
  refine lv_if_lt (tgt := 26) hx hb dL_lives_1 (by decide) (fun c_1 => ?_) (fun c_1 => ?_)
  · exact absurd c_1 (nI_pos (by omega))
  · refine lv_aload_n hx hb dL_lives_4 rfl (lv_at hl 1 rfl) ?_
    refine lv_iload_n hx hb dL_lives_5 rfl (lv_at hl 0 rfl) ?_
    refine va_iald hx hb hK hP 0 0 rfl rfl (vp_in_nI (n := n) (N := 64) (by omega) (by decide)) dL_lives_6 ?_
    refine co_eq (rq_d0 hR hn0 hd) ?_
    refine lv_if_lt (tgt := 26) hx hb dL_lives_7 (by decide) (fun c_2 => ?_) (fun c_2 => ?_)
    · refine lv_iconst (v := 0) hx hb dL_lives_26 (by decide) ?_
      exact co_endRz (v := false) S hr hlocks dL_lives_27 (by rw [rq_no hR hn0 hd])
    · exact absurd (by decide) c_2

theorem c_L_lives (l : Launch) (G : cG) (Z : Nat) (q ν δ κ : Nat → Nat) (σ τ : cS) (hR : Rq Z ν δ κ σ τ) (n : Nat) (hn0 : n < 64) : MetR l yL_lives wsL_lives rm_L_lives G (wQ G q τ) [.int (nI n), .ref (q 0), .ref (q 1)] (bI (alv (σ 0) (nI n))) := by
  by_cases hd : δ n < 10
  · exact c_L_livesA l G Z q ν δ κ σ τ hR n hn0 hd
  · exact c_L_livesB l G Z q ν δ κ σ τ hR n hn0 hd

set_option maxHeartbeats 4000000 in
set_option maxRecDepth 100000 in
theorem c_L_lives0 (l : Launch) (G : cG) (Z : Nat) (q ν δ κ : Nat → Nat) (σ τ : cS) (hR : Rq Z ν δ κ σ τ) : MetR l yL_lives wsL_lives rm_L_lives G (wQ G q τ) [.int (-1), .ref (q 0), .ref (q 1)] (bI false) := by
  refine co_bodyR (cc := cL_lives) (maxL := 3) (ret := (some .boolean)) (by decide) rfl (Nat.le_of_ble_eq_true rfl) ?_
  intro p e s m args below meth c S hr hlocks hK hP ls hl
  have S : CallFix p m c cL_lives 3 s args wsL_lives RL := S
  obtain ⟨hx, hb, hml, hown, hts⟩ := id S
  have hl : lv_has ls 3 [(0, .int (-1)), (1, .ref (q 0)), (2, .ref (q 1))] := hl
  refine lv_iload_n hx hb dL_lives_0 rfl (lv_at hl 0 rfl) ?_
  refine lv_if_lt (tgt := 26) hx hb dL_lives_1 (by decide) (fun c_1 => ?_) (fun c_1 => ?_)
  · refine lv_iconst (v := 0) hx hb dL_lives_26 (by decide) ?_
    exact co_endRz (v := false) S hr hlocks dL_lives_27 (by rfl)
  · exact absurd (by decide) c_1

abbrev rm_L_next : Room := { frames := 1, cells := 0, slots := 0, locals := 22 }
set_option maxHeartbeats 4000000 in
set_option maxRecDepth 100000 in
theorem c_L_next (l : Launch) (G : cG) (Z : Nat) (q ν δ κ : Nat → Nat) (σ τ : cS) (hR : Rq Z ν δ κ σ τ)(n : Nat) (hn : Lv σ n) : MetR l yL_next wsL_next rm_L_next G (wQ G q τ) [.int (nI n), .ref (q 0), .ref (q 1), .ref (q 2)] (lsF (σ 0) (σ 1) (nI n)) := by
  refine co_bodyR (cc := cL_next) (maxL := 5) (ret := (some .int)) (by decide) rfl (Nat.le_of_ble_eq_true rfl) ?_
  intro p e s m args below meth c S hr hlocks hK hP ls hl
  have S : CallFix p m c cL_next 5 s args wsL_next RL := S
  obtain ⟨hx, hb, hml, hown, hts⟩ := id S
  have hl : lv_has ls 5 [(0, .int (nI n)), (1, .ref (q 0)), (2, .ref (q 1)), (3, .ref (q 2))] := hl
  have hn0 : n < 64 := hn.1
  have d90 : δ n < 10 := Rq.d9 hR hn
  refine lv_iconst (v := 4) hx hb dL_next_0 (by decide) ?_
  refine lv_aload_n hx hb dL_next_1 rfl (lv_at hl 1 rfl) ?_
  refine lv_iload_n hx hb dL_next_2 rfl (lv_at hl 0 rfl) ?_
  refine va_iald hx hb hK hP 0 0 rfl rfl (vp_in_nI (n := n) (N := 64) (by omega) (by decide)) dL_next_3 ?_
  refine co_eq (rq_d hR hn0 d90) ?_
  refine lv_imul hx hb dL_next_4 ?_
  refine co_eq (show (4 : Int32) * (nI (δ n)) = (nI (4 * (δ n))) from pk_mul 4 (δ n)) ?_
  refine lv_istore (lv' := [(4, .int (nI (4 * (δ n)))), (0, .int (nI n)), (1, .ref (q 0)), (2, .ref (q 1)), (3, .ref (q 2))]) hx hb dL_next_5 hl (by decide) rfl (fun ls hl => ?_)
  refine lv_aload_n hx hb dL_next_7 rfl (lv_at hl 4 rfl) ?_
  refine lv_iload hx hb dL_next_8 (lv_at hl 0 rfl) ?_
  refine va_iald hx hb hK hP 2 0 rfl rfl (vp_in_nI (n := (4 * (δ n))) (N := 40) (by omega) (by decide)) dL_next_10 ?_
  obtain ⟨j_1, hj_1, ej_1, mj_1⟩ := rq_s hR hn rfl 0 (by decide) (i := 4 * (δ n)) (by omega)
  have ej_1 : tat 3 (σ 1) (nI n) 0 = nI j_1 := ej_1
  refine co_eq mj_1 ?_
  refine lv_aload_n hx hb dL_next_11 rfl (lv_at hl 2 rfl) ?_
  refine lv_aload_n hx hb dL_next_12 rfl (lv_at hl 3 rfl) ?_
  refine co_rS (As := [.int (nI j_1), .ref (q 0), .ref (q 1)]) (rest := []) S (c_L_lives l G Z q ν δ κ σ τ hR j_1 hj_1) (va_cwS 3 hts gL_next_L_lives rfl rfl rfl (by decide +kernel) ⟨Nat.le_of_ble_eq_true rfl, Nat.le_of_ble_eq_true rfl⟩) hK hP rfl hl.1 rfl (Nat.le_of_ble_eq_true rfl) dL_next_13 ⟨Nat.zero_le _, Nat.zero_le _⟩ ?_
  refine co_ifeq (tgt := 26) S dL_next_16 (by decide) (fun c_2 => ?_) (fun c_2 => ?_)
  · refine lv_aload_n hx hb dL_next_26 rfl (lv_at hl 4 rfl) ?_
    refine lv_iload hx hb dL_next_27 (lv_at hl 0 rfl) ?_
    refine lv_iconst (v := 1) hx hb dL_next_29 (by decide) ?_
    refine lv_iadd hx hb dL_next_30 ?_
    refine co_eq (show (nI (4 * (δ n))) + (1 : Int32) = (nI ((4 * (δ n)) + 1)) from nI_add (4 * (δ n)) 1) ?_
    refine va_iald hx hb hK hP 2 0 rfl rfl (vp_in_nI (n := ((4 * (δ n)) + 1)) (N := 40) (by omega) (by decide)) dL_next_31 ?_
    obtain ⟨j_3, hj_3, ej_3, mj_3⟩ := rq_s hR hn rfl 1 (by decide) (i := (4 * (δ n)) + 1) (by omega)
    have ej_3 : tat 3 (σ 1) (nI n) 1 = nI j_3 := ej_3
    refine co_eq mj_3 ?_
    refine lv_aload_n hx hb dL_next_32 rfl (lv_at hl 2 rfl) ?_
    refine lv_aload_n hx hb dL_next_33 rfl (lv_at hl 3 rfl) ?_
    refine co_rS (As := [.int (nI j_3), .ref (q 0), .ref (q 1)]) (rest := []) S (c_L_lives l G Z q ν δ κ σ τ hR j_3 hj_3) (va_cwS 3 hts gL_next_L_lives rfl rfl rfl (by decide +kernel) ⟨Nat.le_of_ble_eq_true rfl, Nat.le_of_ble_eq_true rfl⟩) hK hP rfl hl.1 rfl (Nat.le_of_ble_eq_true rfl) dL_next_34 ⟨Nat.zero_le _, Nat.zero_le _⟩ ?_
    refine co_ifeq (tgt := 49) S dL_next_37 (by decide) (fun c_4 => ?_) (fun c_4 => ?_)
    · refine lv_aload_n hx hb dL_next_49 rfl (lv_at hl 4 rfl) ?_
      refine lv_iload hx hb dL_next_50 (lv_at hl 0 rfl) ?_
      refine lv_iconst (v := 2) hx hb dL_next_52 (by decide) ?_
      refine lv_iadd hx hb dL_next_53 ?_
      refine co_eq (show (nI (4 * (δ n))) + (2 : Int32) = (nI ((4 * (δ n)) + 2)) from nI_add (4 * (δ n)) 2) ?_
      refine va_iald hx hb hK hP 2 0 rfl rfl (vp_in_nI (n := ((4 * (δ n)) + 2)) (N := 40) (by omega) (by decide)) dL_next_54 ?_
      obtain ⟨j_5, hj_5, ej_5, mj_5⟩ := rq_s hR hn rfl 2 (by decide) (i := (4 * (δ n)) + 2) (by omega)
      have ej_5 : tat 3 (σ 1) (nI n) 2 = nI j_5 := ej_5
      refine co_eq mj_5 ?_
      refine lv_aload_n hx hb dL_next_55 rfl (lv_at hl 2 rfl) ?_
      refine lv_aload_n hx hb dL_next_56 rfl (lv_at hl 3 rfl) ?_
      refine co_rS (As := [.int (nI j_5), .ref (q 0), .ref (q 1)]) (rest := []) S (c_L_lives l G Z q ν δ κ σ τ hR j_5 hj_5) (va_cwS 3 hts gL_next_L_lives rfl rfl rfl (by decide +kernel) ⟨Nat.le_of_ble_eq_true rfl, Nat.le_of_ble_eq_true rfl⟩) hK hP rfl hl.1 rfl (Nat.le_of_ble_eq_true rfl) dL_next_57 ⟨Nat.zero_le _, Nat.zero_le _⟩ ?_
      refine co_ifeq (tgt := 72) S dL_next_60 (by decide) (fun c_6 => ?_) (fun c_6 => ?_)
      · refine lv_iload_n hx hb dL_next_72 rfl (lv_at hl 1 rfl) ?_
        exact co_endR S hr hlocks dL_next_73 (by simp only [lsF, ej_1, ej_3, ej_5, c_2, c_4, c_6, eq_self, Bool.false_eq_true, ↓reduceIte])
      · refine lv_aload_n hx hb dL_next_63 rfl (lv_at hl 4 rfl) ?_
        refine lv_iload hx hb dL_next_64 (lv_at hl 0 rfl) ?_
        refine lv_iconst (v := 2) hx hb dL_next_66 (by decide) ?_
        refine lv_iadd hx hb dL_next_67 ?_
        refine co_eq (show (nI (4 * (δ n))) + (2 : Int32) = (nI ((4 * (δ n)) + 2)) from nI_add (4 * (δ n)) 2) ?_
        refine va_iald hx hb hK hP 2 0 rfl rfl (vp_in_nI (n := ((4 * (δ n)) + 2)) (N := 40) (by omega) (by decide)) dL_next_68 ?_
        refine co_eq mj_5 ?_
        refine lv_goto (tgt := 73) hx hb dL_next_69 (by decide) ?_
        exact co_endR S hr hlocks dL_next_73 (by simp only [lsF, ej_1, ej_3, ej_5, c_2, c_4, c_6, eq_self, Bool.false_eq_true, ↓reduceIte])
    · refine lv_aload_n hx hb dL_next_40 rfl (lv_at hl 4 rfl) ?_
      refine lv_iload hx hb dL_next_41 (lv_at hl 0 rfl) ?_
      refine lv_iconst (v := 1) hx hb dL_next_43 (by decide) ?_
      refine lv_iadd hx hb dL_next_44 ?_
      refine co_eq (show (nI (4 * (δ n))) + (1 : Int32) = (nI ((4 * (δ n)) + 1)) from nI_add (4 * (δ n)) 1) ?_
      refine va_iald hx hb hK hP 2 0 rfl rfl (vp_in_nI (n := ((4 * (δ n)) + 1)) (N := 40) (by omega) (by decide)) dL_next_45 ?_
      refine co_eq mj_3 ?_
      refine lv_goto (tgt := 73) hx hb dL_next_46 (by decide) ?_
      exact co_endR S hr hlocks dL_next_73 (by simp only [lsF, ej_1, ej_3, c_2, c_4, eq_self, Bool.false_eq_true, ↓reduceIte])
  · refine lv_aload_n hx hb dL_next_19 rfl (lv_at hl 4 rfl) ?_
    refine lv_iload hx hb dL_next_20 (lv_at hl 0 rfl) ?_
    refine va_iald hx hb hK hP 2 0 rfl rfl (vp_in_nI (n := (4 * (δ n))) (N := 40) (by omega) (by decide)) dL_next_22 ?_
    refine co_eq mj_1 ?_
    refine lv_goto (tgt := 73) hx hb dL_next_23 (by decide) ?_
    exact co_endR S hr hlocks dL_next_73 (by simp only [lsF, ej_1, c_2, eq_self, Bool.false_eq_true, ↓reduceIte])

abbrev rm_L_count : Room := { frames := 0, cells := 0, slots := 0, locals := 0 }
set_option maxHeartbeats 4000000 in
set_option maxRecDepth 100000 in
theorem c_L_count (l : Launch) (G : cG) (Z : Nat) (q ν δ κ : Nat → Nat) (σ τ : cS) (hR : Rq Z ν δ κ σ τ) : MetR l yL_count wsL_count rm_L_count G (wQ G q τ) [.ref (q 1)] (cnt (σ 0) 64) := by
  refine co_bodyR (cc := cL_count) (maxL := 3) (ret := (some .int)) (by decide) rfl (Nat.le_of_ble_eq_true rfl) ?_
  intro p e s m args below meth c S hr hlocks hK hP ls hl
  have S : CallFix p m c cL_count 3 s args wsL_count RL := S
  obtain ⟨hx, hb, hml, hown, hts⟩ := id S
  have hl : lv_has ls 3 [(0, .ref (q 1))] := hl
  refine lv_iconst (v := 0) hx hb dL_count_0 (by decide) ?_
  refine lv_istore_n (lv' := [(1, .int 0), (0, .ref (q 1))]) hx hb dL_count_1 rfl hl (by decide) rfl (fun ls hl => ?_)
  refine lv_iconst (v := 0) hx hb dL_count_2 (by decide) ?_
  refine lv_istore_n (lv' := [(2, .int 0), (1, .int 0), (0, .ref (q 1))]) hx hb dL_count_3 rfl hl (by decide) rfl (fun ls hl => ?_)
  have LP : ∀ (d : Nat) (k : Nat) (x : Int32), k + d = 10 → x = smI (fun i => bI (alv (σ 0) (nI (ν i)))) k → ∀ ls : Array Slot, lv_has ls 3 [(0, .ref (q 1)), (1, .int x), (2, .int (nI k))] → W p l e rm_L_count s m args below meth c s.heap [] 0 0 (QR below (cnt (σ 0) 64) args s) (F0 m 4 ls []) := by
    intro d
    induction d with
    | zero =>
      intro k x hk hx9 ls hl
      refine lv_iload_n hx hb dL_count_4 rfl (lv_at hl 2 rfl) ?_
      refine lv_bipush (v := 10) hx hb dL_count_5 (by decide) ?_
      refine lv_icmp_ge (tgt := 25) hx hb dL_count_7 (by decide) (fun c_1 => ?_) (fun c_1 => ?_)
      · refine lv_iload_n hx hb dL_count_25 rfl (lv_at hl 1 rfl) ?_
        exact co_endR S hr hlocks dL_count_26 (by rw [hx9, show k = 10 by omega, rq_cnt hR])
      · exact absurd (nI_le (a := 10) (b := k) (by omega) (by omega)) c_1
    | succ d ih =>
      intro k x hk hx9 ls hl
      refine lv_iload_n hx hb dL_count_4 rfl (lv_at hl 2 rfl) ?_
      refine lv_bipush (v := 10) hx hb dL_count_5 (by decide) ?_
      refine lv_icmp_ge (tgt := 25) hx hb dL_count_7 (by decide) (fun c_2 => ?_) (fun c_2 => ?_)
      · exact absurd c_2 (nI_ge (a := k) (b := 10) (by omega) (by omega))
      · refine lv_iload_n hx hb dL_count_10 rfl (lv_at hl 1 rfl) ?_
        refine lv_aload_n hx hb dL_count_11 rfl (lv_at hl 0 rfl) ?_
        refine lv_bipush (v := 10) hx hb dL_count_12 (by decide) ?_
        refine lv_iload_n hx hb dL_count_14 rfl (lv_at hl 2 rfl) ?_
        refine lv_iadd hx hb dL_count_15 ?_
        refine co_eq (show (10 : Int32) + (nI k) = (nI (10 + k)) from nI_add 10 k) ?_
        refine va_iald hx hb hK hP 1 0 rfl rfl (vp_in_nI (n := (10 + k)) (N := 27) (by omega) (by decide)) dL_count_16 ?_
        refine co_eq (y := bI (alv (σ 0) (nI (ν k)))) (rq_l hR (show k < 10 by omega)) ?_
        refine lv_iadd hx hb dL_count_17 ?_
        refine lv_istore_n (lv' := [(1, .int (x + (bI (alv (σ 0) (nI (ν k)))))), (0, .ref (q 1)), (2, .int (nI k))]) hx hb dL_count_18 rfl hl (by decide) rfl (fun ls hl => ?_)
        refine lv_iinc (v := (nI (k + 1))) (lv' := [(2, .int (nI (k + 1))), (1, .int (x + (bI (alv (σ 0) (nI (ν k)))))), (0, .ref (q 1))]) hx hb dL_count_19 hl (k := 2) rfl (nI_1 k) (by decide) rfl (fun ls hl => ?_)
        refine lv_goto (tgt := 4) hx hb dL_count_22 (by decide) ?_
        exact ih (k + 1) _ (by omega) (by rw [hx9]; rfl) ls (lv_sub hl [2, 1, 0] rfl)
  exact LP 10 0 _ rfl rfl ls (lv_sub hl [2, 1, 0] rfl)

abbrev rm_L_owner : Room := { frames := 1, cells := 0, slots := 0, locals := 22 }
set_option maxHeartbeats 4000000 in
set_option maxRecDepth 100000 in
theorem c_L_owner (l : Launch) (G : cG) (Z : Nat) (q ν δ κ : Nat → Nat) (σ τ : cS) (hR : Rq Z ν δ κ σ τ)(key : Nat) (hk0 : key < 64) : MetR l yL_owner wsL_owner rm_L_owner G (wQ G q τ) [.int (nI key), .ref (q 0), .ref (q 1)] (upF (σ 0) (nI key) 64 0) := by
  refine co_bodyR (cc := cL_owner) (maxL := 5) (ret := (some .int)) (by decide) rfl (Nat.le_of_ble_eq_true rfl) ?_
  intro p e s m args below meth c S hr hlocks hK hP ls hl
  have S : CallFix p m c cL_owner 5 s args wsL_owner RL := S
  obtain ⟨hx, hb, hml, hown, hts⟩ := id S
  have hl : lv_has ls 5 [(0, .int (nI key)), (1, .ref (q 0)), (2, .ref (q 1))] := hl
  refine lv_iload_n hx hb dL_owner_0 rfl (lv_at hl 0 rfl) ?_
  refine lv_istore_n (lv' := [(3, .int (nI key)), (0, .int (nI key)), (1, .ref (q 0)), (2, .ref (q 1))]) hx hb dL_owner_1 rfl hl (by decide) rfl (fun ls hl => ?_)
  refine lv_iconst (v := 0) hx hb dL_owner_2 (by decide) ?_
  refine lv_istore (lv' := [(4, .int 0), (3, .int (nI key)), (0, .int (nI key)), (1, .ref (q 0)), (2, .ref (q 1))]) hx hb dL_owner_3 hl (by decide) rfl (fun ls hl => ?_)
  have LP : ∀ (d : Nat) (k x : Nat), k + d = 64 → x = (key + k) % 64 → upF (σ 0) (nI key) (64 - k) k = upF (σ 0) (nI key) 64 0 → (0 < k → alv (σ 0) (nI key) = false) → ∀ ls : Array Slot, lv_has ls 5 [(0, .int (nI key)), (1, .ref (q 0)), (2, .ref (q 1)), (3, .int (nI x)), (4, .int (nI k))] → W p l e rm_L_owner s m args below meth c s.heap [] 0 0 (QR below (upF (σ 0) (nI key) 64 0) args s) (F0 m 5 ls []) := by
    intro d
    induction d with
    | zero =>
      intro k x hk hx9 hf9 hz9 ls hl
      have t9 : x < 64 := (by omega)
      refine lv_iload hx hb dL_owner_5 (lv_at hl 4 rfl) ?_
      refine lv_bipush (v := 64) hx hb dL_owner_7 (by decide) ?_
      refine lv_icmp_ge (tgt := 34) hx hb dL_owner_9 (by decide) (fun c_1 => ?_) (fun c_1 => ?_)
      · refine lv_iload_n hx hb dL_owner_34 rfl (lv_at hl 3 rfl) ?_
        refine lv_aload_n hx hb dL_owner_35 rfl (lv_at hl 1 rfl) ?_
        refine lv_aload_n hx hb dL_owner_36 rfl (lv_at hl 2 rfl) ?_
        refine co_rS (As := [.int (nI x), .ref (q 0), .ref (q 1)]) (rest := []) S (c_L_lives l G Z q ν δ κ σ τ hR x t9) (va_cwS 3 hts gL_owner_L_lives rfl rfl rfl (by decide +kernel) ⟨Nat.le_of_ble_eq_true rfl, Nat.le_of_ble_eq_true rfl⟩) hK hP rfl hl.1 rfl (Nat.le_of_ble_eq_true rfl) dL_owner_37 ⟨Nat.zero_le _, Nat.zero_le _⟩ ?_
        refine co_ifeq (tgt := 47) S dL_owner_40 (by decide) (fun c_2 => ?_) (fun c_2 => ?_)
        · refine lv_iconst (v := (-1)) hx hb dL_owner_47 (by decide) ?_
          exact co_endR S hr hlocks dL_owner_48 (by rw [← hf9, show 64 - k = 0 by omega]; rfl)
        · exact absurd (c_2.symm.trans (show alv (σ 0) (nI x) = false by rw [show x = key by omega]; exact hz9 (by omega))) (by decide)
      · exact absurd (nI_le (a := 64) (b := k) (by omega) (by omega)) c_1
    | succ d ih =>
      intro k x hk hx9 hf9 hz9 ls hl
      have t9 : x < 64 := (by omega)
      refine lv_iload hx hb dL_owner_5 (lv_at hl 4 rfl) ?_
      refine lv_bipush (v := 64) hx hb dL_owner_7 (by decide) ?_
      refine lv_icmp_ge (tgt := 34) hx hb dL_owner_9 (by decide) (fun c_3 => ?_) (fun c_3 => ?_)
      · exact absurd c_3 (nI_ge (a := k) (b := 64) (by omega) (by omega))
      · refine lv_iload_n hx hb dL_owner_12 rfl (lv_at hl 3 rfl) ?_
        refine lv_aload_n hx hb dL_owner_13 rfl (lv_at hl 1 rfl) ?_
        refine lv_aload_n hx hb dL_owner_14 rfl (lv_at hl 2 rfl) ?_
        refine co_rS (As := [.int (nI x), .ref (q 0), .ref (q 1)]) (rest := []) S (c_L_lives l G Z q ν δ κ σ τ hR x t9) (va_cwS 3 hts gL_owner_L_lives rfl rfl rfl (by decide +kernel) ⟨Nat.le_of_ble_eq_true rfl, Nat.le_of_ble_eq_true rfl⟩) hK hP rfl hl.1 rfl (Nat.le_of_ble_eq_true rfl) dL_owner_15 ⟨Nat.zero_le _, Nat.zero_le _⟩ ?_
        refine co_ifne (tgt := 34) S dL_owner_18 (by decide) (fun c_4 => ?_) (fun c_4 => ?_)
        · refine lv_iload_n hx hb dL_owner_34 rfl (lv_at hl 3 rfl) ?_
          refine lv_aload_n hx hb dL_owner_35 rfl (lv_at hl 1 rfl) ?_
          refine lv_aload_n hx hb dL_owner_36 rfl (lv_at hl 2 rfl) ?_
          refine co_rS (As := [.int (nI x), .ref (q 0), .ref (q 1)]) (rest := []) S (c_L_lives l G Z q ν δ κ σ τ hR x t9) (va_cwS 3 hts gL_owner_L_lives rfl rfl rfl (by decide +kernel) ⟨Nat.le_of_ble_eq_true rfl, Nat.le_of_ble_eq_true rfl⟩) hK hP rfl hl.1 rfl (Nat.le_of_ble_eq_true rfl) dL_owner_37 ⟨Nat.zero_le _, Nat.zero_le _⟩ ?_
          refine co_ifeq (tgt := 47) S dL_owner_40 (by decide) (fun c_5 => ?_) (fun c_5 => ?_)
          · exact absurd (c_5.symm.trans c_4) (by decide)
          · refine lv_iload_n hx hb dL_owner_43 rfl (lv_at hl 3 rfl) ?_
            refine lv_goto (tgt := 48) hx hb dL_owner_44 (by decide) ?_
            exact co_endR S hr hlocks dL_owner_48 (by rw [← hf9, show 64 - k = (64 - (k + 1)) + 1 by omega, upF, onw_nI hk0 (by omega), ← hx9, if_pos c_4])
        · refine lv_iload_n hx hb dL_owner_21 rfl (lv_at hl 3 rfl) ?_
          refine lv_iconst (v := 1) hx hb dL_owner_22 (by decide) ?_
          refine lv_iadd hx hb dL_owner_23 ?_
          refine co_eq (show (nI x) + (1 : Int32) = (nI (x + 1)) from nI_add x 1) ?_
          refine lv_bipush (v := 64) hx hb dL_owner_24 (by decide) ?_
          refine lv_irem hx hb dL_owner_26 (by decide) ?_
          refine co_eq (show (nI (x + 1)) - (nI (x + 1)) / 64 * 64 = (nI ((x + 1) % 64)) from pk_rem (a := (x + 1)) (d := 64) (by omega) (by decide) (by decide)) ?_
          refine lv_istore_n (lv' := [(3, .int (nI ((x + 1) % 64))), (0, .int (nI key)), (1, .ref (q 0)), (2, .ref (q 1)), (4, .int (nI k))]) hx hb dL_owner_27 rfl hl (by decide) rfl (fun ls hl => ?_)
          refine lv_iinc (v := (nI (k + 1))) (lv' := [(4, .int (nI (k + 1))), (3, .int (nI ((x + 1) % 64))), (0, .int (nI key)), (1, .ref (q 0)), (2, .ref (q 1))]) hx hb dL_owner_28 hl (k := 4) rfl (nI_1 k) (by decide) rfl (fun ls hl => ?_)
          refine lv_goto (tgt := 5) hx hb dL_owner_31 (by decide) ?_
          exact ih (k + 1) ((x + 1) % 64) (by omega) (by omega) (by rw [← hf9, show 64 - k = (64 - (k + 1)) + 1 by omega, upF, onw_nI hk0 (by omega), ← hx9, if_neg (by rw [c_4]; decide)]) (fun _ => (Nat.eq_zero_or_pos k).elim (fun e9 => by rw [show key = x by omega]; exact c_4) hz9) ls (lv_sub hl [2, 3, 4, 1, 0] rfl)
  exact LP 64 0 key rfl (by omega) rfl (fun h => absurd h (by decide)) ls (lv_sub hl [2, 3, 4, 1, 0] rfl)

abbrev rm_L_walk : Room := { frames := 2, cells := 0, slots := 0, locals := 46 }
set_option maxHeartbeats 4000000 in
set_option maxRecDepth 100000 in
theorem c_L_walk (l : Launch) (G : cG) (Z : Nat) (q ν δ κ : Nat → Nat) (σ τ : cS) (hR : Rq Z ν δ κ σ τ)(n key : Nat) (hn : Lv σ n) (hk0 : key < 64) : MetR l yL_walk wsL_walk rm_L_walk G (wQ G q τ) [.int (nI n), .int (nI key), .ref (q 0), .ref (q 1), .ref (q 2), .ref (q 3)] (nI (100 * hpc (σ 0) (σ 1) (σ 3) (nI key) 64 (nI n)) + fnR σ (nI n) (nI key)) := by
  refine co_bodyR (cc := cL_walk) (maxL := 12) (ret := (some .int)) (by decide) rfl (Nat.le_of_ble_eq_true rfl) ?_
  intro p e s m args below meth c S hr hlocks hK hP ls hl
  have S : CallFix p m c cL_walk 12 s args wsL_walk RL := S
  obtain ⟨hx, hb, hml, hown, hts⟩ := id S
  have hl : lv_has ls 12 [(0, .int (nI n)), (1, .int (nI key)), (2, .ref (q 0)), (3, .ref (q 1)), (4, .ref (q 2)), (5, .ref (q 3))] := hl
  have hn0 : n < 64 := hn.1
  refine lv_iload_n hx hb dL_walk_0 rfl (lv_at hl 0 rfl) ?_
  refine lv_istore (lv' := [(6, .int (nI n)), (0, .int (nI n)), (1, .int (nI key)), (2, .ref (q 0)), (3, .ref (q 1)), (4, .ref (q 2)), (5, .ref (q 3))]) hx hb dL_walk_1 hl (by decide) rfl (fun ls hl => ?_)
  refine lv_iconst (v := 0) hx hb dL_walk_3 (by decide) ?_
  refine lv_istore (lv' := [(7, .int 0), (6, .int (nI n)), (0, .int (nI n)), (1, .int (nI key)), (2, .ref (q 0)), (3, .ref (q 1)), (4, .ref (q 2)), (5, .ref (q 3))]) hx hb dL_walk_4 hl (by decide) rfl (fun ls hl => ?_)
  have LP : ∀ (d : Nat) (k x : Nat), k + d = 64 → Lv σ x → upw x key < d → fnd (σ 0) (σ 1) (σ 3) (nI key) d (nI x) = fnd (σ 0) (σ 1) (σ 3) (nI key) 64 (nI n) → hpc (σ 0) (σ 1) (σ 3) (nI key) d (nI x) + k = hpc (σ 0) (σ 1) (σ 3) (nI key) 64 (nI n) → ∀ ls : Array Slot, lv_has ls 12 [(0, .int (nI n)), (1, .int (nI key)), (2, .ref (q 0)), (3, .ref (q 1)), (4, .ref (q 2)), (5, .ref (q 3)), (6, .int (nI x)), (7, .int (nI k))] → W p l e rm_L_walk s m args below meth c s.heap [] 0 0 (QR below (nI (100 * hpc (σ 0) (σ 1) (σ 3) (nI key) 64 (nI n)) + fnR σ (nI n) (nI key)) args s) (F0 m 6 ls []) := by
    intro d
    induction d with
    | zero =>
      intro k x hk hx9 hd9 hf9 hh9 ls hl
      exact absurd hd9 (Nat.not_lt_zero _)
    | succ d ih =>
      intro k x hk hx9 hd9 hf9 hh9 ls hl
      have t9 : x < 64 := hx9.1
      have d9x : δ x < 10 := Rq.d9 hR hx9
      refine lv_iload hx hb dL_walk_6 (lv_at hl 7 rfl) ?_
      refine lv_bipush (v := 65) hx hb dL_walk_8 (by decide) ?_
      refine lv_icmp_ge (tgt := 137) hx hb dL_walk_10 (by decide) (fun c_1 => ?_) (fun c_1 => ?_)
      · exact absurd c_1 (nI_ge (a := k) (b := 65) (by omega) (by omega))
      · refine lv_iload hx hb dL_walk_13 (lv_at hl 6 rfl) ?_
        refine lv_aload_n hx hb dL_walk_15 rfl (lv_at hl 2 rfl) ?_
        refine lv_aload_n hx hb dL_walk_16 rfl (lv_at hl 3 rfl) ?_
        refine lv_aload hx hb dL_walk_17 (lv_at hl 4 rfl) ?_
        obtain ⟨j_2, ej_2, lj_2⟩ := Rq.ls hR hx9
        have tj_2 : j_2 < 64 := lj_2.1
        refine co_rS (As := [.int (nI x), .ref (q 0), .ref (q 1), .ref (q 2)]) (rest := []) S (c_L_next l G Z q ν δ κ σ τ hR x hx9) (va_cwS 4 hts gL_walk_L_next rfl rfl rfl (by decide +kernel) ⟨Nat.le_of_ble_eq_true rfl, Nat.le_of_ble_eq_true rfl⟩) hK hP rfl hl.1 rfl (Nat.le_of_ble_eq_true rfl) dL_walk_19 ⟨Nat.zero_le _, Nat.zero_le _⟩ ?_
        refine co_eq ej_2 ?_
        refine lv_istore (lv' := [(8, .int (nI j_2)), (0, .int (nI n)), (1, .int (nI key)), (2, .ref (q 0)), (3, .ref (q 1)), (4, .ref (q 2)), (5, .ref (q 3)), (6, .int (nI x)), (7, .int (nI k))]) hx hb dL_walk_22 hl (by decide) rfl (fun ls hl => ?_)
        refine lv_iload_n hx hb dL_walk_24 rfl (lv_at hl 2 rfl) ?_
        refine lv_iload hx hb dL_walk_25 (lv_at hl 7 rfl) ?_
        refine lv_iload hx hb dL_walk_27 (lv_at hl 0 rfl) ?_
        refine co_rS (As := [.int (nI key), .int (nI x), .int (nI j_2)]) (rest := []) S (c_L_isIn l G key x j_2 hk0 t9 tj_2) (va_cwS 3 hts gL_walk_L_isIn rfl rfl rfl (by decide +kernel) ⟨Nat.le_of_ble_eq_true rfl, Nat.le_of_ble_eq_true rfl⟩) hK (pG_nil) rfl hl.1 rfl (Nat.le_of_ble_eq_true rfl) dL_walk_29 ⟨Nat.zero_le _, Nat.zero_le _⟩ ?_
        refine co_ifeq (tgt := 44) S dL_walk_32 (by decide) (fun c_3 => ?_) (fun c_3 => ?_)
        · refine lv_iconst (v := (-1)) hx hb dL_walk_44 (by decide) ?_
          refine lv_istore (lv' := [(9, .int (-1)), (8, .int (nI j_2)), (0, .int (nI n)), (1, .int (nI key)), (2, .ref (q 0)), (3, .ref (q 1)), (4, .ref (q 2)), (5, .ref (q 3)), (6, .int (nI x)), (7, .int (nI k))]) hx hb dL_walk_45 hl (by decide) rfl (fun ls hl => ?_)
          refine lv_iconst (v := 5) hx hb dL_walk_47 (by decide) ?_
          refine lv_istore (lv' := [(10, .int 5), (9, .int (-1)), (8, .int (nI j_2)), (0, .int (nI n)), (1, .int (nI key)), (2, .ref (q 0)), (3, .ref (q 1)), (4, .ref (q 2)), (5, .ref (q 3)), (6, .int (nI x)), (7, .int (nI k))]) hx hb dL_walk_48 hl (by decide) rfl (fun ls hl => ?_)
          have c9x : upTo (nI key) (nI x) (lsF (σ 0) (σ 1) (nI x)) = false := (by rw [ej_2]; exact c_3)
          have LP2 : ∀ (d : Nat) (iv bv : Int32), d ≤ 6 → iv = nI d + Int32.ofInt (-1) → ((bv = -1 ∧ hopT (σ 0) (σ 3) (nI key) (nI x) (nI j_2) 6 = hopT (σ 0) (σ 3) (nI key) (nI x) (nI j_2) d) ∨ ∃ jb, jb < 64 ∧ bv = nI jb ∧ hopT (σ 0) (σ 3) (nI key) (nI x) (nI j_2) 6 = nI jb) → ∀ ls : Array Slot, lv_has ls 12 [(0, .int (nI n)), (1, .int (nI key)), (2, .ref (q 0)), (3, .ref (q 1)), (4, .ref (q 2)), (5, .ref (q 3)), (6, .int (nI x)), (7, .int (nI k)), (8, .int (nI j_2)), (9, .int bv), (10, .int iv)] → W p l e rm_L_walk s m args below meth c s.heap [] 0 0 (QR below (nI (100 * hpc (σ 0) (σ 1) (σ 3) (nI key) 64 (nI n)) + fnR σ (nI n) (nI key)) args s) (F0 m 50 ls []) := by
            intro d
            induction d with
            | zero =>
              intro iv bv hd6 hi9 hb9 ls hl
              have hi8 : iv = -1 := (by rw [hi9]; decide)
              subst hi8
              rcases hb9 with ⟨hb1, hb2⟩ | ⟨jb, hjb, hb1, hb2⟩
              · subst hb1
                refine lv_iload hx hb dL_walk_50 (lv_at hl 10 rfl) ?_
                refine lv_if_lt (tgt := 117) hx hb dL_walk_52 (by decide) (fun c_4 => ?_) (fun c_4 => ?_)
                · refine lv_iload hx hb dL_walk_117 (lv_at hl 9 rfl) ?_
                  refine lv_if_ge (tgt := 127) hx hb dL_walk_119 (by decide) (fun c_5 => ?_) (fun c_5 => ?_)
                  · exact absurd c_5 (by decide)
                  · refine lv_iload hx hb dL_walk_122 (lv_at hl 8 rfl) ?_
                    refine lv_goto (tgt := 129) hx hb dL_walk_124 (by decide) ?_
                    refine lv_istore (lv' := [(6, .int (nI j_2)), (0, .int (nI n)), (1, .int (nI key)), (2, .ref (q 0)), (3, .ref (q 1)), (4, .ref (q 2)), (5, .ref (q 3)), (7, .int (nI k)), (8, .int (nI j_2)), (9, .int (-1)), (10, .int (-1))]) hx hb dL_walk_129 hl (by decide) rfl (fun ls hl => ?_)
                    refine lv_iinc (v := (nI (k + 1))) (lv' := [(7, .int (nI (k + 1))), (6, .int (nI j_2)), (0, .int (nI n)), (1, .int (nI key)), (2, .ref (q 0)), (3, .ref (q 1)), (4, .ref (q 2)), (5, .ref (q 3)), (8, .int (nI j_2)), (9, .int (-1)), (10, .int (-1))]) hx hb dL_walk_131 hl (k := 7) rfl (nI_1 k) (by decide) rfl (fun ls hl => ?_)
                    refine lv_goto (tgt := 6) hx hb dL_walk_134 (by decide) ?_
                    have gX : nxF (σ 0) (σ 1) (σ 3) (nI key) (nI x) = nI j_2 := (by rw [nxF, ej_2]; exact hb2)
                    obtain ⟨jn, ejn, ljn, njn⟩ := Rq.nx hR hx9 hk0 c9x
                    have tjn : jn < 64 := ljn.1
                    have eX : jn = j_2 := nI_inj (by omega) (by omega) (ejn.symm.trans gX)
                    rw [eX] at ljn njn
                    exact ih (k + 1) j_2 (by omega) ljn (by omega) (by rw [← hf9, fnd, if_neg (by rw [c9x]; decide), gX]) (by rw [← hh9, hpc, if_neg (by rw [c9x]; decide), gX]; omega) ls (lv_sub hl [2, 3, 4, 5, 6, 7, 1, 0] rfl)
                · exact absurd (by decide) c_4
              · subst hb1
                refine lv_iload hx hb dL_walk_50 (lv_at hl 10 rfl) ?_
                refine lv_if_lt (tgt := 117) hx hb dL_walk_52 (by decide) (fun c_6 => ?_) (fun c_6 => ?_)
                · refine lv_iload hx hb dL_walk_117 (lv_at hl 9 rfl) ?_
                  refine lv_if_ge (tgt := 127) hx hb dL_walk_119 (by decide) (fun c_7 => ?_) (fun c_7 => ?_)
                  · refine lv_iload hx hb dL_walk_127 (lv_at hl 9 rfl) ?_
                    refine lv_istore (lv' := [(6, .int (nI jb)), (0, .int (nI n)), (1, .int (nI key)), (2, .ref (q 0)), (3, .ref (q 1)), (4, .ref (q 2)), (5, .ref (q 3)), (7, .int (nI k)), (8, .int (nI j_2)), (9, .int (nI jb)), (10, .int (-1))]) hx hb dL_walk_129 hl (by decide) rfl (fun ls hl => ?_)
                    refine lv_iinc (v := (nI (k + 1))) (lv' := [(7, .int (nI (k + 1))), (6, .int (nI jb)), (0, .int (nI n)), (1, .int (nI key)), (2, .ref (q 0)), (3, .ref (q 1)), (4, .ref (q 2)), (5, .ref (q 3)), (8, .int (nI j_2)), (9, .int (nI jb)), (10, .int (-1))]) hx hb dL_walk_131 hl (k := 7) rfl (nI_1 k) (by decide) rfl (fun ls hl => ?_)
                    refine lv_goto (tgt := 6) hx hb dL_walk_134 (by decide) ?_
                    have gX : nxF (σ 0) (σ 1) (σ 3) (nI key) (nI x) = nI jb := (by rw [nxF, ej_2]; exact hb2)
                    obtain ⟨jn, ejn, ljn, njn⟩ := Rq.nx hR hx9 hk0 c9x
                    have tjn : jn < 64 := ljn.1
                    have eX : jn = jb := nI_inj (by omega) (by omega) (ejn.symm.trans gX)
                    rw [eX] at ljn njn
                    exact ih (k + 1) jb (by omega) ljn (by omega) (by rw [← hf9, fnd, if_neg (by rw [c9x]; decide), gX]) (by rw [← hh9, hpc, if_neg (by rw [c9x]; decide), gX]; omega) ls (lv_sub hl [2, 3, 4, 5, 6, 7, 1, 0] rfl)
                  · exact absurd (nI_pos' (by omega)) c_7
                · exact absurd (by decide) c_6
            | succ d ih =>
              intro iv bv hd6 hi9 hb9 ls hl
              rw [nI_m] at hi9; subst hi9
              rcases hb9 with ⟨hb1, hb2⟩ | ⟨jb, hjb, hb1, hb2⟩
              · subst hb1
                refine lv_iload hx hb dL_walk_50 (lv_at hl 10 rfl) ?_
                refine lv_if_lt (tgt := 117) hx hb dL_walk_52 (by decide) (fun c_8 => ?_) (fun c_8 => ?_)
                · exact absurd c_8 (nI_pos (by omega))
                · refine lv_aload hx hb dL_walk_55 (lv_at hl 5 rfl) ?_
                  refine lv_bipush (v := 6) hx hb dL_walk_57 (by decide) ?_
                  refine lv_aload_n hx hb dL_walk_59 rfl (lv_at hl 2 rfl) ?_
                  refine lv_iload hx hb dL_walk_60 (lv_at hl 6 rfl) ?_
                  refine va_iald hx hb hK hP 0 0 rfl rfl (vp_in_nI (n := x) (N := 64) (by omega) (by decide)) dL_walk_62 ?_
                  refine co_eq (rq_d hR t9 d9x) ?_
                  refine lv_imul hx hb dL_walk_63 ?_
                  refine co_eq (show (6 : Int32) * (nI (δ x)) = (nI (6 * (δ x))) from pk_mul 6 (δ x)) ?_
                  refine lv_iload hx hb dL_walk_64 (lv_at hl 10 rfl) ?_
                  refine lv_iadd hx hb dL_walk_66 ?_
                  refine co_eq (show (nI (6 * (δ x))) + (nI d) = (nI ((6 * (δ x)) + d)) from nI_add (6 * (δ x)) d) ?_
                  refine va_iald hx hb hK hP 3 0 rfl rfl (vp_in_nI (n := ((6 * (δ x)) + d)) (N := 60) (by omega) (by decide)) dL_walk_67 ?_
                  rcases rq_f hR hx9 rfl d (by omega) (i := (6 * (δ x)) + d) (by omega) with ⟨ej_9, mj_9⟩ | ⟨j_9, hj_9, ej_9, mj_9⟩
                  · have ej_9 : tat 6 (σ 3) (nI x) (nI d) = (-1) := ej_9
                    refine co_eq mj_9 ?_
                    refine lv_istore (lv' := [(11, .int (-1)), (0, .int (nI n)), (1, .int (nI key)), (2, .ref (q 0)), (3, .ref (q 1)), (4, .ref (q 2)), (5, .ref (q 3)), (6, .int (nI x)), (7, .int (nI k)), (8, .int (nI j_2)), (9, .int (-1)), (10, .int (nI d))]) hx hb dL_walk_68 hl (by decide) rfl (fun ls hl => ?_)
                    refine lv_iload hx hb dL_walk_70 (lv_at hl 10 rfl) ?_
                    refine lv_if_ge (tgt := 107) hx hb dL_walk_72 (by decide) (fun c_10 => ?_) (fun c_10 => ?_)
                    · exact absurd c_10 (by decide)
                    · refine lv_iload hx hb dL_walk_75 (lv_at hl 0 rfl) ?_
                      refine lv_aload_n hx hb dL_walk_77 rfl (lv_at hl 3 rfl) ?_
                      refine lv_aload_n hx hb dL_walk_78 rfl (lv_at hl 4 rfl) ?_
                      refine co_rS (As := [.int (-1), .ref (q 0), .ref (q 1)]) (rest := []) S (c_L_lives0 l G Z q ν δ κ σ τ hR) (va_cwS 3 hts gL_walk_L_lives rfl rfl rfl (by decide +kernel) ⟨Nat.le_of_ble_eq_true rfl, Nat.le_of_ble_eq_true rfl⟩) hK hP rfl hl.1 rfl (Nat.le_of_ble_eq_true rfl) dL_walk_79 ⟨Nat.zero_le _, Nat.zero_le _⟩ ?_
                      refine co_eq (show bI false = 0 from rfl) ?_
                      refine lv_if_eq (tgt := 107) hx hb dL_walk_82 (by decide) (fun c_11 => ?_) (fun c_11 => ?_)
                      · refine lv_iload hx hb dL_walk_107 (lv_at hl 10 rfl) ?_
                        refine lv_istore (lv' := [(9, .int (-1)), (11, .int (-1)), (0, .int (nI n)), (1, .int (nI key)), (2, .ref (q 0)), (3, .ref (q 1)), (4, .ref (q 2)), (5, .ref (q 3)), (6, .int (nI x)), (7, .int (nI k)), (8, .int (nI j_2)), (10, .int (nI d))]) hx hb dL_walk_109 hl (by decide) rfl (fun ls hl => ?_)
                        refine lv_iinc (v := ((nI d) + (-1))) (lv' := [(10, .int ((nI d) + (-1))), (9, .int (-1)), (11, .int (-1)), (0, .int (nI n)), (1, .int (nI key)), (2, .ref (q 0)), (3, .ref (q 1)), (4, .ref (q 2)), (5, .ref (q 3)), (6, .int (nI x)), (7, .int (nI k)), (8, .int (nI j_2))]) hx hb dL_walk_111 hl (k := 11) rfl rfl (by decide) rfl (fun ls hl => ?_)
                        refine lv_goto (tgt := 50) hx hb dL_walk_114 (by decide) ?_
                        exact ih _ _ (by omega) rfl (Or.inl ⟨rfl, by rw [hb2]; simp only [hopT, alv_m1, ej_9, eq_self, Bool.false_eq_true, ↓reduceIte]⟩) ls (lv_sub hl [3, 4, 5, 6, 7, 8, 9, 10, 11, 1, 0] rfl)
                      · exact absurd (by decide) c_11
                  · have ej_9 : tat 6 (σ 3) (nI x) (nI d) = (nI j_9) := ej_9
                    refine co_eq mj_9 ?_
                    refine lv_istore (lv' := [(11, .int (nI j_9)), (0, .int (nI n)), (1, .int (nI key)), (2, .ref (q 0)), (3, .ref (q 1)), (4, .ref (q 2)), (5, .ref (q 3)), (6, .int (nI x)), (7, .int (nI k)), (8, .int (nI j_2)), (9, .int (-1)), (10, .int (nI d))]) hx hb dL_walk_68 hl (by decide) rfl (fun ls hl => ?_)
                    refine lv_iload hx hb dL_walk_70 (lv_at hl 10 rfl) ?_
                    refine lv_if_ge (tgt := 107) hx hb dL_walk_72 (by decide) (fun c_12 => ?_) (fun c_12 => ?_)
                    · exact absurd c_12 (by decide)
                    · refine lv_iload hx hb dL_walk_75 (lv_at hl 0 rfl) ?_
                      refine lv_aload_n hx hb dL_walk_77 rfl (lv_at hl 3 rfl) ?_
                      refine lv_aload_n hx hb dL_walk_78 rfl (lv_at hl 4 rfl) ?_
                      refine co_rS (As := [.int (nI j_9), .ref (q 0), .ref (q 1)]) (rest := []) S (c_L_lives l G Z q ν δ κ σ τ hR j_9 hj_9) (va_cwS 3 hts gL_walk_L_lives rfl rfl rfl (by decide +kernel) ⟨Nat.le_of_ble_eq_true rfl, Nat.le_of_ble_eq_true rfl⟩) hK hP rfl hl.1 rfl (Nat.le_of_ble_eq_true rfl) dL_walk_79 ⟨Nat.zero_le _, Nat.zero_le _⟩ ?_
                      refine co_ifeq (tgt := 107) S dL_walk_82 (by decide) (fun c_13 => ?_) (fun c_13 => ?_)
                      · refine lv_iload hx hb dL_walk_107 (lv_at hl 10 rfl) ?_
                        refine lv_istore (lv' := [(9, .int (-1)), (11, .int (nI j_9)), (0, .int (nI n)), (1, .int (nI key)), (2, .ref (q 0)), (3, .ref (q 1)), (4, .ref (q 2)), (5, .ref (q 3)), (6, .int (nI x)), (7, .int (nI k)), (8, .int (nI j_2)), (10, .int (nI d))]) hx hb dL_walk_109 hl (by decide) rfl (fun ls hl => ?_)
                        refine lv_iinc (v := ((nI d) + (-1))) (lv' := [(10, .int ((nI d) + (-1))), (9, .int (-1)), (11, .int (nI j_9)), (0, .int (nI n)), (1, .int (nI key)), (2, .ref (q 0)), (3, .ref (q 1)), (4, .ref (q 2)), (5, .ref (q 3)), (6, .int (nI x)), (7, .int (nI k)), (8, .int (nI j_2))]) hx hb dL_walk_111 hl (k := 11) rfl rfl (by decide) rfl (fun ls hl => ?_)
                        refine lv_goto (tgt := 50) hx hb dL_walk_114 (by decide) ?_
                        exact ih _ _ (by omega) rfl (Or.inl ⟨rfl, by rw [hb2]; simp only [hopT, alv_m1, ej_9, c_13, eq_self, Bool.false_eq_true, ↓reduceIte]⟩) ls (lv_sub hl [3, 4, 5, 6, 7, 8, 9, 10, 11, 1, 0] rfl)
                      · refine lv_iload hx hb dL_walk_85 (lv_at hl 0 rfl) ?_
                        refine lv_iload_n hx hb dL_walk_87 rfl (lv_at hl 2 rfl) ?_
                        refine lv_icmp_eq (tgt := 107) hx hb dL_walk_88 (by decide) (fun c_14 => ?_) (fun c_14 => ?_)
                        · refine lv_iload hx hb dL_walk_107 (lv_at hl 10 rfl) ?_
                          refine lv_istore (lv' := [(9, .int (-1)), (11, .int (nI j_9)), (0, .int (nI n)), (1, .int (nI key)), (2, .ref (q 0)), (3, .ref (q 1)), (4, .ref (q 2)), (5, .ref (q 3)), (6, .int (nI x)), (7, .int (nI k)), (8, .int (nI j_2)), (10, .int (nI d))]) hx hb dL_walk_109 hl (by decide) rfl (fun ls hl => ?_)
                          refine lv_iinc (v := ((nI d) + (-1))) (lv' := [(10, .int ((nI d) + (-1))), (9, .int (-1)), (11, .int (nI j_9)), (0, .int (nI n)), (1, .int (nI key)), (2, .ref (q 0)), (3, .ref (q 1)), (4, .ref (q 2)), (5, .ref (q 3)), (6, .int (nI x)), (7, .int (nI k)), (8, .int (nI j_2))]) hx hb dL_walk_111 hl (k := 11) rfl rfl (by decide) rfl (fun ls hl => ?_)
                          refine lv_goto (tgt := 50) hx hb dL_walk_114 (by decide) ?_
                          exact ih _ _ (by omega) rfl (Or.inl ⟨rfl, by rw [hb2]; simp only [hopT, alv_m1, ej_9, c_13, (bt_eq hj_9 t9 hk0 c_14), eq_self, Bool.false_eq_true, ↓reduceIte]⟩) ls (lv_sub hl [3, 4, 5, 6, 7, 8, 9, 10, 11, 1, 0] rfl)
                        · refine lv_iload hx hb dL_walk_91 (lv_at hl 0 rfl) ?_
                          refine lv_iload hx hb dL_walk_93 (lv_at hl 7 rfl) ?_
                          refine lv_iload_n hx hb dL_walk_95 rfl (lv_at hl 2 rfl) ?_
                          refine co_rS (As := [.int (nI j_9), .int (nI x), .int (nI key)]) (rest := []) S (c_L_isIn l G j_9 x key hj_9 t9 hk0) (va_cwS 3 hts gL_walk_L_isIn rfl rfl rfl (by decide +kernel) ⟨Nat.le_of_ble_eq_true rfl, Nat.le_of_ble_eq_true rfl⟩) hK (pG_nil) rfl hl.1 rfl (Nat.le_of_ble_eq_true rfl) dL_walk_96 ⟨Nat.zero_le _, Nat.zero_le _⟩ ?_
                          refine co_ifeq (tgt := 107) S dL_walk_99 (by decide) (fun c_15 => ?_) (fun c_15 => ?_)
                          · refine lv_iload hx hb dL_walk_107 (lv_at hl 10 rfl) ?_
                            refine lv_istore (lv' := [(9, .int (-1)), (11, .int (nI j_9)), (0, .int (nI n)), (1, .int (nI key)), (2, .ref (q 0)), (3, .ref (q 1)), (4, .ref (q 2)), (5, .ref (q 3)), (6, .int (nI x)), (7, .int (nI k)), (8, .int (nI j_2)), (10, .int (nI d))]) hx hb dL_walk_109 hl (by decide) rfl (fun ls hl => ?_)
                            refine lv_iinc (v := ((nI d) + (-1))) (lv' := [(10, .int ((nI d) + (-1))), (9, .int (-1)), (11, .int (nI j_9)), (0, .int (nI n)), (1, .int (nI key)), (2, .ref (q 0)), (3, .ref (q 1)), (4, .ref (q 2)), (5, .ref (q 3)), (6, .int (nI x)), (7, .int (nI k)), (8, .int (nI j_2))]) hx hb dL_walk_111 hl (k := 11) rfl rfl (by decide) rfl (fun ls hl => ?_)
                            refine lv_goto (tgt := 50) hx hb dL_walk_114 (by decide) ?_
                            exact ih _ _ (by omega) rfl (Or.inl ⟨rfl, by rw [hb2]; simp only [hopT, alv_m1, ej_9, c_13, (bt_f hj_9 t9 hk0 c_15), eq_self, Bool.false_eq_true, ↓reduceIte]⟩) ls (lv_sub hl [3, 4, 5, 6, 7, 8, 9, 10, 11, 1, 0] rfl)
                          · refine lv_iload hx hb dL_walk_102 (lv_at hl 0 rfl) ?_
                            refine lv_goto (tgt := 109) hx hb dL_walk_104 (by decide) ?_
                            refine lv_istore (lv' := [(9, .int (nI j_9)), (11, .int (nI j_9)), (0, .int (nI n)), (1, .int (nI key)), (2, .ref (q 0)), (3, .ref (q 1)), (4, .ref (q 2)), (5, .ref (q 3)), (6, .int (nI x)), (7, .int (nI k)), (8, .int (nI j_2)), (10, .int (nI d))]) hx hb dL_walk_109 hl (by decide) rfl (fun ls hl => ?_)
                            refine lv_iinc (v := ((nI d) + (-1))) (lv' := [(10, .int ((nI d) + (-1))), (9, .int (nI j_9)), (11, .int (nI j_9)), (0, .int (nI n)), (1, .int (nI key)), (2, .ref (q 0)), (3, .ref (q 1)), (4, .ref (q 2)), (5, .ref (q 3)), (6, .int (nI x)), (7, .int (nI k)), (8, .int (nI j_2))]) hx hb dL_walk_111 hl (k := 11) rfl rfl (by decide) rfl (fun ls hl => ?_)
                            refine lv_goto (tgt := 50) hx hb dL_walk_114 (by decide) ?_
                            exact ih _ _ (by omega) rfl (Or.inr ⟨j_9, hj_9, rfl, by rw [hb2]; simp only [hopT, ej_9, c_13, (bt_t hj_9 t9 hk0 c_14 c_15), eq_self, Bool.false_eq_true, ↓reduceIte]⟩) ls (lv_sub hl [3, 4, 5, 6, 7, 8, 9, 10, 11, 1, 0] rfl)
              · subst hb1
                refine lv_iload hx hb dL_walk_50 (lv_at hl 10 rfl) ?_
                refine lv_if_lt (tgt := 117) hx hb dL_walk_52 (by decide) (fun c_16 => ?_) (fun c_16 => ?_)
                · exact absurd c_16 (nI_pos (by omega))
                · refine lv_aload hx hb dL_walk_55 (lv_at hl 5 rfl) ?_
                  refine lv_bipush (v := 6) hx hb dL_walk_57 (by decide) ?_
                  refine lv_aload_n hx hb dL_walk_59 rfl (lv_at hl 2 rfl) ?_
                  refine lv_iload hx hb dL_walk_60 (lv_at hl 6 rfl) ?_
                  refine va_iald hx hb hK hP 0 0 rfl rfl (vp_in_nI (n := x) (N := 64) (by omega) (by decide)) dL_walk_62 ?_
                  refine co_eq (rq_d hR t9 d9x) ?_
                  refine lv_imul hx hb dL_walk_63 ?_
                  refine co_eq (show (6 : Int32) * (nI (δ x)) = (nI (6 * (δ x))) from pk_mul 6 (δ x)) ?_
                  refine lv_iload hx hb dL_walk_64 (lv_at hl 10 rfl) ?_
                  refine lv_iadd hx hb dL_walk_66 ?_
                  refine co_eq (show (nI (6 * (δ x))) + (nI d) = (nI ((6 * (δ x)) + d)) from nI_add (6 * (δ x)) d) ?_
                  refine va_iald hx hb hK hP 3 0 rfl rfl (vp_in_nI (n := ((6 * (δ x)) + d)) (N := 60) (by omega) (by decide)) dL_walk_67 ?_
                  refine lv_istore (lv' := [(11, .int ((τ 3) (nI ((6 * (δ x)) + d)).toNatClampNeg)), (0, .int (nI n)), (1, .int (nI key)), (2, .ref (q 0)), (3, .ref (q 1)), (4, .ref (q 2)), (5, .ref (q 3)), (6, .int (nI x)), (7, .int (nI k)), (8, .int (nI j_2)), (9, .int (nI jb)), (10, .int (nI d))]) hx hb dL_walk_68 hl (by decide) rfl (fun ls hl => ?_)
                  refine lv_iload hx hb dL_walk_70 (lv_at hl 10 rfl) ?_
                  refine lv_if_ge (tgt := 107) hx hb dL_walk_72 (by decide) (fun c_17 => ?_) (fun c_17 => ?_)
                  · refine lv_iload hx hb dL_walk_107 (lv_at hl 10 rfl) ?_
                    refine lv_istore (lv' := [(9, .int (nI jb)), (11, .int ((τ 3) (nI ((6 * (δ x)) + d)).toNatClampNeg)), (0, .int (nI n)), (1, .int (nI key)), (2, .ref (q 0)), (3, .ref (q 1)), (4, .ref (q 2)), (5, .ref (q 3)), (6, .int (nI x)), (7, .int (nI k)), (8, .int (nI j_2)), (10, .int (nI d))]) hx hb dL_walk_109 hl (by decide) rfl (fun ls hl => ?_)
                    refine lv_iinc (v := ((nI d) + (-1))) (lv' := [(10, .int ((nI d) + (-1))), (9, .int (nI jb)), (11, .int ((τ 3) (nI ((6 * (δ x)) + d)).toNatClampNeg)), (0, .int (nI n)), (1, .int (nI key)), (2, .ref (q 0)), (3, .ref (q 1)), (4, .ref (q 2)), (5, .ref (q 3)), (6, .int (nI x)), (7, .int (nI k)), (8, .int (nI j_2))]) hx hb dL_walk_111 hl (k := 11) rfl rfl (by decide) rfl (fun ls hl => ?_)
                    refine lv_goto (tgt := 50) hx hb dL_walk_114 (by decide) ?_
                    exact ih _ _ (by omega) rfl (Or.inr ⟨jb, hjb, rfl, hb2⟩) ls (lv_sub hl [3, 4, 5, 6, 7, 8, 9, 10, 11, 1, 0] rfl)
                  · exact absurd (nI_pos' (by omega)) c_17
          exact LP2 6 5 (-1) (Nat.le_refl 6) (by decide) (Or.inl ⟨rfl, rfl⟩) ls (lv_sub hl [3, 4, 5, 6, 7, 8, 9, 10, 2, 1, 0] rfl)
        · refine lv_bipush (v := 100) hx hb dL_walk_35 (by decide) ?_
          refine lv_iload hx hb dL_walk_37 (lv_at hl 8 rfl) ?_
          refine lv_imul hx hb dL_walk_39 ?_
          refine co_eq (show (100 : Int32) * (nI k) = (nI (100 * k)) from pk_mul 100 k) ?_
          refine lv_iload hx hb dL_walk_40 (lv_at hl 0 rfl) ?_
          refine lv_iadd hx hb dL_walk_42 ?_
          refine co_eq (show (nI (100 * k)) + (nI j_2) = (nI ((100 * k) + j_2)) from nI_add (100 * k) j_2) ?_
          exact co_endR S hr hlocks dL_walk_43 (by show nI (100 * k + j_2) = nI (100 * hpc (σ 0) (σ 1) (σ 3) (nI key) 64 (nI n)) + fnd (σ 0) (σ 1) (σ 3) (nI key) 64 (nI n); rw [← hf9, ← hh9, fnd, hpc, if_pos (by rw [ej_2]; exact c_3), if_pos (by rw [ej_2]; exact c_3), ej_2, Nat.zero_add, nI_add])
  exact LP 64 0 n rfl hn (Nat.mod_lt _ (by decide)) rfl rfl ls (lv_sub hl [2, 3, 4, 5, 6, 7, 1, 0] rfl)

abbrev rm_L_found : Room := { frames := 3, cells := 0, slots := 0, locals := 77 }
set_option maxHeartbeats 4000000 in
set_option maxRecDepth 100000 in
theorem c_L_found (l : Launch) (G : cG) (Z : Nat) (q ν δ κ : Nat → Nat) (σ τ : cS) (hR : Rq Z ν δ κ σ τ)(n key : Nat) (hn : Lv σ n) (hk0 : key < 64) : MetR l yL_found wsL_found rm_L_found G (wQ G q τ) [.int (nI n), .int (nI key), .ref (q 0), .ref (q 1), .ref (q 2), .ref (q 3)] (fnR σ (nI n) (nI key)) := by
  refine co_bodyR (cc := cL_found) (maxL := 7) (ret := (some .int)) (by decide) rfl (Nat.le_of_ble_eq_true rfl) ?_
  intro p e s m args below meth c S hr hlocks hK hP ls hl
  have S : CallFix p m c cL_found 7 s args wsL_found RL := S
  obtain ⟨hx, hb, hml, hown, hts⟩ := id S
  have hl : lv_has ls 7 [(0, .int (nI n)), (1, .int (nI key)), (2, .ref (q 0)), (3, .ref (q 1)), (4, .ref (q 2)), (5, .ref (q 3))] := hl
  have hn0 : n < 64 := hn.1
  refine lv_iload_n hx hb dL_found_0 rfl (lv_at hl 0 rfl) ?_
  refine lv_iload_n hx hb dL_found_1 rfl (lv_at hl 1 rfl) ?_
  refine lv_aload_n hx hb dL_found_2 rfl (lv_at hl 2 rfl) ?_
  refine lv_aload_n hx hb dL_found_3 rfl (lv_at hl 3 rfl) ?_
  refine lv_aload hx hb dL_found_4 (lv_at hl 4 rfl) ?_
  refine lv_aload hx hb dL_found_6 (lv_at hl 5 rfl) ?_
  obtain ⟨j_1, ej_1, lj_1⟩ := Rq.fn hR hn hk0
  have tj_1 : j_1 < 64 := lj_1.1
  obtain ⟨h_2, eh_2⟩ : ∃ z9, z9 = (hpc (σ 0) (σ 1) (σ 3) (nI key) 64 (nI n)) := ⟨_, rfl⟩
  have gh_2 : h_2 < 64 := (by rw [eh_2]; exact Rq.hp hR hn hk0)
  refine co_rS (As := [.int (nI n), .int (nI key), .ref (q 0), .ref (q 1), .ref (q 2), .ref (q 3)]) (rest := []) S (c_L_walk l G Z q ν δ κ σ τ hR n key hn hk0) (va_cwS 6 hts gL_found_L_walk rfl rfl rfl (by decide +kernel) ⟨Nat.le_of_ble_eq_true rfl, Nat.le_of_ble_eq_true rfl⟩) hK hP rfl hl.1 rfl (Nat.le_of_ble_eq_true rfl) dL_found_8 ⟨Nat.zero_le _, Nat.zero_le _⟩ ?_
  refine co_eq (show nI (100 * (hpc (σ 0) (σ 1) (σ 3) (nI key) 64 (nI n))) + fnR σ (nI n) (nI key) = nI (100 * h_2 + j_1) by rw [← eh_2, ej_1, nI_add]) ?_
  refine lv_istore (lv' := [(6, .int (nI (100 * h_2 + j_1))), (0, .int (nI n)), (1, .int (nI key)), (2, .ref (q 0)), (3, .ref (q 1)), (4, .ref (q 2)), (5, .ref (q 3))]) hx hb dL_found_11 hl (by decide) rfl (fun ls hl => ?_)
  refine lv_iload hx hb dL_found_13 (lv_at hl 0 rfl) ?_
  refine lv_if_ge (tgt := 22) hx hb dL_found_15 (by decide) (fun c_3 => ?_) (fun c_3 => ?_)
  · refine lv_iload hx hb dL_found_22 (lv_at hl 0 rfl) ?_
    refine lv_bipush (v := 100) hx hb dL_found_24 (by decide) ?_
    refine lv_irem hx hb dL_found_26 (by decide) ?_
    refine co_eq (show (nI (100 * h_2 + j_1)) - (nI (100 * h_2 + j_1)) / 100 * 100 = (nI ((100 * h_2 + j_1) % 100)) from pk_rem (a := (100 * h_2 + j_1)) (d := 100) (by omega) (by decide) (by decide)) ?_
    exact co_endR S hr hlocks dL_found_27 (by rw [ej_1]; congr 1; omega)
  · exact absurd (nI_pos' (by omega)) c_3
