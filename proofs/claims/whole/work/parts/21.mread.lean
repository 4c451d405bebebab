abbrev rm_X3_isId : Room := { frames := 0, cells := 0, slots := 0, locals := 0 }
set_option maxHeartbeats 4000000 in
set_option maxRecDepth 100000 in
theorem c_X3_isId (l : Launch) (G : cG) (x : Int32) : MetR l yX3_isId wsX3_isId rm_X3_isId G ([] : va_W) [.int x] (bI (idB x)) := by
  refine co_bodyR (cc := cX3_isId) (maxL := 1) (ret := (some .boolean)) (by decide) rfl (Nat.le_of_ble_eq_true rfl) ?_
  intro p e s m args below meth c S hr hlocks hK hP ls hl
  have S : CallFix p m c cX3_isId 1 s args wsX3_isId RX3 := S
  obtain ⟨hx, hb, hml, hown, hts⟩ := id S
  have hl : lv_has ls 1 [(0, .int x)] := hl
  refine lv_iload_n hx hb dX3_isId_0 rfl (lv_at hl 0 rfl) ?_
  refine lv_if_lt (tgt := 14) hx hb dX3_isId_1 (by decide) (fun c_1 => ?_) (fun c_1 => ?_)
  · refine lv_iconst (v := 0) hx hb dX3_isId_14 (by decide) ?_
    exact co_endRz (v := false) S hr hlocks dX3_isId_15 (by simp only [idB, c_1, eq_self, Bool.false_eq_true, ↓reduceIte])
  · refine lv_iload_n hx hb dX3_isId_4 rfl (lv_at hl 0 rfl) ?_
    refine lv_bipush (v := 64) hx hb dX3_isId_5 (by decide) ?_
    refine lv_icmp_ge (tgt := 14) hx hb dX3_isId_7 (by decide) (fun c_2 => ?_) (fun c_2 => ?_)
    · refine lv_iconst (v := 0) hx hb dX3_isId_14 (by decide) ?_
      exact co_endRz (v := false) S hr hlocks dX3_isId_15 (by simp only [idB, c_1, c_2, eq_self, Bool.false_eq_true, ↓reduceIte])
    · refine lv_iconst (v := 1) hx hb dX3_isId_10 (by decide) ?_
      refine lv_goto (tgt := 15) hx hb dX3_isId_11 (by decide) ?_
      exact co_endRz (v := true) S hr hlocks dX3_isId_15 (by simp only [idB, c_1, c_2, eq_self, Bool.false_eq_true, ↓reduceIte])

abbrev rm_X3_up : Room := { frames := 0, cells := 0, slots := 0, locals := 0 }
set_option maxHeartbeats 4000000 in
set_option maxRecDepth 100000 in
theorem c_X3_up (l : Launch) (G : cG) (x y : Nat) (hx0 : x < 64) (hy0 : y < 64) : MetR l yX3_up wsX3_up rm_X3_up G ([] : va_W) [.int (nI x), .int (nI y)] (nI (upm x y)) := by
  refine co_bodyR (cc := cX3_up) (maxL := 2) (ret := (some .int)) (by decide) rfl (Nat.le_of_ble_eq_true rfl) ?_
  intro p e s m args below meth c S hr hlocks hK hP ls hl
  have S : CallFix p m c cX3_up 2 s args wsX3_up RX3 := S
  obtain ⟨hx, hb, hml, hown, hts⟩ := id S
  have hl : lv_has ls 2 [(0, .int (nI x)), (1, .int (nI y))] := hl
  refine lv_iload_n hx hb dX3_up_0 rfl (lv_at hl 1 rfl) ?_
  refine lv_iload_n hx hb dX3_up_1 rfl (lv_at hl 0 rfl) ?_
  refine lv_isub hx hb dX3_up_2 ?_
  refine lv_bipush (v := 64) hx hb dX3_up_3 (by decide) ?_
  refine lv_iadd hx hb dX3_up_5 ?_
  refine lv_bipush (v := 64) hx hb dX3_up_6 (by decide) ?_
  refine lv_irem hx hb dX3_up_8 (by decide) ?_
  exact co_endR S hr hlocks dX3_up_9 (by exact up_leaf hx0 hy0)

abbrev rm_X3_isWithin : Room := { frames := 1, cells := 0, slots := 0, locals := 21 }
set_option maxHeartbeats 4000000 in
set_option maxRecDepth 100000 in
theorem c_X3_isWithin (l : Launch) (G : cG) (x a b : Nat) (hx0 : x < 64) (ha0 : a < 64) (hb0 : b < 64) : MetR l yX3_isWithin wsX3_isWithin rm_X3_isWithin G ([] : va_W) [.int (nI x), .int (nI a), .int (nI b)] (bI (upTo (nI x) (nI a) (nI b))) := by
  refine co_bodyR (cc := cX3_isWithin) (maxL := 5) (ret := (some .boolean)) (by decide) rfl (Nat.le_of_ble_eq_true rfl) ?_
  intro p e s m args below meth c S hr hlocks hK hP ls hl
  have S : CallFix p m c cX3_isWithin 5 s args wsX3_isWithin RX3 := S
  obtain ⟨hx, hb, hml, hown, hts⟩ := id S
  have hl : lv_has ls 5 [(0, .int (nI x)), (1, .int (nI a)), (2, .int (nI b))] := hl
  refine lv_iload_n hx hb dX3_isWithin_0 rfl (lv_at hl 1 rfl) ?_
  refine lv_iload_n hx hb dX3_isWithin_1 rfl (lv_at hl 2 rfl) ?_
  refine co_rS (As := [.int (nI a), .int (nI b)]) (rest := []) S (c_X3_up l G a b ha0 hb0) (va_cwS 2 hts gX3_isWithin_X3_up rfl rfl rfl (by decide +kernel) ⟨Nat.le_of_ble_eq_true rfl, Nat.le_of_ble_eq_true rfl⟩) hK (pG_nil) rfl hl.1 rfl (Nat.le_of_ble_eq_true rfl) dX3_isWithin_2 ⟨Nat.zero_le _, Nat.zero_le _⟩ ?_
  refine lv_if_ne (tgt := 13) hx hb dX3_isWithin_5 (by decide) (fun c_1 => ?_) (fun c_1 => ?_)
  · refine lv_iload_n hx hb dX3_isWithin_13 rfl (lv_at hl 1 rfl) ?_
    refine lv_iload_n hx hb dX3_isWithin_14 rfl (lv_at hl 2 rfl) ?_
    refine co_rS (As := [.int (nI a), .int (nI b)]) (rest := []) S (c_X3_up l G a b ha0 hb0) (va_cwS 2 hts gX3_isWithin_X3_up rfl rfl rfl (by decide +kernel) ⟨Nat.le_of_ble_eq_true rfl, Nat.le_of_ble_eq_true rfl⟩) hK (pG_nil) rfl hl.1 rfl (Nat.le_of_ble_eq_true rfl) dX3_isWithin_15 ⟨Nat.zero_le _, Nat.zero_le _⟩ ?_
    refine lv_istore_n (lv' := [(3, .int (nI (upm a b))), (0, .int (nI x)), (1, .int (nI a)), (2, .int (nI b))]) hx hb dX3_isWithin_18 rfl hl (by decide) rfl (fun ls hl => ?_)
    refine lv_iload_n hx hb dX3_isWithin_19 rfl (lv_at hl 2 rfl) ?_
    refine lv_iload_n hx hb dX3_isWithin_20 rfl (lv_at hl 1 rfl) ?_
    refine co_rS (As := [.int (nI a), .int (nI x)]) (rest := []) S (c_X3_up l G a x ha0 hx0) (va_cwS 2 hts gX3_isWithin_X3_up rfl rfl rfl (by decide +kernel) ⟨Nat.le_of_ble_eq_true rfl, Nat.le_of_ble_eq_true rfl⟩) hK (pG_nil) rfl hl.1 rfl (Nat.le_of_ble_eq_true rfl) dX3_isWithin_21 ⟨Nat.zero_le _, Nat.zero_le _⟩ ?_
    refine lv_if_ne (tgt := 32) hx hb dX3_isWithin_24 (by decide) (fun c_2 => ?_) (fun c_2 => ?_)
    · refine lv_iload_n hx hb dX3_isWithin_32 rfl (lv_at hl 2 rfl) ?_
      refine lv_iload_n hx hb dX3_isWithin_33 rfl (lv_at hl 1 rfl) ?_
      refine co_rS (As := [.int (nI a), .int (nI x)]) (rest := []) S (c_X3_up l G a x ha0 hx0) (va_cwS 2 hts gX3_isWithin_X3_up rfl rfl rfl (by decide +kernel) ⟨Nat.le_of_ble_eq_true rfl, Nat.le_of_ble_eq_true rfl⟩) hK (pG_nil) rfl hl.1 rfl (Nat.le_of_ble_eq_true rfl) dX3_isWithin_34 ⟨Nat.zero_le _, Nat.zero_le _⟩ ?_
      refine lv_istore (lv' := [(4, .int (nI (upm a x))), (3, .int (nI (upm a b))), (0, .int (nI x)), (1, .int (nI a)), (2, .int (nI b))]) hx hb dX3_isWithin_37 hl (by decide) rfl (fun ls hl => ?_)
      refine lv_iload hx hb dX3_isWithin_39 (lv_at hl 0 rfl) ?_
      refine lv_iload_n hx hb dX3_isWithin_41 rfl (lv_at hl 1 rfl) ?_
      refine lv_icmp_gt (tgt := 49) hx hb dX3_isWithin_42 (by decide) (fun c_3 => ?_) (fun c_3 => ?_)
      · refine lv_iconst (v := 0) hx hb dX3_isWithin_49 (by decide) ?_
        exact co_endRz (v := false) S hr hlocks dX3_isWithin_50 (by exact (iw_leaf hx0 ha0 hb0 (Or.inr ⟨c_1, rfl⟩) (Or.inr ⟨c_2, rfl⟩)).1 c_3)
      · refine lv_iconst (v := 1) hx hb dX3_isWithin_45 (by decide) ?_
        refine lv_goto (tgt := 50) hx hb dX3_isWithin_46 (by decide) ?_
        exact co_endRz (v := true) S hr hlocks dX3_isWithin_50 (by exact (iw_leaf hx0 ha0 hb0 (Or.inr ⟨c_1, rfl⟩) (Or.inr ⟨c_2, rfl⟩)).2 c_3)
    · refine lv_bipush (v := 64) hx hb dX3_isWithin_27 (by decide) ?_
      refine lv_goto (tgt := 37) hx hb dX3_isWithin_29 (by decide) ?_
      refine lv_istore (lv' := [(4, .int 64), (3, .int (nI (upm a b))), (0, .int (nI x)), (1, .int (nI a)), (2, .int (nI b))]) hx hb dX3_isWithin_37 hl (by decide) rfl (fun ls hl => ?_)
      refine lv_iload hx hb dX3_isWithin_39 (lv_at hl 0 rfl) ?_
      refine lv_iload_n hx hb dX3_isWithin_41 rfl (lv_at hl 1 rfl) ?_
      refine lv_icmp_gt (tgt := 49) hx hb dX3_isWithin_42 (by decide) (fun c_4 => ?_) (fun c_4 => ?_)
      · refine lv_iconst (v := 0) hx hb dX3_isWithin_49 (by decide) ?_
        exact co_endRz (v := false) S hr hlocks dX3_isWithin_50 (by exact (iw_leaf hx0 ha0 hb0 (Or.inr ⟨c_1, rfl⟩) (Or.inl ⟨c_2, rfl⟩)).1 c_4)
      · refine lv_iconst (v := 1) hx hb dX3_isWithin_45 (by decide) ?_
        refine lv_goto (tgt := 50) hx hb dX3_isWithin_46 (by decide) ?_
        exact co_endRz (v := true) S hr hlocks dX3_isWithin_50 (by exact (iw_leaf hx0 ha0 hb0 (Or.inr ⟨c_1, rfl⟩) (Or.inl ⟨c_2, rfl⟩)).2 c_4)
  · refine lv_bipush (v := 64) hx hb dX3_isWithin_8 (by decide) ?_
    refine lv_goto (tgt := 18) hx hb dX3_isWithin_10 (by decide) ?_
    refine lv_istore_n (lv' := [(3, .int 64), (0, .int (nI x)), (1, .int (nI a)), (2, .int (nI b))]) hx hb dX3_isWithin_18 rfl hl (by decide) rfl (fun ls hl => ?_)
    refine lv_iload_n hx hb dX3_isWithin_19 rfl (lv_at hl 2 rfl) ?_
    refine lv_iload_n hx hb dX3_isWithin_20 rfl (lv_at hl 1 rfl) ?_
    refine co_rS (As := [.int (nI a), .int (nI x)]) (rest := []) S (c_X3_up l G a x ha0 hx0) (va_cwS 2 hts gX3_isWithin_X3_up rfl rfl rfl (by decide +kernel) ⟨Nat.le_of_ble_eq_true rfl, Nat.le_of_ble_eq_true rfl⟩) hK (pG_nil) rfl hl.1 rfl (Nat.le_of_ble_eq_true rfl) dX3_isWithin_21 ⟨Nat.zero_le _, Nat.zero_le _⟩ ?_
    refine lv_if_ne (tgt := 32) hx hb dX3_isWithin_24 (by decide) (fun c_5 => ?_) (fun c_5 => ?_)
    · refine lv_iload_n hx hb dX3_isWithin_32 rfl (lv_at hl 2 rfl) ?_
      refine lv_iload_n hx hb dX3_isWithin_33 rfl (lv_at hl 1 rfl) ?_
      refine co_rS (As := [.int (nI a), .int (nI x)]) (rest := []) S (c_X3_up l G a x ha0 hx0) (va_cwS 2 hts gX3_isWithin_X3_up rfl rfl rfl (by decide +kernel) ⟨Nat.le_of_ble_eq_true rfl, Nat.le_of_ble_eq_true rfl⟩) hK (pG_nil) rfl hl.1 rfl (Nat.le_of_ble_eq_true rfl) dX3_isWithin_34 ⟨Nat.zero_le _, Nat.zero_le _⟩ ?_
      refine lv_istore (lv' := [(4, .int (nI (upm a x))), (3, .int 64), (0, .int (nI x)), (1, .int (nI a)), (2, .int (nI b))]) hx hb dX3_isWithin_37 hl (by decide) rfl (fun ls hl => ?_)
      refine lv_iload hx hb dX3_isWithin_39 (lv_at hl 0 rfl) ?_
      refine lv_iload_n hx hb dX3_isWithin_41 rfl (lv_at hl 1 rfl) ?_
      refine lv_icmp_gt (tgt := 49) hx hb dX3_isWithin_42 (by decide) (fun c_6 => ?_) (fun c_6 => ?_)
      · refine lv_iconst (v := 0) hx hb dX3_isWithin_49 (by decide) ?_
        exact co_endRz (v := false) S hr hlocks dX3_isWithin_50 (by exact (iw_leaf hx0 ha0 hb0 (Or.inl ⟨c_1, rfl⟩) (Or.inr ⟨c_5, rfl⟩)).1 c_6)
      · refine lv_iconst (v := 1) hx hb dX3_isWithin_45 (by decide) ?_
        refine lv_goto (tgt := 50) hx hb dX3_isWithin_46 (by decide) ?_
        exact co_endRz (v := true) S hr hlocks dX3_isWithin_50 (by exact (iw_leaf hx0 ha0 hb0 (Or.inl ⟨c_1, rfl⟩) (Or.inr ⟨c_5, rfl⟩)).2 c_6)
    · refine lv_bipush (v := 64) hx hb dX3_isWithin_27 (by decide) ?_
      refine lv_goto (tgt := 37) hx hb dX3_isWithin_29 (by decide) ?_
      refine lv_istore (lv' := [(4, .int 64), (3, .int 64), (0, .int (nI x)), (1, .int (nI a)), (2, .int (nI b))]) hx hb dX3_isWithin_37 hl (by decide) rfl (fun ls hl => ?_)
      refine lv_iload hx hb dX3_isWithin_39 (lv_at hl 0 rfl) ?_
      refine lv_iload_n hx hb dX3_isWithin_41 rfl (lv_at hl 1 rfl) ?_
      refine lv_icmp_gt (tgt := 49) hx hb dX3_isWithin_42 (by decide) (fun c_7 => ?_) (fun c_7 => ?_)
      · exact absurd c_7 (by decide)
      · refine lv_iconst (v := 1) hx hb dX3_isWithin_45 (by decide) ?_
        refine lv_goto (tgt := 50) hx hb dX3_isWithin_46 (by decide) ?_
        exact co_endRz (v := true) S hr hlocks dX3_isWithin_50 (by exact (iw_leaf hx0 ha0 hb0 (Or.inl ⟨c_1, rfl⟩) (Or.inl ⟨c_5, rfl⟩)).2 c_7)

abbrev rm_X3_isBetween : Room := { frames := 2, cells := 0, slots := 0, locals := 45 }
set_option maxHeartbeats 4000000 in
set_option maxRecDepth 100000 in
theorem c_X3_isBetween (l : Launch) (G : cG) (x a b : Nat) (hx0 : x < 64) (ha0 : a < 64) (hb0 : b < 64) : MetR l yX3_isBetween wsX3_isBetween rm_X3_isBetween G ([] : va_W) [.int (nI x), .int (nI a), .int (nI b)] (bI (btw (nI x) (nI a) (nI b))) := by
  refine co_bodyR (cc := cX3_isBetween) (maxL := 3) (ret := (some .boolean)) (by decide) rfl (Nat.le_of_ble_eq_true rfl) ?_
  intro p e s m args below meth c S hr hlocks hK hP ls hl
  have S : CallFix p m c cX3_isBetween 3 s args wsX3_isBetween RX3 := S
  obtain ⟨hx, hb, hml, hown, hts⟩ := id S
  have hl : lv_has ls 3 [(0, .int (nI x)), (1, .int (nI a)), (2, .int (nI b))] := hl
  refine lv_iload_n hx hb dX3_isBetween_0 rfl (lv_at hl 0 rfl) ?_
  refine lv_iload_n hx hb dX3_isBetween_1 rfl (lv_at hl 2 rfl) ?_
  refine lv_icmp_eq (tgt := 18) hx hb dX3_isBetween_2 (by decide) (fun c_1 => ?_) (fun c_1 => ?_)
  · refine lv_iconst (v := 0) hx hb dX3_isBetween_18 (by decide) ?_
    exact co_endRz (v := false) S hr hlocks dX3_isBetween_19 (by exact ib_eq hx0 ha0 hb0 c_1)
  · refine lv_iload_n hx hb dX3_isBetween_5 rfl (lv_at hl 0 rfl) ?_
    refine lv_iload_n hx hb dX3_isBetween_6 rfl (lv_at hl 1 rfl) ?_
    refine lv_iload_n hx hb dX3_isBetween_7 rfl (lv_at hl 2 rfl) ?_
    refine co_rS (As := [.int (nI x), .int (nI a), .int (nI b)]) (rest := []) S (c_X3_isWithin l G x a b hx0 ha0 hb0) (va_cwS 3 hts gX3_isBetween_X3_isWithin rfl rfl rfl (by decide +kernel) ⟨Nat.le_of_ble_eq_true rfl, Nat.le_of_ble_eq_true rfl⟩) hK (pG_nil) rfl hl.1 rfl (Nat.le_of_ble_eq_true rfl) dX3_isBetween_8 ⟨Nat.zero_le _, Nat.zero_le _⟩ ?_
    refine co_ifeq (tgt := 18) S dX3_isBetween_11 (by decide) (fun c_2 => ?_) (fun c_2 => ?_)
    · refine lv_iconst (v := 0) hx hb dX3_isBetween_18 (by decide) ?_
      exact co_endRz (v := false) S hr hlocks dX3_isBetween_19 (by exact ib_f hx0 ha0 hb0 c_2)
    · refine lv_iconst (v := 1) hx hb dX3_isBetween_14 (by decide) ?_
      refine lv_goto (tgt := 19) hx hb dX3_isBetween_15 (by decide) ?_
      exact co_endRz (v := true) S hr hlocks dX3_isBetween_19 (by exact ib_t hx0 ha0 hb0 c_1 c_2)

set_option maxRecDepth 20000 in
theorem uX3_X3_liveSuccessorOf : ∀ w ∈ u_ws RX3 TX3 13, w ∈ wsX3_liveSuccessorOf := by decide +kernel
abbrev rm_X3_liveSuccessorOf : Room := { frames := 0, cells := 0, slots := 0, locals := 0 }
set_option maxHeartbeats 4000000 in
set_option maxRecDepth 100000 in
theorem c_X3_liveSuccessorOf (l : Launch) (G : cG) (Z : Nat) (b : Nat → Nat) (σ μ : cS) (hR : Rl Z σ μ)(n : Nat) (hn : Lv σ n) : MetR l yX3_liveSuccessorOf wsX3_liveSuccessorOf rm_X3_liveSuccessorOf G (wM G b μ) [.ref (b 0), .int (nI n)] (lsF (σ 0) (σ 1) (nI n)) := by
  refine co_bodyR (cc := cX3_liveSuccessorOf) (maxL := 4) (ret := (some .int)) (by decide) rfl (Nat.le_of_ble_eq_true rfl) ?_
  intro p e s m args below meth c S hr hlocks hK hP ls hl
  have S : CallFix p m c cX3_liveSuccessorOf 4 s args wsX3_liveSuccessorOf RX3 := S
  obtain ⟨hx, hb, hml, hown, hts⟩ := id S
  have hl : lv_has ls 4 [(0, .ref (b 0)), (1, .int (nI n))] := hl
  have uX3 := uX3_X3_liveSuccessorOf
  refine lv_iload_n hx hb dX3_liveSuccessorOf_0 rfl (lv_at hl 1 rfl) ?_
  refine lv_istore_n (lv' := [(2, .int (nI n)), (0, .ref (b 0)), (1, .int (nI n))]) hx hb dX3_liveSuccessorOf_1 rfl hl (by decide) rfl (fun ls hl => ?_)
  refine lv_iconst (v := 2) hx hb dX3_liveSuccessorOf_2 (by decide) ?_
  refine lv_istore_n (lv' := [(3, .int 2), (2, .int (nI n)), (0, .ref (b 0)), (1, .int (nI n))]) hx hb dX3_liveSuccessorOf_3 rfl hl (by decide) rfl (fun ls hl => ?_)
  refine lv_iload_n hx hb dX3_liveSuccessorOf_4 rfl (lv_at hl 0 rfl) ?_
  refine lv_if_lt (tgt := 47) hx hb dX3_liveSuccessorOf_5 (by decide) (fun c_1 => ?_) (fun c_1 => ?_)
  · exact absurd c_1 (by decide)
  · refine lv_aload_n hx hb dX3_liveSuccessorOf_8 rfl (lv_at hl 2 rfl) ?_
    refine va_get (D := G.1) (ci := 2) (v := .ref (b 1)) (C := RX3) (T := TX3) (N := 13) hx hb hts uX3 hown hK hP 0 rfl rfl 2 (by decide) (hts (.fieldLink RX3 7 "ChordOverlayModel" "lives" "[Z") (by decide +kernel)) (fun _ h9 => h9) rfl dX3_liveSuccessorOf_9 ?_
    refine lv_aload_n hx hb dX3_liveSuccessorOf_12 rfl (lv_at hl 2 rfl) ?_
    refine va_get (D := G.1) (ci := 2) (v := .ref (b 2)) (C := RX3) (T := TX3) (N := 13) hx hb hts uX3 hown hK hP 0 rfl rfl 3 (by decide) (hts (.fieldLink RX3 13 "ChordOverlayModel" "successor" "[I") (by decide +kernel)) (fun _ h9 => h9) rfl dX3_liveSuccessorOf_13 ?_
    refine lv_iconst (v := 3) hx hb dX3_liveSuccessorOf_16 (by decide) ?_
    refine lv_iload_n hx hb dX3_liveSuccessorOf_17 rfl (lv_at hl 3 rfl) ?_
    refine lv_imul hx hb dX3_liveSuccessorOf_18 ?_
    refine lv_iload_n hx hb dX3_liveSuccessorOf_19 rfl (lv_at hl 0 rfl) ?_
    refine lv_iadd hx hb dX3_liveSuccessorOf_20 ?_
    refine va_iald hx hb hK hP 2 0 rfl rfl (vi_w (w := 3) (p := 2) (by decide) hn.1 (by decide)) dX3_liveSuccessorOf_21 ?_
    obtain ⟨j_2, hj_2, ej_2, mj_2⟩ := rl_s hR hn 2 (by decide)
    have ej_2 : tat 3 (σ 1) (nI n) 2 = nI j_2 := ej_2
    refine co_eq mj_2 ?_
    refine va_zald hx hb hK hP 1 1 rfl rfl (vi_1 hj_2) dX3_liveSuccessorOf_22 ?_
    refine co_eq (y := bI (alv (σ 0) (nI j_2))) (rl_l hR hj_2) ?_
    refine co_ifeq (tgt := 39) S dX3_liveSuccessorOf_23 (by decide) (fun c_3 => ?_) (fun c_3 => ?_)
    · refine lv_iload_n hx hb dX3_liveSuccessorOf_39 rfl (lv_at hl 1 rfl) ?_
      refine lv_istore_n (lv' := [(2, .int (nI n)), (3, .int 2), (0, .ref (b 0)), (1, .int (nI n))]) hx hb dX3_liveSuccessorOf_40 rfl hl (by decide) rfl (fun ls hl => ?_)
      refine lv_iinc (v := 1) (lv' := [(3, .int 1), (2, .int (nI n)), (0, .ref (b 0)), (1, .int (nI n))]) hx hb dX3_liveSuccessorOf_41 hl (k := 1) rfl (by decide) (by decide) rfl (fun ls hl => ?_)
      refine lv_goto (tgt := 4) hx hb dX3_liveSuccessorOf_44 (by decide) ?_
      refine lv_iload_n hx hb dX3_liveSuccessorOf_4 rfl (lv_at hl 0 rfl) ?_
      refine lv_if_lt (tgt := 47) hx hb dX3_liveSuccessorOf_5 (by decide) (fun c_4 => ?_) (fun c_4 => ?_)
      · exact absurd c_4 (by decide)
      · refine lv_aload_n hx hb dX3_liveSuccessorOf_8 rfl (lv_at hl 2 rfl) ?_
        refine va_get (D := G.1) (ci := 2) (v := .ref (b 1)) (C := RX3) (T := TX3) (N := 13) hx hb hts uX3 hown hK hP 0 rfl rfl 2 (by decide) (hts (.fieldLink RX3 7 "ChordOverlayModel" "lives" "[Z") (by decide +kernel)) (fun _ h9 => h9) rfl dX3_liveSuccessorOf_9 ?_
        refine lv_aload_n hx hb dX3_liveSuccessorOf_12 rfl (lv_at hl 2 rfl) ?_
        refine va_get (D := G.1) (ci := 2) (v := .ref (b 2)) (C := RX3) (T := TX3) (N := 13) hx hb hts uX3 hown hK hP 0 rfl rfl 3 (by decide) (hts (.fieldLink RX3 13 "ChordOverlayModel" "successor" "[I") (by decide +kernel)) (fun _ h9 => h9) rfl dX3_liveSuccessorOf_13 ?_
        refine lv_iconst (v := 3) hx hb dX3_liveSuccessorOf_16 (by decide) ?_
        refine lv_iload_n hx hb dX3_liveSuccessorOf_17 rfl (lv_at hl 3 rfl) ?_
        refine lv_imul hx hb dX3_liveSuccessorOf_18 ?_
        refine lv_iload_n hx hb dX3_liveSuccessorOf_19 rfl (lv_at hl 0 rfl) ?_
        refine lv_iadd hx hb dX3_liveSuccessorOf_20 ?_
        refine va_iald hx hb hK hP 2 0 rfl rfl (vi_w (w := 3) (p := 1) (by decide) hn.1 (by decide)) dX3_liveSuccessorOf_21 ?_
        obtain ⟨j_5, hj_5, ej_5, mj_5⟩ := rl_s hR hn 1 (by decide)
        have ej_5 : tat 3 (σ 1) (nI n) 1 = nI j_5 := ej_5
        refine co_eq mj_5 ?_
        refine va_zald hx hb hK hP 1 1 rfl rfl (vi_1 hj_5) dX3_liveSuccessorOf_22 ?_
        refine co_eq (y := bI (alv (σ 0) (nI j_5))) (rl_l hR hj_5) ?_
        refine co_ifeq (tgt := 39) S dX3_liveSuccessorOf_23 (by decide) (fun c_6 => ?_) (fun c_6 => ?_)
        · refine lv_iload_n hx hb dX3_liveSuccessorOf_39 rfl (lv_at hl 1 rfl) ?_
          refine lv_istore_n (lv' := [(2, .int (nI n)), (3, .int 1), (0, .ref (b 0)), (1, .int (nI n))]) hx hb dX3_liveSuccessorOf_40 rfl hl (by decide) rfl (fun ls hl => ?_)
          refine lv_iinc (v := 0) (lv' := [(3, .int 0), (2, .int (nI n)), (0, .ref (b 0)), (1, .int (nI n))]) hx hb dX3_liveSuccessorOf_41 hl (k := 1) rfl (by decide) (by decide) rfl (fun ls hl => ?_)
          refine lv_goto (tgt := 4) hx hb dX3_liveSuccessorOf_44 (by decide) ?_
          refine lv_iload_n hx hb dX3_liveSuccessorOf_4 rfl (lv_at hl 0 rfl) ?_
          refine lv_if_lt (tgt := 47) hx hb dX3_liveSuccessorOf_5 (by decide) (fun c_7 => ?_) (fun c_7 => ?_)
          · exact absurd c_7 (by decide)
          · refine lv_aload_n hx hb dX3_liveSuccessorOf_8 rfl (lv_at hl 2 rfl) ?_
            refine va_get (D := G.1) (ci := 2) (v := .ref (b 1)) (C := RX3) (T := TX3) (N := 13) hx hb hts uX3 hown hK hP 0 rfl rfl 2 (by decide) (hts (.fieldLink RX3 7 "ChordOverlayModel" "lives" "[Z") (by decide +kernel)) (fun _ h9 => h9) rfl dX3_liveSuccessorOf_9 ?_
            refine lv_aload_n hx hb dX3_liveSuccessorOf_12 rfl (lv_at hl 2 rfl) ?_
            refine va_get (D := G.1) (ci := 2) (v := .ref (b 2)) (C := RX3) (T := TX3) (N := 13) hx hb hts uX3 hown hK hP 0 rfl rfl 3 (by decide) (hts (.fieldLink RX3 13 "ChordOverlayModel" "successor" "[I") (by decide +kernel)) (fun _ h9 => h9) rfl dX3_liveSuccessorOf_13 ?_
            refine lv_iconst (v := 3) hx hb dX3_liveSuccessorOf_16 (by decide) ?_
            refine lv_iload_n hx hb dX3_liveSuccessorOf_17 rfl (lv_at hl 3 rfl) ?_
            refine lv_imul hx hb dX3_liveSuccessorOf_18 ?_
            refine lv_iload_n hx hb dX3_liveSuccessorOf_19 rfl (lv_at hl 0 rfl) ?_
            refine lv_iadd hx hb dX3_liveSuccessorOf_20 ?_
            refine va_iald hx hb hK hP 2 0 rfl rfl (vi_w (w := 3) (p := 0) (by decide) hn.1 (by decide)) dX3_liveSuccessorOf_21 ?_
            obtain ⟨j_8, hj_8, ej_8, mj_8⟩ := rl_s hR hn 0 (by decide)
            have ej_8 : tat 3 (σ 1) (nI n) 0 = nI j_8 := ej_8
            refine co_eq mj_8 ?_
            refine va_zald hx hb hK hP 1 1 rfl rfl (vi_1 hj_8) dX3_liveSuccessorOf_22 ?_
            refine co_eq (y := bI (alv (σ 0) (nI j_8))) (rl_l hR hj_8) ?_
            refine co_ifeq (tgt := 39) S dX3_liveSuccessorOf_23 (by decide) (fun c_9 => ?_) (fun c_9 => ?_)
            · refine lv_iload_n hx hb dX3_liveSuccessorOf_39 rfl (lv_at hl 1 rfl) ?_
              refine lv_istore_n (lv' := [(2, .int (nI n)), (3, .int 0), (0, .ref (b 0)), (1, .int (nI n))]) hx hb dX3_liveSuccessorOf_40 rfl hl (by decide) rfl (fun ls hl => ?_)
              refine lv_iinc (v := (-1)) (lv' := [(3, .int (-1)), (2, .int (nI n)), (0, .ref (b 0)), (1, .int (nI n))]) hx hb dX3_liveSuccessorOf_41 hl (k := 1) rfl (by decide) (by decide) rfl (fun ls hl => ?_)
              refine lv_goto (tgt := 4) hx hb dX3_liveSuccessorOf_44 (by decide) ?_
              refine lv_iload_n hx hb dX3_liveSuccessorOf_4 rfl (lv_at hl 0 rfl) ?_
              refine lv_if_lt (tgt := 47) hx hb dX3_liveSuccessorOf_5 (by decide) (fun c_10 => ?_) (fun c_10 => ?_)
              · refine lv_iload_n hx hb dX3_liveSuccessorOf_47 rfl (lv_at hl 1 rfl) ?_
                exact co_endR S hr hlocks dX3_liveSuccessorOf_48 (by simp only [lsF, ej_2, ej_5, ej_8, c_1, c_3, c_4, c_6, c_7, c_9, c_10, eq_self, Bool.false_eq_true, ↓reduceIte])
              · exact absurd (by decide) c_10
            · refine lv_aload_n hx hb dX3_liveSuccessorOf_26 rfl (lv_at hl 2 rfl) ?_
              refine va_get (D := G.1) (ci := 2) (v := .ref (b 2)) (C := RX3) (T := TX3) (N := 13) hx hb hts uX3 hown hK hP 0 rfl rfl 3 (by decide) (hts (.fieldLink RX3 13 "ChordOverlayModel" "successor" "[I") (by decide +kernel)) (fun _ h9 => h9) rfl dX3_liveSuccessorOf_27 ?_
              refine lv_iconst (v := 3) hx hb dX3_liveSuccessorOf_30 (by decide) ?_
              refine lv_iload_n hx hb dX3_liveSuccessorOf_31 rfl (lv_at hl 3 rfl) ?_
              refine lv_imul hx hb dX3_liveSuccessorOf_32 ?_
              refine lv_iload_n hx hb dX3_liveSuccessorOf_33 rfl (lv_at hl 0 rfl) ?_
              refine lv_iadd hx hb dX3_liveSuccessorOf_34 ?_
              refine va_iald hx hb hK hP 2 0 rfl rfl (vi_w (w := 3) (p := 0) (by decide) hn.1 (by decide)) dX3_liveSuccessorOf_35 ?_
              refine co_eq mj_8 ?_
              refine lv_goto (tgt := 40) hx hb dX3_liveSuccessorOf_36 (by decide) ?_
              refine lv_istore_n (lv' := [(2, .int (nI j_8)), (3, .int 0), (0, .ref (b 0)), (1, .int (nI n))]) hx hb dX3_liveSuccessorOf_40 rfl hl (by decide) rfl (fun ls hl => ?_)
              refine lv_iinc (v := (-1)) (lv' := [(3, .int (-1)), (2, .int (nI j_8)), (0, .ref (b 0)), (1, .int (nI n))]) hx hb dX3_liveSuccessorOf_41 hl (k := 1) rfl (by decide) (by decide) rfl (fun ls hl => ?_)
              refine lv_goto (tgt := 4) hx hb dX3_liveSuccessorOf_44 (by decide) ?_
              refine lv_iload_n hx hb dX3_liveSuccessorOf_4 rfl (lv_at hl 0 rfl) ?_
              refine lv_if_lt (tgt := 47) hx hb dX3_liveSuccessorOf_5 (by decide) (fun c_11 => ?_) (fun c_11 => ?_)
              · refine lv_iload_n hx hb dX3_liveSuccessorOf_47 rfl (lv_at hl 1 rfl) ?_
                exact co_endR S hr hlocks dX3_liveSuccessorOf_48 (by simp only [lsF, ej_2, ej_5, ej_8, c_1, c_3, c_4, c_6, c_7, c_9, c_11, eq_self, Bool.false_eq_true, ↓reduceIte])
              · exact absurd (by decide) c_11
        · refine lv_aload_n hx hb dX3_liveSuccessorOf_26 rfl (lv_at hl 2 rfl) ?_
          refine va_get (D := G.1) (ci := 2) (v := .ref (b 2)) (C := RX3) (T := TX3) (N := 13) hx hb hts uX3 hown hK hP 0 rfl rfl 3 (by decide) (hts (.fieldLink RX3 13 "ChordOverlayModel" "successor" "[I") (by decide +kernel)) (fun _ h9 => h9) rfl dX3_liveSuccessorOf_27 ?_
          refine lv_iconst (v := 3) hx hb dX3_liveSuccessorOf_30 (by decide) ?_
          refine lv_iload_n hx hb dX3_liveSuccessorOf_31 rfl (lv_at hl 3 rfl) ?_
          refine lv_imul hx hb dX3_liveSuccessorOf_32 ?_
          refine lv_iload_n hx hb dX3_liveSuccessorOf_33 rfl (lv_at hl 0 rfl) ?_
          refine lv_iadd hx hb dX3_liveSuccessorOf_34 ?_
          refine va_iald hx hb hK hP 2 0 rfl rfl (vi_w (w := 3) (p := 1) (by decide) hn.1 (by decide)) dX3_liveSuccessorOf_35 ?_
          refine co_eq mj_5 ?_
          refine lv_goto (tgt := 40) hx hb dX3_liveSuccessorOf_36 (by decide) ?_
          refine lv_istore_n (lv' := [(2, .int (nI j_5)), (3, .int 1), (0, .ref (b 0)), (1, .int (nI n))]) hx hb dX3_liveSuccessorOf_40 rfl hl (by decide) rfl (fun ls hl => ?_)
          refine lv_iinc (v := 0) (lv' := [(3, .int 0), (2, .int (nI j_5)), (0, .ref (b 0)), (1, .int (nI n))]) hx hb dX3_liveSuccessorOf_41 hl (k := 1) rfl (by decide) (by decide) rfl (fun ls hl => ?_)
          refine lv_goto (tgt := 4) hx hb dX3_liveSuccessorOf_44 (by decide) ?_
          refine lv_iload_n hx hb dX3_liveSuccessorOf_4 rfl (lv_at hl 0 rfl) ?_
          refine lv_if_lt (tgt := 47) hx hb dX3_liveSuccessorOf_5 (by decide) (fun c_12 => ?_) (fun c_12 => ?_)
          · exact absurd c_12 (by decide)
          · refine lv_aload_n hx hb dX3_liveSuccessorOf_8 rfl (lv_at hl 2 rfl) ?_
            refine va_get (D := G.1) (ci := 2) (v := .ref (b 1)) (C := RX3) (T := TX3) (N := 13) hx hb hts uX3 hown hK hP 0 rfl rfl 2 (by decide) (hts (.fieldLink RX3 7 "ChordOverlayModel" "lives" "[Z") (by decide +kernel)) (fun _ h9 => h9) rfl dX3_liveSuccessorOf_9 ?_
            refine lv_aload_n hx hb dX3_liveSuccessorOf_12 rfl (lv_at hl 2 rfl) ?_
            refine va_get (D := G.1) (ci := 2) (v := .ref (b 2)) (C := RX3) (T := TX3) (N := 13) hx hb hts uX3 hown hK hP 0 rfl rfl 3 (by decide) (hts (.fieldLink RX3 13 "ChordOverlayModel" "successor" "[I") (by decide +kernel)) (fun _ h9 => h9) rfl dX3_liveSuccessorOf_13 ?_
            refine lv_iconst (v := 3) hx hb dX3_liveSuccessorOf_16 (by decide) ?_
            refine lv_iload_n hx hb dX3_liveSuccessorOf_17 rfl (lv_at hl 3 rfl) ?_
            refine lv_imul hx hb dX3_liveSuccessorOf_18 ?_
            refine lv_iload_n hx hb dX3_liveSuccessorOf_19 rfl (lv_at hl 0 rfl) ?_
            refine lv_iadd hx hb dX3_liveSuccessorOf_20 ?_
            refine va_iald hx hb hK hP 2 0 rfl rfl (vi_w (w := 3) (p := 0) (by decide) hn.1 (by decide)) dX3_liveSuccessorOf_21 ?_
            obtain ⟨j_13, hj_13, ej_13, mj_13⟩ := rl_s hR hn 0 (by decide)
            have ej_13 : tat 3 (σ 1) (nI n) 0 = nI j_13 := ej_13
            refine co_eq mj_13 ?_
            refine va_zald hx hb hK hP 1 1 rfl rfl (vi_1 hj_13) dX3_liveSuccessorOf_22 ?_
            refine co_eq (y := bI (alv (σ 0) (nI j_13))) (rl_l hR hj_13) ?_
            refine co_ifeq (tgt := 39) S dX3_liveSuccessorOf_23 (by decide) (fun c_14 => ?_) (fun c_14 => ?_)
            · refine lv_iload_n hx hb dX3_liveSuccessorOf_39 rfl (lv_at hl 1 rfl) ?_
              refine lv_istore_n (lv' := [(2, .int (nI j_5)), (3, .int 0), (0, .ref (b 0)), (1, .int (nI n))]) hx hb dX3_liveSuccessorOf_40 rfl hl (by decide) rfl (fun ls hl => ?_)
              refine lv_iinc (v := (-1)) (lv' := [(3, .int (-1)), (2, .int (nI j_5)), (0, .ref (b 0)), (1, .int (nI n))]) hx hb dX3_liveSuccessorOf_41 hl (k := 1) rfl (by decide) (by decide) rfl (fun ls hl => ?_)
              refine lv_goto (tgt := 4) hx hb dX3_liveSuccessorOf_44 (by decide) ?_
              refine lv_iload_n hx hb dX3_liveSuccessorOf_4 rfl (lv_at hl 0 rfl) ?_
              refine lv_if_lt (tgt := 47) hx hb dX3_liveSuccessorOf_5 (by decide) (fun c_15 => ?_) (fun c_15 => ?_)
              · refine lv_iload_n hx hb dX3_liveSuccessorOf_47 rfl (lv_at hl 1 rfl) ?_
                exact co_endR S hr hlocks dX3_liveSuccessorOf_48 (by simp only [lsF, ej_2, ej_5, ej_13, c_1, c_3, c_4, c_6, c_12, c_14, c_15, eq_self, Bool.false_eq_true, ↓reduceIte])
              · exact absurd (by decide) c_15
            · refine lv_aload_n hx hb dX3_liveSuccessorOf_26 rfl (lv_at hl 2 rfl) ?_
              refine va_get (D := G.1) (ci := 2) (v := .ref (b 2)) (C := RX3) (T := TX3) (N := 13) hx hb hts uX3 hown hK hP 0 rfl rfl 3 (by decide) (hts (.fieldLink RX3 13 "ChordOverlayModel" "successor" "[I") (by decide +kernel)) (fun _ h9 => h9) rfl dX3_liveSuccessorOf_27 ?_
              refine lv_iconst (v := 3) hx hb dX3_liveSuccessorOf_30 (by decide) ?_
              refine lv_iload_n hx hb dX3_liveSuccessorOf_31 rfl (lv_at hl 3 rfl) ?_
              refine lv_imul hx hb dX3_liveSuccessorOf_32 ?_
              refine lv_iload_n hx hb dX3_liveSuccessorOf_33 rfl (lv_at hl 0 rfl) ?_
              refine lv_iadd hx hb dX3_liveSuccessorOf_34 ?_
              refine va_iald hx hb hK hP 2 0 rfl rfl (vi_w (w := 3) (p := 0) (by decide) hn.1 (by decide)) dX3_liveSuccessorOf_35 ?_
              refine co_eq mj_13 ?_
              refine lv_goto (tgt := 40) hx hb dX3_liveSuccessorOf_36 (by decide) ?_
              refine lv_istore_n (lv' := [(2, .int (nI j_13)), (3, .int 0), (0, .ref (b 0)), (1, .int (nI n))]) hx hb dX3_liveSuccessorOf_40 rfl hl (by decide) rfl (fun ls hl => ?_)
              refine lv_iinc (v := (-1)) (lv' := [(3, .int (-1)), (2, .int (nI j_13)), (0, .ref (b 0)), (1, .int (nI n))]) hx hb dX3_liveSuccessorOf_41 hl (k := 1) rfl (by decide) (by decide) rfl (fun ls hl => ?_)
              refine lv_goto (tgt := 4) hx hb dX3_liveSuccessorOf_44 (by decide) ?_
              refine lv_iload_n hx hb dX3_liveSuccessorOf_4 rfl (lv_at hl 0 rfl) ?_
              refine lv_if_lt (tgt := 47) hx hb dX3_liveSuccessorOf_5 (by decide) (fun c_16 => ?_) (fun c_16 => ?_)
              · refine lv_iload_n hx hb dX3_liveSuccessorOf_47 rfl (lv_at hl 1 rfl) ?_
                exact co_endR S hr hlocks dX3_liveSuccessorOf_48 (by simp only [lsF, ej_2, ej_5, ej_13, c_1, c_3, c_4, c_6, c_12, c_14, c_16, eq_self, Bool.false_eq_true, ↓reduceIte])
              · exact absurd (by decide) c_16
    · refine lv_aload_n hx hb dX3_liveSuccessorOf_26 rfl (lv_at hl 2 rfl) ?_
      refine va_get (D := G.1) (ci := 2) (v := .ref (b 2)) (C := RX3) (T := TX3) (N := 13) hx hb hts uX3 hown hK hP 0 rfl rfl 3 (by decide) (hts (.fieldLink RX3 13 "ChordOverlayModel" "successor" "[I") (by decide +kernel)) (fun _ h9 => h9) rfl dX3_liveSuccessorOf_27 ?_
      refine lv_iconst (v := 3) hx hb dX3_liveSuccessorOf_30 (by decide) ?_
      refine lv_iload_n hx hb dX3_liveSuccessorOf_31 rfl (lv_at hl 3 rfl) ?_
      refine lv_imul hx hb dX3_liveSuccessorOf_32 ?_
      refine lv_iload_n hx hb dX3_liveSuccessorOf_33 rfl (lv_at hl 0 rfl) ?_
      refine lv_iadd hx hb dX3_liveSuccessorOf_34 ?_
      refine va_iald hx hb hK hP 2 0 rfl rfl (vi_w (w := 3) (p := 2) (by decide) hn.1 (by decide)) dX3_liveSuccessorOf_35 ?_
      refine co_eq mj_2 ?_
      refine lv_goto (tgt := 40) hx hb dX3_liveSuccessorOf_36 (by decide) ?_
      refine lv_istore_n (lv' := [(2, .int (nI j_2)), (3, .int 2), (0, .ref (b 0)), (1, .int (nI n))]) hx hb dX3_liveSuccessorOf_40 rfl hl (by decide) rfl (fun ls hl => ?_)
      refine lv_iinc (v := 1) (lv' := [(3, .int 1), (2, .int (nI j_2)), (0, .ref (b 0)), (1, .int (nI n))]) hx hb dX3_liveSuccessorOf_41 hl (k := 1) rfl (by decide) (by decide) rfl (fun ls hl => ?_)
      refine lv_goto (tgt := 4) hx hb dX3_liveSuccessorOf_44 (by decide) ?_
      refine lv_iload_n hx hb dX3_liveSuccessorOf_4 rfl (lv_at hl 0 rfl) ?_
      refine lv_if_lt (tgt := 47) hx hb dX3_liveSuccessorOf_5 (by decide) (fun c_17 => ?_) (fun c_17 => ?_)
      · exact absurd c_17 (by decide)
      · refine lv_aload_n hx hb dX3_liveSuccessorOf_8 rfl (lv_at hl 2 rfl) ?_
        refine va_get (D := G.1) (ci := 2) (v := .ref (b 1)) (C := RX3) (T := TX3) (N := 13) hx hb hts uX3 hown hK hP 0 rfl rfl 2 (by decide) (hts (.fieldLink RX3 7 "ChordOverlayModel" "lives" "[Z") (by decide +kernel)) (fun _ h9 => h9) rfl dX3_liveSuccessorOf_9 ?_
        refine lv_aload_n hx hb dX3_liveSuccessorOf_12 rfl (lv_at hl 2 rfl) ?_
        refine va_get (D := G.1) (ci := 2) (v := .ref (b 2)) (C := RX3) (T := TX3) (N := 13) hx hb hts uX3 hown hK hP 0 rfl rfl 3 (by decide) (hts (.fieldLink RX3 13 "ChordOverlayModel" "successor" "[I") (by decide +kernel)) (fun _ h9 => h9) rfl dX3_liveSuccessorOf_13 ?_
        refine lv_iconst (v := 3) hx hb dX3_liveSuccessorOf_16 (by decide) ?_
        refine lv_iload_n hx hb dX3_liveSuccessorOf_17 rfl (lv_at hl 3 rfl) ?_
        refine lv_imul hx hb dX3_liveSuccessorOf_18 ?_
        refine lv_iload_n hx hb dX3_liveSuccessorOf_19 rfl (lv_at hl 0 rfl) ?_
        refine lv_iadd hx hb dX3_liveSuccessorOf_20 ?_
        refine va_iald hx hb hK hP 2 0 rfl rfl (vi_w (w := 3) (p := 1) (by decide) hn.1 (by decide)) dX3_liveSuccessorOf_21 ?_
        obtain ⟨j_18, hj_18, ej_18, mj_18⟩ := rl_s hR hn 1 (by decide)
        have ej_18 : tat 3 (σ 1) (nI n) 1 = nI j_18 := ej_18
        refine co_eq mj_18 ?_
        refine va_zald hx hb hK hP 1 1 rfl rfl (vi_1 hj_18) dX3_liveSuccessorOf_22 ?_
        refine co_eq (y := bI (alv (σ 0) (nI j_18))) (rl_l hR hj_18) ?_
        refine co_ifeq (tgt := 39) S dX3_liveSuccessorOf_23 (by decide) (fun c_19 => ?_) (fun c_19 => ?_)
        · refine lv_iload_n hx hb dX3_liveSuccessorOf_39 rfl (lv_at hl 1 rfl) ?_
          refine lv_istore_n (lv' := [(2, .int (nI j_2)), (3, .int 1), (0, .ref (b 0)), (1, .int (nI n))]) hx hb dX3_liveSuccessorOf_40 rfl hl (by decide) rfl (fun ls hl => ?_)
          refine lv_iinc (v := 0) (lv' := [(3, .int 0), (2, .int (nI j_2)), (0, .ref (b 0)), (1, .int (nI n))]) hx hb dX3_liveSuccessorOf_41 hl (k := 1) rfl (by decide) (by decide) rfl (fun ls hl => ?_)
          refine lv_goto (tgt := 4) hx hb dX3_liveSuccessorOf_44 (by decide) ?_
          refine lv_iload_n hx hb dX3_liveSuccessorOf_4 rfl (lv_at hl 0 rfl) ?_
          refine lv_if_lt (tgt := 47) hx hb dX3_liveSuccessorOf_5 (by decide) (fun c_20 => ?_) (fun c_20 => ?_)
          · exact absurd c_20 (by decide)
          · refine lv_aload_n hx hb dX3_liveSuccessorOf_8 rfl (lv_at hl 2 rfl) ?_
            refine va_get (D := G.1) (ci := 2) (v := .ref (b 1)) (C := RX3) (T := TX3) (N := 13) hx hb hts uX3 hown hK hP 0 rfl rfl 2 (by decide) (hts (.fieldLink RX3 7 "ChordOverlayModel" "lives" "[Z") (by decide +kernel)) (fun _ h9 => h9) rfl dX3_liveSuccessorOf_9 ?_
            refine lv_aload_n hx hb dX3_liveSuccessorOf_12 rfl (lv_at hl 2 rfl) ?_
            refine va_get (D := G.1) (ci := 2) (v := .ref (b 2)) (C := RX3) (T := TX3) (N := 13) hx hb hts uX3 hown hK hP 0 rfl rfl 3 (by decide) (hts (.fieldLink RX3 13 "ChordOverlayModel" "successor" "[I") (by decide +kernel)) (fun _ h9 => h9) rfl dX3_liveSuccessorOf_13 ?_
            refine lv_iconst (v := 3) hx hb dX3_liveSuccessorOf_16 (by decide) ?_
            refine lv_iload_n hx hb dX3_liveSuccessorOf_17 rfl (lv_at hl 3 rfl) ?_
            refine lv_imul hx hb dX3_liveSuccessorOf_18 ?_
            refine lv_iload_n hx hb dX3_liveSuccessorOf_19 rfl (lv_at hl 0 rfl) ?_
            refine lv_iadd hx hb dX3_liveSuccessorOf_20 ?_
            refine va_iald hx hb hK hP 2 0 rfl rfl (vi_w (w := 3) (p := 0) (by decide) hn.1 (by decide)) dX3_liveSuccessorOf_21 ?_
            obtain ⟨j_21, hj_21, ej_21, mj_21⟩ := rl_s hR hn 0 (by decide)
            have ej_21 : tat 3 (σ 1) (nI n) 0 = nI j_21 := ej_21
            refine co_eq mj_21 ?_
            refine va_zald hx hb hK hP 1 1 rfl rfl (vi_1 hj_21) dX3_liveSuccessorOf_22 ?_
            refine co_eq (y := bI (alv (σ 0) (nI j_21))) (rl_l hR hj_21) ?_
            refine co_ifeq (tgt := 39) S dX3_liveSuccessorOf_23 (by decide) (fun c_22 => ?_) (fun c_22 => ?_)
            · refine lv_iload_n hx hb dX3_liveSuccessorOf_39 rfl (lv_at hl 1 rfl) ?_
              refine lv_istore_n (lv' := [(2, .int (nI j_2)), (3, .int 0), (0, .ref (b 0)), (1, .int (nI n))]) hx hb dX3_liveSuccessorOf_40 rfl hl (by decide) rfl (fun ls hl => ?_)
              refine lv_iinc (v := (-1)) (lv' := [(3, .int (-1)), (2, .int (nI j_2)), (0, .ref (b 0)), (1, .int (nI n))]) hx hb dX3_liveSuccessorOf_41 hl (k := 1) rfl (by decide) (by decide) rfl (fun ls hl => ?_)
              refine lv_goto (tgt := 4) hx hb dX3_liveSuccessorOf_44 (by decide) ?_
              refine lv_iload_n hx hb dX3_liveSuccessorOf_4 rfl (lv_at hl 0 rfl) ?_
              refine lv_if_lt (tgt := 47) hx hb dX3_liveSuccessorOf_5 (by decide) (fun c_23 => ?_) (fun c_23 => ?_)
              · refine lv_iload_n hx hb dX3_liveSuccessorOf_47 rfl (lv_at hl 1 rfl) ?_
                exact co_endR S hr hlocks dX3_liveSuccessorOf_48 (by simp only [lsF, ej_2, ej_18, ej_21, c_1, c_3, c_17, c_19, c_20, c_22, c_23, eq_self, Bool.false_eq_true, ↓reduceIte])
              · exact absurd (by decide) c_23
            · refine lv_aload_n hx hb dX3_liveSuccessorOf_26 rfl (lv_at hl 2 rfl) ?_
              refine va_get (D := G.1) (ci := 2) (v := .ref (b 2)) (C := RX3) (T := TX3) (N := 13) hx hb hts uX3 hown hK hP 0 rfl rfl 3 (by decide) (hts (.fieldLink RX3 13 "ChordOverlayModel" "successor" "[I") (by decide +kernel)) (fun _ h9 => h9) rfl dX3_liveSuccessorOf_27 ?_
              refine lv_iconst (v := 3) hx hb dX3_liveSuccessorOf_30 (by decide) ?_
              refine lv_iload_n hx hb dX3_liveSuccessorOf_31 rfl (lv_at hl 3 rfl) ?_
              refine lv_imul hx hb dX3_liveSuccessorOf_32 ?_
              refine lv_iload_n hx hb dX3_liveSuccessorOf_33 rfl (lv_at hl 0 rfl) ?_
              refine lv_iadd hx hb dX3_liveSuccessorOf_34 ?_
              refine va_iald hx hb hK hP 2 0 rfl rfl (vi_w (w := 3) (p := 0) (by decide) hn.1 (by decide)) dX3_liveSuccessorOf_35 ?_
              refine co_eq mj_21 ?_
              refine lv_goto (tgt := 40) hx hb dX3_liveSuccessorOf_36 (by decide) ?_
              refine lv_istore_n (lv' := [(2, .int (nI j_21)), (3, .int 0), (0, .ref (b 0)), (1, .int (nI n))]) hx hb dX3_liveSuccessorOf_40 rfl hl (by decide) rfl (fun ls hl => ?_)
              refine lv_iinc (v := (-1)) (lv' := [(3, .int (-1)), (2, .int (nI j_21)), (0, .ref (b 0)), (1, .int (nI n))]) hx hb dX3_liveSuccessorOf_41 hl (k := 1) rfl (by decide) (by decide) rfl (fun ls hl => ?_)
              refine lv_goto (tgt := 4) hx hb dX3_liveSuccessorOf_44 (by decide) ?_
              refine lv_iload_n hx hb dX3_liveSuccessorOf_4 rfl (lv_at hl 0 rfl) ?_
              refine lv_if_lt (tgt := 47) hx hb dX3_liveSuccessorOf_5 (by decide) (fun c_24 => ?_) (fun c_24 => ?_)
              · refine lv_iload_n hx hb dX3_liveSuccessorOf_47 rfl (lv_at hl 1 rfl) ?_
                exact co_endR S hr hlocks dX3_liveSuccessorOf_48 (by simp only [lsF, ej_2, ej_18, ej_21, c_1, c_3, c_17, c_19, c_20, c_22, c_24, eq_self, Bool.false_eq_true, ↓reduceIte])
              · exact absurd (by decide) c_24
        · refine lv_aload_n hx hb dX3_liveSuccessorOf_26 rfl (lv_at hl 2 rfl) ?_
          refine va_get (D := G.1) (ci := 2) (v := .ref (b 2)) (C := RX3) (T := TX3) (N := 13) hx hb hts uX3 hown hK hP 0 rfl rfl 3 (by decide) (hts (.fieldLink RX3 13 "ChordOverlayModel" "successor" "[I") (by decide +kernel)) (fun _ h9 => h9) rfl dX3_liveSuccessorOf_27 ?_
          refine lv_iconst (v := 3) hx hb dX3_liveSuccessorOf_30 (by decide) ?_
          refine lv_iload_n hx hb dX3_liveSuccessorOf_31 rfl (lv_at hl 3 rfl) ?_
          refine lv_imul hx hb dX3_liveSuccessorOf_32 ?_
          refine lv_iload_n hx hb dX3_liveSuccessorOf_33 rfl (lv_at hl 0 rfl) ?_
          refine lv_iadd hx hb dX3_liveSuccessorOf_34 ?_
          refine va_iald hx hb hK hP 2 0 rfl rfl (vi_w (w := 3) (p := 1) (by decide) hn.1 (by decide)) dX3_liveSuccessorOf_35 ?_
          refine co_eq mj_18 ?_
          refine lv_goto (tgt := 40) hx hb dX3_liveSuccessorOf_36 (by decide) ?_
          refine lv_istore_n (lv' := [(2, .int (nI j_18)), (3, .int 1), (0, .ref (b 0)), (1, .int (nI n))]) hx hb dX3_liveSuccessorOf_40 rfl hl (by decide) rfl (fun ls hl => ?_)
          refine lv_iinc (v := 0) (lv' := [(3, .int 0), (2, .int (nI j_18)), (0, .ref (b 0)), (1, .int (nI n))]) hx hb dX3_liveSuccessorOf_41 hl (k := 1) rfl (by decide) (by decide) rfl (fun ls hl => ?_)
          refine lv_goto (tgt := 4) hx hb dX3_liveSuccessorOf_44 (by decide) ?_
          refine lv_iload_n hx hb dX3_liveSuccessorOf_4 rfl (lv_at hl 0 rfl) ?_
          refine lv_if_lt (tgt := 47) hx hb dX3_liveSuccessorOf_5 (by decide) (fun c_25 => ?_) (fun c_25 => ?_)
          · exact absurd c_25 (by decide)
          · refine lv_aload_n hx hb dX3_liveSuccessorOf_8 rfl (lv_at hl 2 rfl) ?_
            refine va_get (D := G.1) (ci := 2) (v := .ref (b 1)) (C := RX3) (T := TX3) (N := 13) hx hb hts uX3 hown hK hP 0 rfl rfl 2 (by decide) (hts (.fieldLink RX3 7 "ChordOverlayModel" "lives" "[Z") (by decide +kernel)) (fun _ h9 => h9) rfl dX3_liveSuccessorOf_9 ?_
            refine lv_aload_n hx hb dX3_liveSuccessorOf_12 rfl (lv_at hl 2 rfl) ?_
            refine va_get (D := G.1) (ci := 2) (v := .ref (b 2)) (C := RX3) (T := TX3) (N := 13) hx hb hts uX3 hown hK hP 0 rfl rfl 3 (by decide) (hts (.fieldLink RX3 13 "ChordOverlayModel" "successor" "[I") (by decide +kernel)) (fun _ h9 => h9) rfl dX3_liveSuccessorOf_13 ?_
            refine lv_iconst (v := 3) hx hb dX3_liveSuccessorOf_16 (by decide) ?_
            refine lv_iload_n hx hb dX3_liveSuccessorOf_17 rfl (lv_at hl 3 rfl) ?_
            refine lv_imul hx hb dX3_liveSuccessorOf_18 ?_
            refine lv_iload_n hx hb dX3_liveSuccessorOf_19 rfl (lv_at hl 0 rfl) ?_
            refine lv_iadd hx hb dX3_liveSuccessorOf_20 ?_
            refine va_iald hx hb hK hP 2 0 rfl rfl (vi_w (w := 3) (p := 0) (by decide) hn.1 (by decide)) dX3_liveSuccessorOf_21 ?_
            obtain ⟨j_26, hj_26, ej_26, mj_26⟩ := rl_s hR hn 0 (by decide)
            have ej_26 : tat 3 (σ 1) (nI n) 0 = nI j_26 := ej_26
            refine co_eq mj_26 ?_
            refine va_zald hx hb hK hP 1 1 rfl rfl (vi_1 hj_26) dX3_liveSuccessorOf_22 ?_
            refine co_eq (y := bI (alv (σ 0) (nI j_26))) (rl_l hR hj_26) ?_
            refine co_ifeq (tgt := 39) S dX3_liveSuccessorOf_23 (by decide) (fun c_27 => ?_) (fun c_27 => ?_)
            · refine lv_iload_n hx hb dX3_liveSuccessorOf_39 rfl (lv_at hl 1 rfl) ?_
              refine lv_istore_n (lv' := [(2, .int (nI j_18)), (3, .int 0), (0, .ref (b 0)), (1, .int (nI n))]) hx hb dX3_liveSuccessorOf_40 rfl hl (by decide) rfl (fun ls hl => ?_)
              refine lv_iinc (v := (-1)) (lv' := [(3, .int (-1)), (2, .int (nI j_18)), (0, .ref (b 0)), (1, .int (nI n))]) hx hb dX3_liveSuccessorOf_41 hl (k := 1) rfl (by decide) (by decide) rfl (fun ls hl => ?_)
              refine lv_goto (tgt := 4) hx hb dX3_liveSuccessorOf_44 (by decide) ?_
              refine lv_iload_n hx hb dX3_liveSuccessorOf_4 rfl (lv_at hl 0 rfl) ?_
              refine lv_if_lt (tgt := 47) hx hb dX3_liveSuccessorOf_5 (by decide) (fun c_28 => ?_) (fun c_28 => ?_)
              · refine lv_iload_n hx hb dX3_liveSuccessorOf_47 rfl (lv_at hl 1 rfl) ?_
                exact co_endR S hr hlocks dX3_liveSuccessorOf_48 (by simp only [lsF, ej_2, ej_18, ej_26, c_1, c_3, c_17, c_19, c_25, c_27, c_28, eq_self, Bool.false_eq_true, ↓reduceIte])
              · exact absurd (by decide) c_28
            · refine lv_aload_n hx hb dX3_liveSuccessorOf_26 rfl (lv_at hl 2 rfl) ?_
              refine va_get (D := G.1) (ci := 2) (v := .ref (b 2)) (C := RX3) (T := TX3) (N := 13) hx hb hts uX3 hown hK hP 0 rfl rfl 3 (by decide) (hts (.fieldLink RX3 13 "ChordOverlayModel" "successor" "[I") (by decide +kernel)) (fun _ h9 => h9) rfl dX3_liveSuccessorOf_27 ?_
              refine lv_iconst (v := 3) hx hb dX3_liveSuccessorOf_30 (by decide) ?_
              refine lv_iload_n hx hb dX3_liveSuccessorOf_31 rfl (lv_at hl 3 rfl) ?_
              refine lv_imul hx hb dX3_liveSuccessorOf_32 ?_
              refine lv_iload_n hx hb dX3_liveSuccessorOf_33 rfl (lv_at hl 0 rfl) ?_
              refine lv_iadd hx hb dX3_liveSuccessorOf_34 ?_
              refine va_iald hx hb hK hP 2 0 rfl rfl (vi_w (w := 3) (p := 0) (by decide) hn.1 (by decide)) dX3_liveSuccessorOf_35 ?_
              refine co_eq mj_26 ?_
              refine lv_goto (tgt := 40) hx hb dX3_liveSuccessorOf_36 (by decide) ?_
              refine lv_istore_n (lv' := [(2, .int (nI j_26)), (3, .int 0), (0, .ref (b 0)), (1, .int (nI n))]) hx hb dX3_liveSuccessorOf_40 rfl hl (by decide) rfl (fun ls hl => ?_)
              refine lv_iinc (v := (-1)) (lv' := [(3, .int (-1)), (2, .int (nI j_26)), (0, .ref (b 0)), (1, .int (nI n))]) hx hb dX3_liveSuccessorOf_41 hl (k := 1) rfl (by decide) (by decide) rfl (fun ls hl => ?_)
              refine lv_goto (tgt := 4) hx hb dX3_liveSuccessorOf_44 (by decide) ?_
              refine lv_iload_n hx hb dX3_liveSuccessorOf_4 rfl (lv_at hl 0 rfl) ?_
              refine lv_if_lt (tgt := 47) hx hb dX3_liveSuccessorOf_5 (by decide) (fun c_29 => ?_) (fun c_29 => ?_)
              · refine lv_iload_n hx hb dX3_liveSuccessorOf_47 rfl (lv_at hl 1 rfl) ?_
                exact co_endR S hr hlocks dX3_liveSuccessorOf_48 (by simp only [lsF, ej_2, ej_18, ej_26, c_1, c_3, c_17, c_19, c_25, c_27, c_29, eq_self, Bool.false_eq_true, ↓reduceIte])
              · exact absurd (by decide) c_29

set_option maxRecDepth 20000 in
theorem uX3_X3_countLiving : ∀ w ∈ u_ws RX3 TX3 13, w ∈ wsX3_countLiving := by decide +kernel
abbrev rm_X3_countLiving : Room := { frames := 0, cells := 0, slots := 0, locals := 0 }
set_option maxHeartbeats 4000000 in
set_option maxRecDepth 100000 in
theorem c_X3_countLiving (l : Launch) (G : cG) (Z : Nat) (b : Nat → Nat) (σ μ : cS) (hR : Rl Z σ μ) : MetR l yX3_countLiving wsX3_countLiving rm_X3_countLiving G (wM G b μ) [.ref (b 0)] (cnt (σ 0) 64) := by
  refine co_bodyR (cc := cX3_countLiving) (maxL := 3) (ret := (some .int)) (by decide) rfl (Nat.le_of_ble_eq_true rfl) ?_
  intro p e s m args below meth c S hr hlocks hK hP ls hl
  have S : CallFix p m c cX3_countLiving 3 s args wsX3_countLiving RX3 := S
  obtain ⟨hx, hb, hml, hown, hts⟩ := id S
  have hl : lv_has ls 3 [(0, .ref (b 0))] := hl
  have uX3 := uX3_X3_countLiving
  refine lv_iconst (v := 0) hx hb dX3_countLiving_0 (by decide) ?_
  refine lv_istore_n (lv' := [(1, .int 0), (0, .ref (b 0))]) hx hb dX3_countLiving_1 rfl hl (by decide) rfl (fun ls hl => ?_)
  refine lv_iconst (v := 0) hx hb dX3_countLiving_2 (by decide) ?_
  refine lv_istore_n (lv' := [(2, .int 0), (1, .int 0), (0, .ref (b 0))]) hx hb dX3_countLiving_3 rfl hl (by decide) rfl (fun ls hl => ?_)
  have LP : ∀ (d : Nat) (k : Nat) (x : Int32), k + d = 64 → x = cnt (σ 0) k → ∀ ls : Array Slot, lv_has ls 3 [(0, .ref (b 0)), (1, .int x), (2, .int (nI k))] → W p l e rm_X3_countLiving s m args below meth c s.heap [] 0 0 (QR below (cnt (σ 0) 64) args s) (F0 m 4 ls []) := by
    intro d
    induction d with
    | zero =>
      intro k x hk hx9 ls hl
      refine lv_iload_n hx hb dX3_countLiving_4 rfl (lv_at hl 2 rfl) ?_
      refine lv_bipush (v := 64) hx hb dX3_countLiving_5 (by decide) ?_
      refine lv_icmp_ge (tgt := 33) hx hb dX3_countLiving_7 (by decide) (fun c_1 => ?_) (fun c_1 => ?_)
      · refine lv_iload_n hx hb dX3_countLiving_33 rfl (lv_at hl 1 rfl) ?_
        exact co_endR S hr hlocks dX3_countLiving_34 (by rw [hx9, show k = 64 by omega])
      · exact absurd (nI_le (a := 64) (b := k) (by omega) (by omega)) c_1
    | succ d ih =>
      intro k x hk hx9 ls hl
      refine lv_iload_n hx hb dX3_countLiving_4 rfl (lv_at hl 2 rfl) ?_
      refine lv_bipush (v := 64) hx hb dX3_countLiving_5 (by decide) ?_
      refine lv_icmp_ge (tgt := 33) hx hb dX3_countLiving_7 (by decide) (fun c_2 => ?_) (fun c_2 => ?_)
      · exact absurd c_2 (nI_ge (a := k) (b := 64) (by omega) (by omega))
      · refine lv_iload_n hx hb dX3_countLiving_10 rfl (lv_at hl 1 rfl) ?_
        refine lv_aload_n hx hb dX3_countLiving_11 rfl (lv_at hl 0 rfl) ?_
        refine va_get (D := G.1) (ci := 2) (v := .ref (b 1)) (C := RX3) (T := TX3) (N := 13) hx hb hts uX3 hown hK hP 0 rfl rfl 2 (by decide) (hts (.fieldLink RX3 7 "ChordOverlayModel" "lives" "[Z") (by decide +kernel)) (fun _ h9 => h9) rfl dX3_countLiving_12 ?_
        refine lv_iload_n hx hb dX3_countLiving_15 rfl (lv_at hl 2 rfl) ?_
        refine va_zald hx hb hK hP 1 1 rfl rfl (vi_1 (show k < 64 by omega)) dX3_countLiving_16 ?_
        refine co_eq (y := bI (alv (σ 0) (nI k))) (rl_l hR (show k < 64 by omega)) ?_
        refine co_ifeq (tgt := 24) S dX3_countLiving_17 (by decide) (fun c_3 => ?_) (fun c_3 => ?_)
        · refine lv_iconst (v := 0) hx hb dX3_countLiving_24 (by decide) ?_
          refine lv_iadd hx hb dX3_countLiving_25 ?_
          refine lv_istore_n (lv' := [(1, .int (x + 0)), (0, .ref (b 0)), (2, .int (nI k))]) hx hb dX3_countLiving_26 rfl hl (by decide) rfl (fun ls hl => ?_)
          refine lv_iinc (v := (nI (k + 1))) (lv' := [(2, .int (nI (k + 1))), (1, .int (x + 0)), (0, .ref (b 0))]) hx hb dX3_countLiving_27 hl (k := 2) rfl (nI_1 k) (by decide) rfl (fun ls hl => ?_)
          refine lv_goto (tgt := 4) hx hb dX3_countLiving_30 (by decide) ?_
          exact ih (k + 1) _ (by omega) (by subst hx9; simp only [cnt, c_2, c_3, eq_self, Bool.false_eq_true, ↓reduceIte, Int32.add_zero]) ls (lv_sub hl [2, 1, 0] rfl)
        · refine lv_iconst (v := 1) hx hb dX3_countLiving_20 (by decide) ?_
          refine lv_goto (tgt := 25) hx hb dX3_countLiving_21 (by decide) ?_
          refine lv_iadd hx hb dX3_countLiving_25 ?_
          refine lv_istore_n (lv' := [(1, .int (x + 1)), (0, .ref (b 0)), (2, .int (nI k))]) hx hb dX3_countLiving_26 rfl hl (by decide) rfl (fun ls hl => ?_)
          refine lv_iinc (v := (nI (k + 1))) (lv' := [(2, .int (nI (k + 1))), (1, .int (x + 1)), (0, .ref (b 0))]) hx hb dX3_countLiving_27 hl (k := 2) rfl (nI_1 k) (by decide) rfl (fun ls hl => ?_)
          refine lv_goto (tgt := 4) hx hb dX3_countLiving_30 (by decide) ?_
          exact ih (k + 1) _ (by omega) (by subst hx9; simp only [cnt, c_2, c_3, eq_self, Bool.false_eq_true, ↓reduceIte, Int32.add_zero]) ls (lv_sub hl [2, 1, 0] rfl)
  exact LP 64 0 _ rfl rfl ls (lv_sub hl [2, 1, 0] rfl)

set_option maxRecDepth 20000 in
theorem uX3_X3_nextHop : ∀ w ∈ u_ws RX3 TX3 13, w ∈ wsX3_nextHop := by decide +kernel
abbrev rm_X3_nextHop : Room := { frames := 3, cells := 0, slots := 0, locals := 67 }
set_option maxHeartbeats 4000000 in
set_option maxRecDepth 100000 in
theorem c_X3_nextHop (l : Launch) (G : cG) (Z : Nat) (b : Nat → Nat) (σ μ : cS) (hR : Rl Z σ μ)(n s₀ key : Nat) (hn : Lv σ n) (hk0 : key < 64) : MetR l yX3_nextHop wsX3_nextHop rm_X3_nextHop G (wM G b μ) [.ref (b 0), .int (nI n), .int (nI s₀), .int (nI key)] (hopT (σ 0) (σ 3) (nI key) (nI n) (nI s₀) 6) := by
  refine co_bodyR (cc := cX3_nextHop) (maxL := 7) (ret := (some .int)) (by decide) rfl (Nat.le_of_ble_eq_true rfl) ?_
  intro p e s m args below meth c S hr hlocks hK hP ls hl
  have S : CallFix p m c cX3_nextHop 7 s args wsX3_nextHop RX3 := S
  obtain ⟨hx, hb, hml, hown, hts⟩ := id S
  have hl : lv_has ls 7 [(0, .ref (b 0)), (1, .int (nI n)), (2, .int (nI s₀)), (3, .int (nI key))] := hl
  have uX3 := uX3_X3_nextHop
  refine lv_iload_n hx hb dX3_nextHop_0 rfl (lv_at hl 2 rfl) ?_
  refine lv_istore (lv' := [(4, .int (nI s₀)), (0, .ref (b 0)), (1, .int (nI n)), (2, .int (nI s₀)), (3, .int (nI key))]) hx hb dX3_nextHop_1 hl (by decide) rfl (fun ls hl => ?_)
  refine lv_iconst (v := 0) hx hb dX3_nextHop_3 (by decide) ?_
  refine lv_istore (lv' := [(5, .int 0), (4, .int (nI s₀)), (0, .ref (b 0)), (1, .int (nI n)), (2, .int (nI s₀)), (3, .int (nI key))]) hx hb dX3_nextHop_4 hl (by decide) rfl (fun ls hl => ?_)
  have LP : ∀ (d : Nat) (k : Nat) (x : Int32), k + d = 6 → x = hopT (σ 0) (σ 3) (nI key) (nI n) (nI s₀) k → ∀ ls : Array Slot, lv_has ls 7 [(0, .ref (b 0)), (1, .int (nI n)), (2, .int (nI s₀)), (3, .int (nI key)), (4, .int x), (5, .int (nI k))] → W p l e rm_X3_nextHop s m args below meth c s.heap [] 0 0 (QR below (hopT (σ 0) (σ 3) (nI key) (nI n) (nI s₀) 6) args s) (F0 m 6 ls []) := by
    intro d
    induction d with
    | zero =>
      intro k x hk hx9 ls hl
      refine lv_iload hx hb dX3_nextHop_6 (lv_at hl 5 rfl) ?_
      refine lv_bipush (v := 6) hx hb dX3_nextHop_8 (by decide) ?_
      refine lv_icmp_ge (tgt := 68) hx hb dX3_nextHop_10 (by decide) (fun c_1 => ?_) (fun c_1 => ?_)
      · refine lv_iload hx hb dX3_nextHop_68 (lv_at hl 4 rfl) ?_
        exact co_endR S hr hlocks dX3_nextHop_70 (by rw [hx9, show k = 6 by omega])
      · exact absurd (nI_le (a := 6) (b := k) (by omega) (by omega)) c_1
    | succ d ih =>
      intro k x hk hx9 ls hl
      refine lv_iload hx hb dX3_nextHop_6 (lv_at hl 5 rfl) ?_
      refine lv_bipush (v := 6) hx hb dX3_nextHop_8 (by decide) ?_
      refine lv_icmp_ge (tgt := 68) hx hb dX3_nextHop_10 (by decide) (fun c_2 => ?_) (fun c_2 => ?_)
      · exact absurd c_2 (nI_ge (a := k) (b := 6) (by omega) (by omega))
      · refine lv_aload_n hx hb dX3_nextHop_13 rfl (lv_at hl 0 rfl) ?_
        refine va_get (D := G.1) (ci := 2) (v := .ref (b 4)) (C := RX3) (T := TX3) (N := 13) hx hb hts uX3 hown hK hP 0 rfl rfl 5 (by decide) (hts (.fieldLink RX3 20 "ChordOverlayModel" "finger" "[I") (by decide +kernel)) (fun _ h9 => h9) rfl dX3_nextHop_14 ?_
        refine lv_bipush (v := 6) hx hb dX3_nextHop_17 (by decide) ?_
        refine lv_iload_n hx hb dX3_nextHop_19 rfl (lv_at hl 1 rfl) ?_
        refine lv_imul hx hb dX3_nextHop_20 ?_
        refine lv_iload hx hb dX3_nextHop_21 (lv_at hl 5 rfl) ?_
        refine lv_iadd hx hb dX3_nextHop_23 ?_
        refine va_iald hx hb hK hP 4 0 rfl rfl (vi_w (w := 6) (p := k) (by decide) hn.1 (show k < 6 by omega)) dX3_nextHop_24 ?_
        rcases rl_f hR hn k (show k < 6 by omega) with ⟨ej_3, mj_3⟩ | ⟨j_3, hj_3, ej_3, mj_3⟩
        · have ej_3 : tat 6 (σ 3) (nI n) (nI k) = (-1) := ej_3
          refine co_eq mj_3 ?_
          refine lv_istore (lv' := [(6, .int (-1)), (0, .ref (b 0)), (1, .int (nI n)), (2, .int (nI s₀)), (3, .int (nI key)), (4, .int x), (5, .int (nI k))]) hx hb dX3_nextHop_25 hl (by decide) rfl (fun ls hl => ?_)
          refine lv_iload hx hb dX3_nextHop_27 (lv_at hl 0 rfl) ?_
          refine lv_iconst (v := (-1)) hx hb dX3_nextHop_29 (by decide) ?_
          refine lv_icmp_eq (tgt := 58) hx hb dX3_nextHop_30 (by decide) (fun c_4 => ?_) (fun c_4 => ?_)
          · refine lv_iload hx hb dX3_nextHop_58 (lv_at hl 5 rfl) ?_
            refine lv_istore (lv' := [(4, .int x), (6, .int (-1)), (0, .ref (b 0)), (1, .int (nI n)), (2, .int (nI s₀)), (3, .int (nI key)), (5, .int (nI k))]) hx hb dX3_nextHop_60 hl (by decide) rfl (fun ls hl => ?_)
            refine lv_iinc (v := (nI (k + 1))) (lv' := [(5, .int (nI (k + 1))), (4, .int x), (6, .int (-1)), (0, .ref (b 0)), (1, .int (nI n)), (2, .int (nI s₀)), (3, .int (nI key))]) hx hb dX3_nextHop_62 hl (k := 6) rfl (nI_1 k) (by decide) rfl (fun ls hl => ?_)
            refine lv_goto (tgt := 6) hx hb dX3_nextHop_65 (by decide) ?_
            exact ih (k + 1) _ (by omega) (by subst hx9; simp only [hopT, alv_m1, ej_3, c_2, (eq_true c_4), eq_self, Bool.false_eq_true, ↓reduceIte]) ls (lv_sub hl [3, 4, 5, 6, 1, 0] rfl)
          · exact absurd (by decide) c_4
        · have ej_3 : tat 6 (σ 3) (nI n) (nI k) = (nI j_3) := ej_3
          refine co_eq mj_3 ?_
          refine lv_istore (lv' := [(6, .int (nI j_3)), (0, .ref (b 0)), (1, .int (nI n)), (2, .int (nI s₀)), (3, .int (nI key)), (4, .int x), (5, .int (nI k))]) hx hb dX3_nextHop_25 hl (by decide) rfl (fun ls hl => ?_)
          refine lv_iload hx hb dX3_nextHop_27 (lv_at hl 0 rfl) ?_
          refine lv_iconst (v := (-1)) hx hb dX3_nextHop_29 (by decide) ?_
          refine lv_icmp_eq (tgt := 58) hx hb dX3_nextHop_30 (by decide) (fun c_5 => ?_) (fun c_5 => ?_)
          · exact absurd c_5 (nI_nem hj_3)
          · refine lv_aload_n hx hb dX3_nextHop_33 rfl (lv_at hl 1 rfl) ?_
            refine va_get (D := G.1) (ci := 2) (v := .ref (b 1)) (C := RX3) (T := TX3) (N := 13) hx hb hts uX3 hown hK hP 0 rfl rfl 2 (by decide) (hts (.fieldLink RX3 7 "ChordOverlayModel" "lives" "[Z") (by decide +kernel)) (fun _ h9 => h9) rfl dX3_nextHop_34 ?_
            refine lv_iload hx hb dX3_nextHop_37 (lv_at hl 0 rfl) ?_
            refine va_zald hx hb hK hP 1 1 rfl rfl (vi_1 hj_3) dX3_nextHop_39 ?_
            refine co_eq (y := bI (alv (σ 0) (nI j_3))) (rl_l hR hj_3) ?_
            refine co_ifeq (tgt := 58) S dX3_nextHop_40 (by decide) (fun c_6 => ?_) (fun c_6 => ?_)
            · refine lv_iload hx hb dX3_nextHop_58 (lv_at hl 5 rfl) ?_
              refine lv_istore (lv' := [(4, .int x), (6, .int (nI j_3)), (0, .ref (b 0)), (1, .int (nI n)), (2, .int (nI s₀)), (3, .int (nI key)), (5, .int (nI k))]) hx hb dX3_nextHop_60 hl (by decide) rfl (fun ls hl => ?_)
              refine lv_iinc (v := (nI (k + 1))) (lv' := [(5, .int (nI (k + 1))), (4, .int x), (6, .int (nI j_3)), (0, .ref (b 0)), (1, .int (nI n)), (2, .int (nI s₀)), (3, .int (nI key))]) hx hb dX3_nextHop_62 hl (k := 6) rfl (nI_1 k) (by decide) rfl (fun ls hl => ?_)
              refine lv_goto (tgt := 6) hx hb dX3_nextHop_65 (by decide) ?_
              exact ih (k + 1) _ (by omega) (by subst hx9; simp only [hopT, alv_m1, ej_3, c_2, c_6, eq_self, Bool.false_eq_true, ↓reduceIte]) ls (lv_sub hl [3, 4, 5, 6, 1, 0] rfl)
            · refine lv_iload hx hb dX3_nextHop_43 (lv_at hl 0 rfl) ?_
              refine lv_iload_n hx hb dX3_nextHop_45 rfl (lv_at hl 2 rfl) ?_
              refine lv_iload_n hx hb dX3_nextHop_46 rfl (lv_at hl 4 rfl) ?_
              refine co_rS (As := [.int (nI j_3), .int (nI n), .int (nI key)]) (rest := []) S (c_X3_isBetween l G j_3 n key hj_3 hn.1 hk0) (va_cwS 3 hts gX3_nextHop_X3_isBetween rfl rfl rfl (by decide +kernel) ⟨Nat.le_of_ble_eq_true rfl, Nat.le_of_ble_eq_true rfl⟩) hK (pG_nil) rfl hl.1 rfl (Nat.le_of_ble_eq_true rfl) dX3_nextHop_47 ⟨Nat.zero_le _, Nat.zero_le _⟩ ?_
              refine co_ifeq (tgt := 58) S dX3_nextHop_50 (by decide) (fun c_7 => ?_) (fun c_7 => ?_)
              · refine lv_iload hx hb dX3_nextHop_58 (lv_at hl 5 rfl) ?_
                refine lv_istore (lv' := [(4, .int x), (6, .int (nI j_3)), (0, .ref (b 0)), (1, .int (nI n)), (2, .int (nI s₀)), (3, .int (nI key)), (5, .int (nI k))]) hx hb dX3_nextHop_60 hl (by decide) rfl (fun ls hl => ?_)
                refine lv_iinc (v := (nI (k + 1))) (lv' := [(5, .int (nI (k + 1))), (4, .int x), (6, .int (nI j_3)), (0, .ref (b 0)), (1, .int (nI n)), (2, .int (nI s₀)), (3, .int (nI key))]) hx hb dX3_nextHop_62 hl (k := 6) rfl (nI_1 k) (by decide) rfl (fun ls hl => ?_)
                refine lv_goto (tgt := 6) hx hb dX3_nextHop_65 (by decide) ?_
                exact ih (k + 1) _ (by omega) (by subst hx9; simp only [hopT, alv_m1, ej_3, c_2, c_6, c_7, eq_self, Bool.false_eq_true, ↓reduceIte]) ls (lv_sub hl [3, 4, 5, 6, 1, 0] rfl)
              · refine lv_iload hx hb dX3_nextHop_53 (lv_at hl 0 rfl) ?_
                refine lv_goto (tgt := 60) hx hb dX3_nextHop_55 (by decide) ?_
                refine lv_istore (lv' := [(4, .int (nI j_3)), (6, .int (nI j_3)), (0, .ref (b 0)), (1, .int (nI n)), (2, .int (nI s₀)), (3, .int (nI key)), (5, .int (nI k))]) hx hb dX3_nextHop_60 hl (by decide) rfl (fun ls hl => ?_)
                refine lv_iinc (v := (nI (k + 1))) (lv' := [(5, .int (nI (k + 1))), (4, .int (nI j_3)), (6, .int (nI j_3)), (0, .ref (b 0)), (1, .int (nI n)), (2, .int (nI s₀)), (3, .int (nI key))]) hx hb dX3_nextHop_62 hl (k := 6) rfl (nI_1 k) (by decide) rfl (fun ls hl => ?_)
                refine lv_goto (tgt := 6) hx hb dX3_nextHop_65 (by decide) ?_
                exact ih (k + 1) _ (by omega) (by subst hx9; simp only [hopT, alv_m1, ej_3, c_2, c_6, c_7, eq_self, Bool.false_eq_true, ↓reduceIte]) ls (lv_sub hl [3, 4, 5, 6, 1, 0] rfl)
  exact LP 6 0 _ rfl rfl ls (lv_sub hl [2, 3, 4, 5, 1, 0] rfl)

set_option maxRecDepth 20000 in
theorem uX3_X3_ownerOf : ∀ w ∈ u_ws RX3 TX3 13, w ∈ wsX3_ownerOf := by decide +kernel
abbrev rm_X3_ownerOf : Room := { frames := 0, cells := 0, slots := 0, locals := 0 }
set_option maxHeartbeats 4000000 in
set_option maxRecDepth 100000 in
theorem c_X3_ownerOf (l : Launch) (G : cG) (Z : Nat) (b : Nat → Nat) (σ μ : cS) (hR : Rl Z σ μ)(key : Nat) (hk0 : key < 64) : MetR l yX3_ownerOf wsX3_ownerOf rm_X3_ownerOf G (wM G b μ) [.ref (b 0), .int (nI key)] (upF (σ 0) (nI key) 64 0) := by
  refine co_bodyR (cc := cX3_ownerOf) (maxL := 4) (ret := (some .int)) (by decide) rfl (Nat.le_of_ble_eq_true rfl) ?_
  intro p e s m args below meth c S hr hlocks hK hP ls hl
  have S : CallFix p m c cX3_ownerOf 4 s args wsX3_ownerOf RX3 := S
  obtain ⟨hx, hb, hml, hown, hts⟩ := id S
  have hl : lv_has ls 4 [(0, .ref (b 0)), (1, .int (nI key))] := hl
  have uX3 := uX3_X3_ownerOf
  refine lv_iconst (v := (-1)) hx hb dX3_ownerOf_0 (by decide) ?_
  refine lv_istore_n (lv' := [(2, .int (-1)), (0, .ref (b 0)), (1, .int (nI key))]) hx hb dX3_ownerOf_1 rfl hl (by decide) rfl (fun ls hl => ?_)
  refine lv_bipush (v := 63) hx hb dX3_ownerOf_2 (by decide) ?_
  refine lv_istore_n (lv' := [(3, .int 63), (2, .int (-1)), (0, .ref (b 0)), (1, .int (nI key))]) hx hb dX3_ownerOf_4 rfl hl (by decide) rfl (fun ls hl => ?_)
  have LP : ∀ (d : Nat) (x f : Int32), d ≤ 64 → x = nI d + Int32.ofInt (-1) → f = upF (σ 0) (nI key) (64 - d) d → ∀ ls : Array Slot, lv_has ls 4 [(0, .ref (b 0)), (1, .int (nI key)), (2, .int f), (3, .int x)] → W p l e rm_X3_ownerOf s m args below meth c s.heap [] 0 0 (QR below (upF (σ 0) (nI key) 64 0) args s) (F0 m 5 ls []) := by
    intro d
    induction d with
    | zero =>
      intro x f hd6 hx9 hf9 ls hl
      refine lv_iload_n hx hb dX3_ownerOf_5 rfl (lv_at hl 3 rfl) ?_
      refine lv_if_lt (tgt := 40) hx hb dX3_ownerOf_6 (by decide) (fun c_1 => ?_) (fun c_1 => ?_)
      · refine lv_iload_n hx hb dX3_ownerOf_40 rfl (lv_at hl 2 rfl) ?_
        exact co_endR S hr hlocks dX3_ownerOf_41 (by exact hf9)
      · exact absurd (by subst hx9; decide) c_1
    | succ d ih =>
      intro x f hd6 hx9 hf9 ls hl
      rw [nI_m] at hx9; subst hx9
      refine lv_iload_n hx hb dX3_ownerOf_5 rfl (lv_at hl 3 rfl) ?_
      refine lv_if_lt (tgt := 40) hx hb dX3_ownerOf_6 (by decide) (fun c_2 => ?_) (fun c_2 => ?_)
      · exact absurd c_2 (nI_pos (by omega))
      · refine lv_aload_n hx hb dX3_ownerOf_9 rfl (lv_at hl 0 rfl) ?_
        refine va_get (D := G.1) (ci := 2) (v := .ref (b 1)) (C := RX3) (T := TX3) (N := 13) hx hb hts uX3 hown hK hP 0 rfl rfl 2 (by decide) (hts (.fieldLink RX3 7 "ChordOverlayModel" "lives" "[Z") (by decide +kernel)) (fun _ h9 => h9) rfl dX3_ownerOf_10 ?_
        refine lv_iload_n hx hb dX3_ownerOf_13 rfl (lv_at hl 1 rfl) ?_
        refine lv_iload_n hx hb dX3_ownerOf_14 rfl (lv_at hl 3 rfl) ?_
        refine lv_iadd hx hb dX3_ownerOf_15 ?_
        refine lv_bipush (v := 64) hx hb dX3_ownerOf_16 (by decide) ?_
        refine lv_irem hx hb dX3_ownerOf_18 (by decide) ?_
        refine co_eq (ad_rem hk0 (by omega)) ?_
        refine va_zald hx hb hK hP 1 1 rfl rfl (vi_1 (Nat.mod_lt _ (by decide))) dX3_ownerOf_19 ?_
        refine co_eq (y := bI (alv (σ 0) (nI ((key + d) % 64)))) (rl_l hR (Nat.mod_lt _ (by decide))) ?_
        refine co_ifeq (tgt := 32) S dX3_ownerOf_20 (by decide) (fun c_3 => ?_) (fun c_3 => ?_)
        · refine lv_iload_n hx hb dX3_ownerOf_32 rfl (lv_at hl 2 rfl) ?_
          refine lv_istore_n (lv' := [(2, .int f), (0, .ref (b 0)), (1, .int (nI key)), (3, .int (nI d))]) hx hb dX3_ownerOf_33 rfl hl (by decide) rfl (fun ls hl => ?_)
          refine lv_iinc (v := ((nI d) + (-1))) (lv' := [(3, .int ((nI d) + (-1))), (2, .int f), (0, .ref (b 0)), (1, .int (nI key))]) hx hb dX3_ownerOf_34 hl (k := 3) rfl rfl (by decide) rfl (fun ls hl => ?_)
          refine lv_goto (tgt := 5) hx hb dX3_ownerOf_37 (by decide) ?_
          exact ih _ _ (by omega) rfl (by rw [show 64 - d = (64 - (d + 1)) + 1 by omega, upF, onw_nI hk0 (by omega)]; simp only [c_2, c_3, ← hf9, eq_self, Bool.false_eq_true, ↓reduceIte]) ls (lv_sub hl [2, 3, 1, 0] rfl)
        · refine lv_iload_n hx hb dX3_ownerOf_23 rfl (lv_at hl 1 rfl) ?_
          refine lv_iload_n hx hb dX3_ownerOf_24 rfl (lv_at hl 3 rfl) ?_
          refine lv_iadd hx hb dX3_ownerOf_25 ?_
          refine lv_bipush (v := 64) hx hb dX3_ownerOf_26 (by decide) ?_
          refine lv_irem hx hb dX3_ownerOf_28 (by decide) ?_
          refine co_eq (ad_rem hk0 (by omega)) ?_
          refine lv_goto (tgt := 33) hx hb dX3_ownerOf_29 (by decide) ?_
          refine lv_istore_n (lv' := [(2, .int (nI ((key + d) % 64))), (0, .ref (b 0)), (1, .int (nI key)), (3, .int (nI d))]) hx hb dX3_ownerOf_33 rfl hl (by decide) rfl (fun ls hl => ?_)
          refine lv_iinc (v := ((nI d) + (-1))) (lv' := [(3, .int ((nI d) + (-1))), (2, .int (nI ((key + d) % 64))), (0, .ref (b 0)), (1, .int (nI key))]) hx hb dX3_ownerOf_34 hl (k := 3) rfl rfl (by decide) rfl (fun ls hl => ?_)
          refine lv_goto (tgt := 5) hx hb dX3_ownerOf_37 (by decide) ?_
          exact ih _ _ (by omega) rfl (by rw [show 64 - d = (64 - (d + 1)) + 1 by omega, upF, onw_nI hk0 (by omega)]; simp only [c_2, c_3, ← hf9, eq_self, Bool.false_eq_true, ↓reduceIte]) ls (lv_sub hl [2, 3, 1, 0] rfl)
  exact LP 64 _ _ (Nat.le_refl 64) (by decide) rfl ls (lv_sub hl [2, 3, 1, 0] rfl)

set_option maxRecDepth 20000 in
theorem uX3_X3_before : ∀ w ∈ u_ws RX3 TX3 13, w ∈ wsX3_before := by decide +kernel
abbrev rm_X3_before : Room := { frames := 0, cells := 0, slots := 0, locals := 0 }
set_option maxHeartbeats 4000000 in
set_option maxRecDepth 100000 in
theorem c_X3_before (l : Launch) (G : cG) (Z : Nat) (b : Nat → Nat) (σ μ : cS) (hR : Rl Z σ μ)(n : Nat) (hn : Lv σ n) : MetR l yX3_before wsX3_before rm_X3_before G (wM G b μ) [.ref (b 0), .int (nI n)] (dnF (σ 0) (onw (nI n) (-1)) 64 0) := by
  refine co_bodyR (cc := cX3_before) (maxL := 4) (ret := (some .int)) (by decide) rfl (Nat.le_of_ble_eq_true rfl) ?_
  intro p e s m args below meth c S hr hlocks hK hP ls hl
  have S : CallFix p m c cX3_before 4 s args wsX3_before RX3 := S
  obtain ⟨hx, hb, hml, hown, hts⟩ := id S
  have hl : lv_has ls 4 [(0, .ref (b 0)), (1, .int (nI n))] := hl
  have uX3 := uX3_X3_before
  refine lv_iload_n hx hb dX3_before_0 rfl (lv_at hl 1 rfl) ?_
  refine lv_istore_n (lv' := [(2, .int (nI n)), (0, .ref (b 0)), (1, .int (nI n))]) hx hb dX3_before_1 rfl hl (by decide) rfl (fun ls hl => ?_)
  refine lv_bipush (v := 64) hx hb dX3_before_2 (by decide) ?_
  refine lv_istore_n (lv' := [(3, .int 64), (2, .int (nI n)), (0, .ref (b 0)), (1, .int (nI n))]) hx hb dX3_before_4 rfl hl (by decide) rfl (fun ls hl => ?_)
  have LP : ∀ (d : Nat) (f : Int32), d ≤ 64 → f = dnD (σ 0) (onw (nI n) (-1)) (nI n) (64 - d) d → ∀ ls : Array Slot, lv_has ls 4 [(0, .ref (b 0)), (1, .int (nI n)), (2, .int f), (3, .int (nI d))] → W p l e rm_X3_before s m args below meth c s.heap [] 0 0 (QR below (dnF (σ 0) (onw (nI n) (-1)) 64 0) args s) (F0 m 5 ls []) := by
    intro d
    induction d with
    | zero =>
      intro f hd6 hf9 ls hl
      refine lv_iload_n hx hb dX3_before_5 rfl (lv_at hl 3 rfl) ?_
      refine lv_if_le (tgt := 46) hx hb dX3_before_6 (by decide) (fun c_1 => ?_) (fun c_1 => ?_)
      · refine lv_iload_n hx hb dX3_before_46 rfl (lv_at hl 2 rfl) ?_
        exact co_endR S hr hlocks dX3_before_47 (by rw [hf9]; exact dnD_eq 64 0 63 (by decide) (by decide) (by rw [bf_dn hn.1 (by decide), show (n + (64 - (63 + 1))) % 64 = n by have := hn.1; omega]; exact hn.2))
      · exact absurd (by decide) c_1
    | succ d ih =>
      intro f hd6 hf9 ls hl
      refine lv_iload_n hx hb dX3_before_5 rfl (lv_at hl 3 rfl) ?_
      refine lv_if_le (tgt := 46) hx hb dX3_before_6 (by decide) (fun c_2 => ?_) (fun c_2 => ?_)
      · exact absurd c_2 (nI_nle (by omega) (by omega))
      · refine lv_aload_n hx hb dX3_before_9 rfl (lv_at hl 0 rfl) ?_
        refine va_get (D := G.1) (ci := 2) (v := .ref (b 1)) (C := RX3) (T := TX3) (N := 13) hx hb hts uX3 hown hK hP 0 rfl rfl 2 (by decide) (hts (.fieldLink RX3 7 "ChordOverlayModel" "lives" "[Z") (by decide +kernel)) (fun _ h9 => h9) rfl dX3_before_10 ?_
        refine lv_iload_n hx hb dX3_before_13 rfl (lv_at hl 1 rfl) ?_
        refine lv_bipush (v := 64) hx hb dX3_before_14 (by decide) ?_
        refine lv_iadd hx hb dX3_before_16 ?_
        refine lv_iload_n hx hb dX3_before_17 rfl (lv_at hl 3 rfl) ?_
        refine lv_isub hx hb dX3_before_18 ?_
        refine lv_bipush (v := 64) hx hb dX3_before_19 (by decide) ?_
        refine lv_irem hx hb dX3_before_21 (by decide) ?_
        refine co_eq (bf_rem hn.1 (by omega)) ?_
        refine va_zald hx hb hK hP 1 1 rfl rfl (vi_1 (Nat.mod_lt _ (by decide))) dX3_before_22 ?_
        refine co_eq (y := bI (alv (σ 0) (nI ((n + (64 - (d + 1))) % 64)))) (rl_l hR (Nat.mod_lt _ (by decide))) ?_
        refine co_ifeq (tgt := 38) S dX3_before_23 (by decide) (fun c_3 => ?_) (fun c_3 => ?_)
        · refine lv_iload_n hx hb dX3_before_38 rfl (lv_at hl 2 rfl) ?_
          refine lv_istore_n (lv' := [(2, .int f), (0, .ref (b 0)), (1, .int (nI n)), (3, .int (nI (d + 1)))]) hx hb dX3_before_39 rfl hl (by decide) rfl (fun ls hl => ?_)
          refine lv_iinc (v := (nI d)) (lv' := [(3, .int (nI d)), (2, .int f), (0, .ref (b 0)), (1, .int (nI n))]) hx hb dX3_before_40 hl (k := 3) rfl (nI_m d) (by decide) rfl (fun ls hl => ?_)
          refine lv_goto (tgt := 5) hx hb dX3_before_43 (by decide) ?_
          exact ih _ (by omega) (by rw [show 64 - d = (64 - (d + 1)) + 1 by omega, dnD, bf_dn hn.1 (by omega), ← hf9]; simp only [c_3, eq_self, Bool.false_eq_true, ↓reduceIte]) ls (lv_sub hl [2, 3, 1, 0] rfl)
        · refine lv_iload_n hx hb dX3_before_26 rfl (lv_at hl 1 rfl) ?_
          refine lv_bipush (v := 64) hx hb dX3_before_27 (by decide) ?_
          refine lv_iadd hx hb dX3_before_29 ?_
          refine lv_iload_n hx hb dX3_before_30 rfl (lv_at hl 3 rfl) ?_
          refine lv_isub hx hb dX3_before_31 ?_
          refine lv_bipush (v := 64) hx hb dX3_before_32 (by decide) ?_
          refine lv_irem hx hb dX3_before_34 (by decide) ?_
          refine co_eq (bf_rem hn.1 (by omega)) ?_
          refine lv_goto (tgt := 39) hx hb dX3_before_35 (by decide) ?_
          refine lv_istore_n (lv' := [(2, .int (nI ((n + (64 - (d + 1))) % 64))), (0, .ref (b 0)), (1, .int (nI n)), (3, .int (nI (d + 1)))]) hx hb dX3_before_39 rfl hl (by decide) rfl (fun ls hl => ?_)
          refine lv_iinc (v := (nI d)) (lv' := [(3, .int (nI d)), (2, .int (nI ((n + (64 - (d + 1))) % 64))), (0, .ref (b 0)), (1, .int (nI n))]) hx hb dX3_before_40 hl (k := 3) rfl (nI_m d) (by decide) rfl (fun ls hl => ?_)
          refine lv_goto (tgt := 5) hx hb dX3_before_43 (by decide) ?_
          exact ih _ (by omega) (by rw [show 64 - d = (64 - (d + 1)) + 1 by omega, dnD, bf_dn hn.1 (by omega), ← hf9]; simp only [c_3, eq_self, Bool.false_eq_true, ↓reduceIte]) ls (lv_sub hl [2, 3, 1, 0] rfl)
  exact LP 64 _ (Nat.le_refl 64) rfl ls (lv_sub hl [2, 3, 1, 0] rfl)
