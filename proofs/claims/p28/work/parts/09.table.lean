abbrev rm_X0_onward : Room := { frames := 0, cells := 0, slots := 0, locals := 0 }
set_option maxHeartbeats 4000000 in
set_option maxRecDepth 100000 in
theorem c_X0_onward (l : Launch) (G : cG) (x k : Int32) : MetR l yX0_onward wsX0_onward rm_X0_onward G ([] : va_W) [.int x, .int k] (onw x k) := by
  refine co_bodyR (cc := cX0_onward) (maxL := 2) (ret := (some .int)) (by decide) rfl (Nat.le_of_ble_eq_true rfl) ?_
  intro p e s m args below meth c S hr hlocks hK hP ls hl
  have S : CallFix p m c cX0_onward 2 s args wsX0_onward RX0 := S
  obtain ⟨hx, hb, hml, hown, hts⟩ := id S
  have hl : lv_has ls 2 [(0, .int x), (1, .int k)] := hl
  refine lv_iload_n hx hb dX0_onward_0 rfl (lv_at hl 0 rfl) ?_
  refine lv_iload_n hx hb dX0_onward_1 rfl (lv_at hl 1 rfl) ?_
  refine lv_iadd hx hb dX0_onward_2 ?_
  refine lv_bipush (v := 63) hx hb dX0_onward_3 (by decide) ?_
  refine lv_iand hx hb dX0_onward_5 ?_
  exact co_endR S hr hlocks dX0_onward_6 (by rfl)

abbrev rm_X0_fingerStart : Room := { frames := 1, cells := 0, slots := 0, locals := 21 }
set_option maxHeartbeats 4000000 in
set_option maxRecDepth 100000 in
theorem c_X0_fingerStart (l : Launch) (G : cG) (n i : Int32) : MetR l yX0_fingerStart wsX0_fingerStart rm_X0_fingerStart G ([] : va_W) [.int n, .int i] (fgs n i) := by
  refine co_bodyR (cc := cX0_fingerStart) (maxL := 2) (ret := (some .int)) (by decide) rfl (Nat.le_of_ble_eq_true rfl) ?_
  intro p e s m args below meth c S hr hlocks hK hP ls hl
  have S : CallFix p m c cX0_fingerStart 2 s args wsX0_fingerStart RX0 := S
  obtain ⟨hx, hb, hml, hown, hts⟩ := id S
  have hl : lv_has ls 2 [(0, .int n), (1, .int i)] := hl
  refine lv_iload_n hx hb dX0_fingerStart_0 rfl (lv_at hl 0 rfl) ?_
  refine lv_iconst (v := 1) hx hb dX0_fingerStart_1 (by decide) ?_
  refine lv_iload_n hx hb dX0_fingerStart_2 rfl (lv_at hl 1 rfl) ?_
  refine lv_ishl hx hb dX0_fingerStart_3 ?_
  refine co_rS (As := [.int n, .int (1 <<< (i &&& 31))]) (rest := []) S (c_X0_onward l G n (1 <<< (i &&& 31))) (va_cwS 2 hts gX0_fingerStart_X0_onward rfl rfl rfl (by decide +kernel) ⟨Nat.le_of_ble_eq_true rfl, Nat.le_of_ble_eq_true rfl⟩) hK (pG_nil) rfl hl.1 rfl (Nat.le_of_ble_eq_true rfl) dX0_fingerStart_4 ⟨Nat.zero_le _, Nat.zero_le _⟩ ?_
  exact co_endR S hr hlocks dX0_fingerStart_7 (by rfl)

abbrev rm_X0_isUpTo : Room := { frames := 0, cells := 0, slots := 0, locals := 0 }
set_option maxHeartbeats 4000000 in
set_option maxRecDepth 100000 in
theorem c_X0_isUpTo (l : Launch) (G : cG) (x a b : Int32) : MetR l yX0_isUpTo wsX0_isUpTo rm_X0_isUpTo G ([] : va_W) [.int x, .int a, .int b] (bI (upTo x a b)) := by
  refine co_bodyR (cc := cX0_isUpTo) (maxL := 3) (ret := (some .boolean)) (by decide) rfl (Nat.le_of_ble_eq_true rfl) ?_
  intro p e s m args below meth c S hr hlocks hK hP ls hl
  have S : CallFix p m c cX0_isUpTo 3 s args wsX0_isUpTo RX0 := S
  obtain ⟨hx, hb, hml, hown, hts⟩ := id S
  have hl : lv_has ls 3 [(0, .int x), (1, .int a), (2, .int b)] := hl
  refine lv_iload_n hx hb dX0_isUpTo_0 rfl (lv_at hl 0 rfl) ?_
  refine lv_iload_n hx hb dX0_isUpTo_1 rfl (lv_at hl 1 rfl) ?_
  refine lv_isub hx hb dX0_isUpTo_2 ?_
  refine lv_iconst (v := 1) hx hb dX0_isUpTo_3 (by decide) ?_
  refine lv_isub hx hb dX0_isUpTo_4 ?_
  refine lv_bipush (v := 63) hx hb dX0_isUpTo_5 (by decide) ?_
  refine lv_iand hx hb dX0_isUpTo_7 ?_
  refine lv_iload_n hx hb dX0_isUpTo_8 rfl (lv_at hl 2 rfl) ?_
  refine lv_iload_n hx hb dX0_isUpTo_9 rfl (lv_at hl 1 rfl) ?_
  refine lv_isub hx hb dX0_isUpTo_10 ?_
  refine lv_iconst (v := 1) hx hb dX0_isUpTo_11 (by decide) ?_
  refine lv_isub hx hb dX0_isUpTo_12 ?_
  refine lv_bipush (v := 63) hx hb dX0_isUpTo_13 (by decide) ?_
  refine lv_iand hx hb dX0_isUpTo_15 ?_
  refine lv_icmp_gt (tgt := 23) hx hb dX0_isUpTo_16 (by decide) (fun c_1 => ?_) (fun c_1 => ?_)
  · refine lv_iconst (v := 0) hx hb dX0_isUpTo_23 (by decide) ?_
    exact co_endRz (v := false) S hr hlocks dX0_isUpTo_24 (by simp only [upTo, c_1, eq_self, Bool.false_eq_true, ↓reduceIte])
  · refine lv_iconst (v := 1) hx hb dX0_isUpTo_19 (by decide) ?_
    refine lv_goto (tgt := 24) hx hb dX0_isUpTo_20 (by decide) ?_
    exact co_endRz (v := true) S hr hlocks dX0_isUpTo_24 (by simp only [upTo, c_1, eq_self, Bool.false_eq_true, ↓reduceIte])

abbrev rm_X0_isBetween : Room := { frames := 0, cells := 0, slots := 0, locals := 0 }
set_option maxHeartbeats 4000000 in
set_option maxRecDepth 100000 in
theorem c_X0_isBetween (l : Launch) (G : cG) (x a b : Int32) : MetR l yX0_isBetween wsX0_isBetween rm_X0_isBetween G ([] : va_W) [.int x, .int a, .int b] (bI (btw x a b)) := by
  refine co_bodyR (cc := cX0_isBetween) (maxL := 3) (ret := (some .boolean)) (by decide) rfl (Nat.le_of_ble_eq_true rfl) ?_
  intro p e s m args below meth c S hr hlocks hK hP ls hl
  have S : CallFix p m c cX0_isBetween 3 s args wsX0_isBetween RX0 := S
  obtain ⟨hx, hb, hml, hown, hts⟩ := id S
  have hl : lv_has ls 3 [(0, .int x), (1, .int a), (2, .int b)] := hl
  refine lv_iload_n hx hb dX0_isBetween_0 rfl (lv_at hl 0 rfl) ?_
  refine lv_iload_n hx hb dX0_isBetween_1 rfl (lv_at hl 1 rfl) ?_
  refine lv_isub hx hb dX0_isBetween_2 ?_
  refine lv_iconst (v := 1) hx hb dX0_isBetween_3 (by decide) ?_
  refine lv_isub hx hb dX0_isBetween_4 ?_
  refine lv_bipush (v := 63) hx hb dX0_isBetween_5 (by decide) ?_
  refine lv_iand hx hb dX0_isBetween_7 ?_
  refine lv_iload_n hx hb dX0_isBetween_8 rfl (lv_at hl 2 rfl) ?_
  refine lv_iload_n hx hb dX0_isBetween_9 rfl (lv_at hl 1 rfl) ?_
  refine lv_isub hx hb dX0_isBetween_10 ?_
  refine lv_iconst (v := 1) hx hb dX0_isBetween_11 (by decide) ?_
  refine lv_isub hx hb dX0_isBetween_12 ?_
  refine lv_bipush (v := 63) hx hb dX0_isBetween_13 (by decide) ?_
  refine lv_iand hx hb dX0_isBetween_15 ?_
  refine lv_icmp_ge (tgt := 23) hx hb dX0_isBetween_16 (by decide) (fun c_1 => ?_) (fun c_1 => ?_)
  · refine lv_iconst (v := 0) hx hb dX0_isBetween_23 (by decide) ?_
    exact co_endRz (v := false) S hr hlocks dX0_isBetween_24 (by simp only [btw, c_1, eq_self, Bool.false_eq_true, ↓reduceIte])
  · refine lv_iconst (v := 1) hx hb dX0_isBetween_19 (by decide) ?_
    refine lv_goto (tgt := 24) hx hb dX0_isBetween_20 (by decide) ?_
    exact co_endRz (v := true) S hr hlocks dX0_isBetween_24 (by simp only [btw, c_1, eq_self, Bool.false_eq_true, ↓reduceIte])

set_option maxRecDepth 20000 in
theorem uX1_X1_at : ∀ w ∈ u_ws RX1 TX1 2, w ∈ wsX1_at := by decide +kernel
abbrev rm_X1_at : Room := { frames := 0, cells := 0, slots := 0, locals := 0 }
set_option maxHeartbeats 4000000 in
set_option maxRecDepth 100000 in
theorem c_X1_at (l : Launch) (G : cG) (t q w : Nat) (f : Nat → Int32) (n c₀ : Int32) (hw : w ≤ 64) : MetR l yX1_at wsX1_at rm_X1_at G (wT G t q w f) [.ref t, .int n, .int c₀] (tat w f n c₀) := by
  refine co_bodyR (cc := cX1_at) (maxL := 4) (ret := (some .int)) (by decide) rfl (Nat.le_of_ble_eq_true rfl) ?_
  intro p e s m args below meth c S hr hlocks hK hP ls hl
  have S : CallFix p m c cX1_at 4 s args wsX1_at RX1 := S
  obtain ⟨hx, hb, hml, hown, hts⟩ := id S
  have hl : lv_has ls 4 [(0, .ref t), (1, .int n), (2, .int c₀)] := hl
  have uX1 := uX1_X1_at
  refine lv_iload_n hx hb dX1_at_0 rfl (lv_at hl 1 rfl) ?_
  refine lv_if_lt (tgt := 22) hx hb dX1_at_1 (by decide) (fun c_1 => ?_) (fun c_1 => ?_)
  · refine lv_iconst (v := (-1)) hx hb dX1_at_22 (by decide) ?_
    exact co_endR S hr hlocks dX1_at_23 (by simp only [tat, c_1, eq_self, Bool.false_eq_true, ↓reduceIte])
  · refine lv_iload_n hx hb dX1_at_4 rfl (lv_at hl 1 rfl) ?_
    refine lv_bipush (v := 64) hx hb dX1_at_5 (by decide) ?_
    refine lv_icmp_ge (tgt := 22) hx hb dX1_at_7 (by decide) (fun c_2 => ?_) (fun c_2 => ?_)
    · refine lv_iconst (v := (-1)) hx hb dX1_at_22 (by decide) ?_
      exact co_endR S hr hlocks dX1_at_23 (by simp only [tat, c_1, c_2, eq_self, Bool.false_eq_true, ↓reduceIte])
    · refine lv_iload_n hx hb dX1_at_10 rfl (lv_at hl 2 rfl) ?_
      refine lv_if_lt (tgt := 22) hx hb dX1_at_11 (by decide) (fun c_3 => ?_) (fun c_3 => ?_)
      · refine lv_iconst (v := (-1)) hx hb dX1_at_22 (by decide) ?_
        exact co_endR S hr hlocks dX1_at_23 (by simp only [tat, c_1, c_2, c_3, eq_self, Bool.false_eq_true, ↓reduceIte])
      · refine lv_iload_n hx hb dX1_at_14 rfl (lv_at hl 2 rfl) ?_
        refine lv_aload_n hx hb dX1_at_15 rfl (lv_at hl 0 rfl) ?_
        refine va_get (D := G.1) (ci := 0) (v := .int (nI w)) (C := RX1) (T := TX1) (N := 2) hx hb hts uX1 hown hK hP 0 rfl rfl 0 (by decide) (hts (.fieldLink RX1 18 "ChordOverlay$Table" "width" "I") (by decide +kernel)) (fun _ h9 => h9) rfl dX1_at_16 ?_
        refine lv_icmp_lt (tgt := 24) hx hb dX1_at_19 (by decide) (fun c_4 => ?_) (fun c_4 => ?_)
        · refine lv_iload_n hx hb dX1_at_24 rfl (lv_at hl 1 rfl) ?_
          refine lv_aload_n hx hb dX1_at_25 rfl (lv_at hl 0 rfl) ?_
          refine va_get (D := G.1) (ci := 0) (v := .int (nI w)) (C := RX1) (T := TX1) (N := 2) hx hb hts uX1 hown hK hP 0 rfl rfl 0 (by decide) (hts (.fieldLink RX1 18 "ChordOverlay$Table" "width" "I") (by decide +kernel)) (fun _ h9 => h9) rfl dX1_at_26 ?_
          refine lv_imul hx hb dX1_at_29 ?_
          refine lv_iload_n hx hb dX1_at_30 rfl (lv_at hl 2 rfl) ?_
          refine lv_iadd hx hb dX1_at_31 ?_
          refine lv_istore_n (lv' := [(3, .int ((n * (nI w)) + c₀)), (0, .ref t), (1, .int n), (2, .int c₀)]) hx hb dX1_at_32 rfl hl (by decide) rfl (fun ls hl => ?_)
          refine lv_iload_n hx hb dX1_at_33 rfl (lv_at hl 0 rfl) ?_
          refine lv_aload_n hx hb dX1_at_34 rfl (lv_at hl 1 rfl) ?_
          refine va_get (D := G.1) (ci := 0) (v := .ref q) (C := RX1) (T := TX1) (N := 2) hx hb hts uX1 hown hK hP 0 rfl rfl 1 (by decide) (hts (.fieldLink RX1 24 "ChordOverlay$Table" "cells" "[I") (by decide +kernel)) (fun _ h9 => h9) rfl dX1_at_35 ?_
          refine va_alen (v := nI (64 * w)) hx hb hK hP 1 0 rfl rfl rfl dX1_at_38 ?_
          refine lv_icmp_ge (tgt := 51) hx hb dX1_at_39 (by decide) (fun c_5 => ?_) (fun c_5 => ?_)
          · exact tat_no hw c_1 c_2 c_3 c_4 c_5
          · refine lv_aload_n hx hb dX1_at_42 rfl (lv_at hl 1 rfl) ?_
            refine va_get (D := G.1) (ci := 0) (v := .ref q) (C := RX1) (T := TX1) (N := 2) hx hb hts uX1 hown hK hP 0 rfl rfl 1 (by decide) (hts (.fieldLink RX1 24 "ChordOverlay$Table" "cells" "[I") (by decide +kernel)) (fun _ h9 => h9) rfl dX1_at_43 ?_
            refine lv_iload_n hx hb dX1_at_46 rfl (lv_at hl 0 rfl) ?_
            refine va_iald hx hb hK hP 1 0 rfl rfl (tat_in hw c_1 c_2 c_3 c_4) dX1_at_47 ?_
            refine lv_goto (tgt := 52) hx hb dX1_at_48 (by decide) ?_
            exact co_endR S hr hlocks dX1_at_52 (by simp only [tat, c_1, c_2, c_3, c_4, c_5, eq_self, Bool.false_eq_true, ↓reduceIte])
        · refine lv_iconst (v := (-1)) hx hb dX1_at_22 (by decide) ?_
          exact co_endR S hr hlocks dX1_at_23 (by simp only [tat, c_1, c_2, c_3, c_4, eq_self, Bool.false_eq_true, ↓reduceIte])

set_option maxRecDepth 20000 in
theorem uX1_X1_set : ∀ w ∈ u_ws RX1 TX1 2, w ∈ wsX1_set := by decide +kernel
abbrev rm_X1_set : Room := { frames := 0, cells := 0, slots := 0, locals := 0 }
set_option maxHeartbeats 4000000 in
set_option maxRecDepth 100000 in
theorem c_X1_set (l : Launch) (G : cG) (t q w : Nat) (f : Nat → Int32) (n c₀ v : Int32) (hw : w ≤ 64) : MetV l yX1_set wsX1_set rm_X1_set G (wT G t q w f) [.ref t, .int n, .int c₀, .int v] (fun u => wT G t q w u) (fun u => u = tset w f n c₀ v) := by
  refine co_bodyV (cc := cX1_set) (maxL := 5) (ret := none) (by decide) rfl (Nat.le_of_ble_eq_true rfl) ?_
  intro p e s m args below meth c S hr hlocks hK A hA hP hD hS ls hl
  have S : CallFix p m c cX1_set 5 s args wsX1_set RX1 := S
  obtain ⟨hx, hb, hml, hown, hts⟩ := id S
  have hl : lv_has ls 5 [(0, .ref t), (1, .int n), (2, .int c₀), (3, .int v)] := hl
  have uX1 := uX1_X1_set
  refine lv_iload_n hx hb dX1_set_0 rfl (lv_at hl 1 rfl) ?_
  refine lv_if_lt (tgt := 22) hx hb dX1_set_1 (by decide) (fun c_1 => ?_) (fun c_1 => ?_)
  · exact co_endV f S hr hlocks dX1_set_22 hK hP hD hS (by simp only [tset, c_1, eq_self, Bool.false_eq_true, ↓reduceIte])
  · refine lv_iload_n hx hb dX1_set_4 rfl (lv_at hl 1 rfl) ?_
    refine lv_bipush (v := 64) hx hb dX1_set_5 (by decide) ?_
    refine lv_icmp_ge (tgt := 22) hx hb dX1_set_7 (by decide) (fun c_2 => ?_) (fun c_2 => ?_)
    · exact co_endV f S hr hlocks dX1_set_22 hK hP hD hS (by simp only [tset, c_1, c_2, eq_self, Bool.false_eq_true, ↓reduceIte])
    · refine lv_iload_n hx hb dX1_set_10 rfl (lv_at hl 2 rfl) ?_
      refine lv_if_lt (tgt := 22) hx hb dX1_set_11 (by decide) (fun c_3 => ?_) (fun c_3 => ?_)
      · exact co_endV f S hr hlocks dX1_set_22 hK hP hD hS (by simp only [tset, c_1, c_2, c_3, eq_self, Bool.false_eq_true, ↓reduceIte])
      · refine lv_iload_n hx hb dX1_set_14 rfl (lv_at hl 2 rfl) ?_
        refine lv_aload_n hx hb dX1_set_15 rfl (lv_at hl 0 rfl) ?_
        refine va_get (D := G.1) (ci := 0) (v := .int (nI w)) (C := RX1) (T := TX1) (N := 2) hx hb hts uX1 hown hK hP 0 rfl rfl 0 (by decide) (hts (.fieldLink RX1 18 "ChordOverlay$Table" "width" "I") (by decide +kernel)) (fun _ h9 => h9) rfl dX1_set_16 ?_
        refine lv_icmp_lt (tgt := 23) hx hb dX1_set_19 (by decide) (fun c_4 => ?_) (fun c_4 => ?_)
        · refine lv_iload_n hx hb dX1_set_23 rfl (lv_at hl 1 rfl) ?_
          refine lv_aload_n hx hb dX1_set_24 rfl (lv_at hl 0 rfl) ?_
          refine va_get (D := G.1) (ci := 0) (v := .int (nI w)) (C := RX1) (T := TX1) (N := 2) hx hb hts uX1 hown hK hP 0 rfl rfl 0 (by decide) (hts (.fieldLink RX1 18 "ChordOverlay$Table" "width" "I") (by decide +kernel)) (fun _ h9 => h9) rfl dX1_set_25 ?_
          refine lv_imul hx hb dX1_set_28 ?_
          refine lv_iload_n hx hb dX1_set_29 rfl (lv_at hl 2 rfl) ?_
          refine lv_iadd hx hb dX1_set_30 ?_
          refine lv_istore (lv' := [(4, .int ((n * (nI w)) + c₀)), (0, .ref t), (1, .int n), (2, .int c₀), (3, .int v)]) hx hb dX1_set_31 hl (by decide) rfl (fun ls hl => ?_)
          refine lv_iload hx hb dX1_set_33 (lv_at hl 0 rfl) ?_
          refine lv_aload_n hx hb dX1_set_35 rfl (lv_at hl 1 rfl) ?_
          refine va_get (D := G.1) (ci := 0) (v := .ref q) (C := RX1) (T := TX1) (N := 2) hx hb hts uX1 hown hK hP 0 rfl rfl 1 (by decide) (hts (.fieldLink RX1 24 "ChordOverlay$Table" "cells" "[I") (by decide +kernel)) (fun _ h9 => h9) rfl dX1_set_36 ?_
          refine va_alen (v := nI (64 * w)) hx hb hK hP 1 0 rfl rfl rfl dX1_set_39 ?_
          refine lv_icmp_ge (tgt := 51) hx hb dX1_set_40 (by decide) (fun c_5 => ?_) (fun c_5 => ?_)
          · exact tat_no hw c_1 c_2 c_3 c_4 c_5
          · refine lv_aload_n hx hb dX1_set_43 rfl (lv_at hl 1 rfl) ?_
            refine va_get (D := G.1) (ci := 0) (v := .ref q) (C := RX1) (T := TX1) (N := 2) hx hb hts uX1 hown hK hP 0 rfl rfl 1 (by decide) (hts (.fieldLink RX1 24 "ChordOverlay$Table" "cells" "[I") (by decide +kernel)) (fun _ h9 => h9) rfl dX1_set_44 ?_
            refine lv_iload hx hb dX1_set_47 (lv_at hl 0 rfl) ?_
            refine lv_iload_n hx hb dX1_set_49 rfl (lv_at hl 4 rfl) ?_
            refine va_iast hx hb hK hP hD hS 1 0 rfl rfl (tat_in hw c_1 c_2 c_3 c_4) dX1_set_50 (fun H locs hP hD hS => ?_)
            have hP : pG G (wT G t q w (upd f ((n * (nI w)) + c₀).toNatClampNeg v)) H := hP
            have hD : va_D A (wT G t q w (upd f ((n * (nI w)) + c₀).toNatClampNeg v)) := hD
            exact co_endV (upd f ((n * (nI w)) + c₀).toNatClampNeg v) S hr hlocks dX1_set_51 hK hP hD hS (by simp only [tset, c_1, c_2, c_3, c_4, c_5, eq_self, Bool.false_eq_true, ↓reduceIte])
        · exact co_endV f S hr hlocks dX1_set_22 hK hP hD hS (by simp only [tset, c_1, c_2, c_3, c_4, eq_self, Bool.false_eq_true, ↓reduceIte])
