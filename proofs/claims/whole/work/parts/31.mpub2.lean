set_option maxRecDepth 20000 in
theorem uX3_X3_create : ∀ w ∈ u_ws RX3 TX3 13, w ∈ wsX3_create := by decide +kernel
abbrev rm_X3_create : Room := { frames := 1, cells := 0, slots := 0, locals := 25 }
set_option maxHeartbeats 4000000 in
set_option maxRecDepth 100000 in
theorem c_X3_create (l : Launch) (G : cG) (Z : Nat) (b : Nat → Nat) (σ μ : cS) (hR : Rl Z σ μ) (x : Int32) : MetI l yX3_create wsX3_create rm_X3_create G (wM G b μ) [.ref (b 0), .int x] (fun u : cS => wM G b u) (fun r u => u 0 0 = nI (cdC σ x) ∧ (cdC σ x = 0 → r = cnt (blS σ x x x x 0) 64 ∧ Rl Z (blS σ x x x x) u) ∧ (cdC σ x ≠ 0 → Rl Z σ u)) := by
  rcases id_or x with ⟨n, hn0, rfl⟩ | ⟨hin0, hon0⟩
  · refine co_bodyI (cc := cX3_create) (maxL := 2) (ret := (some .int)) (by decide) rfl (Nat.le_of_ble_eq_true rfl) ?_
    intro p e s m args below meth c S hr hlocks hK A hA hP hD hS ls hl
    have S : CallFix p m c cX3_create 2 s args wsX3_create RX3 := S
    obtain ⟨hx, hb, hml, hown, hts⟩ := id S
    have hl : lv_has ls 2 [(0, .ref (b 0)), (1, .int (nI n))] := hl
    have uX3 := uX3_X3_create
    refine lv_aload_n hx hb dX3_create_0 rfl (lv_at hl 0 rfl) ?_
    refine lv_iconst (v := 0) hx hb dX3_create_1 (by decide) ?_
    refine va_put (D := G.1) (ci := 2) (v := .int 0) (ty := .int) (C := RX3) (T := TX3) (N := 13) hx hb hts uX3 tyX3 tyX3_ok nmX3 hown hK hP hD hS 0 rfl rfl 0 (by decide) (hts (.fieldLink RX3 41 "ChordOverlayModel" "thrown" "I") (by decide +kernel)) (fun _ h9 => h9) rfl (by decide +kernel) rfl rfl (Nat.le_of_ble_eq_true rfl) dX3_create_2 (fun H locs hP hD hS => ?_)
    have hP : pG G (wM G b (va_up μ 0 (fun _ => 0))) H := hP
    have hD : va_D A (wM G b (va_up μ 0 (fun _ => 0))) := hD
    have hz_1 : Rl Z σ (va_up μ 0 (fun _ => 0)) := Rl.s0 (f := fun _ => 0) hR
    refine lv_iload_n hx hb dX3_create_5 rfl (lv_at hl 1 rfl) ?_
    refine co_rS (As := [.int (nI n)]) (rest := []) S (c_X3_isId l G (nI n)) (va_cwS 1 hts gX3_create_X3_isId rfl rfl rfl (by decide +kernel) ⟨Nat.le_of_ble_eq_true rfl, Nat.le_of_ble_eq_true rfl⟩) hK (pG_nil) rfl hl.1 rfl (Nat.le_of_ble_eq_true rfl) dX3_create_6 ⟨Nat.zero_le _, Nat.zero_le _⟩ ?_
    refine co_ifne (tgt := 18) S dX3_create_9 (by decide) (fun c_2 => ?_) (fun c_2 => ?_)
    · refine lv_aload_n hx hb dX3_create_18 rfl (lv_at hl 0 rfl) ?_
      refine co_rV (As := []) (rest := []) S (c_X3_countLiving l G Z b σ (va_up μ 0 (fun _ => 0)) hz_1) (cwV 0 hts gX3_create_X3_countLiving rfl rfl rfl (by decide +kernel) ⟨Nat.le_of_ble_eq_true rfl, Nat.le_of_ble_eq_true rfl⟩) hK hP (va_recv hK hP (ci := 2) (q0 := 0) rfl rfl) rfl hl.1 rfl (Nat.le_of_ble_eq_true rfl) dX3_create_19 ⟨Nat.zero_le _, Nat.zero_le _⟩ ?_
      refine lv_if_le (tgt := 31) hx hb dX3_create_22 (by decide) (fun c_3 => ?_) (fun c_3 => ?_)
      · refine lv_aload_n hx hb dX3_create_31 rfl (lv_at hl 0 rfl) ?_
        refine lv_iload_n hx hb dX3_create_32 rfl (lv_at hl 1 rfl) ?_
        refine lv_iload_n hx hb dX3_create_33 rfl (lv_at hl 1 rfl) ?_
        refine lv_iload_n hx hb dX3_create_34 rfl (lv_at hl 1 rfl) ?_
        refine lv_iload_n hx hb dX3_create_35 rfl (lv_at hl 1 rfl) ?_
        refine co_mVv (As := [.int (nI n), .int (nI n), .int (nI n), .int (nI n)]) (rest := []) S (c_X3_begins l G Z b σ (va_up μ 0 (fun _ => 0)) hz_1 n n n n hn0 hn0 hn0 hn0) (cwV 4 hts gX3_create_X3_begins rfl rfl rfl (by decide +kernel) ⟨Nat.le_of_ble_eq_true rfl, Nat.le_of_ble_eq_true rfl⟩) hK hP hD hS hA (va_recv hK hP (ci := 2) (q0 := 0) rfl rfl) rfl hl.1 rfl (Nat.le_of_ble_eq_true rfl) dX3_create_36 ⟨Nat.zero_le _, Nat.zero_le _⟩ (fun u_4 H locs hu_4 hP hD hS => ?_)
        obtain ⟨hq_4, hk_4⟩ := hu_4
        obtain ⟨σ_4, eσ_4⟩ : ∃ z9, z9 = (blS σ (nI n) (nI n) (nI n) (nI n)) := ⟨_, rfl⟩
        have hq_4 : Rl Z σ_4 u_4 := (by rw [eσ_4]; exact hq_4)
        have hP : pG G (wM G b u_4) H := hP
        have hD : va_D A (wM G b u_4) := hD
        refine lv_iconst (v := 1) hx hb dX3_create_39 (by decide) ?_
        exact co_endI u_4 S hr hlocks dX3_create_40 hK hP hD hS (by have hcd : cdC σ (nI n) = 0 := (by simp only [cdC, okR_id hn0, c_2, c_3, eq_self, Bool.false_eq_true, ite_self, ↓reduceIte]); exact ⟨by rw [hcd]; exact (congrFun hk_4.1 0), fun _ => ⟨by exact (cr_1 hn0 c_3).symm, by first | with_reducible exact hq_4 | (simp only [← eσ_4, c_2, c_3, okR_id hn0, eq_self, Bool.false_eq_true, ite_self, ↓reduceIte]; with_reducible exact hq_4)⟩, fun h => absurd hcd h⟩)
      · refine lv_aload_n hx hb dX3_create_25 rfl (lv_at hl 0 rfl) ?_
        refine lv_iconst (v := 2) hx hb dX3_create_26 (by decide) ?_
        refine co_mVi (As := [.int 2]) (rest := []) S (c_X3_fails l G Z b σ (va_up μ 0 (fun _ => 0)) hz_1 2) (cwV 1 hts gX3_create_X3_fails rfl rfl rfl (by decide +kernel) ⟨Nat.le_of_ble_eq_true rfl, Nat.le_of_ble_eq_true rfl⟩) hK hP hD hS hA (va_recv hK hP (ci := 2) (q0 := 0) rfl rfl) rfl hl.1 rfl (Nat.le_of_ble_eq_true rfl) dX3_create_27 ⟨Nat.zero_le _, Nat.zero_le _⟩ (fun r_5 u_5 H locs hu_5 hP hD hS => ?_)
        obtain ⟨hr_5, hu_5⟩ := hu_5
        subst hr_5
        subst hu_5
        have hP : pG G (wM G b (va_up (va_up μ 0 (fun _ => 0)) 0 (fun _ => 2))) H := hP
        have hD : va_D A (wM G b (va_up (va_up μ 0 (fun _ => 0)) 0 (fun _ => 2))) := hD
        have hz_6 : Rl Z σ (va_up (va_up μ 0 (fun _ => 0)) 0 (fun _ => 2)) := Rl.s0 (f := fun _ => 2) hz_1
        exact co_endI (va_up (va_up μ 0 (fun _ => 0)) 0 (fun _ => 2)) S hr hlocks dX3_create_30 hK hP hD hS (by have hcd : cdC σ (nI n) = 2 := (by simp only [cdC, okR_id hn0, c_2, c_3, eq_self, Bool.false_eq_true, ite_self, ↓reduceIte]); exact ⟨by rw [hcd]; exact rfl, fun h => absurd (hcd.symm.trans h) (by decide), fun _ => hz_6⟩)
    · exact absurd (c_2.symm.trans (idB_nI hn0)) (by decide)
  · refine co_bodyI (cc := cX3_create) (maxL := 2) (ret := (some .int)) (by decide) rfl (Nat.le_of_ble_eq_true rfl) ?_
    intro p e s m args below meth c S hr hlocks hK A hA hP hD hS ls hl
    have S : CallFix p m c cX3_create 2 s args wsX3_create RX3 := S
    obtain ⟨hx, hb, hml, hown, hts⟩ := id S
    have hl : lv_has ls 2 [(0, .ref (b 0)), (1, .int x)] := hl
    have uX3 := uX3_X3_create
    refine lv_aload_n hx hb dX3_create_0 rfl (lv_at hl 0 rfl) ?_
    refine lv_iconst (v := 0) hx hb dX3_create_1 (by decide) ?_
    refine va_put (D := G.1) (ci := 2) (v := .int 0) (ty := .int) (C := RX3) (T := TX3) (N := 13) hx hb hts uX3 tyX3 tyX3_ok nmX3 hown hK hP hD hS 0 rfl rfl 0 (by decide) (hts (.fieldLink RX3 41 "ChordOverlayModel" "thrown" "I") (by decide +kernel)) (fun _ h9 => h9) rfl (by decide +kernel) rfl rfl (Nat.le_of_ble_eq_true rfl) dX3_create_2 (fun H locs hP hD hS => ?_)
    have hP : pG G (wM G b (va_up μ 0 (fun _ => 0))) H := hP
    have hD : va_D A (wM G b (va_up μ 0 (fun _ => 0))) := hD
    have hz_1 : Rl Z σ (va_up μ 0 (fun _ => 0)) := Rl.s0 (f := fun _ => 0) hR
    refine lv_iload_n hx hb dX3_create_5 rfl (lv_at hl 1 rfl) ?_
    refine co_rS (As := [.int x]) (rest := []) S (c_X3_isId l G x) (va_cwS 1 hts gX3_create_X3_isId rfl rfl rfl (by decide +kernel) ⟨Nat.le_of_ble_eq_true rfl, Nat.le_of_ble_eq_true rfl⟩) hK (pG_nil) rfl hl.1 rfl (Nat.le_of_ble_eq_true rfl) dX3_create_6 ⟨Nat.zero_le _, Nat.zero_le _⟩ ?_
    refine co_ifne (tgt := 18) S dX3_create_9 (by decide) (fun c_2 => ?_) (fun c_2 => ?_)
    · exact absurd (c_2.symm.trans hin0) (by decide)
    · refine lv_aload_n hx hb dX3_create_12 rfl (lv_at hl 0 rfl) ?_
      refine lv_iconst (v := 1) hx hb dX3_create_13 (by decide) ?_
      refine co_mVi (As := [.int 1]) (rest := []) S (c_X3_fails l G Z b σ (va_up μ 0 (fun _ => 0)) hz_1 1) (cwV 1 hts gX3_create_X3_fails rfl rfl rfl (by decide +kernel) ⟨Nat.le_of_ble_eq_true rfl, Nat.le_of_ble_eq_true rfl⟩) hK hP hD hS hA (va_recv hK hP (ci := 2) (q0 := 0) rfl rfl) rfl hl.1 rfl (Nat.le_of_ble_eq_true rfl) dX3_create_14 ⟨Nat.zero_le _, Nat.zero_le _⟩ (fun r_3 u_3 H locs hu_3 hP hD hS => ?_)
      obtain ⟨hr_3, hu_3⟩ := hu_3
      subst hr_3
      subst hu_3
      have hP : pG G (wM G b (va_up (va_up μ 0 (fun _ => 0)) 0 (fun _ => 1))) H := hP
      have hD : va_D A (wM G b (va_up (va_up μ 0 (fun _ => 0)) 0 (fun _ => 1))) := hD
      have hz_4 : Rl Z σ (va_up (va_up μ 0 (fun _ => 0)) 0 (fun _ => 1)) := Rl.s0 (f := fun _ => 1) hz_1
      exact co_endI (va_up (va_up μ 0 (fun _ => 0)) 0 (fun _ => 1)) S hr hlocks dX3_create_17 hK hP hD hS (by have hcd : cdC σ x = 1 := (by simp only [cdC, hon0, c_2, eq_self, Bool.false_eq_true, ite_self, ↓reduceIte]); exact ⟨by rw [hcd]; exact rfl, fun h => absurd (hcd.symm.trans h) (by decide), fun _ => hz_4⟩)

set_option maxRecDepth 20000 in
theorem uX3_X3_join : ∀ w ∈ u_ws RX3 TX3 13, w ∈ wsX3_join := by decide +kernel
abbrev rm_X3_join : Room := { frames := 5, cells := 0, slots := 0, locals := 117 }
set_option maxHeartbeats 4000000 in
set_option maxRecDepth 100000 in
theorem c_X3_join (l : Launch) (G : cG) (Z : Nat) (b : Nat → Nat) (σ μ : cS) (hR : Rl Z σ μ) (x : Int32) (y : Int32) : MetI l yX3_join wsX3_join rm_X3_join G (wM G b μ) [.ref (b 0), .int x, .int y] (fun u : cS => wM G b u) (fun r u => u 0 0 = nI (cdJ σ x y) ∧ (cdJ σ x y = 0 → r = fnR σ y x ∧ Rl Z (jnS σ x y) u) ∧ (cdJ σ x y ≠ 0 → Rl Z σ u)) := by
  rcases id_or x with ⟨n, hn0, rfl⟩ | ⟨hin0, hon0⟩
  · rcases id_or y with ⟨v, hv0, rfl⟩ | ⟨hiv0, hov0⟩
    · cases haln : alv (σ 0) (nI n) with
      | false =>
        cases halv : alv (σ 0) (nI v) with
        | false =>
          refine co_bodyI (cc := cX3_join) (maxL := 4) (ret := (some .int)) (by decide) rfl (Nat.le_of_ble_eq_true rfl) ?_
          intro p e s m args below meth c S hr hlocks hK A hA hP hD hS ls hl
          have S : CallFix p m c cX3_join 4 s args wsX3_join RX3 := S
          obtain ⟨hx, hb, hml, hown, hts⟩ := id S
          have hl : lv_has ls 4 [(0, .ref (b 0)), (1, .int (nI n)), (2, .int (nI v))] := hl
          have uX3 := uX3_X3_join
          refine lv_aload_n hx hb dX3_join_0 rfl (lv_at hl 0 rfl) ?_
          refine lv_iconst (v := 0) hx hb dX3_join_1 (by decide) ?_
          refine va_put (D := G.1) (ci := 2) (v := .int 0) (ty := .int) (C := RX3) (T := TX3) (N := 13) hx hb hts uX3 tyX3 tyX3_ok nmX3 hown hK hP hD hS 0 rfl rfl 0 (by decide) (hts (.fieldLink RX3 41 "ChordOverlayModel" "thrown" "I") (by decide +kernel)) (fun _ h9 => h9) rfl (by decide +kernel) rfl rfl (Nat.le_of_ble_eq_true rfl) dX3_join_2 (fun H locs hP hD hS => ?_)
          have hP : pG G (wM G b (va_up μ 0 (fun _ => 0))) H := hP
          have hD : va_D A (wM G b (va_up μ 0 (fun _ => 0))) := hD
          have hz_1 : Rl Z σ (va_up μ 0 (fun _ => 0)) := Rl.s0 (f := fun _ => 0) hR
          refine lv_iload_n hx hb dX3_join_5 rfl (lv_at hl 1 rfl) ?_
          refine co_rS (As := [.int (nI n)]) (rest := []) S (c_X3_isId l G (nI n)) (va_cwS 1 hts gX3_join_X3_isId rfl rfl rfl (by decide +kernel) ⟨Nat.le_of_ble_eq_true rfl, Nat.le_of_ble_eq_true rfl⟩) hK (pG_nil) rfl hl.1 rfl (Nat.le_of_ble_eq_true rfl) dX3_join_6 ⟨Nat.zero_le _, Nat.zero_le _⟩ ?_
          refine co_ifeq (tgt := 19) S dX3_join_9 (by decide) (fun c_2 => ?_) (fun c_2 => ?_)
          · exact absurd (c_2.symm.trans (idB_nI hn0)) (by decide)
          · refine lv_iload_n hx hb dX3_join_12 rfl (lv_at hl 2 rfl) ?_
            refine co_rS (As := [.int (nI v)]) (rest := []) S (c_X3_isId l G (nI v)) (va_cwS 1 hts gX3_join_X3_isId rfl rfl rfl (by decide +kernel) ⟨Nat.le_of_ble_eq_true rfl, Nat.le_of_ble_eq_true rfl⟩) hK (pG_nil) rfl hl.1 rfl (Nat.le_of_ble_eq_true rfl) dX3_join_13 ⟨Nat.zero_le _, Nat.zero_le _⟩ ?_
            refine co_ifne (tgt := 25) S dX3_join_16 (by decide) (fun c_3 => ?_) (fun c_3 => ?_)
            · refine lv_aload_n hx hb dX3_join_25 rfl (lv_at hl 0 rfl) ?_
              refine va_get (D := G.1) (ci := 2) (v := .ref (b 1)) (C := RX3) (T := TX3) (N := 13) hx hb hts uX3 hown hK hP 0 rfl rfl 2 (by decide) (hts (.fieldLink RX3 7 "ChordOverlayModel" "lives" "[Z") (by decide +kernel)) (fun _ h9 => h9) rfl dX3_join_26 ?_
              refine lv_iload_n hx hb dX3_join_29 rfl (lv_at hl 1 rfl) ?_
              refine va_zald hx hb hK hP 1 1 rfl rfl (vi_1 hn0) dX3_join_30 ?_
              refine co_eq (y := bI (alv (σ 0) (nI n))) (rl_l hz_1 hn0) ?_
              refine co_ifne (tgt := 43) S dX3_join_31 (by decide) (fun c_4 => ?_) (fun c_4 => ?_)
              · exact absurd (c_4.symm.trans haln) (by decide)
              · refine lv_aload_n hx hb dX3_join_34 rfl (lv_at hl 0 rfl) ?_
                refine va_get (D := G.1) (ci := 2) (v := .ref (b 1)) (C := RX3) (T := TX3) (N := 13) hx hb hts uX3 hown hK hP 0 rfl rfl 2 (by decide) (hts (.fieldLink RX3 7 "ChordOverlayModel" "lives" "[Z") (by decide +kernel)) (fun _ h9 => h9) rfl dX3_join_35 ?_
                refine lv_iload_n hx hb dX3_join_38 rfl (lv_at hl 2 rfl) ?_
                refine va_zald hx hb hK hP 1 1 rfl rfl (vi_1 hv0) dX3_join_39 ?_
                refine co_eq (y := bI (alv (σ 0) (nI v))) (rl_l hz_1 hv0) ?_
                refine co_ifne (tgt := 47) S dX3_join_40 (by decide) (fun c_5 => ?_) (fun c_5 => ?_)
                · exact absurd (c_5.symm.trans halv) (by decide)
                · refine lv_iconst (v := (-1)) hx hb dX3_join_43 (by decide) ?_
                  refine lv_goto (tgt := 53) hx hb dX3_join_44 (by decide) ?_
                  refine lv_istore_n (lv' := [(3, .int (-1)), (0, .ref (b 0)), (1, .int (nI n)), (2, .int (nI v))]) hx hb dX3_join_53 rfl hl (by decide) rfl (fun ls hl => ?_)
                  refine lv_iload_n hx hb dX3_join_54 rfl (lv_at hl 0 rfl) ?_
                  refine lv_iconst (v := (-1)) hx hb dX3_join_55 (by decide) ?_
                  refine lv_icmp_ne (tgt := 65) hx hb dX3_join_56 (by decide) (fun c_6 => ?_) (fun c_6 => ?_)
                  · exact absurd (by decide) c_6
                  · refine lv_aload_n hx hb dX3_join_59 rfl (lv_at hl 1 rfl) ?_
                    refine lv_iconst (v := 2) hx hb dX3_join_60 (by decide) ?_
                    refine co_mVi (As := [.int 2]) (rest := []) S (c_X3_fails l G Z b σ (va_up μ 0 (fun _ => 0)) hz_1 2) (cwV 1 hts gX3_join_X3_fails rfl rfl rfl (by decide +kernel) ⟨Nat.le_of_ble_eq_true rfl, Nat.le_of_ble_eq_true rfl⟩) hK hP hD hS hA (va_recv hK hP (ci := 2) (q0 := 0) rfl rfl) rfl hl.1 rfl (Nat.le_of_ble_eq_true rfl) dX3_join_61 ⟨Nat.zero_le _, Nat.zero_le _⟩ (fun r_7 u_7 H locs hu_7 hP hD hS => ?_)
                    obtain ⟨hr_7, hu_7⟩ := hu_7
                    subst hr_7
                    subst hu_7
                    have hP : pG G (wM G b (va_up (va_up μ 0 (fun _ => 0)) 0 (fun _ => 2))) H := hP
                    have hD : va_D A (wM G b (va_up (va_up μ 0 (fun _ => 0)) 0 (fun _ => 2))) := hD
                    have hz_8 : Rl Z σ (va_up (va_up μ 0 (fun _ => 0)) 0 (fun _ => 2)) := Rl.s0 (f := fun _ => 2) hz_1
                    exact co_endI (va_up (va_up μ 0 (fun _ => 0)) 0 (fun _ => 2)) S hr hlocks dX3_join_64 hK hP hD hS (by have hcd : cdJ σ (nI n) (nI v) = 2 := (by simp only [cdJ, okR_id hn0, okR_id hv0, haln, halv, c_2, c_3, c_4, c_5, (eq_true c_6), eq_self, Bool.false_eq_true, ite_self, ↓reduceIte]); exact ⟨by rw [hcd]; exact rfl, fun h => absurd (hcd.symm.trans h) (by decide), fun _ => hz_8⟩)
            · exact absurd (c_3.symm.trans (idB_nI hv0)) (by decide)
        | true =>
          refine co_bodyI (cc := cX3_join) (maxL := 4) (ret := (some .int)) (by decide) rfl (Nat.le_of_ble_eq_true rfl) ?_
          intro p e s m args below meth c S hr hlocks hK A hA hP hD hS ls hl
          have S : CallFix p m c cX3_join 4 s args wsX3_join RX3 := S
          obtain ⟨hx, hb, hml, hown, hts⟩ := id S
          have hl : lv_has ls 4 [(0, .ref (b 0)), (1, .int (nI n)), (2, .int (nI v))] := hl
          have uX3 := uX3_X3_join
          refine lv_aload_n hx hb dX3_join_0 rfl (lv_at hl 0 rfl) ?_
          refine lv_iconst (v := 0) hx hb dX3_join_1 (by decide) ?_
          refine va_put (D := G.1) (ci := 2) (v := .int 0) (ty := .int) (C := RX3) (T := TX3) (N := 13) hx hb hts uX3 tyX3 tyX3_ok nmX3 hown hK hP hD hS 0 rfl rfl 0 (by decide) (hts (.fieldLink RX3 41 "ChordOverlayModel" "thrown" "I") (by decide +kernel)) (fun _ h9 => h9) rfl (by decide +kernel) rfl rfl (Nat.le_of_ble_eq_true rfl) dX3_join_2 (fun H locs hP hD hS => ?_)
          have hP : pG G (wM G b (va_up μ 0 (fun _ => 0))) H := hP
          have hD : va_D A (wM G b (va_up μ 0 (fun _ => 0))) := hD
          have hz_1 : Rl Z σ (va_up μ 0 (fun _ => 0)) := Rl.s0 (f := fun _ => 0) hR
          refine lv_iload_n hx hb dX3_join_5 rfl (lv_at hl 1 rfl) ?_
          refine co_rS (As := [.int (nI n)]) (rest := []) S (c_X3_isId l G (nI n)) (va_cwS 1 hts gX3_join_X3_isId rfl rfl rfl (by decide +kernel) ⟨Nat.le_of_ble_eq_true rfl, Nat.le_of_ble_eq_true rfl⟩) hK (pG_nil) rfl hl.1 rfl (Nat.le_of_ble_eq_true rfl) dX3_join_6 ⟨Nat.zero_le _, Nat.zero_le _⟩ ?_
          refine co_ifeq (tgt := 19) S dX3_join_9 (by decide) (fun c_2 => ?_) (fun c_2 => ?_)
          · exact absurd (c_2.symm.trans (idB_nI hn0)) (by decide)
          · refine lv_iload_n hx hb dX3_join_12 rfl (lv_at hl 2 rfl) ?_
            refine co_rS (As := [.int (nI v)]) (rest := []) S (c_X3_isId l G (nI v)) (va_cwS 1 hts gX3_join_X3_isId rfl rfl rfl (by decide +kernel) ⟨Nat.le_of_ble_eq_true rfl, Nat.le_of_ble_eq_true rfl⟩) hK (pG_nil) rfl hl.1 rfl (Nat.le_of_ble_eq_true rfl) dX3_join_13 ⟨Nat.zero_le _, Nat.zero_le _⟩ ?_
            refine co_ifne (tgt := 25) S dX3_join_16 (by decide) (fun c_3 => ?_) (fun c_3 => ?_)
            · refine lv_aload_n hx hb dX3_join_25 rfl (lv_at hl 0 rfl) ?_
              refine va_get (D := G.1) (ci := 2) (v := .ref (b 1)) (C := RX3) (T := TX3) (N := 13) hx hb hts uX3 hown hK hP 0 rfl rfl 2 (by decide) (hts (.fieldLink RX3 7 "ChordOverlayModel" "lives" "[Z") (by decide +kernel)) (fun _ h9 => h9) rfl dX3_join_26 ?_
              refine lv_iload_n hx hb dX3_join_29 rfl (lv_at hl 1 rfl) ?_
              refine va_zald hx hb hK hP 1 1 rfl rfl (vi_1 hn0) dX3_join_30 ?_
              refine co_eq (y := bI (alv (σ 0) (nI n))) (rl_l hz_1 hn0) ?_
              refine co_ifne (tgt := 43) S dX3_join_31 (by decide) (fun c_4 => ?_) (fun c_4 => ?_)
              · exact absurd (c_4.symm.trans haln) (by decide)
              · refine lv_aload_n hx hb dX3_join_34 rfl (lv_at hl 0 rfl) ?_
                refine va_get (D := G.1) (ci := 2) (v := .ref (b 1)) (C := RX3) (T := TX3) (N := 13) hx hb hts uX3 hown hK hP 0 rfl rfl 2 (by decide) (hts (.fieldLink RX3 7 "ChordOverlayModel" "lives" "[Z") (by decide +kernel)) (fun _ h9 => h9) rfl dX3_join_35 ?_
                refine lv_iload_n hx hb dX3_join_38 rfl (lv_at hl 2 rfl) ?_
                refine va_zald hx hb hK hP 1 1 rfl rfl (vi_1 hv0) dX3_join_39 ?_
                refine co_eq (y := bI (alv (σ 0) (nI v))) (rl_l hz_1 hv0) ?_
                refine co_ifne (tgt := 47) S dX3_join_40 (by decide) (fun c_5 => ?_) (fun c_5 => ?_)
                · refine lv_aload_n hx hb dX3_join_47 rfl (lv_at hl 0 rfl) ?_
                  refine lv_iload_n hx hb dX3_join_48 rfl (lv_at hl 2 rfl) ?_
                  refine lv_iload_n hx hb dX3_join_49 rfl (lv_at hl 1 rfl) ?_
                  obtain ⟨j_6, ej_6, lj_6⟩ := Lv.fn hz_1 ⟨hv0, halv⟩ hn0
                  refine co_mVi (As := [.int (nI v), .int (nI n)]) (rest := []) S (c_X3_find l G Z b σ (va_up μ 0 (fun _ => 0)) hz_1 v n ⟨hv0, halv⟩ hn0) (cwV 2 hts gX3_join_X3_find rfl rfl rfl (by decide +kernel) ⟨Nat.le_of_ble_eq_true rfl, Nat.le_of_ble_eq_true rfl⟩) hK hP hD hS hA (va_recv hK hP (ci := 2) (q0 := 0) rfl rfl) rfl hl.1 rfl (Nat.le_of_ble_eq_true rfl) dX3_join_50 ⟨Nat.zero_le _, Nat.zero_le _⟩ (fun r_7 u_7 H locs hu_7 hP hD hS => ?_)
                  obtain ⟨hr_7, hq_7, hk_7, hp_7, hw_7⟩ := hu_7
                  have hr_7 : r_7 = nI j_6 := hr_7.trans ej_6
                  subst hr_7
                  have hP : pG G (wM G b u_7) H := hP
                  have hD : va_D A (wM G b u_7) := hD
                  refine lv_istore_n (lv' := [(3, .int (nI j_6)), (0, .ref (b 0)), (1, .int (nI n)), (2, .int (nI v))]) hx hb dX3_join_53 rfl hl (by decide) rfl (fun ls hl => ?_)
                  refine lv_iload_n hx hb dX3_join_54 rfl (lv_at hl 0 rfl) ?_
                  refine lv_iconst (v := (-1)) hx hb dX3_join_55 (by decide) ?_
                  refine lv_icmp_ne (tgt := 65) hx hb dX3_join_56 (by decide) (fun c_8 => ?_) (fun c_8 => ?_)
                  · refine lv_aload_n hx hb dX3_join_65 rfl (lv_at hl 1 rfl) ?_
                    refine lv_iload_n hx hb dX3_join_66 rfl (lv_at hl 2 rfl) ?_
                    refine lv_iload_n hx hb dX3_join_67 rfl (lv_at hl 0 rfl) ?_
                    refine lv_aload_n hx hb dX3_join_68 rfl (lv_at hl 1 rfl) ?_
                    refine va_get (D := G.1) (ci := 2) (v := .ref (b 2)) (C := RX3) (T := TX3) (N := 13) hx hb hts uX3 hown hK hP 0 rfl rfl 3 (by decide) (hts (.fieldLink RX3 13 "ChordOverlayModel" "successor" "[I") (by decide +kernel)) (fun _ h9 => h9) rfl dX3_join_69 ?_
                    refine lv_iconst (v := 3) hx hb dX3_join_72 (by decide) ?_
                    refine lv_iload_n hx hb dX3_join_73 rfl (lv_at hl 0 rfl) ?_
                    refine lv_imul hx hb dX3_join_74 ?_
                    refine va_iald hx hb hK hP 2 0 rfl rfl (vi_30 lj_6.1) dX3_join_75 ?_
                    obtain ⟨j_9, hj_9, ej_9, mj_9⟩ := rl_s0 hq_7 lj_6
                    have ej_9 : tat 3 (σ 1) (nI j_6) 0 = nI j_9 := ej_9
                    refine co_eq mj_9 ?_
                    refine lv_aload_n hx hb dX3_join_76 rfl (lv_at hl 1 rfl) ?_
                    refine va_get (D := G.1) (ci := 2) (v := .ref (b 2)) (C := RX3) (T := TX3) (N := 13) hx hb hts uX3 hown hK hP 0 rfl rfl 3 (by decide) (hts (.fieldLink RX3 13 "ChordOverlayModel" "successor" "[I") (by decide +kernel)) (fun _ h9 => h9) rfl dX3_join_77 ?_
                    refine lv_iconst (v := 3) hx hb dX3_join_80 (by decide) ?_
                    refine lv_iload_n hx hb dX3_join_81 rfl (lv_at hl 0 rfl) ?_
                    refine lv_imul hx hb dX3_join_82 ?_
                    refine lv_iconst (v := 1) hx hb dX3_join_83 (by decide) ?_
                    refine lv_iadd hx hb dX3_join_84 ?_
                    refine va_iald hx hb hK hP 2 0 rfl rfl (vi_w (w := 3) (p := 1) (by decide) lj_6.1 (by decide)) dX3_join_85 ?_
                    obtain ⟨j_10, hj_10, ej_10, mj_10⟩ := rl_s hq_7 lj_6 1 (by decide)
                    have ej_10 : tat 3 (σ 1) (nI j_6) 1 = nI j_10 := ej_10
                    refine co_eq mj_10 ?_
                    refine co_mVv (As := [.int (nI n), .int (nI j_6), .int (nI j_9), .int (nI j_10)]) (rest := []) S (c_X3_begins l G Z b σ u_7 hq_7 n j_6 j_9 j_10 hn0 lj_6.1 hj_9 hj_10) (cwV 4 hts gX3_join_X3_begins rfl rfl rfl (by decide +kernel) ⟨Nat.le_of_ble_eq_true rfl, Nat.le_of_ble_eq_true rfl⟩) hK hP hD hS hA (va_recv hK hP (ci := 2) (q0 := 0) rfl rfl) rfl hl.1 rfl (Nat.le_of_ble_eq_true rfl) dX3_join_86 ⟨Nat.zero_le _, Nat.zero_le _⟩ (fun u_11 H locs hu_11 hP hD hS => ?_)
                    obtain ⟨hq_11, hk_11⟩ := hu_11
                    obtain ⟨σ_11, eσ_11⟩ : ∃ z9, z9 = (blS σ (nI n) (nI j_6) (nI j_9) (nI j_10)) := ⟨_, rfl⟩
                    have hq_11 : Rl Z σ_11 u_11 := (by rw [eσ_11]; exact hq_11)
                    have hk_11 := Kp.tr hk_7 hk_11
                    have hP : pG G (wM G b u_11) H := hP
                    have hD : va_D A (wM G b u_11) := hD
                    refine lv_iload_n hx hb dX3_join_89 rfl (lv_at hl 0 rfl) ?_
                    exact co_endI u_11 S hr hlocks dX3_join_90 hK hP hD hS (by have hcd : cdJ σ (nI n) (nI v) = 0 := (by simp only [cdJ, okR_id hn0, okR_id hv0, haln, halv, c_2, c_3, c_4, c_5, eq_self, Bool.false_eq_true, ite_self, ↓reduceIte]); exact ⟨by rw [hcd]; exact (congrFun hk_11.1 0), fun _ => ⟨by first | with_reducible rfl | with_reducible assumption | simp only [← eσ_11, jnS, ej_6, ej_9, ej_10, c_2, c_3, c_4, c_5, okR_id hn0, okR_id hv0, haln, halv, nI_nem lj_6.1, nI_nem hj_9, nI_nem hj_10, eq_self, Bool.false_eq_true, ite_self, ↓reduceIte], by first | with_reducible exact hq_11 | (simp only [← eσ_11, jnS, ej_6, ej_9, ej_10, c_2, c_3, c_4, c_5, okR_id hn0, okR_id hv0, haln, halv, nI_nem lj_6.1, nI_nem hj_9, nI_nem hj_10, eq_self, Bool.false_eq_true, ite_self, ↓reduceIte]; with_reducible exact hq_11)⟩, fun h => absurd hcd h⟩)
                  · exact absurd c_8 (nI_nem lj_6.1)
                · exact absurd (c_5.symm.trans halv) (by decide)
            · exact absurd (c_3.symm.trans (idB_nI hv0)) (by decide)
      | true =>
        cases halv : alv (σ 0) (nI v) with
        | false =>
          refine co_bodyI (cc := cX3_join) (maxL := 4) (ret := (some .int)) (by decide) rfl (Nat.le_of_ble_eq_true rfl) ?_
          intro p e s m args below meth c S hr hlocks hK A hA hP hD hS ls hl
          have S : CallFix p m c cX3_join 4 s args wsX3_join RX3 := S
          obtain ⟨hx, hb, hml, hown, hts⟩ := id S
          have hl : lv_has ls 4 [(0, .ref (b 0)), (1, .int (nI n)), (2, .int (nI v))] := hl
          have uX3 := uX3_X3_join
          refine lv_aload_n hx hb dX3_join_0 rfl (lv_at hl 0 rfl) ?_
          refine lv_iconst (v := 0) hx hb dX3_join_1 (by decide) ?_
          refine va_put (D := G.1) (ci := 2) (v := .int 0) (ty := .int) (C := RX3) (T := TX3) (N := 13) hx hb hts uX3 tyX3 tyX3_ok nmX3 hown hK hP hD hS 0 rfl rfl 0 (by decide) (hts (.fieldLink RX3 41 "ChordOverlayModel" "thrown" "I") (by decide +kernel)) (fun _ h9 => h9) rfl (by decide +kernel) rfl rfl (Nat.le_of_ble_eq_true rfl) dX3_join_2 (fun H locs hP hD hS => ?_)
          have hP : pG G (wM G b (va_up μ 0 (fun _ => 0))) H := hP
          have hD : va_D A (wM G b (va_up μ 0 (fun _ => 0))) := hD
          have hz_1 : Rl Z σ (va_up μ 0 (fun _ => 0)) := Rl.s0 (f := fun _ => 0) hR
          refine lv_iload_n hx hb dX3_join_5 rfl (lv_at hl 1 rfl) ?_
          refine co_rS (As := [.int (nI n)]) (rest := []) S (c_X3_isId l G (nI n)) (va_cwS 1 hts gX3_join_X3_isId rfl rfl rfl (by decide +kernel) ⟨Nat.le_of_ble_eq_true rfl, Nat.le_of_ble_eq_true rfl⟩) hK (pG_nil) rfl hl.1 rfl (Nat.le_of_ble_eq_true rfl) dX3_join_6 ⟨Nat.zero_le _, Nat.zero_le _⟩ ?_
          refine co_ifeq (tgt := 19) S dX3_join_9 (by decide) (fun c_2 => ?_) (fun c_2 => ?_)
          · exact absurd (c_2.symm.trans (idB_nI hn0)) (by decide)
          · refine lv_iload_n hx hb dX3_join_12 rfl (lv_at hl 2 rfl) ?_
            refine co_rS (As := [.int (nI v)]) (rest := []) S (c_X3_isId l G (nI v)) (va_cwS 1 hts gX3_join_X3_isId rfl rfl rfl (by decide +kernel) ⟨Nat.le_of_ble_eq_true rfl, Nat.le_of_ble_eq_true rfl⟩) hK (pG_nil) rfl hl.1 rfl (Nat.le_of_ble_eq_true rfl) dX3_join_13 ⟨Nat.zero_le _, Nat.zero_le _⟩ ?_
            refine co_ifne (tgt := 25) S dX3_join_16 (by decide) (fun c_3 => ?_) (fun c_3 => ?_)
            · refine lv_aload_n hx hb dX3_join_25 rfl (lv_at hl 0 rfl) ?_
              refine va_get (D := G.1) (ci := 2) (v := .ref (b 1)) (C := RX3) (T := TX3) (N := 13) hx hb hts uX3 hown hK hP 0 rfl rfl 2 (by decide) (hts (.fieldLink RX3 7 "ChordOverlayModel" "lives" "[Z") (by decide +kernel)) (fun _ h9 => h9) rfl dX3_join_26 ?_
              refine lv_iload_n hx hb dX3_join_29 rfl (lv_at hl 1 rfl) ?_
              refine va_zald hx hb hK hP 1 1 rfl rfl (vi_1 hn0) dX3_join_30 ?_
              refine co_eq (y := bI (alv (σ 0) (nI n))) (rl_l hz_1 hn0) ?_
              refine co_ifne (tgt := 43) S dX3_join_31 (by decide) (fun c_4 => ?_) (fun c_4 => ?_)
              · refine lv_iconst (v := (-1)) hx hb dX3_join_43 (by decide) ?_
                refine lv_goto (tgt := 53) hx hb dX3_join_44 (by decide) ?_
                refine lv_istore_n (lv' := [(3, .int (-1)), (0, .ref (b 0)), (1, .int (nI n)), (2, .int (nI v))]) hx hb dX3_join_53 rfl hl (by decide) rfl (fun ls hl => ?_)
                refine lv_iload_n hx hb dX3_join_54 rfl (lv_at hl 0 rfl) ?_
                refine lv_iconst (v := (-1)) hx hb dX3_join_55 (by decide) ?_
                refine lv_icmp_ne (tgt := 65) hx hb dX3_join_56 (by decide) (fun c_5 => ?_) (fun c_5 => ?_)
                · exact absurd (by decide) c_5
                · refine lv_aload_n hx hb dX3_join_59 rfl (lv_at hl 1 rfl) ?_
                  refine lv_iconst (v := 2) hx hb dX3_join_60 (by decide) ?_
                  refine co_mVi (As := [.int 2]) (rest := []) S (c_X3_fails l G Z b σ (va_up μ 0 (fun _ => 0)) hz_1 2) (cwV 1 hts gX3_join_X3_fails rfl rfl rfl (by decide +kernel) ⟨Nat.le_of_ble_eq_true rfl, Nat.le_of_ble_eq_true rfl⟩) hK hP hD hS hA (va_recv hK hP (ci := 2) (q0 := 0) rfl rfl) rfl hl.1 rfl (Nat.le_of_ble_eq_true rfl) dX3_join_61 ⟨Nat.zero_le _, Nat.zero_le _⟩ (fun r_6 u_6 H locs hu_6 hP hD hS => ?_)
                  obtain ⟨hr_6, hu_6⟩ := hu_6
                  subst hr_6
                  subst hu_6
                  have hP : pG G (wM G b (va_up (va_up μ 0 (fun _ => 0)) 0 (fun _ => 2))) H := hP
                  have hD : va_D A (wM G b (va_up (va_up μ 0 (fun _ => 0)) 0 (fun _ => 2))) := hD
                  have hz_7 : Rl Z σ (va_up (va_up μ 0 (fun _ => 0)) 0 (fun _ => 2)) := Rl.s0 (f := fun _ => 2) hz_1
                  exact co_endI (va_up (va_up μ 0 (fun _ => 0)) 0 (fun _ => 2)) S hr hlocks dX3_join_64 hK hP hD hS (by have hcd : cdJ σ (nI n) (nI v) = 2 := (by simp only [cdJ, okR_id hn0, okR_id hv0, haln, halv, c_2, c_3, c_4, (eq_true c_5), eq_self, Bool.false_eq_true, ite_self, ↓reduceIte]); exact ⟨by rw [hcd]; exact rfl, fun h => absurd (hcd.symm.trans h) (by decide), fun _ => hz_7⟩)
              · exact absurd (c_4.symm.trans haln) (by decide)
            · exact absurd (c_3.symm.trans (idB_nI hv0)) (by decide)
        | true =>
          refine co_bodyI (cc := cX3_join) (maxL := 4) (ret := (some .int)) (by decide) rfl (Nat.le_of_ble_eq_true rfl) ?_
          intro p e s m args below meth c S hr hlocks hK A hA hP hD hS ls hl
          have S : CallFix p m c cX3_join 4 s args wsX3_join RX3 := S
          obtain ⟨hx, hb, hml, hown, hts⟩ := id S
          have hl : lv_has ls 4 [(0, .ref (b 0)), (1, .int (nI n)), (2, .int (nI v))] := hl
          have uX3 := uX3_X3_join
          refine lv_aload_n hx hb dX3_join_0 rfl (lv_at hl 0 rfl) ?_
          refine lv_iconst (v := 0) hx hb dX3_join_1 (by decide) ?_
          refine va_put (D := G.1) (ci := 2) (v := .int 0) (ty := .int) (C := RX3) (T := TX3) (N := 13) hx hb hts uX3 tyX3 tyX3_ok nmX3 hown hK hP hD hS 0 rfl rfl 0 (by decide) (hts (.fieldLink RX3 41 "ChordOverlayModel" "thrown" "I") (by decide +kernel)) (fun _ h9 => h9) rfl (by decide +kernel) rfl rfl (Nat.le_of_ble_eq_true rfl) dX3_join_2 (fun H locs hP hD hS => ?_)
          have hP : pG G (wM G b (va_up μ 0 (fun _ => 0))) H := hP
          have hD : va_D A (wM G b (va_up μ 0 (fun _ => 0))) := hD
          have hz_1 : Rl Z σ (va_up μ 0 (fun _ => 0)) := Rl.s0 (f := fun _ => 0) hR
          refine lv_iload_n hx hb dX3_join_5 rfl (lv_at hl 1 rfl) ?_
          refine co_rS (As := [.int (nI n)]) (rest := []) S (c_X3_isId l G (nI n)) (va_cwS 1 hts gX3_join_X3_isId rfl rfl rfl (by decide +kernel) ⟨Nat.le_of_ble_eq_true rfl, Nat.le_of_ble_eq_true rfl⟩) hK (pG_nil) rfl hl.1 rfl (Nat.le_of_ble_eq_true rfl) dX3_join_6 ⟨Nat.zero_le _, Nat.zero_le _⟩ ?_
          refine co_ifeq (tgt := 19) S dX3_join_9 (by decide) (fun c_2 => ?_) (fun c_2 => ?_)
          · exact absurd (c_2.symm.trans (idB_nI hn0)) (by decide)
          · refine lv_iload_n hx hb dX3_join_12 rfl (lv_at hl 2 rfl) ?_
            refine co_rS (As := [.int (nI v)]) (rest := []) S (c_X3_isId l G (nI v)) (va_cwS 1 hts gX3_join_X3_isId rfl rfl rfl (by decide +kernel) ⟨Nat.le_of_ble_eq_true rfl, Nat.le_of_ble_eq_true rfl⟩) hK (pG_nil) rfl hl.1 rfl (Nat.le_of_ble_eq_true rfl) dX3_join_13 ⟨Nat.zero_le _, Nat.zero_le _⟩ ?_
            refine co_ifne (tgt := 25) S dX3_join_16 (by decide) (fun c_3 => ?_) (fun c_3 => ?_)
            · refine lv_aload_n hx hb dX3_join_25 rfl (lv_at hl 0 rfl) ?_
              refine va_get (D := G.1) (ci := 2) (v := .ref (b 1)) (C := RX3) (T := TX3) (N := 13) hx hb hts uX3 hown hK hP 0 rfl rfl 2 (by decide) (hts (.fieldLink RX3 7 "ChordOverlayModel" "lives" "[Z") (by decide +kernel)) (fun _ h9 => h9) rfl dX3_join_26 ?_
              refine lv_iload_n hx hb dX3_join_29 rfl (lv_at hl 1 rfl) ?_
              refine va_zald hx hb hK hP 1 1 rfl rfl (vi_1 hn0) dX3_join_30 ?_
              refine co_eq (y := bI (alv (σ 0) (nI n))) (rl_l hz_1 hn0) ?_
              refine co_ifne (tgt := 43) S dX3_join_31 (by decide) (fun c_4 => ?_) (fun c_4 => ?_)
              · refine lv_iconst (v := (-1)) hx hb dX3_join_43 (by decide) ?_
                refine lv_goto (tgt := 53) hx hb dX3_join_44 (by decide) ?_
                refine lv_istore_n (lv' := [(3, .int (-1)), (0, .ref (b 0)), (1, .int (nI n)), (2, .int (nI v))]) hx hb dX3_join_53 rfl hl (by decide) rfl (fun ls hl => ?_)
                refine lv_iload_n hx hb dX3_join_54 rfl (lv_at hl 0 rfl) ?_
                refine lv_iconst (v := (-1)) hx hb dX3_join_55 (by decide) ?_
                refine lv_icmp_ne (tgt := 65) hx hb dX3_join_56 (by decide) (fun c_5 => ?_) (fun c_5 => ?_)
                · exact absurd (by decide) c_5
                · refine lv_aload_n hx hb dX3_join_59 rfl (lv_at hl 1 rfl) ?_
                  refine lv_iconst (v := 2) hx hb dX3_join_60 (by decide) ?_
                  refine co_mVi (As := [.int 2]) (rest := []) S (c_X3_fails l G Z b σ (va_up μ 0 (fun _ => 0)) hz_1 2) (cwV 1 hts gX3_join_X3_fails rfl rfl rfl (by decide +kernel) ⟨Nat.le_of_ble_eq_true rfl, Nat.le_of_ble_eq_true rfl⟩) hK hP hD hS hA (va_recv hK hP (ci := 2) (q0 := 0) rfl rfl) rfl hl.1 rfl (Nat.le_of_ble_eq_true rfl) dX3_join_61 ⟨Nat.zero_le _, Nat.zero_le _⟩ (fun r_6 u_6 H locs hu_6 hP hD hS => ?_)
                  obtain ⟨hr_6, hu_6⟩ := hu_6
                  subst hr_6
                  subst hu_6
                  have hP : pG G (wM G b (va_up (va_up μ 0 (fun _ => 0)) 0 (fun _ => 2))) H := hP
                  have hD : va_D A (wM G b (va_up (va_up μ 0 (fun _ => 0)) 0 (fun _ => 2))) := hD
                  have hz_7 : Rl Z σ (va_up (va_up μ 0 (fun _ => 0)) 0 (fun _ => 2)) := Rl.s0 (f := fun _ => 2) hz_1
                  exact co_endI (va_up (va_up μ 0 (fun _ => 0)) 0 (fun _ => 2)) S hr hlocks dX3_join_64 hK hP hD hS (by have hcd : cdJ σ (nI n) (nI v) = 2 := (by simp only [cdJ, okR_id hn0, okR_id hv0, haln, halv, c_2, c_3, c_4, (eq_true c_5), eq_self, Bool.false_eq_true, ite_self, ↓reduceIte]); exact ⟨by rw [hcd]; exact rfl, fun h => absurd (hcd.symm.trans h) (by decide), fun _ => hz_7⟩)
              · exact absurd (c_4.symm.trans haln) (by decide)
            · exact absurd (c_3.symm.trans (idB_nI hv0)) (by decide)
    · cases haln : alv (σ 0) (nI n) with
      | false =>
        refine co_bodyI (cc := cX3_join) (maxL := 4) (ret := (some .int)) (by decide) rfl (Nat.le_of_ble_eq_true rfl) ?_
        intro p e s m args below meth c S hr hlocks hK A hA hP hD hS ls hl
        have S : CallFix p m c cX3_join 4 s args wsX3_join RX3 := S
        obtain ⟨hx, hb, hml, hown, hts⟩ := id S
        have hl : lv_has ls 4 [(0, .ref (b 0)), (1, .int (nI n)), (2, .int y)] := hl
        have uX3 := uX3_X3_join
        refine lv_aload_n hx hb dX3_join_0 rfl (lv_at hl 0 rfl) ?_
        refine lv_iconst (v := 0) hx hb dX3_join_1 (by decide) ?_
        refine va_put (D := G.1) (ci := 2) (v := .int 0) (ty := .int) (C := RX3) (T := TX3) (N := 13) hx hb hts uX3 tyX3 tyX3_ok nmX3 hown hK hP hD hS 0 rfl rfl 0 (by decide) (hts (.fieldLink RX3 41 "ChordOverlayModel" "thrown" "I") (by decide +kernel)) (fun _ h9 => h9) rfl (by decide +kernel) rfl rfl (Nat.le_of_ble_eq_true rfl) dX3_join_2 (fun H locs hP hD hS => ?_)
        have hP : pG G (wM G b (va_up μ 0 (fun _ => 0))) H := hP
        have hD : va_D A (wM G b (va_up μ 0 (fun _ => 0))) := hD
        have hz_1 : Rl Z σ (va_up μ 0 (fun _ => 0)) := Rl.s0 (f := fun _ => 0) hR
        refine lv_iload_n hx hb dX3_join_5 rfl (lv_at hl 1 rfl) ?_
        refine co_rS (As := [.int (nI n)]) (rest := []) S (c_X3_isId l G (nI n)) (va_cwS 1 hts gX3_join_X3_isId rfl rfl rfl (by decide +kernel) ⟨Nat.le_of_ble_eq_true rfl, Nat.le_of_ble_eq_true rfl⟩) hK (pG_nil) rfl hl.1 rfl (Nat.le_of_ble_eq_true rfl) dX3_join_6 ⟨Nat.zero_le _, Nat.zero_le _⟩ ?_
        refine co_ifeq (tgt := 19) S dX3_join_9 (by decide) (fun c_2 => ?_) (fun c_2 => ?_)
        · exact absurd (c_2.symm.trans (idB_nI hn0)) (by decide)
        · refine lv_iload_n hx hb dX3_join_12 rfl (lv_at hl 2 rfl) ?_
          refine co_rS (As := [.int y]) (rest := []) S (c_X3_isId l G y) (va_cwS 1 hts gX3_join_X3_isId rfl rfl rfl (by decide +kernel) ⟨Nat.le_of_ble_eq_true rfl, Nat.le_of_ble_eq_true rfl⟩) hK (pG_nil) rfl hl.1 rfl (Nat.le_of_ble_eq_true rfl) dX3_join_13 ⟨Nat.zero_le _, Nat.zero_le _⟩ ?_
          refine co_ifne (tgt := 25) S dX3_join_16 (by decide) (fun c_3 => ?_) (fun c_3 => ?_)
          · exact absurd (c_3.symm.trans hiv0) (by decide)
          · refine lv_aload_n hx hb dX3_join_19 rfl (lv_at hl 0 rfl) ?_
            refine lv_iconst (v := 1) hx hb dX3_join_20 (by decide) ?_
            refine co_mVi (As := [.int 1]) (rest := []) S (c_X3_fails l G Z b σ (va_up μ 0 (fun _ => 0)) hz_1 1) (cwV 1 hts gX3_join_X3_fails rfl rfl rfl (by decide +kernel) ⟨Nat.le_of_ble_eq_true rfl, Nat.le_of_ble_eq_true rfl⟩) hK hP hD hS hA (va_recv hK hP (ci := 2) (q0 := 0) rfl rfl) rfl hl.1 rfl (Nat.le_of_ble_eq_true rfl) dX3_join_21 ⟨Nat.zero_le _, Nat.zero_le _⟩ (fun r_4 u_4 H locs hu_4 hP hD hS => ?_)
            obtain ⟨hr_4, hu_4⟩ := hu_4
            subst hr_4
            subst hu_4
            have hP : pG G (wM G b (va_up (va_up μ 0 (fun _ => 0)) 0 (fun _ => 1))) H := hP
            have hD : va_D A (wM G b (va_up (va_up μ 0 (fun _ => 0)) 0 (fun _ => 1))) := hD
            have hz_5 : Rl Z σ (va_up (va_up μ 0 (fun _ => 0)) 0 (fun _ => 1)) := Rl.s0 (f := fun _ => 1) hz_1
            exact co_endI (va_up (va_up μ 0 (fun _ => 0)) 0 (fun _ => 1)) S hr hlocks dX3_join_24 hK hP hD hS (by have hcd : cdJ σ (nI n) y = 1 := (by simp only [cdJ, okR_id hn0, hov0, haln, c_2, c_3, eq_self, Bool.false_eq_true, ite_self, ↓reduceIte]); exact ⟨by rw [hcd]; exact rfl, fun h => absurd (hcd.symm.trans h) (by decide), fun _ => hz_5⟩)
      | true =>
        refine co_bodyI (cc := cX3_join) (maxL := 4) (ret := (some .int)) (by decide) rfl (Nat.le_of_ble_eq_true rfl) ?_
        intro p e s m args below meth c S hr hlocks hK A hA hP hD hS ls hl
        have S : CallFix p m c cX3_join 4 s args wsX3_join RX3 := S
        obtain ⟨hx, hb, hml, hown, hts⟩ := id S
        have hl : lv_has ls 4 [(0, .ref (b 0)), (1, .int (nI n)), (2, .int y)] := hl
        have uX3 := uX3_X3_join
        refine lv_aload_n hx hb dX3_join_0 rfl (lv_at hl 0 rfl) ?_
        refine lv_iconst (v := 0) hx hb dX3_join_1 (by decide) ?_
        refine va_put (D := G.1) (ci := 2) (v := .int 0) (ty := .int) (C := RX3) (T := TX3) (N := 13) hx hb hts uX3 tyX3 tyX3_ok nmX3 hown hK hP hD hS 0 rfl rfl 0 (by decide) (hts (.fieldLink RX3 41 "ChordOverlayModel" "thrown" "I") (by decide +kernel)) (fun _ h9 => h9) rfl (by decide +kernel) rfl rfl (Nat.le_of_ble_eq_true rfl) dX3_join_2 (fun H locs hP hD hS => ?_)
        have hP : pG G (wM G b (va_up μ 0 (fun _ => 0))) H := hP
        have hD : va_D A (wM G b (va_up μ 0 (fun _ => 0))) := hD
        have hz_1 : Rl Z σ (va_up μ 0 (fun _ => 0)) := Rl.s0 (f := fun _ => 0) hR
        refine lv_iload_n hx hb dX3_join_5 rfl (lv_at hl 1 rfl) ?_
        refine co_rS (As := [.int (nI n)]) (rest := []) S (c_X3_isId l G (nI n)) (va_cwS 1 hts gX3_join_X3_isId rfl rfl rfl (by decide +kernel) ⟨Nat.le_of_ble_eq_true rfl, Nat.le_of_ble_eq_true rfl⟩) hK (pG_nil) rfl hl.1 rfl (Nat.le_of_ble_eq_true rfl) dX3_join_6 ⟨Nat.zero_le _, Nat.zero_le _⟩ ?_
        refine co_ifeq (tgt := 19) S dX3_join_9 (by decide) (fun c_2 => ?_) (fun c_2 => ?_)
        · exact absurd (c_2.symm.trans (idB_nI hn0)) (by decide)
        · refine lv_iload_n hx hb dX3_join_12 rfl (lv_at hl 2 rfl) ?_
          refine co_rS (As := [.int y]) (rest := []) S (c_X3_isId l G y) (va_cwS 1 hts gX3_join_X3_isId rfl rfl rfl (by decide +kernel) ⟨Nat.le_of_ble_eq_true rfl, Nat.le_of_ble_eq_true rfl⟩) hK (pG_nil) rfl hl.1 rfl (Nat.le_of_ble_eq_true rfl) dX3_join_13 ⟨Nat.zero_le _, Nat.zero_le _⟩ ?_
          refine co_ifne (tgt := 25) S dX3_join_16 (by decide) (fun c_3 => ?_) (fun c_3 => ?_)
          · exact absurd (c_3.symm.trans hiv0) (by decide)
          · refine lv_aload_n hx hb dX3_join_19 rfl (lv_at hl 0 rfl) ?_
            refine lv_iconst (v := 1) hx hb dX3_join_20 (by decide) ?_
            refine co_mVi (As := [.int 1]) (rest := []) S (c_X3_fails l G Z b σ (va_up μ 0 (fun _ => 0)) hz_1 1) (cwV 1 hts gX3_join_X3_fails rfl rfl rfl (by decide +kernel) ⟨Nat.le_of_ble_eq_true rfl, Nat.le_of_ble_eq_true rfl⟩) hK hP hD hS hA (va_recv hK hP (ci := 2) (q0 := 0) rfl rfl) rfl hl.1 rfl (Nat.le_of_ble_eq_true rfl) dX3_join_21 ⟨Nat.zero_le _, Nat.zero_le _⟩ (fun r_4 u_4 H locs hu_4 hP hD hS => ?_)
            obtain ⟨hr_4, hu_4⟩ := hu_4
            subst hr_4
            subst hu_4
            have hP : pG G (wM G b (va_up (va_up μ 0 (fun _ => 0)) 0 (fun _ => 1))) H := hP
            have hD : va_D A (wM G b (va_up (va_up μ 0 (fun _ => 0)) 0 (fun _ => 1))) := hD
            have hz_5 : Rl Z σ (va_up (va_up μ 0 (fun _ => 0)) 0 (fun _ => 1)) := Rl.s0 (f := fun _ => 1) hz_1
            exact co_endI (va_up (va_up μ 0 (fun _ => 0)) 0 (fun _ => 1)) S hr hlocks dX3_join_24 hK hP hD hS (by have hcd : cdJ σ (nI n) y = 1 := (by simp only [cdJ, okR_id hn0, hov0, haln, c_2, c_3, eq_self, Bool.false_eq_true, ite_self, ↓reduceIte]); exact ⟨by rw [hcd]; exact rfl, fun h => absurd (hcd.symm.trans h) (by decide), fun _ => hz_5⟩)
  · rcases id_or y with ⟨v, hv0, rfl⟩ | ⟨hiv0, hov0⟩
    · cases halv : alv (σ 0) (nI v) with
      | false =>
        refine co_bodyI (cc := cX3_join) (maxL := 4) (ret := (some .int)) (by decide) rfl (Nat.le_of_ble_eq_true rfl) ?_
        intro p e s m args below meth c S hr hlocks hK A hA hP hD hS ls hl
        have S : CallFix p m c cX3_join 4 s args wsX3_join RX3 := S
        obtain ⟨hx, hb, hml, hown, hts⟩ := id S
        have hl : lv_has ls 4 [(0, .ref (b 0)), (1, .int x), (2, .int (nI v))] := hl
        have uX3 := uX3_X3_join
        refine lv_aload_n hx hb dX3_join_0 rfl (lv_at hl 0 rfl) ?_
        refine lv_iconst (v := 0) hx hb dX3_join_1 (by decide) ?_
        refine va_put (D := G.1) (ci := 2) (v := .int 0) (ty := .int) (C := RX3) (T := TX3) (N := 13) hx hb hts uX3 tyX3 tyX3_ok nmX3 hown hK hP hD hS 0 rfl rfl 0 (by decide) (hts (.fieldLink RX3 41 "ChordOverlayModel" "thrown" "I") (by decide +kernel)) (fun _ h9 => h9) rfl (by decide +kernel) rfl rfl (Nat.le_of_ble_eq_true rfl) dX3_join_2 (fun H locs hP hD hS => ?_)
        have hP : pG G (wM G b (va_up μ 0 (fun _ => 0))) H := hP
        have hD : va_D A (wM G b (va_up μ 0 (fun _ => 0))) := hD
        have hz_1 : Rl Z σ (va_up μ 0 (fun _ => 0)) := Rl.s0 (f := fun _ => 0) hR
        refine lv_iload_n hx hb dX3_join_5 rfl (lv_at hl 1 rfl) ?_
        refine co_rS (As := [.int x]) (rest := []) S (c_X3_isId l G x) (va_cwS 1 hts gX3_join_X3_isId rfl rfl rfl (by decide +kernel) ⟨Nat.le_of_ble_eq_true rfl, Nat.le_of_ble_eq_true rfl⟩) hK (pG_nil) rfl hl.1 rfl (Nat.le_of_ble_eq_true rfl) dX3_join_6 ⟨Nat.zero_le _, Nat.zero_le _⟩ ?_
        refine co_ifeq (tgt := 19) S dX3_join_9 (by decide) (fun c_2 => ?_) (fun c_2 => ?_)
        · refine lv_aload_n hx hb dX3_join_19 rfl (lv_at hl 0 rfl) ?_
          refine lv_iconst (v := 1) hx hb dX3_join_20 (by decide) ?_
          refine co_mVi (As := [.int 1]) (rest := []) S (c_X3_fails l G Z b σ (va_up μ 0 (fun _ => 0)) hz_1 1) (cwV 1 hts gX3_join_X3_fails rfl rfl rfl (by decide +kernel) ⟨Nat.le_of_ble_eq_true rfl, Nat.le_of_ble_eq_true rfl⟩) hK hP hD hS hA (va_recv hK hP (ci := 2) (q0 := 0) rfl rfl) rfl hl.1 rfl (Nat.le_of_ble_eq_true rfl) dX3_join_21 ⟨Nat.zero_le _, Nat.zero_le _⟩ (fun r_3 u_3 H locs hu_3 hP hD hS => ?_)
          obtain ⟨hr_3, hu_3⟩ := hu_3
          subst hr_3
          subst hu_3
          have hP : pG G (wM G b (va_up (va_up μ 0 (fun _ => 0)) 0 (fun _ => 1))) H := hP
          have hD : va_D A (wM G b (va_up (va_up μ 0 (fun _ => 0)) 0 (fun _ => 1))) := hD
          have hz_4 : Rl Z σ (va_up (va_up μ 0 (fun _ => 0)) 0 (fun _ => 1)) := Rl.s0 (f := fun _ => 1) hz_1
          exact co_endI (va_up (va_up μ 0 (fun _ => 0)) 0 (fun _ => 1)) S hr hlocks dX3_join_24 hK hP hD hS (by have hcd : cdJ σ x (nI v) = 1 := (by simp only [cdJ, hon0, okR_id hv0, halv, c_2, eq_self, Bool.false_eq_true, ite_self, ↓reduceIte]); exact ⟨by rw [hcd]; exact rfl, fun h => absurd (hcd.symm.trans h) (by decide), fun _ => hz_4⟩)
        · exact absurd (c_2.symm.trans hin0) (by decide)
      | true =>
        refine co_bodyI (cc := cX3_join) (maxL := 4) (ret := (some .int)) (by decide) rfl (Nat.le_of_ble_eq_true rfl) ?_
        intro p e s m args below meth c S hr hlocks hK A hA hP hD hS ls hl
        have S : CallFix p m c cX3_join 4 s args wsX3_join RX3 := S
        obtain ⟨hx, hb, hml, hown, hts⟩ := id S
        have hl : lv_has ls 4 [(0, .ref (b 0)), (1, .int x), (2, .int (nI v))] := hl
        have uX3 := uX3_X3_join
        refine lv_aload_n hx hb dX3_join_0 rfl (lv_at hl 0 rfl) ?_
        refine lv_iconst (v := 0) hx hb dX3_join_1 (by decide) ?_
        refine va_put (D := G.1) (ci := 2) (v := .int 0) (ty := .int) (C := RX3) (T := TX3) (N := 13) hx hb hts uX3 tyX3 tyX3_ok nmX3 hown hK hP hD hS 0 rfl rfl 0 (by decide) (hts (.fieldLink RX3 41 "ChordOverlayModel" "thrown" "I") (by decide +kernel)) (fun _ h9 => h9) rfl (by decide +kernel) rfl rfl (Nat.le_of_ble_eq_true rfl) dX3_join_2 (fun H locs hP hD hS => ?_)
        have hP : pG G (wM G b (va_up μ 0 (fun _ => 0))) H := hP
        have hD : va_D A (wM G b (va_up μ 0 (fun _ => 0))) := hD
        have hz_1 : Rl Z σ (va_up μ 0 (fun _ => 0)) := Rl.s0 (f := fun _ => 0) hR
        refine lv_iload_n hx hb dX3_join_5 rfl (lv_at hl 1 rfl) ?_
        refine co_rS (As := [.int x]) (rest := []) S (c_X3_isId l G x) (va_cwS 1 hts gX3_join_X3_isId rfl rfl rfl (by decide +kernel) ⟨Nat.le_of_ble_eq_true rfl, Nat.le_of_ble_eq_true rfl⟩) hK (pG_nil) rfl hl.1 rfl (Nat.le_of_ble_eq_true rfl) dX3_join_6 ⟨Nat.zero_le _, Nat.zero_le _⟩ ?_
        refine co_ifeq (tgt := 19) S dX3_join_9 (by decide) (fun c_2 => ?_) (fun c_2 => ?_)
        · refine lv_aload_n hx hb dX3_join_19 rfl (lv_at hl 0 rfl) ?_
          refine lv_iconst (v := 1) hx hb dX3_join_20 (by decide) ?_
          refine co_mVi (As := [.int 1]) (rest := []) S (c_X3_fails l G Z b σ (va_up μ 0 (fun _ => 0)) hz_1 1) (cwV 1 hts gX3_join_X3_fails rfl rfl rfl (by decide +kernel) ⟨Nat.le_of_ble_eq_true rfl, Nat.le_of_ble_eq_true rfl⟩) hK hP hD hS hA (va_recv hK hP (ci := 2) (q0 := 0) rfl rfl) rfl hl.1 rfl (Nat.le_of_ble_eq_true rfl) dX3_join_21 ⟨Nat.zero_le _, Nat.zero_le _⟩ (fun r_3 u_3 H locs hu_3 hP hD hS => ?_)
          obtain ⟨hr_3, hu_3⟩ := hu_3
          subst hr_3
          subst hu_3
          have hP : pG G (wM G b (va_up (va_up μ 0 (fun _ => 0)) 0 (fun _ => 1))) H := hP
          have hD : va_D A (wM G b (va_up (va_up μ 0 (fun _ => 0)) 0 (fun _ => 1))) := hD
          have hz_4 : Rl Z σ (va_up (va_up μ 0 (fun _ => 0)) 0 (fun _ => 1)) := Rl.s0 (f := fun _ => 1) hz_1
          exact co_endI (va_up (va_up μ 0 (fun _ => 0)) 0 (fun _ => 1)) S hr hlocks dX3_join_24 hK hP hD hS (by have hcd : cdJ σ x (nI v) = 1 := (by simp only [cdJ, hon0, okR_id hv0, halv, c_2, eq_self, Bool.false_eq_true, ite_self, ↓reduceIte]); exact ⟨by rw [hcd]; exact rfl, fun h => absurd (hcd.symm.trans h) (by decide), fun _ => hz_4⟩)
        · exact absurd (c_2.symm.trans hin0) (by decide)
    · refine co_bodyI (cc := cX3_join) (maxL := 4) (ret := (some .int)) (by decide) rfl (Nat.le_of_ble_eq_true rfl) ?_
      intro p e s m args below meth c S hr hlocks hK A hA hP hD hS ls hl
      have S : CallFix p m c cX3_join 4 s args wsX3_join RX3 := S
      obtain ⟨hx, hb, hml, hown, hts⟩ := id S
      have hl : lv_has ls 4 [(0, .ref (b 0)), (1, .int x), (2, .int y)] := hl
      have uX3 := uX3_X3_join
      refine lv_aload_n hx hb dX3_join_0 rfl (lv_at hl 0 rfl) ?_
      refine lv_iconst (v := 0) hx hb dX3_join_1 (by decide) ?_
      refine va_put (D := G.1) (ci := 2) (v := .int 0) (ty := .int) (C := RX3) (T := TX3) (N := 13) hx hb hts uX3 tyX3 tyX3_ok nmX3 hown hK hP hD hS 0 rfl rfl 0 (by decide) (hts (.fieldLink RX3 41 "ChordOverlayModel" "thrown" "I") (by decide +kernel)) (fun _ h9 => h9) rfl (by decide +kernel) rfl rfl (Nat.le_of_ble_eq_true rfl) dX3_join_2 (fun H locs hP hD hS => ?_)
      have hP : pG G (wM G b (va_up μ 0 (fun _ => 0))) H := hP
      have hD : va_D A (wM G b (va_up μ 0 (fun _ => 0))) := hD
      have hz_1 : Rl Z σ (va_up μ 0 (fun _ => 0)) := Rl.s0 (f := fun _ => 0) hR
      refine lv_iload_n hx hb dX3_join_5 rfl (lv_at hl 1 rfl) ?_
      refine co_rS (As := [.int x]) (rest := []) S (c_X3_isId l G x) (va_cwS 1 hts gX3_join_X3_isId rfl rfl rfl (by decide +kernel) ⟨Nat.le_of_ble_eq_true rfl, Nat.le_of_ble_eq_true rfl⟩) hK (pG_nil) rfl hl.1 rfl (Nat.le_of_ble_eq_true rfl) dX3_join_6 ⟨Nat.zero_le _, Nat.zero_le _⟩ ?_
      refine co_ifeq (tgt := 19) S dX3_join_9 (by decide) (fun c_2 => ?_) (fun c_2 => ?_)
      · refine lv_aload_n hx hb dX3_join_19 rfl (lv_at hl 0 rfl) ?_
        refine lv_iconst (v := 1) hx hb dX3_join_20 (by decide) ?_
        refine co_mVi (As := [.int 1]) (rest := []) S (c_X3_fails l G Z b σ (va_up μ 0 (fun _ => 0)) hz_1 1) (cwV 1 hts gX3_join_X3_fails rfl rfl rfl (by decide +kernel) ⟨Nat.le_of_ble_eq_true rfl, Nat.le_of_ble_eq_true rfl⟩) hK hP hD hS hA (va_recv hK hP (ci := 2) (q0 := 0) rfl rfl) rfl hl.1 rfl (Nat.le_of_ble_eq_true rfl) dX3_join_21 ⟨Nat.zero_le _, Nat.zero_le _⟩ (fun r_3 u_3 H locs hu_3 hP hD hS => ?_)
        obtain ⟨hr_3, hu_3⟩ := hu_3
        subst hr_3
        subst hu_3
        have hP : pG G (wM G b (va_up (va_up μ 0 (fun _ => 0)) 0 (fun _ => 1))) H := hP
        have hD : va_D A (wM G b (va_up (va_up μ 0 (fun _ => 0)) 0 (fun _ => 1))) := hD
        have hz_4 : Rl Z σ (va_up (va_up μ 0 (fun _ => 0)) 0 (fun _ => 1)) := Rl.s0 (f := fun _ => 1) hz_1
        exact co_endI (va_up (va_up μ 0 (fun _ => 0)) 0 (fun _ => 1)) S hr hlocks dX3_join_24 hK hP hD hS (by have hcd : cdJ σ x y = 1 := (by simp only [cdJ, hon0, hov0, c_2, eq_self, Bool.false_eq_true, ite_self, ↓reduceIte]); exact ⟨by rw [hcd]; exact rfl, fun h => absurd (hcd.symm.trans h) (by decide), fun _ => hz_4⟩)
      · exact absurd (c_2.symm.trans hin0) (by decide)

set_option maxRecDepth 20000 in
theorem uX3_X3_fail : ∀ w ∈ u_ws RX3 TX3 13, w ∈ wsX3_fail := by decide +kernel
abbrev rm_X3_fail : Room := { frames := 2, cells := 0, slots := 0, locals := 41 }
set_option maxHeartbeats 4000000 in
set_option maxRecDepth 100000 in
theorem c_X3_fail (l : Launch) (G : cG) (Z : Nat) (b : Nat → Nat) (σ μ : cS) (hR : Rl Z σ μ) (x : Int32) : MetI l yX3_fail wsX3_fail rm_X3_fail G (wM G b μ) [.ref (b 0), .int x] (fun u : cS => wM G b u) (fun r u => u 0 0 = nI (cdA σ x) ∧ (cdA σ x = 0 → r = cnt (saS σ x 0 0) 64 ∧ Rl Z (saS σ x 0) u) ∧ (cdA σ x ≠ 0 → Rl Z σ u)) := by
  rcases id_or x with ⟨n, hn0, rfl⟩ | ⟨hin0, hon0⟩
  · cases haln : alv (σ 0) (nI n) with
    | false =>
      refine co_bodyI (cc := cX3_fail) (maxL := 2) (ret := (some .int)) (by decide) rfl (Nat.le_of_ble_eq_true rfl) ?_
      intro p e s m args below meth c S hr hlocks hK A hA hP hD hS ls hl
      have S : CallFix p m c cX3_fail 2 s args wsX3_fail RX3 := S
      obtain ⟨hx, hb, hml, hown, hts⟩ := id S
      have hl : lv_has ls 2 [(0, .ref (b 0)), (1, .int (nI n))] := hl
      have uX3 := uX3_X3_fail
      refine lv_aload_n hx hb dX3_fail_0 rfl (lv_at hl 0 rfl) ?_
      refine lv_aload_n hx hb dX3_fail_1 rfl (lv_at hl 0 rfl) ?_
      refine lv_iload_n hx hb dX3_fail_2 rfl (lv_at hl 1 rfl) ?_
      refine co_rV (As := [.int (nI n)]) (rest := [.ref (b 0)]) S (c_X3_refuses l G Z b σ μ hR (nI n)) (cwV 1 hts gX3_fail_X3_refuses rfl rfl rfl (by decide +kernel) ⟨Nat.le_of_ble_eq_true rfl, Nat.le_of_ble_eq_true rfl⟩) hK hP (va_recv hK hP (ci := 2) (q0 := 0) rfl rfl) rfl hl.1 rfl (Nat.le_of_ble_eq_true rfl) dX3_fail_3 ⟨Nat.zero_le _, Nat.zero_le _⟩ ?_
      refine co_eq (show nI (cdA σ (nI n)) = 2 from congrArg nI (show cdA σ (nI n) = 2 by simp only [cdA, okR_id hn0, haln, eq_self, Bool.false_eq_true, ite_self, ↓reduceIte])) ?_
      refine va_put (D := G.1) (ci := 2) (v := .int 2) (ty := .int) (C := RX3) (T := TX3) (N := 13) hx hb hts uX3 tyX3 tyX3_ok nmX3 hown hK hP hD hS 0 rfl rfl 0 (by decide) (hts (.fieldLink RX3 41 "ChordOverlayModel" "thrown" "I") (by decide +kernel)) (fun _ h9 => h9) rfl (by decide +kernel) rfl rfl (Nat.le_of_ble_eq_true rfl) dX3_fail_6 (fun H locs hP hD hS => ?_)
      have hP : pG G (wM G b (va_up μ 0 (fun _ => 2))) H := hP
      have hD : va_D A (wM G b (va_up μ 0 (fun _ => 2))) := hD
      have hz_1 : Rl Z σ (va_up μ 0 (fun _ => 2)) := Rl.s0 (f := fun _ => 2) hR
      refine lv_aload_n hx hb dX3_fail_9 rfl (lv_at hl 0 rfl) ?_
      refine va_get (D := G.1) (ci := 2) (v := .int 2) (C := RX3) (T := TX3) (N := 13) hx hb hts uX3 hown hK hP 0 rfl rfl 0 (by decide) (hts (.fieldLink RX3 41 "ChordOverlayModel" "thrown" "I") (by decide +kernel)) (fun _ h9 => h9) rfl dX3_fail_10 ?_
      refine lv_if_le (tgt := 18) hx hb dX3_fail_13 (by decide) (fun c_2 => ?_) (fun c_2 => ?_)
      · exact absurd c_2 (by decide)
      · refine lv_iconst (v := 0) hx hb dX3_fail_16 (by decide) ?_
        exact co_endI (va_up μ 0 (fun _ => 2)) S hr hlocks dX3_fail_17 hK hP hD hS (by have hcd : cdA σ (nI n) = 2 := (by simp only [cdA, okR_id hn0, haln, c_2, eq_self, Bool.false_eq_true, ite_self, ↓reduceIte]); exact ⟨by rw [hcd]; exact rfl, fun h => absurd (hcd.symm.trans h) (by decide), fun _ => hz_1⟩)
    | true =>
      refine co_bodyI (cc := cX3_fail) (maxL := 2) (ret := (some .int)) (by decide) rfl (Nat.le_of_ble_eq_true rfl) ?_
      intro p e s m args below meth c S hr hlocks hK A hA hP hD hS ls hl
      have S : CallFix p m c cX3_fail 2 s args wsX3_fail RX3 := S
      obtain ⟨hx, hb, hml, hown, hts⟩ := id S
      have hl : lv_has ls 2 [(0, .ref (b 0)), (1, .int (nI n))] := hl
      have uX3 := uX3_X3_fail
      refine lv_aload_n hx hb dX3_fail_0 rfl (lv_at hl 0 rfl) ?_
      refine lv_aload_n hx hb dX3_fail_1 rfl (lv_at hl 0 rfl) ?_
      refine lv_iload_n hx hb dX3_fail_2 rfl (lv_at hl 1 rfl) ?_
      refine co_rV (As := [.int (nI n)]) (rest := [.ref (b 0)]) S (c_X3_refuses l G Z b σ μ hR (nI n)) (cwV 1 hts gX3_fail_X3_refuses rfl rfl rfl (by decide +kernel) ⟨Nat.le_of_ble_eq_true rfl, Nat.le_of_ble_eq_true rfl⟩) hK hP (va_recv hK hP (ci := 2) (q0 := 0) rfl rfl) rfl hl.1 rfl (Nat.le_of_ble_eq_true rfl) dX3_fail_3 ⟨Nat.zero_le _, Nat.zero_le _⟩ ?_
      refine co_eq (show nI (cdA σ (nI n)) = 0 from congrArg nI (show cdA σ (nI n) = 0 by simp only [cdA, okR_id hn0, haln, eq_self, Bool.false_eq_true, ite_self, ↓reduceIte])) ?_
      refine va_put (D := G.1) (ci := 2) (v := .int 0) (ty := .int) (C := RX3) (T := TX3) (N := 13) hx hb hts uX3 tyX3 tyX3_ok nmX3 hown hK hP hD hS 0 rfl rfl 0 (by decide) (hts (.fieldLink RX3 41 "ChordOverlayModel" "thrown" "I") (by decide +kernel)) (fun _ h9 => h9) rfl (by decide +kernel) rfl rfl (Nat.le_of_ble_eq_true rfl) dX3_fail_6 (fun H locs hP hD hS => ?_)
      have hP : pG G (wM G b (va_up μ 0 (fun _ => 0))) H := hP
      have hD : va_D A (wM G b (va_up μ 0 (fun _ => 0))) := hD
      have hz_1 : Rl Z σ (va_up μ 0 (fun _ => 0)) := Rl.s0 (f := fun _ => 0) hR
      refine lv_aload_n hx hb dX3_fail_9 rfl (lv_at hl 0 rfl) ?_
      refine va_get (D := G.1) (ci := 2) (v := .int 0) (C := RX3) (T := TX3) (N := 13) hx hb hts uX3 hown hK hP 0 rfl rfl 0 (by decide) (hts (.fieldLink RX3 41 "ChordOverlayModel" "thrown" "I") (by decide +kernel)) (fun _ h9 => h9) rfl dX3_fail_10 ?_
      refine lv_if_le (tgt := 18) hx hb dX3_fail_13 (by decide) (fun c_2 => ?_) (fun c_2 => ?_)
      · refine lv_aload_n hx hb dX3_fail_18 rfl (lv_at hl 0 rfl) ?_
        refine va_get (D := G.1) (ci := 2) (v := .ref (b 1)) (C := RX3) (T := TX3) (N := 13) hx hb hts uX3 hown hK hP 0 rfl rfl 2 (by decide) (hts (.fieldLink RX3 7 "ChordOverlayModel" "lives" "[Z") (by decide +kernel)) (fun _ h9 => h9) rfl dX3_fail_19 ?_
        refine lv_iload_n hx hb dX3_fail_22 rfl (lv_at hl 1 rfl) ?_
        refine lv_iconst (v := 0) hx hb dX3_fail_23 (by decide) ?_
        refine va_zast hx hb hK hP hD hS 1 1 (f := (μ 2)) rfl rfl (vi_1 hn0) dX3_fail_24 (fun H locs hP hD hS => ?_)
        have hP : pG G (wM G b (va_up (va_up μ 0 (fun _ => 0)) 2 (upd (μ 2) (nI n).toNatClampNeg (vp_nar .boolean 0)))) H := hP
        have hD : va_D A (wM G b (va_up (va_up μ 0 (fun _ => 0)) 2 (upd (μ 2) (nI n).toNatClampNeg (vp_nar .boolean 0)))) := hD
        obtain ⟨σd_3, eσd_3⟩ : ∃ z9, z9 = saS σ (nI n) 0 := ⟨_, rfl⟩
        have hqd_3 : Rl Z σd_3 (va_up (va_up μ 0 (fun _ => 0)) 2 (upd (μ 2) (nI n).toNatClampNeg (vp_nar .boolean 0))) := (by rw [eσd_3]; exact rl_die hz_1 hn0)
        refine lv_aload_n hx hb dX3_fail_25 rfl (lv_at hl 0 rfl) ?_
        refine co_rV (As := []) (rest := []) S (c_X3_countLiving l G Z b σd_3 (va_up (va_up μ 0 (fun _ => 0)) 2 (upd (μ 2) (nI n).toNatClampNeg (vp_nar .boolean 0))) hqd_3) (cwV 0 hts gX3_fail_X3_countLiving rfl rfl rfl (by decide +kernel) ⟨Nat.le_of_ble_eq_true rfl, Nat.le_of_ble_eq_true rfl⟩) hK hP (va_recv hK hP (ci := 2) (q0 := 0) rfl rfl) rfl hl.1 rfl (Nat.le_of_ble_eq_true rfl) dX3_fail_26 ⟨Nat.zero_le _, Nat.zero_le _⟩ ?_
        exact co_endI (va_up (va_up μ 0 (fun _ => 0)) 2 (upd (μ 2) (nI n).toNatClampNeg (vp_nar .boolean 0))) S hr hlocks dX3_fail_29 hK hP hD hS (by have hcd : cdA σ (nI n) = 0 := (by simp only [cdA, okR_id hn0, haln, c_2, eq_self, Bool.false_eq_true, ite_self, ↓reduceIte]); exact ⟨by rw [hcd]; exact rfl, fun _ => ⟨by first | with_reducible rfl | with_reducible assumption | simp only [← eσd_3, c_2, okR_id hn0, haln, eq_self, Bool.false_eq_true, ite_self, ↓reduceIte], by first | with_reducible exact hqd_3 | (simp only [← eσd_3, c_2, okR_id hn0, haln, eq_self, Bool.false_eq_true, ite_self, ↓reduceIte]; with_reducible exact hqd_3)⟩, fun h => absurd hcd h⟩)
      · exact absurd (by decide) c_2
  · refine co_bodyI (cc := cX3_fail) (maxL := 2) (ret := (some .int)) (by decide) rfl (Nat.le_of_ble_eq_true rfl) ?_
    intro p e s m args below meth c S hr hlocks hK A hA hP hD hS ls hl
    have S : CallFix p m c cX3_fail 2 s args wsX3_fail RX3 := S
    obtain ⟨hx, hb, hml, hown, hts⟩ := id S
    have hl : lv_has ls 2 [(0, .ref (b 0)), (1, .int x)] := hl
    have uX3 := uX3_X3_fail
    refine lv_aload_n hx hb dX3_fail_0 rfl (lv_at hl 0 rfl) ?_
    refine lv_aload_n hx hb dX3_fail_1 rfl (lv_at hl 0 rfl) ?_
    refine lv_iload_n hx hb dX3_fail_2 rfl (lv_at hl 1 rfl) ?_
    refine co_rV (As := [.int x]) (rest := [.ref (b 0)]) S (c_X3_refuses l G Z b σ μ hR x) (cwV 1 hts gX3_fail_X3_refuses rfl rfl rfl (by decide +kernel) ⟨Nat.le_of_ble_eq_true rfl, Nat.le_of_ble_eq_true rfl⟩) hK hP (va_recv hK hP (ci := 2) (q0 := 0) rfl rfl) rfl hl.1 rfl (Nat.le_of_ble_eq_true rfl) dX3_fail_3 ⟨Nat.zero_le _, Nat.zero_le _⟩ ?_
    refine co_eq (show nI (cdA σ x) = 1 from congrArg nI (show cdA σ x = 1 by simp only [cdA, hon0, eq_self, Bool.false_eq_true, ite_self, ↓reduceIte])) ?_
    refine va_put (D := G.1) (ci := 2) (v := .int 1) (ty := .int) (C := RX3) (T := TX3) (N := 13) hx hb hts uX3 tyX3 tyX3_ok nmX3 hown hK hP hD hS 0 rfl rfl 0 (by decide) (hts (.fieldLink RX3 41 "ChordOverlayModel" "thrown" "I") (by decide +kernel)) (fun _ h9 => h9) rfl (by decide +kernel) rfl rfl (Nat.le_of_ble_eq_true rfl) dX3_fail_6 (fun H locs hP hD hS => ?_)
    have hP : pG G (wM G b (va_up μ 0 (fun _ => 1))) H := hP
    have hD : va_D A (wM G b (va_up μ 0 (fun _ => 1))) := hD
    have hz_1 : Rl Z σ (va_up μ 0 (fun _ => 1)) := Rl.s0 (f := fun _ => 1) hR
    refine lv_aload_n hx hb dX3_fail_9 rfl (lv_at hl 0 rfl) ?_
    refine va_get (D := G.1) (ci := 2) (v := .int 1) (C := RX3) (T := TX3) (N := 13) hx hb hts uX3 hown hK hP 0 rfl rfl 0 (by decide) (hts (.fieldLink RX3 41 "ChordOverlayModel" "thrown" "I") (by decide +kernel)) (fun _ h9 => h9) rfl dX3_fail_10 ?_
    refine lv_if_le (tgt := 18) hx hb dX3_fail_13 (by decide) (fun c_2 => ?_) (fun c_2 => ?_)
    · exact absurd c_2 (by decide)
    · refine lv_iconst (v := 0) hx hb dX3_fail_16 (by decide) ?_
      exact co_endI (va_up μ 0 (fun _ => 1)) S hr hlocks dX3_fail_17 hK hP hD hS (by have hcd : cdA σ x = 1 := (by simp only [cdA, hon0, c_2, eq_self, Bool.false_eq_true, ite_self, ↓reduceIte]); exact ⟨by rw [hcd]; exact rfl, fun h => absurd (hcd.symm.trans h) (by decide), fun _ => hz_1⟩)

set_option maxRecDepth 20000 in
theorem uX3_X3_leave : ∀ w ∈ u_ws RX3 TX3 13, w ∈ wsX3_leave := by decide +kernel
abbrev rm_X3_leave : Room := { frames := 2, cells := 0, slots := 0, locals := 41 }
set_option maxHeartbeats 4000000 in
set_option maxRecDepth 100000 in
theorem c_X3_leave (l : Launch) (G : cG) (Z : Nat) (b : Nat → Nat) (σ μ : cS) (hR : Rl Z σ μ) (x : Int32) : MetI l yX3_leave wsX3_leave rm_X3_leave G (wM G b μ) [.ref (b 0), .int x] (fun u : cS => wM G b u) (fun r u => u 0 0 = nI (cdA σ x) ∧ (cdA σ x = 0 → r = cnt (lvS σ x 0) 64 ∧ Rl Z (lvS σ x) u) ∧ (cdA σ x ≠ 0 → Rl Z σ u)) := by
  rcases id_or x with ⟨n, hn0, rfl⟩ | ⟨hin0, hon0⟩
  · cases haln : alv (σ 0) (nI n) with
    | false =>
      refine co_bodyI (cc := cX3_leave) (maxL := 5) (ret := (some .int)) (by decide) rfl (Nat.le_of_ble_eq_true rfl) ?_
      intro p e s m args below meth c S hr hlocks hK A hA hP hD hS ls hl
      have S : CallFix p m c cX3_leave 5 s args wsX3_leave RX3 := S
      obtain ⟨hx, hb, hml, hown, hts⟩ := id S
      have hl : lv_has ls 5 [(0, .ref (b 0)), (1, .int (nI n))] := hl
      have uX3 := uX3_X3_leave
      refine lv_aload_n hx hb dX3_leave_0 rfl (lv_at hl 0 rfl) ?_
      refine lv_aload_n hx hb dX3_leave_1 rfl (lv_at hl 0 rfl) ?_
      refine lv_iload_n hx hb dX3_leave_2 rfl (lv_at hl 1 rfl) ?_
      refine co_rV (As := [.int (nI n)]) (rest := [.ref (b 0)]) S (c_X3_refuses l G Z b σ μ hR (nI n)) (cwV 1 hts gX3_leave_X3_refuses rfl rfl rfl (by decide +kernel) ⟨Nat.le_of_ble_eq_true rfl, Nat.le_of_ble_eq_true rfl⟩) hK hP (va_recv hK hP (ci := 2) (q0 := 0) rfl rfl) rfl hl.1 rfl (Nat.le_of_ble_eq_true rfl) dX3_leave_3 ⟨Nat.zero_le _, Nat.zero_le _⟩ ?_
      refine co_eq (show nI (cdA σ (nI n)) = 2 from congrArg nI (show cdA σ (nI n) = 2 by simp only [cdA, okR_id hn0, haln, eq_self, Bool.false_eq_true, ite_self, ↓reduceIte])) ?_
      refine va_put (D := G.1) (ci := 2) (v := .int 2) (ty := .int) (C := RX3) (T := TX3) (N := 13) hx hb hts uX3 tyX3 tyX3_ok nmX3 hown hK hP hD hS 0 rfl rfl 0 (by decide) (hts (.fieldLink RX3 41 "ChordOverlayModel" "thrown" "I") (by decide +kernel)) (fun _ h9 => h9) rfl (by decide +kernel) rfl rfl (Nat.le_of_ble_eq_true rfl) dX3_leave_6 (fun H locs hP hD hS => ?_)
      have hP : pG G (wM G b (va_up μ 0 (fun _ => 2))) H := hP
      have hD : va_D A (wM G b (va_up μ 0 (fun _ => 2))) := hD
      have hz_1 : Rl Z σ (va_up μ 0 (fun _ => 2)) := Rl.s0 (f := fun _ => 2) hR
      refine lv_aload_n hx hb dX3_leave_9 rfl (lv_at hl 0 rfl) ?_
      refine va_get (D := G.1) (ci := 2) (v := .int 2) (C := RX3) (T := TX3) (N := 13) hx hb hts uX3 hown hK hP 0 rfl rfl 0 (by decide) (hts (.fieldLink RX3 41 "ChordOverlayModel" "thrown" "I") (by decide +kernel)) (fun _ h9 => h9) rfl dX3_leave_10 ?_
      refine lv_if_le (tgt := 18) hx hb dX3_leave_13 (by decide) (fun c_2 => ?_) (fun c_2 => ?_)
      · exact absurd c_2 (by decide)
      · refine lv_iconst (v := 0) hx hb dX3_leave_16 (by decide) ?_
        exact co_endI (va_up μ 0 (fun _ => 2)) S hr hlocks dX3_leave_17 hK hP hD hS (by have hcd : cdA σ (nI n) = 2 := (by simp only [cdA, okR_id hn0, haln, c_2, eq_self, Bool.false_eq_true, ite_self, ↓reduceIte]); exact ⟨by rw [hcd]; exact rfl, fun h => absurd (hcd.symm.trans h) (by decide), fun _ => hz_1⟩)
    | true =>
      refine co_bodyI (cc := cX3_leave) (maxL := 5) (ret := (some .int)) (by decide) rfl (Nat.le_of_ble_eq_true rfl) ?_
      intro p e s m args below meth c S hr hlocks hK A hA hP hD hS ls hl
      have S : CallFix p m c cX3_leave 5 s args wsX3_leave RX3 := S
      obtain ⟨hx, hb, hml, hown, hts⟩ := id S
      have hl : lv_has ls 5 [(0, .ref (b 0)), (1, .int (nI n))] := hl
      have uX3 := uX3_X3_leave
      refine lv_aload_n hx hb dX3_leave_0 rfl (lv_at hl 0 rfl) ?_
      refine lv_aload_n hx hb dX3_leave_1 rfl (lv_at hl 0 rfl) ?_
      refine lv_iload_n hx hb dX3_leave_2 rfl (lv_at hl 1 rfl) ?_
      refine co_rV (As := [.int (nI n)]) (rest := [.ref (b 0)]) S (c_X3_refuses l G Z b σ μ hR (nI n)) (cwV 1 hts gX3_leave_X3_refuses rfl rfl rfl (by decide +kernel) ⟨Nat.le_of_ble_eq_true rfl, Nat.le_of_ble_eq_true rfl⟩) hK hP (va_recv hK hP (ci := 2) (q0 := 0) rfl rfl) rfl hl.1 rfl (Nat.le_of_ble_eq_true rfl) dX3_leave_3 ⟨Nat.zero_le _, Nat.zero_le _⟩ ?_
      refine co_eq (show nI (cdA σ (nI n)) = 0 from congrArg nI (show cdA σ (nI n) = 0 by simp only [cdA, okR_id hn0, haln, eq_self, Bool.false_eq_true, ite_self, ↓reduceIte])) ?_
      refine va_put (D := G.1) (ci := 2) (v := .int 0) (ty := .int) (C := RX3) (T := TX3) (N := 13) hx hb hts uX3 tyX3 tyX3_ok nmX3 hown hK hP hD hS 0 rfl rfl 0 (by decide) (hts (.fieldLink RX3 41 "ChordOverlayModel" "thrown" "I") (by decide +kernel)) (fun _ h9 => h9) rfl (by decide +kernel) rfl rfl (Nat.le_of_ble_eq_true rfl) dX3_leave_6 (fun H locs hP hD hS => ?_)
      have hP : pG G (wM G b (va_up μ 0 (fun _ => 0))) H := hP
      have hD : va_D A (wM G b (va_up μ 0 (fun _ => 0))) := hD
      have hz_1 : Rl Z σ (va_up μ 0 (fun _ => 0)) := Rl.s0 (f := fun _ => 0) hR
      refine lv_aload_n hx hb dX3_leave_9 rfl (lv_at hl 0 rfl) ?_
      refine va_get (D := G.1) (ci := 2) (v := .int 0) (C := RX3) (T := TX3) (N := 13) hx hb hts uX3 hown hK hP 0 rfl rfl 0 (by decide) (hts (.fieldLink RX3 41 "ChordOverlayModel" "thrown" "I") (by decide +kernel)) (fun _ h9 => h9) rfl dX3_leave_10 ?_
      refine lv_if_le (tgt := 18) hx hb dX3_leave_13 (by decide) (fun c_2 => ?_) (fun c_2 => ?_)
      · refine lv_aload_n hx hb dX3_leave_18 rfl (lv_at hl 0 rfl) ?_
        refine lv_iload_n hx hb dX3_leave_19 rfl (lv_at hl 1 rfl) ?_
        obtain ⟨j_3, ej_3, lj_3⟩ := Lv.ls hz_1 ⟨hn0, haln⟩
        refine co_rV (As := [.int (nI n)]) (rest := []) S (c_X3_liveSuccessorOf l G Z b σ (va_up μ 0 (fun _ => 0)) hz_1 n ⟨hn0, haln⟩) (cwV 1 hts gX3_leave_X3_liveSuccessorOf rfl rfl rfl (by decide +kernel) ⟨Nat.le_of_ble_eq_true rfl, Nat.le_of_ble_eq_true rfl⟩) hK hP (va_recv hK hP (ci := 2) (q0 := 0) rfl rfl) rfl hl.1 rfl (Nat.le_of_ble_eq_true rfl) dX3_leave_20 ⟨Nat.zero_le _, Nat.zero_le _⟩ ?_
        refine co_eq ej_3 ?_
        refine lv_istore_n (lv' := [(2, .int (nI j_3)), (0, .ref (b 0)), (1, .int (nI n))]) hx hb dX3_leave_23 rfl hl (by decide) rfl (fun ls hl => ?_)
        refine lv_iload_n hx hb dX3_leave_24 rfl (lv_at hl 0 rfl) ?_
        refine lv_iload_n hx hb dX3_leave_25 rfl (lv_at hl 2 rfl) ?_
        refine lv_icmp_eq (tgt := 91) hx hb dX3_leave_26 (by decide) (fun c_4 => ?_) (fun c_4 => ?_)
        · have hL : lvA σ (nI n) = σ := (by rw [lvA, ej_3, if_pos c_4])
          refine lv_aload_n hx hb dX3_leave_91 rfl (lv_at hl 1 rfl) ?_
          refine va_get (D := G.1) (ci := 2) (v := .ref (b 1)) (C := RX3) (T := TX3) (N := 13) hx hb hts uX3 hown hK hP 0 rfl rfl 2 (by decide) (hts (.fieldLink RX3 7 "ChordOverlayModel" "lives" "[Z") (by decide +kernel)) (fun _ h9 => h9) rfl dX3_leave_92 ?_
          refine lv_iload_n hx hb dX3_leave_95 rfl (lv_at hl 2 rfl) ?_
          refine lv_iconst (v := 0) hx hb dX3_leave_96 (by decide) ?_
          refine va_zast hx hb hK hP hD hS 1 1 (f := (μ 2)) rfl rfl (vi_1 hn0) dX3_leave_97 (fun H locs hP hD hS => ?_)
          obtain ⟨f_5, ef_5⟩ : ∃ z9, z9 = (upd (μ 2) (nI n).toNatClampNeg (vp_nar .boolean 0)) := ⟨_, rfl⟩
          rw [← ef_5] at hP hD
          have hP : pG G (wM G b (va_up (va_up μ 0 (fun _ => 0)) 2 f_5)) H := hP
          have hD : va_D A (wM G b (va_up (va_up μ 0 (fun _ => 0)) 2 f_5)) := hD
          obtain ⟨σd_6, eσd_6⟩ : ∃ z9, z9 = saS σ (nI n) 0 := ⟨_, rfl⟩
          have hqd_6 : Rl Z σd_6 (va_up (va_up μ 0 (fun _ => 0)) 2 f_5) := (by rw [eσd_6, ef_5]; exact rl_die hz_1 hn0)
          have hF : lvS σ (nI n) = σd_6 := (by rw [lvS, hL, eσd_6])
          refine lv_aload_n hx hb dX3_leave_98 rfl (lv_at hl 1 rfl) ?_
          refine co_rV (As := []) (rest := []) S (c_X3_countLiving l G Z b σd_6 (va_up (va_up μ 0 (fun _ => 0)) 2 f_5) hqd_6) (cwV 0 hts gX3_leave_X3_countLiving rfl rfl rfl (by decide +kernel) ⟨Nat.le_of_ble_eq_true rfl, Nat.le_of_ble_eq_true rfl⟩) hK hP (va_recv hK hP (ci := 2) (q0 := 0) rfl rfl) rfl hl.1 rfl (Nat.le_of_ble_eq_true rfl) dX3_leave_99 ⟨Nat.zero_le _, Nat.zero_le _⟩ ?_
          exact co_endI (va_up (va_up μ 0 (fun _ => 0)) 2 f_5) S hr hlocks dX3_leave_102 hK hP hD hS (by have hcd : cdA σ (nI n) = 0 := (by simp only [cdA, okR_id hn0, haln, c_2, (eq_true c_4), eq_self, Bool.false_eq_true, ite_self, ↓reduceIte]); exact ⟨by rw [hcd]; exact rfl, fun _ => ⟨by rw [hF], by rw [hF]; exact hqd_6⟩, fun h => absurd hcd h⟩)
        · refine lv_iconst (v := 0) hx hb dX3_leave_29 (by decide) ?_
          refine lv_istore_n (lv' := [(3, .int 0), (2, .int (nI j_3)), (0, .ref (b 0)), (1, .int (nI n))]) hx hb dX3_leave_30 rfl hl (by decide) rfl (fun ls hl => ?_)
          have LP : ∀ (d : Nat) (k : Nat) (σ' μ' : cS), k + d = 64 → Rl Z σ' μ' → Kp (va_up μ 0 (fun _ => 0)) μ' → σ' = hoL σ (nI n) (nI j_3) k → ∀ (H : Heap) (locs : List Loc), pG G (wM G b μ') H → va_D A (wM G b μ') → va_S A s.heap H locs → ∀ ls : Array Slot, lv_has ls 5 [(0, .ref (b 0)), (1, .int (nI n)), (2, .int (nI j_3)), (3, .int (nI k))] → W p l e rm_X3_leave s m args below meth c H locs 0 0 (QI below G A (fun u : cS => wM G b u) (fun r u => u 0 0 = nI (cdA σ (nI n)) ∧ (cdA σ (nI n) = 0 → r = cnt (lvS σ (nI n) 0) 64 ∧ Rl Z (lvS σ (nI n)) u) ∧ (cdA σ (nI n) ≠ 0 → Rl Z σ u)) args s) (F0 m 31 ls []) := by
            intro d
            induction d with
            | zero =>
              intro k σ' μ' hk hR9 hK9 h9 H locs hP hD hS ls hl
              have h09 : σ' 0 = σ 0 := (by rw [h9]; exact hoL_0 k)
              have hk64 : k = 64 := (by omega)
              have h9 : σ' = hoL σ (nI n) (nI j_3) 64 := (by rw [h9, hk64])
              refine lv_iload_n hx hb dX3_leave_31 rfl (lv_at hl 3 rfl) ?_
              refine lv_bipush (v := 64) hx hb dX3_leave_32 (by decide) ?_
              refine lv_icmp_ge (tgt := 52) hx hb dX3_leave_34 (by decide) (fun c_7 => ?_) (fun c_7 => ?_)
              · refine lv_aload_n hx hb dX3_leave_52 rfl (lv_at hl 0 rfl) ?_
                refine va_get (D := G.1) (ci := 2) (v := .ref (b 3)) (C := RX3) (T := TX3) (N := 13) hx hb hts uX3 hown hK hP 0 rfl rfl 4 (by decide) (hts (.fieldLink RX3 17 "ChordOverlayModel" "predecessor" "[I") (by decide +kernel)) (fun _ h9 => h9) rfl dX3_leave_53 ?_
                refine lv_iload_n hx hb dX3_leave_56 rfl (lv_at hl 1 rfl) ?_
                refine va_iald hx hb hK hP 3 0 rfl rfl (vi_1 hn0) dX3_leave_57 ?_
                rcases rl_p hR9 (Lv.tr h09 ⟨hn0, haln⟩) with ⟨ej_8, mj_8⟩ | ⟨j_8, hj_8, ej_8, mj_8⟩
                · have ej_8 : tat 1 (σ' 2) (nI n) 0 = (-1) := ej_8
                  refine co_eq mj_8 ?_
                  refine lv_istore_n (lv' := [(3, .int (-1)), (0, .ref (b 0)), (1, .int (nI n)), (2, .int (nI j_3))]) hx hb dX3_leave_58 rfl hl (by decide) rfl (fun ls hl => ?_)
                  refine lv_aload_n hx hb dX3_leave_59 rfl (lv_at hl 1 rfl) ?_
                  refine va_get (D := G.1) (ci := 2) (v := .ref (b 3)) (C := RX3) (T := TX3) (N := 13) hx hb hts uX3 hown hK hP 0 rfl rfl 4 (by decide) (hts (.fieldLink RX3 17 "ChordOverlayModel" "predecessor" "[I") (by decide +kernel)) (fun _ h9 => h9) rfl dX3_leave_60 ?_
                  refine lv_iload_n hx hb dX3_leave_63 rfl (lv_at hl 3 rfl) ?_
                  refine lv_iload_n hx hb dX3_leave_64 rfl (lv_at hl 0 rfl) ?_
                  refine va_iast hx hb hK hP hD hS 3 0 (f := (μ' 4)) rfl rfl (vi_1 lj_3.1) dX3_leave_65 (fun H locs hP hD hS => ?_)
                  obtain ⟨f_9, ef_9⟩ : ∃ z9, z9 = (upd (μ' 4) (nI j_3).toNatClampNeg (-1)) := ⟨_, rfl⟩
                  rw [← ef_9] at hP hD
                  have hP : pG G (wM G b (va_up μ' 4 f_9)) H := hP
                  have hD : va_D A (wM G b (va_up μ' 4 f_9)) := hD
                  obtain ⟨σq, eσq⟩ : ∃ z9, z9 = va_up σ' 2 (tset 1 (σ' 2) (nI j_3) 0 (-1)) := ⟨_, rfl⟩
                  have hqq : σq = hoP σ' (nI n) (nI j_3) := (by rw [hoP, ej_8, eσq])
                  have hRq : Rl Z σq (va_up μ' 4 f_9) := (by rw [eσq, ef_9]; exact rl_pre hR9 lj_3.1 okP.m1)
                  have h0q : σq 0 = σ 0 := (by rw [eσq]; exact h09)
                  have hKq := Kp.tr hK9 (Kp.s4 (f := f_9))
                  refine lv_iload_n hx hb dX3_leave_66 rfl (lv_at hl 0 rfl) ?_
                  refine lv_iconst (v := (-1)) hx hb dX3_leave_67 (by decide) ?_
                  refine lv_icmp_eq (tgt := 91) hx hb dX3_leave_68 (by decide) (fun c_10 => ?_) (fun c_10 => ?_)
                  · have hL : lvA σ (nI n) = σq := (by rw [lvA, ej_3, if_neg c_4, hoS_q h9 hqq, ej_8, if_neg (fun q => nI_nem hn0 q.symm), alv_m1, if_neg (show ¬ (false = true) by decide)])
                    refine lv_aload_n hx hb dX3_leave_91 rfl (lv_at hl 1 rfl) ?_
                    refine va_get (D := G.1) (ci := 2) (v := .ref (b 1)) (C := RX3) (T := TX3) (N := 13) hx hb hts uX3 hown hK hP 0 rfl rfl 2 (by decide) (hts (.fieldLink RX3 7 "ChordOverlayModel" "lives" "[Z") (by decide +kernel)) (fun _ h9 => h9) rfl dX3_leave_92 ?_
                    refine lv_iload_n hx hb dX3_leave_95 rfl (lv_at hl 2 rfl) ?_
                    refine lv_iconst (v := 0) hx hb dX3_leave_96 (by decide) ?_
                    refine va_zast hx hb hK hP hD hS 1 1 (f := (μ' 2)) rfl rfl (vi_1 hn0) dX3_leave_97 (fun H locs hP hD hS => ?_)
                    obtain ⟨f_11, ef_11⟩ : ∃ z9, z9 = (upd (μ' 2) (nI n).toNatClampNeg (vp_nar .boolean 0)) := ⟨_, rfl⟩
                    rw [← ef_11] at hP hD
                    have hP : pG G (wM G b (va_up (va_up μ' 4 f_9) 2 f_11)) H := hP
                    have hD : va_D A (wM G b (va_up (va_up μ' 4 f_9) 2 f_11)) := hD
                    obtain ⟨σd_12, eσd_12⟩ : ∃ z9, z9 = saS σq (nI n) 0 := ⟨_, rfl⟩
                    have hqd_12 : Rl Z σd_12 (va_up (va_up μ' 4 f_9) 2 f_11) := (by rw [eσd_12, ef_11]; exact rl_die hRq hn0)
                    have hkd_12 := Kp.tr hKq (Kp.s2 (f := f_11))
                    have hF : lvS σ (nI n) = σd_12 := (by rw [lvS, hL, eσd_12])
                    refine lv_aload_n hx hb dX3_leave_98 rfl (lv_at hl 1 rfl) ?_
                    refine co_rV (As := []) (rest := []) S (c_X3_countLiving l G Z b σd_12 (va_up (va_up μ' 4 f_9) 2 f_11) hqd_12) (cwV 0 hts gX3_leave_X3_countLiving rfl rfl rfl (by decide +kernel) ⟨Nat.le_of_ble_eq_true rfl, Nat.le_of_ble_eq_true rfl⟩) hK hP (va_recv hK hP (ci := 2) (q0 := 0) rfl rfl) rfl hl.1 rfl (Nat.le_of_ble_eq_true rfl) dX3_leave_99 ⟨Nat.zero_le _, Nat.zero_le _⟩ ?_
                    exact co_endI (va_up (va_up μ' 4 f_9) 2 f_11) S hr hlocks dX3_leave_102 hK hP hD hS (by have hcd : cdA σ (nI n) = 0 := (by simp only [cdA, okR_id hn0, haln, c_2, c_4, c_7, (eq_true c_10), eq_self, Bool.false_eq_true, ite_self, ↓reduceIte]); exact ⟨by rw [hcd]; exact (congrFun hkd_12.1 0), fun _ => ⟨by rw [hF], by rw [hF]; exact hqd_12⟩, fun h => absurd hcd h⟩)
                  · exact absurd (by decide) c_10
                · have ej_8 : tat 1 (σ' 2) (nI n) 0 = (nI j_8) := ej_8
                  refine co_eq mj_8 ?_
                  refine lv_istore_n (lv' := [(3, .int (nI j_8)), (0, .ref (b 0)), (1, .int (nI n)), (2, .int (nI j_3))]) hx hb dX3_leave_58 rfl hl (by decide) rfl (fun ls hl => ?_)
                  refine lv_aload_n hx hb dX3_leave_59 rfl (lv_at hl 1 rfl) ?_
                  refine va_get (D := G.1) (ci := 2) (v := .ref (b 3)) (C := RX3) (T := TX3) (N := 13) hx hb hts uX3 hown hK hP 0 rfl rfl 4 (by decide) (hts (.fieldLink RX3 17 "ChordOverlayModel" "predecessor" "[I") (by decide +kernel)) (fun _ h9 => h9) rfl dX3_leave_60 ?_
                  refine lv_iload_n hx hb dX3_leave_63 rfl (lv_at hl 3 rfl) ?_
                  refine lv_iload_n hx hb dX3_leave_64 rfl (lv_at hl 0 rfl) ?_
                  refine va_iast hx hb hK hP hD hS 3 0 (f := (μ' 4)) rfl rfl (vi_1 lj_3.1) dX3_leave_65 (fun H locs hP hD hS => ?_)
                  obtain ⟨f_13, ef_13⟩ : ∃ z9, z9 = (upd (μ' 4) (nI j_3).toNatClampNeg (nI j_8)) := ⟨_, rfl⟩
                  rw [← ef_13] at hP hD
                  have hP : pG G (wM G b (va_up μ' 4 f_13)) H := hP
                  have hD : va_D A (wM G b (va_up μ' 4 f_13)) := hD
                  obtain ⟨σq, eσq⟩ : ∃ z9, z9 = va_up σ' 2 (tset 1 (σ' 2) (nI j_3) 0 (nI j_8)) := ⟨_, rfl⟩
                  have hqq : σq = hoP σ' (nI n) (nI j_3) := (by rw [hoP, ej_8, eσq])
                  have hRq : Rl Z σq (va_up μ' 4 f_13) := (by rw [eσq, ef_13]; exact rl_pre hR9 lj_3.1 (okP.nI hj_8))
                  have h0q : σq 0 = σ 0 := (by rw [eσq]; exact h09)
                  have hKq := Kp.tr hK9 (Kp.s4 (f := f_13))
                  refine lv_iload_n hx hb dX3_leave_66 rfl (lv_at hl 0 rfl) ?_
                  refine lv_iconst (v := (-1)) hx hb dX3_leave_67 (by decide) ?_
                  refine lv_icmp_eq (tgt := 91) hx hb dX3_leave_68 (by decide) (fun c_14 => ?_) (fun c_14 => ?_)
                  · exact absurd c_14 (nI_nem hj_8)
                  · refine lv_aload_n hx hb dX3_leave_71 rfl (lv_at hl 1 rfl) ?_
                    refine va_get (D := G.1) (ci := 2) (v := .ref (b 1)) (C := RX3) (T := TX3) (N := 13) hx hb hts uX3 hown hK hP 0 rfl rfl 2 (by decide) (hts (.fieldLink RX3 7 "ChordOverlayModel" "lives" "[Z") (by decide +kernel)) (fun _ h9 => h9) rfl dX3_leave_72 ?_
                    refine lv_iload_n hx hb dX3_leave_75 rfl (lv_at hl 0 rfl) ?_
                    refine va_zald hx hb hK hP 1 1 rfl rfl (vi_1 hj_8) dX3_leave_76 ?_
                    refine co_eq (y := bI (alv (σ 0) (nI j_8))) ((rl_l hRq hj_8).trans (by rw [h0q])) ?_
                    refine co_ifeq (tgt := 91) S dX3_leave_77 (by decide) (fun c_15 => ?_) (fun c_15 => ?_)
                    · have hL : lvA σ (nI n) = σq := (by rw [lvA, ej_3, if_neg c_4, hoS_q h9 hqq, ej_8, h0q, c_15, if_neg (show ¬ (false = true) by decide), ite_self])
                      refine lv_aload_n hx hb dX3_leave_91 rfl (lv_at hl 1 rfl) ?_
                      refine va_get (D := G.1) (ci := 2) (v := .ref (b 1)) (C := RX3) (T := TX3) (N := 13) hx hb hts uX3 hown hK hP 0 rfl rfl 2 (by decide) (hts (.fieldLink RX3 7 "ChordOverlayModel" "lives" "[Z") (by decide +kernel)) (fun _ h9 => h9) rfl dX3_leave_92 ?_
                      refine lv_iload_n hx hb dX3_leave_95 rfl (lv_at hl 2 rfl) ?_
                      refine lv_iconst (v := 0) hx hb dX3_leave_96 (by decide) ?_
                      refine va_zast hx hb hK hP hD hS 1 1 (f := (μ' 2)) rfl rfl (vi_1 hn0) dX3_leave_97 (fun H locs hP hD hS => ?_)
                      obtain ⟨f_16, ef_16⟩ : ∃ z9, z9 = (upd (μ' 2) (nI n).toNatClampNeg (vp_nar .boolean 0)) := ⟨_, rfl⟩
                      rw [← ef_16] at hP hD
                      have hP : pG G (wM G b (va_up (va_up μ' 4 f_13) 2 f_16)) H := hP
                      have hD : va_D A (wM G b (va_up (va_up μ' 4 f_13) 2 f_16)) := hD
                      obtain ⟨σd_17, eσd_17⟩ : ∃ z9, z9 = saS σq (nI n) 0 := ⟨_, rfl⟩
                      have hqd_17 : Rl Z σd_17 (va_up (va_up μ' 4 f_13) 2 f_16) := (by rw [eσd_17, ef_16]; exact rl_die hRq hn0)
                      have hkd_17 := Kp.tr hKq (Kp.s2 (f := f_16))
                      have hF : lvS σ (nI n) = σd_17 := (by rw [lvS, hL, eσd_17])
                      refine lv_aload_n hx hb dX3_leave_98 rfl (lv_at hl 1 rfl) ?_
                      refine co_rV (As := []) (rest := []) S (c_X3_countLiving l G Z b σd_17 (va_up (va_up μ' 4 f_13) 2 f_16) hqd_17) (cwV 0 hts gX3_leave_X3_countLiving rfl rfl rfl (by decide +kernel) ⟨Nat.le_of_ble_eq_true rfl, Nat.le_of_ble_eq_true rfl⟩) hK hP (va_recv hK hP (ci := 2) (q0 := 0) rfl rfl) rfl hl.1 rfl (Nat.le_of_ble_eq_true rfl) dX3_leave_99 ⟨Nat.zero_le _, Nat.zero_le _⟩ ?_
                      exact co_endI (va_up (va_up μ' 4 f_13) 2 f_16) S hr hlocks dX3_leave_102 hK hP hD hS (by have hcd : cdA σ (nI n) = 0 := (by simp only [cdA, okR_id hn0, haln, c_2, c_4, c_7, c_15, eq_self, Bool.false_eq_true, ite_self, ↓reduceIte]); exact ⟨by rw [hcd]; exact (congrFun hkd_17.1 0), fun _ => ⟨by rw [hF], by rw [hF]; exact hqd_17⟩, fun h => absurd hcd h⟩)
                    · refine lv_iload_n hx hb dX3_leave_80 rfl (lv_at hl 0 rfl) ?_
                      refine lv_iload_n hx hb dX3_leave_81 rfl (lv_at hl 2 rfl) ?_
                      refine lv_icmp_eq (tgt := 91) hx hb dX3_leave_82 (by decide) (fun c_18 => ?_) (fun c_18 => ?_)
                      · have hL : lvA σ (nI n) = σq := (by rw [lvA, ej_3, if_neg c_4, hoS_q h9 hqq, ej_8, if_pos c_18])
                        refine lv_aload_n hx hb dX3_leave_91 rfl (lv_at hl 1 rfl) ?_
                        refine va_get (D := G.1) (ci := 2) (v := .ref (b 1)) (C := RX3) (T := TX3) (N := 13) hx hb hts uX3 hown hK hP 0 rfl rfl 2 (by decide) (hts (.fieldLink RX3 7 "ChordOverlayModel" "lives" "[Z") (by decide +kernel)) (fun _ h9 => h9) rfl dX3_leave_92 ?_
                        refine lv_iload_n hx hb dX3_leave_95 rfl (lv_at hl 2 rfl) ?_
                        refine lv_iconst (v := 0) hx hb dX3_leave_96 (by decide) ?_
                        refine va_zast hx hb hK hP hD hS 1 1 (f := (μ' 2)) rfl rfl (vi_1 hn0) dX3_leave_97 (fun H locs hP hD hS => ?_)
                        obtain ⟨f_19, ef_19⟩ : ∃ z9, z9 = (upd (μ' 2) (nI n).toNatClampNeg (vp_nar .boolean 0)) := ⟨_, rfl⟩
                        rw [← ef_19] at hP hD
                        have hP : pG G (wM G b (va_up (va_up μ' 4 f_13) 2 f_19)) H := hP
                        have hD : va_D A (wM G b (va_up (va_up μ' 4 f_13) 2 f_19)) := hD
                        obtain ⟨σd_20, eσd_20⟩ : ∃ z9, z9 = saS σq (nI n) 0 := ⟨_, rfl⟩
                        have hqd_20 : Rl Z σd_20 (va_up (va_up μ' 4 f_13) 2 f_19) := (by rw [eσd_20, ef_19]; exact rl_die hRq hn0)
                        have hkd_20 := Kp.tr hKq (Kp.s2 (f := f_19))
                        have hF : lvS σ (nI n) = σd_20 := (by rw [lvS, hL, eσd_20])
                        refine lv_aload_n hx hb dX3_leave_98 rfl (lv_at hl 1 rfl) ?_
                        refine co_rV (As := []) (rest := []) S (c_X3_countLiving l G Z b σd_20 (va_up (va_up μ' 4 f_13) 2 f_19) hqd_20) (cwV 0 hts gX3_leave_X3_countLiving rfl rfl rfl (by decide +kernel) ⟨Nat.le_of_ble_eq_true rfl, Nat.le_of_ble_eq_true rfl⟩) hK hP (va_recv hK hP (ci := 2) (q0 := 0) rfl rfl) rfl hl.1 rfl (Nat.le_of_ble_eq_true rfl) dX3_leave_99 ⟨Nat.zero_le _, Nat.zero_le _⟩ ?_
                        exact co_endI (va_up (va_up μ' 4 f_13) 2 f_19) S hr hlocks dX3_leave_102 hK hP hD hS (by have hcd : cdA σ (nI n) = 0 := (by simp only [cdA, okR_id hn0, haln, c_2, c_4, c_7, c_15, (eq_true c_18), eq_self, Bool.false_eq_true, ite_self, ↓reduceIte]); exact ⟨by rw [hcd]; exact (congrFun hkd_20.1 0), fun _ => ⟨by rw [hF], by rw [hF]; exact hqd_20⟩, fun h => absurd hcd h⟩)
                      · refine lv_aload_n hx hb dX3_leave_85 rfl (lv_at hl 1 rfl) ?_
                        refine lv_iload_n hx hb dX3_leave_86 rfl (lv_at hl 0 rfl) ?_
                        refine lv_iload_n hx hb dX3_leave_87 rfl (lv_at hl 3 rfl) ?_
                        refine co_mVv (As := [.int (nI j_8), .int (nI j_3)]) (rest := []) S (c_X3_follows l G Z b σq (va_up μ' 4 f_13) hRq j_8 j_3 hj_8 (Lv.tr h0q lj_3)) (cwV 2 hts gX3_leave_X3_follows rfl rfl rfl (by decide +kernel) ⟨Nat.le_of_ble_eq_true rfl, Nat.le_of_ble_eq_true rfl⟩) hK hP hD hS hA (va_recv hK hP (ci := 2) (q0 := 0) rfl rfl) rfl hl.1 rfl (Nat.le_of_ble_eq_true rfl) dX3_leave_88 ⟨Nat.zero_le _, Nat.zero_le _⟩ (fun u_21 H locs hu_21 hP hD hS => ?_)
                        obtain ⟨hq_21, hk_21⟩ := hu_21
                        obtain ⟨σ_21, eσ_21⟩ : ∃ z9, z9 = (foS σq (nI j_8) (nI j_3)) := ⟨_, rfl⟩
                        have hq_21 : Rl Z σ_21 u_21 := (by rw [eσ_21]; exact hq_21)
                        have hc0_21 : σ_21 0 = (σ 0) := (by rw [eσ_21]; exact (foS_0).trans h0q)
                        have hc2_21 : σ_21 2 = (σq 2) := (by rw [eσ_21]; exact rfl)
                        have hc3_21 : σ_21 3 = (σq 3) := (by rw [eσ_21]; exact rfl)
                        have hc4_21 : σ_21 4 = (σq 4) := (by rw [eσ_21]; exact rfl)
                        have hc5_21 : σ_21 5 = (σq 5) := (by rw [eσ_21]; exact rfl)
                        have hk_21 := Kp.tr hKq hk_21
                        have hP : pG G (wM G b u_21) H := hP
                        have hD : va_D A (wM G b u_21) := hD
                        have hL : lvA σ (nI n) = σ_21 := (by rw [lvA, ej_3, if_neg c_4, hoS_q h9 hqq, ej_8, if_neg c_18, h0q, c_15, if_pos rfl]; exact eσ_21.symm)
                        refine lv_aload_n hx hb dX3_leave_91 rfl (lv_at hl 1 rfl) ?_
                        refine va_get (D := G.1) (ci := 2) (v := .ref (b 1)) (C := RX3) (T := TX3) (N := 13) hx hb hts uX3 hown hK hP 0 rfl rfl 2 (by decide) (hts (.fieldLink RX3 7 "ChordOverlayModel" "lives" "[Z") (by decide +kernel)) (fun _ h9 => h9) rfl dX3_leave_92 ?_
                        refine lv_iload_n hx hb dX3_leave_95 rfl (lv_at hl 2 rfl) ?_
                        refine lv_iconst (v := 0) hx hb dX3_leave_96 (by decide) ?_
                        refine va_zast hx hb hK hP hD hS 1 1 (f := (u_21 2)) rfl rfl (vi_1 hn0) dX3_leave_97 (fun H locs hP hD hS => ?_)
                        obtain ⟨f_22, ef_22⟩ : ∃ z9, z9 = (upd (u_21 2) (nI n).toNatClampNeg (vp_nar .boolean 0)) := ⟨_, rfl⟩
                        rw [← ef_22] at hP hD
                        have hP : pG G (wM G b (va_up u_21 2 f_22)) H := hP
                        have hD : va_D A (wM G b (va_up u_21 2 f_22)) := hD
                        obtain ⟨σd_23, eσd_23⟩ : ∃ z9, z9 = saS σ_21 (nI n) 0 := ⟨_, rfl⟩
                        have hqd_23 : Rl Z σd_23 (va_up u_21 2 f_22) := (by rw [eσd_23, ef_22]; exact rl_die hq_21 hn0)
                        have hkd_23 := Kp.tr hk_21 (Kp.s2 (f := f_22))
                        have hF : lvS σ (nI n) = σd_23 := (by rw [lvS, hL, eσd_23])
                        refine lv_aload_n hx hb dX3_leave_98 rfl (lv_at hl 1 rfl) ?_
                        refine co_rV (As := []) (rest := []) S (c_X3_countLiving l G Z b σd_23 (va_up u_21 2 f_22) hqd_23) (cwV 0 hts gX3_leave_X3_countLiving rfl rfl rfl (by decide +kernel) ⟨Nat.le_of_ble_eq_true rfl, Nat.le_of_ble_eq_true rfl⟩) hK hP (va_recv hK hP (ci := 2) (q0 := 0) rfl rfl) rfl hl.1 rfl (Nat.le_of_ble_eq_true rfl) dX3_leave_99 ⟨Nat.zero_le _, Nat.zero_le _⟩ ?_
                        exact co_endI (va_up u_21 2 f_22) S hr hlocks dX3_leave_102 hK hP hD hS (by have hcd : cdA σ (nI n) = 0 := (by simp only [cdA, okR_id hn0, haln, c_2, c_4, c_7, c_15, c_18, eq_self, Bool.false_eq_true, ite_self, ↓reduceIte]); exact ⟨by rw [hcd]; exact (congrFun hkd_23.1 0), fun _ => ⟨by rw [hF], by rw [hF]; exact hqd_23⟩, fun h => absurd hcd h⟩)
              · exact absurd (nI_le (a := 64) (b := k) (by omega) (by omega)) c_7
            | succ d ih =>
              intro k σ' μ' hk hR9 hK9 h9 H locs hP hD hS ls hl
              have h09 : σ' 0 = σ 0 := (by rw [h9]; exact hoL_0 k)
              refine lv_iload_n hx hb dX3_leave_31 rfl (lv_at hl 3 rfl) ?_
              refine lv_bipush (v := 64) hx hb dX3_leave_32 (by decide) ?_
              refine lv_icmp_ge (tgt := 52) hx hb dX3_leave_34 (by decide) (fun c_24 => ?_) (fun c_24 => ?_)
              · exact absurd c_24 (nI_ge (a := k) (b := 64) (by omega) (by omega))
              · refine lv_aload_n hx hb dX3_leave_37 rfl (lv_at hl 0 rfl) ?_
                refine lv_iload_n hx hb dX3_leave_38 rfl (lv_at hl 1 rfl) ?_
                refine lv_iload_n hx hb dX3_leave_39 rfl (lv_at hl 3 rfl) ?_
                refine lv_iload_n hx hb dX3_leave_40 rfl (lv_at hl 2 rfl) ?_
                refine co_mVi (As := [.int (nI n), .int (nI k), .int (nI j_3)]) (rest := []) S (c_X3_copy l G Z b σ' μ' hR9 n k j_3 (Lv.tr h09 ⟨hn0, haln⟩) (show k < 64 by omega) (Lv.tr h09 lj_3)) (cwV 3 hts gX3_leave_X3_copy rfl rfl rfl (by decide +kernel) ⟨Nat.le_of_ble_eq_true rfl, Nat.le_of_ble_eq_true rfl⟩) hK hP hD hS hA (va_recv hK hP (ci := 2) (q0 := 0) rfl rfl) rfl hl.1 rfl (Nat.le_of_ble_eq_true rfl) dX3_leave_41 ⟨Nat.zero_le _, Nat.zero_le _⟩ (fun r_25 u_25 H locs hu_25 hP hD hS => ?_)
                obtain ⟨hr_25, hq_25, hk_25⟩ := hu_25
                have hr_25 : r_25 = (gcC σ' (nI n) (nI j_3) (nI k)) := hr_25
                obtain ⟨σ_25, eσ_25⟩ : ∃ z9, z9 = (gcS σ' (nI n) (nI j_3) (nI k)) := ⟨_, rfl⟩
                have hq_25 : Rl Z σ_25 u_25 := (by rw [eσ_25]; exact hq_25)
                have hc0_25 : σ_25 0 = (σ 0) := (by rw [eσ_25]; exact (gcS_0).trans h09)
                have hc1_25 : σ_25 1 = (σ' 1) := (by rw [eσ_25]; exact gcS_1)
                have hc2_25 : σ_25 2 = (σ' 2) := (by rw [eσ_25]; exact gcS_2)
                have hc3_25 : σ_25 3 = (σ' 3) := (by rw [eσ_25]; exact gcS_3)
                have hk_25 := Kp.tr hK9 hk_25
                have hP : pG G (wM G b u_25) H := hP
                have hD : va_D A (wM G b u_25) := hD
                refine lv_istore (lv' := [(4, .int r_25), (0, .ref (b 0)), (1, .int (nI n)), (2, .int (nI j_3)), (3, .int (nI k))]) hx hb dX3_leave_44 hl (by decide) rfl (fun ls hl => ?_)
                refine lv_iinc (v := (nI (k + 1))) (lv' := [(3, .int (nI (k + 1))), (4, .int r_25), (0, .ref (b 0)), (1, .int (nI n)), (2, .int (nI j_3))]) hx hb dX3_leave_46 hl (k := 4) rfl (nI_1 k) (by decide) rfl (fun ls hl => ?_)
                refine lv_goto (tgt := 31) hx hb dX3_leave_49 (by decide) ?_
                exact ih (k + 1) σ_25 u_25 (by omega) hq_25 hk_25 (by rw [eσ_25, h9]; rfl) _ _ hP hD hS ls (lv_sub hl [2, 3, 4, 0] rfl)
          exact LP 64 0 _ _ rfl hz_1 Kp.rf rfl _ _ hP hD hS ls (lv_sub hl [2, 3, 1, 0] rfl)
      · exact absurd (by decide) c_2
  · refine co_bodyI (cc := cX3_leave) (maxL := 5) (ret := (some .int)) (by decide) rfl (Nat.le_of_ble_eq_true rfl) ?_
    intro p e s m args below meth c S hr hlocks hK A hA hP hD hS ls hl
    have S : CallFix p m c cX3_leave 5 s args wsX3_leave RX3 := S
    obtain ⟨hx, hb, hml, hown, hts⟩ := id S
    have hl : lv_has ls 5 [(0, .ref (b 0)), (1, .int x)] := hl
    have uX3 := uX3_X3_leave
    refine lv_aload_n hx hb dX3_leave_0 rfl (lv_at hl 0 rfl) ?_
    refine lv_aload_n hx hb dX3_leave_1 rfl (lv_at hl 0 rfl) ?_
    refine lv_iload_n hx hb dX3_leave_2 rfl (lv_at hl 1 rfl) ?_
    refine co_rV (As := [.int x]) (rest := [.ref (b 0)]) S (c_X3_refuses l G Z b σ μ hR x) (cwV 1 hts gX3_leave_X3_refuses rfl rfl rfl (by decide +kernel) ⟨Nat.le_of_ble_eq_true rfl, Nat.le_of_ble_eq_true rfl⟩) hK hP (va_recv hK hP (ci := 2) (q0 := 0) rfl rfl) rfl hl.1 rfl (Nat.le_of_ble_eq_true rfl) dX3_leave_3 ⟨Nat.zero_le _, Nat.zero_le _⟩ ?_
    refine co_eq (show nI (cdA σ x) = 1 from congrArg nI (show cdA σ x = 1 by simp only [cdA, hon0, eq_self, Bool.false_eq_true, ite_self, ↓reduceIte])) ?_
    refine va_put (D := G.1) (ci := 2) (v := .int 1) (ty := .int) (C := RX3) (T := TX3) (N := 13) hx hb hts uX3 tyX3 tyX3_ok nmX3 hown hK hP hD hS 0 rfl rfl 0 (by decide) (hts (.fieldLink RX3 41 "ChordOverlayModel" "thrown" "I") (by decide +kernel)) (fun _ h9 => h9) rfl (by decide +kernel) rfl rfl (Nat.le_of_ble_eq_true rfl) dX3_leave_6 (fun H locs hP hD hS => ?_)
    have hP : pG G (wM G b (va_up μ 0 (fun _ => 1))) H := hP
    have hD : va_D A (wM G b (va_up μ 0 (fun _ => 1))) := hD
    have hz_1 : Rl Z σ (va_up μ 0 (fun _ => 1)) := Rl.s0 (f := fun _ => 1) hR
    refine lv_aload_n hx hb dX3_leave_9 rfl (lv_at hl 0 rfl) ?_
    refine va_get (D := G.1) (ci := 2) (v := .int 1) (C := RX3) (T := TX3) (N := 13) hx hb hts uX3 hown hK hP 0 rfl rfl 0 (by decide) (hts (.fieldLink RX3 41 "ChordOverlayModel" "thrown" "I") (by decide +kernel)) (fun _ h9 => h9) rfl dX3_leave_10 ?_
    refine lv_if_le (tgt := 18) hx hb dX3_leave_13 (by decide) (fun c_2 => ?_) (fun c_2 => ?_)
    · exact absurd c_2 (by decide)
    · refine lv_iconst (v := 0) hx hb dX3_leave_16 (by decide) ?_
      exact co_endI (va_up μ 0 (fun _ => 1)) S hr hlocks dX3_leave_17 hK hP hD hS (by have hcd : cdA σ x = 1 := (by simp only [cdA, hon0, c_2, eq_self, Bool.false_eq_true, ite_self, ↓reduceIte]); exact ⟨by rw [hcd]; exact rfl, fun h => absurd (hcd.symm.trans h) (by decide), fun _ => hz_1⟩)

set_option maxRecDepth 20000 in
theorem uX3_X3_keepers : ∀ w ∈ u_ws RX3 TX3 13, w ∈ wsX3_keepers := by decide +kernel
abbrev rm_X3_keepers : Room := { frames := 1, cells := 0, slots := 0, locals := 21 }
set_option maxHeartbeats 4000000 in
set_option maxRecDepth 100000 in
theorem c_X3_keepers (l : Launch) (G : cG) (Z : Nat) (b : Nat → Nat) (σ μ : cS) (hR : Rl Z σ μ) (y : Int32) : MetI l yX3_keepers wsX3_keepers rm_X3_keepers G (wM G b μ) [.ref (b 0), .int y] (fun u : cS => wM G b u) (fun r u => u 0 0 = nI (cd1 y 0 63) ∧ (cd1 y 0 63 = 0 → r = kpC σ y 64 ∧ Rl Z σ u) ∧ (cd1 y 0 63 ≠ 0 → Rl Z σ u)) := by
  rcases id_or y with ⟨kk, hkk0, rfl⟩ | ⟨hikk0, hokk0⟩
  · refine co_bodyI (cc := cX3_keepers) (maxL := 4) (ret := (some .int)) (by decide) rfl (Nat.le_of_ble_eq_true rfl) ?_
    intro p e s m args below meth c S hr hlocks hK A hA hP hD hS ls hl
    have S : CallFix p m c cX3_keepers 4 s args wsX3_keepers RX3 := S
    obtain ⟨hx, hb, hml, hown, hts⟩ := id S
    have hl : lv_has ls 4 [(0, .ref (b 0)), (1, .int (nI kk))] := hl
    have uX3 := uX3_X3_keepers
    refine lv_aload_n hx hb dX3_keepers_0 rfl (lv_at hl 0 rfl) ?_
    refine lv_iconst (v := 0) hx hb dX3_keepers_1 (by decide) ?_
    refine va_put (D := G.1) (ci := 2) (v := .int 0) (ty := .int) (C := RX3) (T := TX3) (N := 13) hx hb hts uX3 tyX3 tyX3_ok nmX3 hown hK hP hD hS 0 rfl rfl 0 (by decide) (hts (.fieldLink RX3 41 "ChordOverlayModel" "thrown" "I") (by decide +kernel)) (fun _ h9 => h9) rfl (by decide +kernel) rfl rfl (Nat.le_of_ble_eq_true rfl) dX3_keepers_2 (fun H locs hP hD hS => ?_)
    have hP : pG G (wM G b (va_up μ 0 (fun _ => 0))) H := hP
    have hD : va_D A (wM G b (va_up μ 0 (fun _ => 0))) := hD
    have hz_1 : Rl Z σ (va_up μ 0 (fun _ => 0)) := Rl.s0 (f := fun _ => 0) hR
    refine lv_iload_n hx hb dX3_keepers_5 rfl (lv_at hl 1 rfl) ?_
    refine co_rS (As := [.int (nI kk)]) (rest := []) S (c_X3_isId l G (nI kk)) (va_cwS 1 hts gX3_keepers_X3_isId rfl rfl rfl (by decide +kernel) ⟨Nat.le_of_ble_eq_true rfl, Nat.le_of_ble_eq_true rfl⟩) hK (pG_nil) rfl hl.1 rfl (Nat.le_of_ble_eq_true rfl) dX3_keepers_6 ⟨Nat.zero_le _, Nat.zero_le _⟩ ?_
    refine co_ifne (tgt := 18) S dX3_keepers_9 (by decide) (fun c_2 => ?_) (fun c_2 => ?_)
    · refine lv_iconst (v := 0) hx hb dX3_keepers_18 (by decide) ?_
      refine lv_istore_n (lv' := [(2, .int 0), (0, .ref (b 0)), (1, .int (nI kk))]) hx hb dX3_keepers_19 rfl hl (by decide) rfl (fun ls hl => ?_)
      refine lv_iconst (v := 0) hx hb dX3_keepers_20 (by decide) ?_
      refine lv_istore_n (lv' := [(3, .int 0), (2, .int 0), (0, .ref (b 0)), (1, .int (nI kk))]) hx hb dX3_keepers_21 rfl hl (by decide) rfl (fun ls hl => ?_)
      have LP : ∀ (d : Nat) (k : Nat) (x9 : Int32), k + d = 64 → x9 = kpC σ (nI kk) k → ∀ (H : Heap) (locs : List Loc), pG G (wM G b (va_up μ 0 (fun _ => 0))) H → va_D A (wM G b (va_up μ 0 (fun _ => 0))) → va_S A s.heap H locs → ∀ ls : Array Slot, lv_has ls 4 [(0, .ref (b 0)), (1, .int (nI kk)), (2, .int x9), (3, .int (nI k))] → W p l e rm_X3_keepers s m args below meth c H locs 0 0 (QI below G A (fun u : cS => wM G b u) (fun r u => u 0 0 = nI (cd1 (nI kk) 0 63) ∧ (cd1 (nI kk) 0 63 = 0 → r = kpC σ (nI kk) 64 ∧ Rl Z σ u) ∧ (cd1 (nI kk) 0 63 ≠ 0 → Rl Z σ u)) args s) (F0 m 22 ls []) := by
        intro d
        induction d with
        | zero =>
          intro k x9 hk hx9 H locs hP hD hS ls hl
          refine lv_iload_n hx hb dX3_keepers_22 rfl (lv_at hl 3 rfl) ?_
          refine lv_bipush (v := 64) hx hb dX3_keepers_23 (by decide) ?_
          refine lv_icmp_ge (tgt := 65) hx hb dX3_keepers_25 (by decide) (fun c_3 => ?_) (fun c_3 => ?_)
          · refine lv_iload_n hx hb dX3_keepers_65 rfl (lv_at hl 2 rfl) ?_
            exact co_endI (va_up μ 0 (fun _ => 0)) S hr hlocks dX3_keepers_66 hK hP hD hS (by have hcd : cd1 (nI kk) 0 63 = 0 := (by simp only [cd1, okR_id hkk0, c_2, c_3, eq_self, Bool.false_eq_true, ite_self, ↓reduceIte]); exact ⟨by rw [hcd]; exact rfl, fun _ => ⟨by rw [hx9, show k = 64 by omega], by exact hz_1⟩, fun h => absurd hcd h⟩)
          · exact absurd (nI_le (a := 64) (b := k) (by omega) (by omega)) c_3
        | succ d ih =>
          intro k x9 hk hx9 H locs hP hD hS ls hl
          refine lv_iload_n hx hb dX3_keepers_22 rfl (lv_at hl 3 rfl) ?_
          refine lv_bipush (v := 64) hx hb dX3_keepers_23 (by decide) ?_
          refine lv_icmp_ge (tgt := 65) hx hb dX3_keepers_25 (by decide) (fun c_4 => ?_) (fun c_4 => ?_)
          · exact absurd c_4 (nI_ge (a := k) (b := 64) (by omega) (by omega))
          · refine lv_iload_n hx hb dX3_keepers_28 rfl (lv_at hl 2 rfl) ?_
            refine lv_aload_n hx hb dX3_keepers_29 rfl (lv_at hl 0 rfl) ?_
            refine va_get (D := G.1) (ci := 2) (v := .ref (b 1)) (C := RX3) (T := TX3) (N := 13) hx hb hts uX3 hown hK hP 0 rfl rfl 2 (by decide) (hts (.fieldLink RX3 7 "ChordOverlayModel" "lives" "[Z") (by decide +kernel)) (fun _ h9 => h9) rfl dX3_keepers_30 ?_
            refine lv_iload_n hx hb dX3_keepers_33 rfl (lv_at hl 3 rfl) ?_
            refine va_zald hx hb hK hP 1 1 rfl rfl (vi_1 (show k < 64 by omega)) dX3_keepers_34 ?_
            refine co_eq (y := bI (alv (σ 0) (nI k))) (rl_l hz_1 (show k < 64 by omega)) ?_
            refine co_ifeq (tgt := 56) S dX3_keepers_35 (by decide) (fun c_5 => ?_) (fun c_5 => ?_)
            · refine lv_iconst (v := 0) hx hb dX3_keepers_56 (by decide) ?_
              refine lv_iadd hx hb dX3_keepers_57 ?_
              refine lv_istore_n (lv' := [(2, .int (x9 + 0)), (0, .ref (b 0)), (1, .int (nI kk)), (3, .int (nI k))]) hx hb dX3_keepers_58 rfl hl (by decide) rfl (fun ls hl => ?_)
              refine lv_iinc (v := (nI (k + 1))) (lv' := [(3, .int (nI (k + 1))), (2, .int (x9 + 0)), (0, .ref (b 0)), (1, .int (nI kk))]) hx hb dX3_keepers_59 hl (k := 3) rfl (nI_1 k) (by decide) rfl (fun ls hl => ?_)
              refine lv_goto (tgt := 22) hx hb dX3_keepers_62 (by decide) ?_
              exact ih (k + 1) _ (by omega) (by subst hx9; simp only [kpC, c_4, c_5, eq_self, Bool.false_eq_true, ite_self, ↓reduceIte, Int32.add_zero]) _ _ hP hD hS ls (lv_sub hl [2, 3, 1, 0] rfl)
            · refine lv_aload_n hx hb dX3_keepers_38 rfl (lv_at hl 0 rfl) ?_
              refine va_get (D := G.1) (ci := 2) (v := .ref (b 6)) (C := RX3) (T := TX3) (N := 13) hx hb hts uX3 hown hK hP 0 rfl rfl 7 (by decide) (hts (.fieldLink RX3 26 "ChordOverlayModel" "stamp" "[I") (by decide +kernel)) (fun _ h9 => h9) rfl dX3_keepers_39 ?_
              refine lv_bipush (v := 64) hx hb dX3_keepers_42 (by decide) ?_
              refine lv_iload_n hx hb dX3_keepers_44 rfl (lv_at hl 3 rfl) ?_
              refine lv_imul hx hb dX3_keepers_45 ?_
              refine lv_iload_n hx hb dX3_keepers_46 rfl (lv_at hl 1 rfl) ?_
              refine lv_iadd hx hb dX3_keepers_47 ?_
              refine va_iald hx hb hK hP 6 0 rfl rfl (vi_w (w := 64) (p := kk) (by decide) (show k < 64 by omega) hkk0) dX3_keepers_48 ?_
              rcases rl_v hz_1 ⟨(show k < 64 by omega), c_5⟩ kk hkk0 with ⟨at_6, bt_6, mt_6⟩ | ⟨tt_6, vt_6, gt_6, ht_6, it_6, at_6, bt_6, mt_6, nt_6⟩
              · have at_6 : tat 64 (σ 5) (nI k) (nI kk) = -1 := at_6
                have bt_6 : tat 64 (σ 4) (nI k) (nI kk) = -1 := bt_6
                refine co_eq mt_6 ?_
                refine lv_if_le (tgt := 56) hx hb dX3_keepers_49 (by decide) (fun c_7 => ?_) (fun c_7 => ?_)
                · refine lv_iconst (v := 0) hx hb dX3_keepers_56 (by decide) ?_
                  refine lv_iadd hx hb dX3_keepers_57 ?_
                  refine lv_istore_n (lv' := [(2, .int (x9 + 0)), (0, .ref (b 0)), (1, .int (nI kk)), (3, .int (nI k))]) hx hb dX3_keepers_58 rfl hl (by decide) rfl (fun ls hl => ?_)
                  refine lv_iinc (v := (nI (k + 1))) (lv' := [(3, .int (nI (k + 1))), (2, .int (x9 + 0)), (0, .ref (b 0)), (1, .int (nI kk))]) hx hb dX3_keepers_59 hl (k := 3) rfl (nI_1 k) (by decide) rfl (fun ls hl => ?_)
                  refine lv_goto (tgt := 22) hx hb dX3_keepers_62 (by decide) ?_
                  exact ih (k + 1) _ (by omega) (by subst hx9; simp only [kpC, c_4, c_5, c_7, bt_6, eq_self, Bool.false_eq_true, ite_self, ↓reduceIte, Int32.add_zero]) _ _ hP hD hS ls (lv_sub hl [2, 3, 1, 0] rfl)
                · exact absurd (by decide) c_7
              · have at_6 : tat 64 (σ 5) (nI k) (nI kk) = nI tt_6 := at_6
                have bt_6 : tat 64 (σ 4) (nI k) (nI kk) = nI vt_6 := bt_6
                refine co_eq mt_6 ?_
                refine lv_if_le (tgt := 56) hx hb dX3_keepers_49 (by decide) (fun c_8 => ?_) (fun c_8 => ?_)
                · exact absurd c_8 (nI_nle (by omega) (by omega))
                · refine lv_iconst (v := 1) hx hb dX3_keepers_52 (by decide) ?_
                  refine lv_goto (tgt := 57) hx hb dX3_keepers_53 (by decide) ?_
                  refine lv_iadd hx hb dX3_keepers_57 ?_
                  refine lv_istore_n (lv' := [(2, .int (x9 + 1)), (0, .ref (b 0)), (1, .int (nI kk)), (3, .int (nI k))]) hx hb dX3_keepers_58 rfl hl (by decide) rfl (fun ls hl => ?_)
                  refine lv_iinc (v := (nI (k + 1))) (lv' := [(3, .int (nI (k + 1))), (2, .int (x9 + 1)), (0, .ref (b 0)), (1, .int (nI kk))]) hx hb dX3_keepers_59 hl (k := 3) rfl (nI_1 k) (by decide) rfl (fun ls hl => ?_)
                  refine lv_goto (tgt := 22) hx hb dX3_keepers_62 (by decide) ?_
                  exact ih (k + 1) _ (by omega) (by subst hx9; simp only [kpC, c_4, c_5, c_8, tat_ne bt_6 it_6, eq_self, Bool.false_eq_true, ite_self, ↓reduceIte, Int32.add_zero]) _ _ hP hD hS ls (lv_sub hl [2, 3, 1, 0] rfl)
      exact LP 64 0 _ rfl rfl _ _ hP hD hS ls (lv_sub hl [2, 3, 1, 0] rfl)
    · exact absurd (c_2.symm.trans (idB_nI hkk0)) (by decide)
  · refine co_bodyI (cc := cX3_keepers) (maxL := 4) (ret := (some .int)) (by decide) rfl (Nat.le_of_ble_eq_true rfl) ?_
    intro p e s m args below meth c S hr hlocks hK A hA hP hD hS ls hl
    have S : CallFix p m c cX3_keepers 4 s args wsX3_keepers RX3 := S
    obtain ⟨hx, hb, hml, hown, hts⟩ := id S
    have hl : lv_has ls 4 [(0, .ref (b 0)), (1, .int y)] := hl
    have uX3 := uX3_X3_keepers
    refine lv_aload_n hx hb dX3_keepers_0 rfl (lv_at hl 0 rfl) ?_
    refine lv_iconst (v := 0) hx hb dX3_keepers_1 (by decide) ?_
    refine va_put (D := G.1) (ci := 2) (v := .int 0) (ty := .int) (C := RX3) (T := TX3) (N := 13) hx hb hts uX3 tyX3 tyX3_ok nmX3 hown hK hP hD hS 0 rfl rfl 0 (by decide) (hts (.fieldLink RX3 41 "ChordOverlayModel" "thrown" "I") (by decide +kernel)) (fun _ h9 => h9) rfl (by decide +kernel) rfl rfl (Nat.le_of_ble_eq_true rfl) dX3_keepers_2 (fun H locs hP hD hS => ?_)
    have hP : pG G (wM G b (va_up μ 0 (fun _ => 0))) H := hP
    have hD : va_D A (wM G b (va_up μ 0 (fun _ => 0))) := hD
    have hz_1 : Rl Z σ (va_up μ 0 (fun _ => 0)) := Rl.s0 (f := fun _ => 0) hR
    refine lv_iload_n hx hb dX3_keepers_5 rfl (lv_at hl 1 rfl) ?_
    refine co_rS (As := [.int y]) (rest := []) S (c_X3_isId l G y) (va_cwS 1 hts gX3_keepers_X3_isId rfl rfl rfl (by decide +kernel) ⟨Nat.le_of_ble_eq_true rfl, Nat.le_of_ble_eq_true rfl⟩) hK (pG_nil) rfl hl.1 rfl (Nat.le_of_ble_eq_true rfl) dX3_keepers_6 ⟨Nat.zero_le _, Nat.zero_le _⟩ ?_
    refine co_ifne (tgt := 18) S dX3_keepers_9 (by decide) (fun c_2 => ?_) (fun c_2 => ?_)
    · exact absurd (c_2.symm.trans hikk0) (by decide)
    · refine lv_aload_n hx hb dX3_keepers_12 rfl (lv_at hl 0 rfl) ?_
      refine lv_iconst (v := 1) hx hb dX3_keepers_13 (by decide) ?_
      refine co_mVi (As := [.int 1]) (rest := []) S (c_X3_fails l G Z b σ (va_up μ 0 (fun _ => 0)) hz_1 1) (cwV 1 hts gX3_keepers_X3_fails rfl rfl rfl (by decide +kernel) ⟨Nat.le_of_ble_eq_true rfl, Nat.le_of_ble_eq_true rfl⟩) hK hP hD hS hA (va_recv hK hP (ci := 2) (q0 := 0) rfl rfl) rfl hl.1 rfl (Nat.le_of_ble_eq_true rfl) dX3_keepers_14 ⟨Nat.zero_le _, Nat.zero_le _⟩ (fun r_3 u_3 H locs hu_3 hP hD hS => ?_)
      obtain ⟨hr_3, hu_3⟩ := hu_3
      subst hr_3
      subst hu_3
      have hP : pG G (wM G b (va_up (va_up μ 0 (fun _ => 0)) 0 (fun _ => 1))) H := hP
      have hD : va_D A (wM G b (va_up (va_up μ 0 (fun _ => 0)) 0 (fun _ => 1))) := hD
      have hz_4 : Rl Z σ (va_up (va_up μ 0 (fun _ => 0)) 0 (fun _ => 1)) := Rl.s0 (f := fun _ => 1) hz_1
      exact co_endI (va_up (va_up μ 0 (fun _ => 0)) 0 (fun _ => 1)) S hr hlocks dX3_keepers_17 hK hP hD hS (by have hcd : cd1 y 0 63 = 1 := (by simp only [cd1, hokk0, c_2, eq_self, Bool.false_eq_true, ite_self, ↓reduceIte]); exact ⟨by rw [hcd]; exact rfl, fun h => absurd (hcd.symm.trans h) (by decide), fun _ => hz_4⟩)

set_option maxRecDepth 20000 in
theorem uX3_X3_goRounds : ∀ w ∈ u_ws RX3 TX3 13, w ∈ wsX3_goRounds := by decide +kernel
abbrev rm_X3_goRounds : Room := { frames := 7, cells := 0, slots := 0, locals := 166 }
set_option maxHeartbeats 4000000 in
set_option maxRecDepth 100000 in
theorem c_X3_goRounds (l : Launch) (G : cG) (Z : Nat) (b : Nat → Nat) (σ μ : cS) (hR : Rl Z σ μ) (x : Int32) : MetI l yX3_goRounds wsX3_goRounds rm_X3_goRounds G (wM G b μ) [.ref (b 0), .int x] (fun u : cS => wM G b u) (fun r u => u 0 0 = nI (cd1 x 1 20) ∧ (cd1 x 1 20 = 0 → r = cwp (lrI true σ x.toNatClampNeg) 64 ∧ Rl Z (lrI true σ x.toNatClampNeg) u) ∧ (cd1 x 1 20 ≠ 0 → Rl Z σ u)) := by
  refine co_bodyI (cc := cX3_goRounds) (maxL := 3) (ret := (some .int)) (by decide) rfl (Nat.le_of_ble_eq_true rfl) ?_
  intro p e s m args below meth c S hr hlocks hK A hA hP hD hS ls hl
  have S : CallFix p m c cX3_goRounds 3 s args wsX3_goRounds RX3 := S
  obtain ⟨hx, hb, hml, hown, hts⟩ := id S
  have hl : lv_has ls 3 [(0, .ref (b 0)), (1, .int x)] := hl
  have uX3 := uX3_X3_goRounds
  refine lv_aload_n hx hb dX3_goRounds_0 rfl (lv_at hl 0 rfl) ?_
  refine lv_iconst (v := 0) hx hb dX3_goRounds_1 (by decide) ?_
  refine va_put (D := G.1) (ci := 2) (v := .int 0) (ty := .int) (C := RX3) (T := TX3) (N := 13) hx hb hts uX3 tyX3 tyX3_ok nmX3 hown hK hP hD hS 0 rfl rfl 0 (by decide) (hts (.fieldLink RX3 41 "ChordOverlayModel" "thrown" "I") (by decide +kernel)) (fun _ h9 => h9) rfl (by decide +kernel) rfl rfl (Nat.le_of_ble_eq_true rfl) dX3_goRounds_2 (fun H locs hP hD hS => ?_)
  have hP : pG G (wM G b (va_up μ 0 (fun _ => 0))) H := hP
  have hD : va_D A (wM G b (va_up μ 0 (fun _ => 0))) := hD
  have hz_1 : Rl Z σ (va_up μ 0 (fun _ => 0)) := Rl.s0 (f := fun _ => 0) hR
  refine lv_iload_n hx hb dX3_goRounds_5 rfl (lv_at hl 1 rfl) ?_
  refine lv_iconst (v := 1) hx hb dX3_goRounds_6 (by decide) ?_
  refine lv_icmp_lt (tgt := 16) hx hb dX3_goRounds_7 (by decide) (fun c_2 => ?_) (fun c_2 => ?_)
  · refine lv_aload_n hx hb dX3_goRounds_16 rfl (lv_at hl 0 rfl) ?_
    refine lv_iconst (v := 1) hx hb dX3_goRounds_17 (by decide) ?_
    refine co_mVi (As := [.int 1]) (rest := []) S (c_X3_fails l G Z b σ (va_up μ 0 (fun _ => 0)) hz_1 1) (cwV 1 hts gX3_goRounds_X3_fails rfl rfl rfl (by decide +kernel) ⟨Nat.le_of_ble_eq_true rfl, Nat.le_of_ble_eq_true rfl⟩) hK hP hD hS hA (va_recv hK hP (ci := 2) (q0 := 0) rfl rfl) rfl hl.1 rfl (Nat.le_of_ble_eq_true rfl) dX3_goRounds_18 ⟨Nat.zero_le _, Nat.zero_le _⟩ (fun r_3 u_3 H locs hu_3 hP hD hS => ?_)
    obtain ⟨hr_3, hu_3⟩ := hu_3
    subst hr_3
    subst hu_3
    have hP : pG G (wM G b (va_up (va_up μ 0 (fun _ => 0)) 0 (fun _ => 1))) H := hP
    have hD : va_D A (wM G b (va_up (va_up μ 0 (fun _ => 0)) 0 (fun _ => 1))) := hD
    have hz_4 : Rl Z σ (va_up (va_up μ 0 (fun _ => 0)) 0 (fun _ => 1)) := Rl.s0 (f := fun _ => 1) hz_1
    exact co_endI (va_up (va_up μ 0 (fun _ => 0)) 0 (fun _ => 1)) S hr hlocks dX3_goRounds_21 hK hP hD hS (by have hcd : cd1 x 1 20 = 1 := (by simp only [cd1, okR, c_2, eq_self, Bool.false_eq_true, ite_self, ↓reduceIte]); exact ⟨by rw [hcd]; exact rfl, fun h => absurd (hcd.symm.trans h) (by decide), fun _ => hz_4⟩)
  · refine lv_iload_n hx hb dX3_goRounds_10 rfl (lv_at hl 1 rfl) ?_
    refine lv_bipush (v := 20) hx hb dX3_goRounds_11 (by decide) ?_
    refine lv_icmp_le (tgt := 22) hx hb dX3_goRounds_13 (by decide) (fun c_5 => ?_) (fun c_5 => ?_)
    · refine lv_iconst (v := 0) hx hb dX3_goRounds_22 (by decide) ?_
      refine lv_istore_n (lv' := [(2, .int 0), (0, .ref (b 0)), (1, .int x)]) hx hb dX3_goRounds_23 rfl hl (by decide) rfl (fun ls hl => ?_)
      obtain ⟨N, hN1, hN2, eN⟩ := okR_nI (M := 20) (by decide) (show okR x 1 (nI 20) = true by rw [okR, if_neg c_2, if_pos (show x ≤ nI 20 from c_5)])
      have LP : ∀ (d : Nat) (k : Nat) (σ' μ' : cS), k + d = N → Rl Z σ' μ' → Kp (va_up μ 0 (fun _ => 0)) μ' → σ' = lrI true σ k → ∀ (H : Heap) (locs : List Loc), pG G (wM G b μ') H → va_D A (wM G b μ') → va_S A s.heap H locs → ∀ ls : Array Slot, lv_has ls 3 [(0, .ref (b 0)), (1, .int x), (2, .int (nI k))] → W p l e rm_X3_goRounds s m args below meth c H locs 0 0 (QI below G A (fun u : cS => wM G b u) (fun r u => u 0 0 = nI (cd1 x 1 20) ∧ (cd1 x 1 20 = 0 → r = cwp (lrI true σ x.toNatClampNeg) 64 ∧ Rl Z (lrI true σ x.toNatClampNeg) u) ∧ (cd1 x 1 20 ≠ 0 → Rl Z σ u)) args s) (F0 m 24 ls []) := by
        intro d
        induction d with
        | zero =>
          intro k σ' μ' hk hR9 hK9 h9 H locs hP hD hS ls hl
          refine lv_iload_n hx hb dX3_goRounds_24 rfl (lv_at hl 2 rfl) ?_
          refine lv_iload_n hx hb dX3_goRounds_25 rfl (lv_at hl 1 rfl) ?_
          refine lv_icmp_ge (tgt := 40) hx hb dX3_goRounds_26 (by decide) (fun c_6 => ?_) (fun c_6 => ?_)
          · refine lv_aload_n hx hb dX3_goRounds_40 rfl (lv_at hl 0 rfl) ?_
            refine co_rV (As := []) (rest := []) S (c_X3_countWrong l G Z b σ' μ' hR9) (cwV 0 hts gX3_goRounds_X3_countWrong rfl rfl rfl (by decide +kernel) ⟨Nat.le_of_ble_eq_true rfl, Nat.le_of_ble_eq_true rfl⟩) hK hP (va_recv hK hP (ci := 2) (q0 := 0) rfl rfl) rfl hl.1 rfl (Nat.le_of_ble_eq_true rfl) dX3_goRounds_41 ⟨Nat.zero_le _, Nat.zero_le _⟩ ?_
            exact co_endI μ' S hr hlocks dX3_goRounds_44 hK hP hD hS (by have hcd : cd1 x 1 20 = 0 := (by simp only [cd1, okR, c_2, c_5, c_6, eq_self, Bool.false_eq_true, ite_self, ↓reduceIte]); exact ⟨by rw [hcd]; exact (congrFun hK9.1 0), fun _ => ⟨by have hxN : x.toNatClampNeg = k := (by rw [eN, show N = k by omega]; exact nI_clamp (by omega)); rw [hxN, ← h9], by have hxN : x.toNatClampNeg = k := (by rw [eN, show N = k by omega]; exact nI_clamp (by omega)); rw [hxN, ← h9]; exact hR9⟩, fun h => absurd hcd h⟩)
          · exact absurd (show x ≤ nI k by rw [eN]; exact nI_le (a := N) (b := k) (by omega) (by omega)) c_6
        | succ d ih =>
          intro k σ' μ' hk hR9 hK9 h9 H locs hP hD hS ls hl
          refine lv_iload_n hx hb dX3_goRounds_24 rfl (lv_at hl 2 rfl) ?_
          refine lv_iload_n hx hb dX3_goRounds_25 rfl (lv_at hl 1 rfl) ?_
          refine lv_icmp_ge (tgt := 40) hx hb dX3_goRounds_26 (by decide) (fun c_7 => ?_) (fun c_7 => ?_)
          · exact absurd (show nI N ≤ nI k by rw [← eN]; exact c_7) (nI_ge (a := k) (b := N) (by omega) (by omega))
          · refine lv_aload_n hx hb dX3_goRounds_29 rfl (lv_at hl 0 rfl) ?_
            refine lv_iconst (v := 1) hx hb dX3_goRounds_30 (by decide) ?_
            refine co_mVv (As := [.int 1]) (rest := []) S (c_X3_round l G Z b σ' μ' hR9 true) (cwV 1 hts gX3_goRounds_X3_round rfl rfl rfl (by decide +kernel) ⟨Nat.le_of_ble_eq_true rfl, Nat.le_of_ble_eq_true rfl⟩) hK hP hD hS hA (va_recv hK hP (ci := 2) (q0 := 0) rfl rfl) rfl hl.1 rfl (Nat.le_of_ble_eq_true rfl) dX3_goRounds_31 ⟨Nat.zero_le _, Nat.zero_le _⟩ (fun u_8 H locs hu_8 hP hD hS => ?_)
            obtain ⟨hq_8, hk_8⟩ := hu_8
            obtain ⟨σ_8, eσ_8⟩ : ∃ z9, z9 = (lrS true σ' 64) := ⟨_, rfl⟩
            have hq_8 : Rl Z σ_8 u_8 := (by rw [eσ_8]; exact hq_8)
            have hc0_8 : σ_8 0 = (σ' 0) := (by rw [eσ_8]; exact (lrS_0 64))
            have hk_8 := Kp.tr hK9 hk_8
            have hP : pG G (wM G b u_8) H := hP
            have hD : va_D A (wM G b u_8) := hD
            refine lv_iinc (v := (nI (k + 1))) (lv' := [(2, .int (nI (k + 1))), (0, .ref (b 0)), (1, .int x)]) hx hb dX3_goRounds_34 hl (k := 2) rfl (nI_1 k) (by decide) rfl (fun ls hl => ?_)
            refine lv_goto (tgt := 24) hx hb dX3_goRounds_37 (by decide) ?_
            exact ih (k + 1) σ_8 u_8 (by omega) hq_8 hk_8 (by rw [eσ_8, h9]; rfl) _ _ hP hD hS ls (lv_sub hl [1, 2, 0] rfl)
      exact LP N 0 _ _ (Nat.zero_add N) hz_1 Kp.rf rfl _ _ hP hD hS ls (lv_sub hl [1, 2, 0] rfl)
    · refine lv_aload_n hx hb dX3_goRounds_16 rfl (lv_at hl 0 rfl) ?_
      refine lv_iconst (v := 1) hx hb dX3_goRounds_17 (by decide) ?_
      refine co_mVi (As := [.int 1]) (rest := []) S (c_X3_fails l G Z b σ (va_up μ 0 (fun _ => 0)) hz_1 1) (cwV 1 hts gX3_goRounds_X3_fails rfl rfl rfl (by decide +kernel) ⟨Nat.le_of_ble_eq_true rfl, Nat.le_of_ble_eq_true rfl⟩) hK hP hD hS hA (va_recv hK hP (ci := 2) (q0 := 0) rfl rfl) rfl hl.1 rfl (Nat.le_of_ble_eq_true rfl) dX3_goRounds_18 ⟨Nat.zero_le _, Nat.zero_le _⟩ (fun r_9 u_9 H locs hu_9 hP hD hS => ?_)
      obtain ⟨hr_9, hu_9⟩ := hu_9
      subst hr_9
      subst hu_9
      have hP : pG G (wM G b (va_up (va_up μ 0 (fun _ => 0)) 0 (fun _ => 1))) H := hP
      have hD : va_D A (wM G b (va_up (va_up μ 0 (fun _ => 0)) 0 (fun _ => 1))) := hD
      have hz_10 : Rl Z σ (va_up (va_up μ 0 (fun _ => 0)) 0 (fun _ => 1)) := Rl.s0 (f := fun _ => 1) hz_1
      exact co_endI (va_up (va_up μ 0 (fun _ => 0)) 0 (fun _ => 1)) S hr hlocks dX3_goRounds_21 hK hP hD hS (by have hcd : cd1 x 1 20 = 1 := (by simp only [cd1, okR, c_2, c_5, eq_self, Bool.false_eq_true, ite_self, ↓reduceIte]); exact ⟨by rw [hcd]; exact rfl, fun h => absurd (hcd.symm.trans h) (by decide), fun _ => hz_10⟩)

set_option maxRecDepth 20000 in
theorem uX3_X3_hops : ∀ w ∈ u_ws RX3 TX3 13, w ∈ wsX3_hops := by decide +kernel
abbrev rm_X3_hops : Room := { frames := 5, cells := 0, slots := 0, locals := 117 }
set_option maxHeartbeats 4000000 in
set_option maxRecDepth 100000 in
theorem c_X3_hops (l : Launch) (G : cG) (Z : Nat) (b : Nat → Nat) (σ μ : cS) (hR : Rl Z σ μ) (x : Int32) (y : Int32) : MetI l yX3_hops wsX3_hops rm_X3_hops G (wM G b μ) [.ref (b 0), .int x, .int y] (fun u : cS => wM G b u) (fun r u => u 0 0 = nI (cdP σ x y 63) ∧ (cdP σ x y 63 = 0 → r = nI (hpc (σ 0) (σ 1) (σ 3) y 64 x) ∧ Rl Z σ u) ∧ (cdP σ x y 63 ≠ 0 → Rl Z σ u)) := by
  rcases id_or x with ⟨n, hn0, rfl⟩ | ⟨hin0, hon0⟩
  · rcases id_or y with ⟨k, hk0, rfl⟩ | ⟨hik0, hok0⟩
    · cases haln : alv (σ 0) (nI n) with
      | false =>
        refine co_bodyI (cc := cX3_hops) (maxL := 4) (ret := (some .int)) (by decide) rfl (Nat.le_of_ble_eq_true rfl) ?_
        intro p e s m args below meth c S hr hlocks hK A hA hP hD hS ls hl
        have S : CallFix p m c cX3_hops 4 s args wsX3_hops RX3 := S
        obtain ⟨hx, hb, hml, hown, hts⟩ := id S
        have hl : lv_has ls 4 [(0, .ref (b 0)), (1, .int (nI n)), (2, .int (nI k))] := hl
        have uX3 := uX3_X3_hops
        refine lv_aload_n hx hb dX3_hops_0 rfl (lv_at hl 0 rfl) ?_
        refine lv_aload_n hx hb dX3_hops_1 rfl (lv_at hl 0 rfl) ?_
        refine lv_iload_n hx hb dX3_hops_2 rfl (lv_at hl 1 rfl) ?_
        refine lv_iload_n hx hb dX3_hops_3 rfl (lv_at hl 2 rfl) ?_
        refine co_rV (As := [.int (nI n), .int (nI k)]) (rest := [.ref (b 0)]) S (c_X3_refusesLookup l G Z b σ μ hR (nI n) (nI k)) (cwV 2 hts gX3_hops_X3_refusesLookup rfl rfl rfl (by decide +kernel) ⟨Nat.le_of_ble_eq_true rfl, Nat.le_of_ble_eq_true rfl⟩) hK hP (va_recv hK hP (ci := 2) (q0 := 0) rfl rfl) rfl hl.1 rfl (Nat.le_of_ble_eq_true rfl) dX3_hops_4 ⟨Nat.zero_le _, Nat.zero_le _⟩ ?_
        refine co_eq (show nI (cdP σ (nI n) (nI k) 63) = 2 from congrArg nI (show cdP σ (nI n) (nI k) 63 = 2 by simp only [cdP, okR_id hn0, okR_id hk0, haln, eq_self, Bool.false_eq_true, ite_self, ↓reduceIte])) ?_
        refine va_put (D := G.1) (ci := 2) (v := .int 2) (ty := .int) (C := RX3) (T := TX3) (N := 13) hx hb hts uX3 tyX3 tyX3_ok nmX3 hown hK hP hD hS 0 rfl rfl 0 (by decide) (hts (.fieldLink RX3 41 "ChordOverlayModel" "thrown" "I") (by decide +kernel)) (fun _ h9 => h9) rfl (by decide +kernel) rfl rfl (Nat.le_of_ble_eq_true rfl) dX3_hops_7 (fun H locs hP hD hS => ?_)
        have hP : pG G (wM G b (va_up μ 0 (fun _ => 2))) H := hP
        have hD : va_D A (wM G b (va_up μ 0 (fun _ => 2))) := hD
        have hz_1 : Rl Z σ (va_up μ 0 (fun _ => 2)) := Rl.s0 (f := fun _ => 2) hR
        refine lv_aload_n hx hb dX3_hops_10 rfl (lv_at hl 0 rfl) ?_
        refine va_get (D := G.1) (ci := 2) (v := .int 2) (C := RX3) (T := TX3) (N := 13) hx hb hts uX3 hown hK hP 0 rfl rfl 0 (by decide) (hts (.fieldLink RX3 41 "ChordOverlayModel" "thrown" "I") (by decide +kernel)) (fun _ h9 => h9) rfl dX3_hops_11 ?_
        refine lv_if_le (tgt := 19) hx hb dX3_hops_14 (by decide) (fun c_2 => ?_) (fun c_2 => ?_)
        · exact absurd c_2 (by decide)
        · refine lv_iconst (v := 0) hx hb dX3_hops_17 (by decide) ?_
          exact co_endI (va_up μ 0 (fun _ => 2)) S hr hlocks dX3_hops_18 hK hP hD hS (by have hcd : cdP σ (nI n) (nI k) 63 = 2 := (by simp only [cdP, okR_id hn0, okR_id hk0, haln, c_2, eq_self, Bool.false_eq_true, ite_self, ↓reduceIte]); exact ⟨by rw [hcd]; exact rfl, fun h => absurd (hcd.symm.trans h) (by decide), fun _ => hz_1⟩)
      | true =>
        refine co_bodyI (cc := cX3_hops) (maxL := 4) (ret := (some .int)) (by decide) rfl (Nat.le_of_ble_eq_true rfl) ?_
        intro p e s m args below meth c S hr hlocks hK A hA hP hD hS ls hl
        have S : CallFix p m c cX3_hops 4 s args wsX3_hops RX3 := S
        obtain ⟨hx, hb, hml, hown, hts⟩ := id S
        have hl : lv_has ls 4 [(0, .ref (b 0)), (1, .int (nI n)), (2, .int (nI k))] := hl
        have uX3 := uX3_X3_hops
        refine lv_aload_n hx hb dX3_hops_0 rfl (lv_at hl 0 rfl) ?_
        refine lv_aload_n hx hb dX3_hops_1 rfl (lv_at hl 0 rfl) ?_
        refine lv_iload_n hx hb dX3_hops_2 rfl (lv_at hl 1 rfl) ?_
        refine lv_iload_n hx hb dX3_hops_3 rfl (lv_at hl 2 rfl) ?_
        refine co_rV (As := [.int (nI n), .int (nI k)]) (rest := [.ref (b 0)]) S (c_X3_refusesLookup l G Z b σ μ hR (nI n) (nI k)) (cwV 2 hts gX3_hops_X3_refusesLookup rfl rfl rfl (by decide +kernel) ⟨Nat.le_of_ble_eq_true rfl, Nat.le_of_ble_eq_true rfl⟩) hK hP (va_recv hK hP (ci := 2) (q0 := 0) rfl rfl) rfl hl.1 rfl (Nat.le_of_ble_eq_true rfl) dX3_hops_4 ⟨Nat.zero_le _, Nat.zero_le _⟩ ?_
        refine co_eq (show nI (cdP σ (nI n) (nI k) 63) = 0 from congrArg nI (show cdP σ (nI n) (nI k) 63 = 0 by simp only [cdP, okR_id hn0, okR_id hk0, haln, eq_self, Bool.false_eq_true, ite_self, ↓reduceIte])) ?_
        refine va_put (D := G.1) (ci := 2) (v := .int 0) (ty := .int) (C := RX3) (T := TX3) (N := 13) hx hb hts uX3 tyX3 tyX3_ok nmX3 hown hK hP hD hS 0 rfl rfl 0 (by decide) (hts (.fieldLink RX3 41 "ChordOverlayModel" "thrown" "I") (by decide +kernel)) (fun _ h9 => h9) rfl (by decide +kernel) rfl rfl (Nat.le_of_ble_eq_true rfl) dX3_hops_7 (fun H locs hP hD hS => ?_)
        have hP : pG G (wM G b (va_up μ 0 (fun _ => 0))) H := hP
        have hD : va_D A (wM G b (va_up μ 0 (fun _ => 0))) := hD
        have hz_1 : Rl Z σ (va_up μ 0 (fun _ => 0)) := Rl.s0 (f := fun _ => 0) hR
        refine lv_aload_n hx hb dX3_hops_10 rfl (lv_at hl 0 rfl) ?_
        refine va_get (D := G.1) (ci := 2) (v := .int 0) (C := RX3) (T := TX3) (N := 13) hx hb hts uX3 hown hK hP 0 rfl rfl 0 (by decide) (hts (.fieldLink RX3 41 "ChordOverlayModel" "thrown" "I") (by decide +kernel)) (fun _ h9 => h9) rfl dX3_hops_11 ?_
        refine lv_if_le (tgt := 19) hx hb dX3_hops_14 (by decide) (fun c_2 => ?_) (fun c_2 => ?_)
        · refine lv_aload_n hx hb dX3_hops_19 rfl (lv_at hl 0 rfl) ?_
          refine lv_iload_n hx hb dX3_hops_20 rfl (lv_at hl 1 rfl) ?_
          refine lv_iload_n hx hb dX3_hops_21 rfl (lv_at hl 2 rfl) ?_
          obtain ⟨j_3, ej_3, lj_3⟩ := Lv.fn hz_1 ⟨hn0, haln⟩ hk0
          refine co_mVi (As := [.int (nI n), .int (nI k)]) (rest := []) S (c_X3_find l G Z b σ (va_up μ 0 (fun _ => 0)) hz_1 n k ⟨hn0, haln⟩ hk0) (cwV 2 hts gX3_hops_X3_find rfl rfl rfl (by decide +kernel) ⟨Nat.le_of_ble_eq_true rfl, Nat.le_of_ble_eq_true rfl⟩) hK hP hD hS hA (va_recv hK hP (ci := 2) (q0 := 0) rfl rfl) rfl hl.1 rfl (Nat.le_of_ble_eq_true rfl) dX3_hops_22 ⟨Nat.zero_le _, Nat.zero_le _⟩ (fun r_4 u_4 H locs hu_4 hP hD hS => ?_)
          obtain ⟨hr_4, hq_4, hk_4, hp_4, hw_4⟩ := hu_4
          have hr_4 : r_4 = nI j_3 := hr_4.trans ej_3
          subst hr_4
          have hP : pG G (wM G b u_4) H := hP
          have hD : va_D A (wM G b u_4) := hD
          refine lv_istore_n (lv' := [(3, .int (nI j_3)), (0, .ref (b 0)), (1, .int (nI n)), (2, .int (nI k))]) hx hb dX3_hops_25 rfl hl (by decide) rfl (fun ls hl => ?_)
          refine lv_aload_n hx hb dX3_hops_26 rfl (lv_at hl 1 rfl) ?_
          refine va_get (D := G.1) (ci := 2) (v := .int (u_4 9 0)) (C := RX3) (T := TX3) (N := 13) hx hb hts uX3 hown hK hP 0 rfl rfl 9 (by decide) (hts (.fieldLink RX3 60 "ChordOverlayModel" "hopped" "I") (by decide +kernel)) (fun _ h9 => h9) rfl dX3_hops_27 ?_
          exact co_endI u_4 S hr hlocks dX3_hops_30 hK hP hD hS (by have hcd : cdP σ (nI n) (nI k) 63 = 0 := (by simp only [cdP, okR_id hn0, okR_id hk0, haln, c_2, eq_self, Bool.false_eq_true, ite_self, ↓reduceIte]); exact ⟨by rw [hcd]; exact (congrFun hk_4.1 0), fun _ => ⟨by exact hp_4, by exact hq_4⟩, fun h => absurd hcd h⟩)
        · exact absurd (by decide) c_2
    · cases haln : alv (σ 0) (nI n) with
      | false =>
        refine co_bodyI (cc := cX3_hops) (maxL := 4) (ret := (some .int)) (by decide) rfl (Nat.le_of_ble_eq_true rfl) ?_
        intro p e s m args below meth c S hr hlocks hK A hA hP hD hS ls hl
        have S : CallFix p m c cX3_hops 4 s args wsX3_hops RX3 := S
        obtain ⟨hx, hb, hml, hown, hts⟩ := id S
        have hl : lv_has ls 4 [(0, .ref (b 0)), (1, .int (nI n)), (2, .int y)] := hl
        have uX3 := uX3_X3_hops
        refine lv_aload_n hx hb dX3_hops_0 rfl (lv_at hl 0 rfl) ?_
        refine lv_aload_n hx hb dX3_hops_1 rfl (lv_at hl 0 rfl) ?_
        refine lv_iload_n hx hb dX3_hops_2 rfl (lv_at hl 1 rfl) ?_
        refine lv_iload_n hx hb dX3_hops_3 rfl (lv_at hl 2 rfl) ?_
        refine co_rV (As := [.int (nI n), .int y]) (rest := [.ref (b 0)]) S (c_X3_refusesLookup l G Z b σ μ hR (nI n) y) (cwV 2 hts gX3_hops_X3_refusesLookup rfl rfl rfl (by decide +kernel) ⟨Nat.le_of_ble_eq_true rfl, Nat.le_of_ble_eq_true rfl⟩) hK hP (va_recv hK hP (ci := 2) (q0 := 0) rfl rfl) rfl hl.1 rfl (Nat.le_of_ble_eq_true rfl) dX3_hops_4 ⟨Nat.zero_le _, Nat.zero_le _⟩ ?_
        refine co_eq (show nI (cdP σ (nI n) y 63) = 1 from congrArg nI (show cdP σ (nI n) y 63 = 1 by simp only [cdP, okR_id hn0, hok0, haln, eq_self, Bool.false_eq_true, ite_self, ↓reduceIte])) ?_
        refine va_put (D := G.1) (ci := 2) (v := .int 1) (ty := .int) (C := RX3) (T := TX3) (N := 13) hx hb hts uX3 tyX3 tyX3_ok nmX3 hown hK hP hD hS 0 rfl rfl 0 (by decide) (hts (.fieldLink RX3 41 "ChordOverlayModel" "thrown" "I") (by decide +kernel)) (fun _ h9 => h9) rfl (by decide +kernel) rfl rfl (Nat.le_of_ble_eq_true rfl) dX3_hops_7 (fun H locs hP hD hS => ?_)
        have hP : pG G (wM G b (va_up μ 0 (fun _ => 1))) H := hP
        have hD : va_D A (wM G b (va_up μ 0 (fun _ => 1))) := hD
        have hz_1 : Rl Z σ (va_up μ 0 (fun _ => 1)) := Rl.s0 (f := fun _ => 1) hR
        refine lv_aload_n hx hb dX3_hops_10 rfl (lv_at hl 0 rfl) ?_
        refine va_get (D := G.1) (ci := 2) (v := .int 1) (C := RX3) (T := TX3) (N := 13) hx hb hts uX3 hown hK hP 0 rfl rfl 0 (by decide) (hts (.fieldLink RX3 41 "ChordOverlayModel" "thrown" "I") (by decide +kernel)) (fun _ h9 => h9) rfl dX3_hops_11 ?_
        refine lv_if_le (tgt := 19) hx hb dX3_hops_14 (by decide) (fun c_2 => ?_) (fun c_2 => ?_)
        · exact absurd c_2 (by decide)
        · refine lv_iconst (v := 0) hx hb dX3_hops_17 (by decide) ?_
          exact co_endI (va_up μ 0 (fun _ => 1)) S hr hlocks dX3_hops_18 hK hP hD hS (by have hcd : cdP σ (nI n) y 63 = 1 := (by simp only [cdP, okR_id hn0, hok0, haln, c_2, eq_self, Bool.false_eq_true, ite_self, ↓reduceIte]); exact ⟨by rw [hcd]; exact rfl, fun h => absurd (hcd.symm.trans h) (by decide), fun _ => hz_1⟩)
      | true =>
        refine co_bodyI (cc := cX3_hops) (maxL := 4) (ret := (some .int)) (by decide) rfl (Nat.le_of_ble_eq_true rfl) ?_
        intro p e s m args below meth c S hr hlocks hK A hA hP hD hS ls hl
        have S : CallFix p m c cX3_hops 4 s args wsX3_hops RX3 := S
        obtain ⟨hx, hb, hml, hown, hts⟩ := id S
        have hl : lv_has ls 4 [(0, .ref (b 0)), (1, .int (nI n)), (2, .int y)] := hl
        have uX3 := uX3_X3_hops
        refine lv_aload_n hx hb dX3_hops_0 rfl (lv_at hl 0 rfl) ?_
        refine lv_aload_n hx hb dX3_hops_1 rfl (lv_at hl 0 rfl) ?_
        refine lv_iload_n hx hb dX3_hops_2 rfl (lv_at hl 1 rfl) ?_
        refine lv_iload_n hx hb dX3_hops_3 rfl (lv_at hl 2 rfl) ?_
        refine co_rV (As := [.int (nI n), .int y]) (rest := [.ref (b 0)]) S (c_X3_refusesLookup l G Z b σ μ hR (nI n) y) (cwV 2 hts gX3_hops_X3_refusesLookup rfl rfl rfl (by decide +kernel) ⟨Nat.le_of_ble_eq_true rfl, Nat.le_of_ble_eq_true rfl⟩) hK hP (va_recv hK hP (ci := 2) (q0 := 0) rfl rfl) rfl hl.1 rfl (Nat.le_of_ble_eq_true rfl) dX3_hops_4 ⟨Nat.zero_le _, Nat.zero_le _⟩ ?_
        refine co_eq (show nI (cdP σ (nI n) y 63) = 1 from congrArg nI (show cdP σ (nI n) y 63 = 1 by simp only [cdP, okR_id hn0, hok0, haln, eq_self, Bool.false_eq_true, ite_self, ↓reduceIte])) ?_
        refine va_put (D := G.1) (ci := 2) (v := .int 1) (ty := .int) (C := RX3) (T := TX3) (N := 13) hx hb hts uX3 tyX3 tyX3_ok nmX3 hown hK hP hD hS 0 rfl rfl 0 (by decide) (hts (.fieldLink RX3 41 "ChordOverlayModel" "thrown" "I") (by decide +kernel)) (fun _ h9 => h9) rfl (by decide +kernel) rfl rfl (Nat.le_of_ble_eq_true rfl) dX3_hops_7 (fun H locs hP hD hS => ?_)
        have hP : pG G (wM G b (va_up μ 0 (fun _ => 1))) H := hP
        have hD : va_D A (wM G b (va_up μ 0 (fun _ => 1))) := hD
        have hz_1 : Rl Z σ (va_up μ 0 (fun _ => 1)) := Rl.s0 (f := fun _ => 1) hR
        refine lv_aload_n hx hb dX3_hops_10 rfl (lv_at hl 0 rfl) ?_
        refine va_get (D := G.1) (ci := 2) (v := .int 1) (C := RX3) (T := TX3) (N := 13) hx hb hts uX3 hown hK hP 0 rfl rfl 0 (by decide) (hts (.fieldLink RX3 41 "ChordOverlayModel" "thrown" "I") (by decide +kernel)) (fun _ h9 => h9) rfl dX3_hops_11 ?_
        refine lv_if_le (tgt := 19) hx hb dX3_hops_14 (by decide) (fun c_2 => ?_) (fun c_2 => ?_)
        · exact absurd c_2 (by decide)
        · refine lv_iconst (v := 0) hx hb dX3_hops_17 (by decide) ?_
          exact co_endI (va_up μ 0 (fun _ => 1)) S hr hlocks dX3_hops_18 hK hP hD hS (by have hcd : cdP σ (nI n) y 63 = 1 := (by simp only [cdP, okR_id hn0, hok0, haln, c_2, eq_self, Bool.false_eq_true, ite_self, ↓reduceIte]); exact ⟨by rw [hcd]; exact rfl, fun h => absurd (hcd.symm.trans h) (by decide), fun _ => hz_1⟩)
  · rcases id_or y with ⟨k, hk0, rfl⟩ | ⟨hik0, hok0⟩
    · refine co_bodyI (cc := cX3_hops) (maxL := 4) (ret := (some .int)) (by decide) rfl (Nat.le_of_ble_eq_true rfl) ?_
      intro p e s m args below meth c S hr hlocks hK A hA hP hD hS ls hl
      have S : CallFix p m c cX3_hops 4 s args wsX3_hops RX3 := S
      obtain ⟨hx, hb, hml, hown, hts⟩ := id S
      have hl : lv_has ls 4 [(0, .ref (b 0)), (1, .int x), (2, .int (nI k))] := hl
      have uX3 := uX3_X3_hops
      refine lv_aload_n hx hb dX3_hops_0 rfl (lv_at hl 0 rfl) ?_
      refine lv_aload_n hx hb dX3_hops_1 rfl (lv_at hl 0 rfl) ?_
      refine lv_iload_n hx hb dX3_hops_2 rfl (lv_at hl 1 rfl) ?_
      refine lv_iload_n hx hb dX3_hops_3 rfl (lv_at hl 2 rfl) ?_
      refine co_rV (As := [.int x, .int (nI k)]) (rest := [.ref (b 0)]) S (c_X3_refusesLookup l G Z b σ μ hR x (nI k)) (cwV 2 hts gX3_hops_X3_refusesLookup rfl rfl rfl (by decide +kernel) ⟨Nat.le_of_ble_eq_true rfl, Nat.le_of_ble_eq_true rfl⟩) hK hP (va_recv hK hP (ci := 2) (q0 := 0) rfl rfl) rfl hl.1 rfl (Nat.le_of_ble_eq_true rfl) dX3_hops_4 ⟨Nat.zero_le _, Nat.zero_le _⟩ ?_
      refine co_eq (show nI (cdP σ x (nI k) 63) = 1 from congrArg nI (show cdP σ x (nI k) 63 = 1 by simp only [cdP, hon0, okR_id hk0, eq_self, Bool.false_eq_true, ite_self, ↓reduceIte])) ?_
      refine va_put (D := G.1) (ci := 2) (v := .int 1) (ty := .int) (C := RX3) (T := TX3) (N := 13) hx hb hts uX3 tyX3 tyX3_ok nmX3 hown hK hP hD hS 0 rfl rfl 0 (by decide) (hts (.fieldLink RX3 41 "ChordOverlayModel" "thrown" "I") (by decide +kernel)) (fun _ h9 => h9) rfl (by decide +kernel) rfl rfl (Nat.le_of_ble_eq_true rfl) dX3_hops_7 (fun H locs hP hD hS => ?_)
      have hP : pG G (wM G b (va_up μ 0 (fun _ => 1))) H := hP
      have hD : va_D A (wM G b (va_up μ 0 (fun _ => 1))) := hD
      have hz_1 : Rl Z σ (va_up μ 0 (fun _ => 1)) := Rl.s0 (f := fun _ => 1) hR
      refine lv_aload_n hx hb dX3_hops_10 rfl (lv_at hl 0 rfl) ?_
      refine va_get (D := G.1) (ci := 2) (v := .int 1) (C := RX3) (T := TX3) (N := 13) hx hb hts uX3 hown hK hP 0 rfl rfl 0 (by decide) (hts (.fieldLink RX3 41 "ChordOverlayModel" "thrown" "I") (by decide +kernel)) (fun _ h9 => h9) rfl dX3_hops_11 ?_
      refine lv_if_le (tgt := 19) hx hb dX3_hops_14 (by decide) (fun c_2 => ?_) (fun c_2 => ?_)
      · exact absurd c_2 (by decide)
      · refine lv_iconst (v := 0) hx hb dX3_hops_17 (by decide) ?_
        exact co_endI (va_up μ 0 (fun _ => 1)) S hr hlocks dX3_hops_18 hK hP hD hS (by have hcd : cdP σ x (nI k) 63 = 1 := (by simp only [cdP, hon0, okR_id hk0, c_2, eq_self, Bool.false_eq_true, ite_self, ↓reduceIte]); exact ⟨by rw [hcd]; exact rfl, fun h => absurd (hcd.symm.trans h) (by decide), fun _ => hz_1⟩)
    · refine co_bodyI (cc := cX3_hops) (maxL := 4) (ret := (some .int)) (by decide) rfl (Nat.le_of_ble_eq_true rfl) ?_
      intro p e s m args below meth c S hr hlocks hK A hA hP hD hS ls hl
      have S : CallFix p m c cX3_hops 4 s args wsX3_hops RX3 := S
      obtain ⟨hx, hb, hml, hown, hts⟩ := id S
      have hl : lv_has ls 4 [(0, .ref (b 0)), (1, .int x), (2, .int y)] := hl
      have uX3 := uX3_X3_hops
      refine lv_aload_n hx hb dX3_hops_0 rfl (lv_at hl 0 rfl) ?_
      refine lv_aload_n hx hb dX3_hops_1 rfl (lv_at hl 0 rfl) ?_
      refine lv_iload_n hx hb dX3_hops_2 rfl (lv_at hl 1 rfl) ?_
      refine lv_iload_n hx hb dX3_hops_3 rfl (lv_at hl 2 rfl) ?_
      refine co_rV (As := [.int x, .int y]) (rest := [.ref (b 0)]) S (c_X3_refusesLookup l G Z b σ μ hR x y) (cwV 2 hts gX3_hops_X3_refusesLookup rfl rfl rfl (by decide +kernel) ⟨Nat.le_of_ble_eq_true rfl, Nat.le_of_ble_eq_true rfl⟩) hK hP (va_recv hK hP (ci := 2) (q0 := 0) rfl rfl) rfl hl.1 rfl (Nat.le_of_ble_eq_true rfl) dX3_hops_4 ⟨Nat.zero_le _, Nat.zero_le _⟩ ?_
      refine co_eq (show nI (cdP σ x y 63) = 1 from congrArg nI (show cdP σ x y 63 = 1 by simp only [cdP, hon0, hok0, eq_self, Bool.false_eq_true, ite_self, ↓reduceIte])) ?_
      refine va_put (D := G.1) (ci := 2) (v := .int 1) (ty := .int) (C := RX3) (T := TX3) (N := 13) hx hb hts uX3 tyX3 tyX3_ok nmX3 hown hK hP hD hS 0 rfl rfl 0 (by decide) (hts (.fieldLink RX3 41 "ChordOverlayModel" "thrown" "I") (by decide +kernel)) (fun _ h9 => h9) rfl (by decide +kernel) rfl rfl (Nat.le_of_ble_eq_true rfl) dX3_hops_7 (fun H locs hP hD hS => ?_)
      have hP : pG G (wM G b (va_up μ 0 (fun _ => 1))) H := hP
      have hD : va_D A (wM G b (va_up μ 0 (fun _ => 1))) := hD
      have hz_1 : Rl Z σ (va_up μ 0 (fun _ => 1)) := Rl.s0 (f := fun _ => 1) hR
      refine lv_aload_n hx hb dX3_hops_10 rfl (lv_at hl 0 rfl) ?_
      refine va_get (D := G.1) (ci := 2) (v := .int 1) (C := RX3) (T := TX3) (N := 13) hx hb hts uX3 hown hK hP 0 rfl rfl 0 (by decide) (hts (.fieldLink RX3 41 "ChordOverlayModel" "thrown" "I") (by decide +kernel)) (fun _ h9 => h9) rfl dX3_hops_11 ?_
      refine lv_if_le (tgt := 19) hx hb dX3_hops_14 (by decide) (fun c_2 => ?_) (fun c_2 => ?_)
      · exact absurd c_2 (by decide)
      · refine lv_iconst (v := 0) hx hb dX3_hops_17 (by decide) ?_
        exact co_endI (va_up μ 0 (fun _ => 1)) S hr hlocks dX3_hops_18 hK hP hD hS (by have hcd : cdP σ x y 63 = 1 := (by simp only [cdP, hon0, hok0, c_2, eq_self, Bool.false_eq_true, ite_self, ↓reduceIte]); exact ⟨by rw [hcd]; exact rfl, fun h => absurd (hcd.symm.trans h) (by decide), fun _ => hz_1⟩)

set_option maxRecDepth 20000 in
theorem uX3_X3_hopAt : ∀ w ∈ u_ws RX3 TX3 13, w ∈ wsX3_hopAt := by decide +kernel
abbrev rm_X3_hopAt : Room := { frames := 5, cells := 0, slots := 0, locals := 117 }
set_option maxHeartbeats 4000000 in
set_option maxRecDepth 100000 in
theorem c_X3_hopAt (l : Launch) (G : cG) (Z : Nat) (b : Nat → Nat) (σ μ : cS) (hR : Rl Z σ μ) (x : Int32) (y : Int32) (h : Int32) : MetI l yX3_hopAt wsX3_hopAt rm_X3_hopAt G (wM G b μ) [.ref (b 0), .int x, .int y, .int h] (fun u : cS => wM G b u) (fun r u => u 0 0 = nI (cdH σ x y h) ∧ (cdH σ x y h = 0 → r = pth (σ 0) (σ 1) (σ 3) y x h.toNatClampNeg ∧ Rl Z σ u) ∧ (cdH σ x y h ≠ 0 → Rl Z σ u)) := by
  rcases id_or x with ⟨n, hn0, rfl⟩ | ⟨hin0, hon0⟩
  · rcases id_or y with ⟨k, hk0, rfl⟩ | ⟨hik0, hok0⟩
    · cases haln : alv (σ 0) (nI n) with
      | false =>
        refine co_bodyI (cc := cX3_hopAt) (maxL := 5) (ret := (some .int)) (by decide) rfl (Nat.le_of_ble_eq_true rfl) ?_
        intro p e s m args below meth c S hr hlocks hK A hA hP hD hS ls hl
        have S : CallFix p m c cX3_hopAt 5 s args wsX3_hopAt RX3 := S
        obtain ⟨hx, hb, hml, hown, hts⟩ := id S
        have hl : lv_has ls 5 [(0, .ref (b 0)), (1, .int (nI n)), (2, .int (nI k)), (3, .int h)] := hl
        have uX3 := uX3_X3_hopAt
        refine lv_aload_n hx hb dX3_hopAt_0 rfl (lv_at hl 0 rfl) ?_
        refine lv_aload_n hx hb dX3_hopAt_1 rfl (lv_at hl 0 rfl) ?_
        refine lv_iload_n hx hb dX3_hopAt_2 rfl (lv_at hl 1 rfl) ?_
        refine lv_iload_n hx hb dX3_hopAt_3 rfl (lv_at hl 2 rfl) ?_
        refine co_rV (As := [.int (nI n), .int (nI k)]) (rest := [.ref (b 0)]) S (c_X3_refusesLookup l G Z b σ μ hR (nI n) (nI k)) (cwV 2 hts gX3_hopAt_X3_refusesLookup rfl rfl rfl (by decide +kernel) ⟨Nat.le_of_ble_eq_true rfl, Nat.le_of_ble_eq_true rfl⟩) hK hP (va_recv hK hP (ci := 2) (q0 := 0) rfl rfl) rfl hl.1 rfl (Nat.le_of_ble_eq_true rfl) dX3_hopAt_4 ⟨Nat.zero_le _, Nat.zero_le _⟩ ?_
        refine co_eq (show nI (cdP σ (nI n) (nI k) 63) = 2 from congrArg nI (show cdP σ (nI n) (nI k) 63 = 2 by simp only [cdP, okR_id hn0, okR_id hk0, haln, eq_self, Bool.false_eq_true, ite_self, ↓reduceIte])) ?_
        refine va_put (D := G.1) (ci := 2) (v := .int 2) (ty := .int) (C := RX3) (T := TX3) (N := 13) hx hb hts uX3 tyX3 tyX3_ok nmX3 hown hK hP hD hS 0 rfl rfl 0 (by decide) (hts (.fieldLink RX3 41 "ChordOverlayModel" "thrown" "I") (by decide +kernel)) (fun _ h9 => h9) rfl (by decide +kernel) rfl rfl (Nat.le_of_ble_eq_true rfl) dX3_hopAt_7 (fun H locs hP hD hS => ?_)
        have hP : pG G (wM G b (va_up μ 0 (fun _ => 2))) H := hP
        have hD : va_D A (wM G b (va_up μ 0 (fun _ => 2))) := hD
        have hz_1 : Rl Z σ (va_up μ 0 (fun _ => 2)) := Rl.s0 (f := fun _ => 2) hR
        refine lv_aload_n hx hb dX3_hopAt_10 rfl (lv_at hl 0 rfl) ?_
        refine va_get (D := G.1) (ci := 2) (v := .int 2) (C := RX3) (T := TX3) (N := 13) hx hb hts uX3 hown hK hP 0 rfl rfl 0 (by decide) (hts (.fieldLink RX3 41 "ChordOverlayModel" "thrown" "I") (by decide +kernel)) (fun _ h9 => h9) rfl dX3_hopAt_11 ?_
        refine lv_if_le (tgt := 19) hx hb dX3_hopAt_14 (by decide) (fun c_2 => ?_) (fun c_2 => ?_)
        · exact absurd c_2 (by decide)
        · refine lv_iconst (v := 0) hx hb dX3_hopAt_17 (by decide) ?_
          exact co_endI (va_up μ 0 (fun _ => 2)) S hr hlocks dX3_hopAt_18 hK hP hD hS (by have hcd : cdH σ (nI n) (nI k) h = 2 := (cdH_b (by simp only [cdP, okR_id hn0, okR_id hk0, haln, eq_self, Bool.false_eq_true, ite_self, ↓reduceIte])); exact ⟨by rw [hcd]; exact rfl, fun h => absurd (hcd.symm.trans h) (by decide), fun _ => hz_1⟩)
      | true =>
        refine co_bodyI (cc := cX3_hopAt) (maxL := 5) (ret := (some .int)) (by decide) rfl (Nat.le_of_ble_eq_true rfl) ?_
        intro p e s m args below meth c S hr hlocks hK A hA hP hD hS ls hl
        have S : CallFix p m c cX3_hopAt 5 s args wsX3_hopAt RX3 := S
        obtain ⟨hx, hb, hml, hown, hts⟩ := id S
        have hl : lv_has ls 5 [(0, .ref (b 0)), (1, .int (nI n)), (2, .int (nI k)), (3, .int h)] := hl
        have uX3 := uX3_X3_hopAt
        refine lv_aload_n hx hb dX3_hopAt_0 rfl (lv_at hl 0 rfl) ?_
        refine lv_aload_n hx hb dX3_hopAt_1 rfl (lv_at hl 0 rfl) ?_
        refine lv_iload_n hx hb dX3_hopAt_2 rfl (lv_at hl 1 rfl) ?_
        refine lv_iload_n hx hb dX3_hopAt_3 rfl (lv_at hl 2 rfl) ?_
        refine co_rV (As := [.int (nI n), .int (nI k)]) (rest := [.ref (b 0)]) S (c_X3_refusesLookup l G Z b σ μ hR (nI n) (nI k)) (cwV 2 hts gX3_hopAt_X3_refusesLookup rfl rfl rfl (by decide +kernel) ⟨Nat.le_of_ble_eq_true rfl, Nat.le_of_ble_eq_true rfl⟩) hK hP (va_recv hK hP (ci := 2) (q0 := 0) rfl rfl) rfl hl.1 rfl (Nat.le_of_ble_eq_true rfl) dX3_hopAt_4 ⟨Nat.zero_le _, Nat.zero_le _⟩ ?_
        refine co_eq (show nI (cdP σ (nI n) (nI k) 63) = 0 from congrArg nI (show cdP σ (nI n) (nI k) 63 = 0 by simp only [cdP, okR_id hn0, okR_id hk0, haln, eq_self, Bool.false_eq_true, ite_self, ↓reduceIte])) ?_
        refine va_put (D := G.1) (ci := 2) (v := .int 0) (ty := .int) (C := RX3) (T := TX3) (N := 13) hx hb hts uX3 tyX3 tyX3_ok nmX3 hown hK hP hD hS 0 rfl rfl 0 (by decide) (hts (.fieldLink RX3 41 "ChordOverlayModel" "thrown" "I") (by decide +kernel)) (fun _ h9 => h9) rfl (by decide +kernel) rfl rfl (Nat.le_of_ble_eq_true rfl) dX3_hopAt_7 (fun H locs hP hD hS => ?_)
        have hP : pG G (wM G b (va_up μ 0 (fun _ => 0))) H := hP
        have hD : va_D A (wM G b (va_up μ 0 (fun _ => 0))) := hD
        have hz_1 : Rl Z σ (va_up μ 0 (fun _ => 0)) := Rl.s0 (f := fun _ => 0) hR
        refine lv_aload_n hx hb dX3_hopAt_10 rfl (lv_at hl 0 rfl) ?_
        refine va_get (D := G.1) (ci := 2) (v := .int 0) (C := RX3) (T := TX3) (N := 13) hx hb hts uX3 hown hK hP 0 rfl rfl 0 (by decide) (hts (.fieldLink RX3 41 "ChordOverlayModel" "thrown" "I") (by decide +kernel)) (fun _ h9 => h9) rfl dX3_hopAt_11 ?_
        refine lv_if_le (tgt := 19) hx hb dX3_hopAt_14 (by decide) (fun c_2 => ?_) (fun c_2 => ?_)
        · refine lv_aload_n hx hb dX3_hopAt_19 rfl (lv_at hl 0 rfl) ?_
          refine lv_iload_n hx hb dX3_hopAt_20 rfl (lv_at hl 1 rfl) ?_
          refine lv_iload_n hx hb dX3_hopAt_21 rfl (lv_at hl 2 rfl) ?_
          obtain ⟨j_3, ej_3, lj_3⟩ := Lv.fn hz_1 ⟨hn0, haln⟩ hk0
          refine co_mVi (As := [.int (nI n), .int (nI k)]) (rest := []) S (c_X3_find l G Z b σ (va_up μ 0 (fun _ => 0)) hz_1 n k ⟨hn0, haln⟩ hk0) (cwV 2 hts gX3_hopAt_X3_find rfl rfl rfl (by decide +kernel) ⟨Nat.le_of_ble_eq_true rfl, Nat.le_of_ble_eq_true rfl⟩) hK hP hD hS hA (va_recv hK hP (ci := 2) (q0 := 0) rfl rfl) rfl hl.1 rfl (Nat.le_of_ble_eq_true rfl) dX3_hopAt_22 ⟨Nat.zero_le _, Nat.zero_le _⟩ (fun r_4 u_4 H locs hu_4 hP hD hS => ?_)
          obtain ⟨hr_4, hq_4, hk_4, hp_4, hw_4⟩ := hu_4
          have hr_4 : r_4 = nI j_3 := hr_4.trans ej_3
          subst hr_4
          have hP : pG G (wM G b u_4) H := hP
          have hD : va_D A (wM G b u_4) := hD
          refine lv_istore (lv' := [(4, .int (nI j_3)), (0, .ref (b 0)), (1, .int (nI n)), (2, .int (nI k)), (3, .int h)]) hx hb dX3_hopAt_25 hl (by decide) rfl (fun ls hl => ?_)
          refine lv_iload_n hx hb dX3_hopAt_27 rfl (lv_at hl 4 rfl) ?_
          refine lv_if_lt (tgt := 48) hx hb dX3_hopAt_28 (by decide) (fun c_5 => ?_) (fun c_5 => ?_)
          · refine lv_aload_n hx hb dX3_hopAt_48 rfl (lv_at hl 1 rfl) ?_
            refine lv_iconst (v := 3) hx hb dX3_hopAt_49 (by decide) ?_
            refine co_mVi (As := [.int 3]) (rest := []) S (c_X3_fails l G Z b σ u_4 hq_4 3) (cwV 1 hts gX3_hopAt_X3_fails rfl rfl rfl (by decide +kernel) ⟨Nat.le_of_ble_eq_true rfl, Nat.le_of_ble_eq_true rfl⟩) hK hP hD hS hA (va_recv hK hP (ci := 2) (q0 := 0) rfl rfl) rfl hl.1 rfl (Nat.le_of_ble_eq_true rfl) dX3_hopAt_50 ⟨Nat.zero_le _, Nat.zero_le _⟩ (fun r_6 u_6 H locs hu_6 hP hD hS => ?_)
            obtain ⟨hr_6, hu_6⟩ := hu_6
            subst hr_6
            subst hu_6
            have hP : pG G (wM G b (va_up u_4 0 (fun _ => 3))) H := hP
            have hD : va_D A (wM G b (va_up u_4 0 (fun _ => 3))) := hD
            have hz_7 : Rl Z σ (va_up u_4 0 (fun _ => 3)) := Rl.s0 (f := fun _ => 3) hq_4
            exact co_endI (va_up u_4 0 (fun _ => 3)) S hr hlocks dX3_hopAt_53 hK hP hD hS (by have hcd : cdH σ (nI n) (nI k) h = 3 := (cdH_1 (by simp only [cdP, okR_id hn0, okR_id hk0, haln, eq_self, Bool.false_eq_true, ite_self, ↓reduceIte]) c_5); exact ⟨by rw [hcd]; exact rfl, fun h => absurd (hcd.symm.trans h) (by decide), fun _ => hz_7⟩)
          · refine lv_iload_n hx hb dX3_hopAt_31 rfl (lv_at hl 4 rfl) ?_
            refine lv_aload_n hx hb dX3_hopAt_32 rfl (lv_at hl 1 rfl) ?_
            refine va_get (D := G.1) (ci := 2) (v := .int (u_4 9 0)) (C := RX3) (T := TX3) (N := 13) hx hb hts uX3 hown hK hP 0 rfl rfl 9 (by decide) (hts (.fieldLink RX3 60 "ChordOverlayModel" "hopped" "I") (by decide +kernel)) (fun _ h9 => h9) rfl dX3_hopAt_33 ?_
            refine co_eq (hp_4) ?_
            refine lv_icmp_gt (tgt := 48) hx hb dX3_hopAt_36 (by decide) (fun c_8 => ?_) (fun c_8 => ?_)
            · refine lv_aload_n hx hb dX3_hopAt_48 rfl (lv_at hl 1 rfl) ?_
              refine lv_iconst (v := 3) hx hb dX3_hopAt_49 (by decide) ?_
              refine co_mVi (As := [.int 3]) (rest := []) S (c_X3_fails l G Z b σ u_4 hq_4 3) (cwV 1 hts gX3_hopAt_X3_fails rfl rfl rfl (by decide +kernel) ⟨Nat.le_of_ble_eq_true rfl, Nat.le_of_ble_eq_true rfl⟩) hK hP hD hS hA (va_recv hK hP (ci := 2) (q0 := 0) rfl rfl) rfl hl.1 rfl (Nat.le_of_ble_eq_true rfl) dX3_hopAt_50 ⟨Nat.zero_le _, Nat.zero_le _⟩ (fun r_9 u_9 H locs hu_9 hP hD hS => ?_)
              obtain ⟨hr_9, hu_9⟩ := hu_9
              subst hr_9
              subst hu_9
              have hP : pG G (wM G b (va_up u_4 0 (fun _ => 3))) H := hP
              have hD : va_D A (wM G b (va_up u_4 0 (fun _ => 3))) := hD
              have hz_10 : Rl Z σ (va_up u_4 0 (fun _ => 3)) := Rl.s0 (f := fun _ => 3) hq_4
              exact co_endI (va_up u_4 0 (fun _ => 3)) S hr hlocks dX3_hopAt_53 hK hP hD hS (by have hcd : cdH σ (nI n) (nI k) h = 3 := (cdH_2 (by simp only [cdP, okR_id hn0, okR_id hk0, haln, eq_self, Bool.false_eq_true, ite_self, ↓reduceIte]) c_5 c_8); exact ⟨by rw [hcd]; exact rfl, fun h => absurd (hcd.symm.trans h) (by decide), fun _ => hz_10⟩)
            · refine lv_aload_n hx hb dX3_hopAt_39 rfl (lv_at hl 1 rfl) ?_
              refine va_get (D := G.1) (ci := 2) (v := .ref (b 7)) (C := RX3) (T := TX3) (N := 13) hx hb hts uX3 hown hK hP 0 rfl rfl 8 (by decide) (hts (.fieldLink RX3 29 "ChordOverlayModel" "way" "[I") (by decide +kernel)) (fun _ h9 => h9) rfl dX3_hopAt_40 ?_
              refine lv_iload_n hx hb dX3_hopAt_43 rfl (lv_at hl 4 rfl) ?_
              refine va_iald hx hb hK hP 7 0 rfl rfl (vin_of2 c_5 (ha_65 c_5 c_8 rfl (Lv.hp hR ⟨hn0, haln⟩ hk0)) (by decide)) dX3_hopAt_44 ?_
              refine lv_goto (tgt := 53) hx hb dX3_hopAt_45 (by decide) ?_
              exact co_endI u_4 S hr hlocks dX3_hopAt_53 hK hP hD hS (by have hcd : cdH σ (nI n) (nI k) h = 0 := (cdH_3 (by simp only [cdP, okR_id hn0, okR_id hk0, haln, eq_self, Bool.false_eq_true, ite_self, ↓reduceIte]) c_5 c_8); exact ⟨by rw [hcd]; exact (congrFun hk_4.1 0), fun _ => ⟨by exact hw_4 _ (ha_le c_5 c_8 rfl (Lv.hp hR ⟨hn0, haln⟩ hk0)), by exact hq_4⟩, fun h => absurd hcd h⟩)
        · exact absurd (by decide) c_2
    · cases haln : alv (σ 0) (nI n) with
      | false =>
        refine co_bodyI (cc := cX3_hopAt) (maxL := 5) (ret := (some .int)) (by decide) rfl (Nat.le_of_ble_eq_true rfl) ?_
        intro p e s m args below meth c S hr hlocks hK A hA hP hD hS ls hl
        have S : CallFix p m c cX3_hopAt 5 s args wsX3_hopAt RX3 := S
        obtain ⟨hx, hb, hml, hown, hts⟩ := id S
        have hl : lv_has ls 5 [(0, .ref (b 0)), (1, .int (nI n)), (2, .int y), (3, .int h)] := hl
        have uX3 := uX3_X3_hopAt
        refine lv_aload_n hx hb dX3_hopAt_0 rfl (lv_at hl 0 rfl) ?_
        refine lv_aload_n hx hb dX3_hopAt_1 rfl (lv_at hl 0 rfl) ?_
        refine lv_iload_n hx hb dX3_hopAt_2 rfl (lv_at hl 1 rfl) ?_
        refine lv_iload_n hx hb dX3_hopAt_3 rfl (lv_at hl 2 rfl) ?_
        refine co_rV (As := [.int (nI n), .int y]) (rest := [.ref (b 0)]) S (c_X3_refusesLookup l G Z b σ μ hR (nI n) y) (cwV 2 hts gX3_hopAt_X3_refusesLookup rfl rfl rfl (by decide +kernel) ⟨Nat.le_of_ble_eq_true rfl, Nat.le_of_ble_eq_true rfl⟩) hK hP (va_recv hK hP (ci := 2) (q0 := 0) rfl rfl) rfl hl.1 rfl (Nat.le_of_ble_eq_true rfl) dX3_hopAt_4 ⟨Nat.zero_le _, Nat.zero_le _⟩ ?_
        refine co_eq (show nI (cdP σ (nI n) y 63) = 1 from congrArg nI (show cdP σ (nI n) y 63 = 1 by simp only [cdP, okR_id hn0, hok0, haln, eq_self, Bool.false_eq_true, ite_self, ↓reduceIte])) ?_
        refine va_put (D := G.1) (ci := 2) (v := .int 1) (ty := .int) (C := RX3) (T := TX3) (N := 13) hx hb hts uX3 tyX3 tyX3_ok nmX3 hown hK hP hD hS 0 rfl rfl 0 (by decide) (hts (.fieldLink RX3 41 "ChordOverlayModel" "thrown" "I") (by decide +kernel)) (fun _ h9 => h9) rfl (by decide +kernel) rfl rfl (Nat.le_of_ble_eq_true rfl) dX3_hopAt_7 (fun H locs hP hD hS => ?_)
        have hP : pG G (wM G b (va_up μ 0 (fun _ => 1))) H := hP
        have hD : va_D A (wM G b (va_up μ 0 (fun _ => 1))) := hD
        have hz_1 : Rl Z σ (va_up μ 0 (fun _ => 1)) := Rl.s0 (f := fun _ => 1) hR
        refine lv_aload_n hx hb dX3_hopAt_10 rfl (lv_at hl 0 rfl) ?_
        refine va_get (D := G.1) (ci := 2) (v := .int 1) (C := RX3) (T := TX3) (N := 13) hx hb hts uX3 hown hK hP 0 rfl rfl 0 (by decide) (hts (.fieldLink RX3 41 "ChordOverlayModel" "thrown" "I") (by decide +kernel)) (fun _ h9 => h9) rfl dX3_hopAt_11 ?_
        refine lv_if_le (tgt := 19) hx hb dX3_hopAt_14 (by decide) (fun c_2 => ?_) (fun c_2 => ?_)
        · exact absurd c_2 (by decide)
        · refine lv_iconst (v := 0) hx hb dX3_hopAt_17 (by decide) ?_
          exact co_endI (va_up μ 0 (fun _ => 1)) S hr hlocks dX3_hopAt_18 hK hP hD hS (by have hcd : cdH σ (nI n) y h = 1 := (cdH_b (by simp only [cdP, okR_id hn0, hok0, haln, eq_self, Bool.false_eq_true, ite_self, ↓reduceIte])); exact ⟨by rw [hcd]; exact rfl, fun h => absurd (hcd.symm.trans h) (by decide), fun _ => hz_1⟩)
      | true =>
        refine co_bodyI (cc := cX3_hopAt) (maxL := 5) (ret := (some .int)) (by decide) rfl (Nat.le_of_ble_eq_true rfl) ?_
        intro p e s m args below meth c S hr hlocks hK A hA hP hD hS ls hl
        have S : CallFix p m c cX3_hopAt 5 s args wsX3_hopAt RX3 := S
        obtain ⟨hx, hb, hml, hown, hts⟩ := id S
        have hl : lv_has ls 5 [(0, .ref (b 0)), (1, .int (nI n)), (2, .int y), (3, .int h)] := hl
        have uX3 := uX3_X3_hopAt
        refine lv_aload_n hx hb dX3_hopAt_0 rfl (lv_at hl 0 rfl) ?_
        refine lv_aload_n hx hb dX3_hopAt_1 rfl (lv_at hl 0 rfl) ?_
        refine lv_iload_n hx hb dX3_hopAt_2 rfl (lv_at hl 1 rfl) ?_
        refine lv_iload_n hx hb dX3_hopAt_3 rfl (lv_at hl 2 rfl) ?_
        refine co_rV (As := [.int (nI n), .int y]) (rest := [.ref (b 0)]) S (c_X3_refusesLookup l G Z b σ μ hR (nI n) y) (cwV 2 hts gX3_hopAt_X3_refusesLookup rfl rfl rfl (by decide +kernel) ⟨Nat.le_of_ble_eq_true rfl, Nat.le_of_ble_eq_true rfl⟩) hK hP (va_recv hK hP (ci := 2) (q0 := 0) rfl rfl) rfl hl.1 rfl (Nat.le_of_ble_eq_true rfl) dX3_hopAt_4 ⟨Nat.zero_le _, Nat.zero_le _⟩ ?_
        refine co_eq (show nI (cdP σ (nI n) y 63) = 1 from congrArg nI (show cdP σ (nI n) y 63 = 1 by simp only [cdP, okR_id hn0, hok0, haln, eq_self, Bool.false_eq_true, ite_self, ↓reduceIte])) ?_
        refine va_put (D := G.1) (ci := 2) (v := .int 1) (ty := .int) (C := RX3) (T := TX3) (N := 13) hx hb hts uX3 tyX3 tyX3_ok nmX3 hown hK hP hD hS 0 rfl rfl 0 (by decide) (hts (.fieldLink RX3 41 "ChordOverlayModel" "thrown" "I") (by decide +kernel)) (fun _ h9 => h9) rfl (by decide +kernel) rfl rfl (Nat.le_of_ble_eq_true rfl) dX3_hopAt_7 (fun H locs hP hD hS => ?_)
        have hP : pG G (wM G b (va_up μ 0 (fun _ => 1))) H := hP
        have hD : va_D A (wM G b (va_up μ 0 (fun _ => 1))) := hD
        have hz_1 : Rl Z σ (va_up μ 0 (fun _ => 1)) := Rl.s0 (f := fun _ => 1) hR
        refine lv_aload_n hx hb dX3_hopAt_10 rfl (lv_at hl 0 rfl) ?_
        refine va_get (D := G.1) (ci := 2) (v := .int 1) (C := RX3) (T := TX3) (N := 13) hx hb hts uX3 hown hK hP 0 rfl rfl 0 (by decide) (hts (.fieldLink RX3 41 "ChordOverlayModel" "thrown" "I") (by decide +kernel)) (fun _ h9 => h9) rfl dX3_hopAt_11 ?_
        refine lv_if_le (tgt := 19) hx hb dX3_hopAt_14 (by decide) (fun c_2 => ?_) (fun c_2 => ?_)
        · exact absurd c_2 (by decide)
        · refine lv_iconst (v := 0) hx hb dX3_hopAt_17 (by decide) ?_
          exact co_endI (va_up μ 0 (fun _ => 1)) S hr hlocks dX3_hopAt_18 hK hP hD hS (by have hcd : cdH σ (nI n) y h = 1 := (cdH_b (by simp only [cdP, okR_id hn0, hok0, haln, eq_self, Bool.false_eq_true, ite_self, ↓reduceIte])); exact ⟨by rw [hcd]; exact rfl, fun h => absurd (hcd.symm.trans h) (by decide), fun _ => hz_1⟩)
  · rcases id_or y with ⟨k, hk0, rfl⟩ | ⟨hik0, hok0⟩
    · refine co_bodyI (cc := cX3_hopAt) (maxL := 5) (ret := (some .int)) (by decide) rfl (Nat.le_of_ble_eq_true rfl) ?_
      intro p e s m args below meth c S hr hlocks hK A hA hP hD hS ls hl
      have S : CallFix p m c cX3_hopAt 5 s args wsX3_hopAt RX3 := S
      obtain ⟨hx, hb, hml, hown, hts⟩ := id S
      have hl : lv_has ls 5 [(0, .ref (b 0)), (1, .int x), (2, .int (nI k)), (3, .int h)] := hl
      have uX3 := uX3_X3_hopAt
      refine lv_aload_n hx hb dX3_hopAt_0 rfl (lv_at hl 0 rfl) ?_
      refine lv_aload_n hx hb dX3_hopAt_1 rfl (lv_at hl 0 rfl) ?_
      refine lv_iload_n hx hb dX3_hopAt_2 rfl (lv_at hl 1 rfl) ?_
      refine lv_iload_n hx hb dX3_hopAt_3 rfl (lv_at hl 2 rfl) ?_
      refine co_rV (As := [.int x, .int (nI k)]) (rest := [.ref (b 0)]) S (c_X3_refusesLookup l G Z b σ μ hR x (nI k)) (cwV 2 hts gX3_hopAt_X3_refusesLookup rfl rfl rfl (by decide +kernel) ⟨Nat.le_of_ble_eq_true rfl, Nat.le_of_ble_eq_true rfl⟩) hK hP (va_recv hK hP (ci := 2) (q0 := 0) rfl rfl) rfl hl.1 rfl (Nat.le_of_ble_eq_true rfl) dX3_hopAt_4 ⟨Nat.zero_le _, Nat.zero_le _⟩ ?_
      refine co_eq (show nI (cdP σ x (nI k) 63) = 1 from congrArg nI (show cdP σ x (nI k) 63 = 1 by simp only [cdP, hon0, okR_id hk0, eq_self, Bool.false_eq_true, ite_self, ↓reduceIte])) ?_
      refine va_put (D := G.1) (ci := 2) (v := .int 1) (ty := .int) (C := RX3) (T := TX3) (N := 13) hx hb hts uX3 tyX3 tyX3_ok nmX3 hown hK hP hD hS 0 rfl rfl 0 (by decide) (hts (.fieldLink RX3 41 "ChordOverlayModel" "thrown" "I") (by decide +kernel)) (fun _ h9 => h9) rfl (by decide +kernel) rfl rfl (Nat.le_of_ble_eq_true rfl) dX3_hopAt_7 (fun H locs hP hD hS => ?_)
      have hP : pG G (wM G b (va_up μ 0 (fun _ => 1))) H := hP
      have hD : va_D A (wM G b (va_up μ 0 (fun _ => 1))) := hD
      have hz_1 : Rl Z σ (va_up μ 0 (fun _ => 1)) := Rl.s0 (f := fun _ => 1) hR
      refine lv_aload_n hx hb dX3_hopAt_10 rfl (lv_at hl 0 rfl) ?_
      refine va_get (D := G.1) (ci := 2) (v := .int 1) (C := RX3) (T := TX3) (N := 13) hx hb hts uX3 hown hK hP 0 rfl rfl 0 (by decide) (hts (.fieldLink RX3 41 "ChordOverlayModel" "thrown" "I") (by decide +kernel)) (fun _ h9 => h9) rfl dX3_hopAt_11 ?_
      refine lv_if_le (tgt := 19) hx hb dX3_hopAt_14 (by decide) (fun c_2 => ?_) (fun c_2 => ?_)
      · exact absurd c_2 (by decide)
      · refine lv_iconst (v := 0) hx hb dX3_hopAt_17 (by decide) ?_
        exact co_endI (va_up μ 0 (fun _ => 1)) S hr hlocks dX3_hopAt_18 hK hP hD hS (by have hcd : cdH σ x (nI k) h = 1 := (cdH_b (by simp only [cdP, hon0, okR_id hk0, eq_self, Bool.false_eq_true, ite_self, ↓reduceIte])); exact ⟨by rw [hcd]; exact rfl, fun h => absurd (hcd.symm.trans h) (by decide), fun _ => hz_1⟩)
    · refine co_bodyI (cc := cX3_hopAt) (maxL := 5) (ret := (some .int)) (by decide) rfl (Nat.le_of_ble_eq_true rfl) ?_
      intro p e s m args below meth c S hr hlocks hK A hA hP hD hS ls hl
      have S : CallFix p m c cX3_hopAt 5 s args wsX3_hopAt RX3 := S
      obtain ⟨hx, hb, hml, hown, hts⟩ := id S
      have hl : lv_has ls 5 [(0, .ref (b 0)), (1, .int x), (2, .int y), (3, .int h)] := hl
      have uX3 := uX3_X3_hopAt
      refine lv_aload_n hx hb dX3_hopAt_0 rfl (lv_at hl 0 rfl) ?_
      refine lv_aload_n hx hb dX3_hopAt_1 rfl (lv_at hl 0 rfl) ?_
      refine lv_iload_n hx hb dX3_hopAt_2 rfl (lv_at hl 1 rfl) ?_
      refine lv_iload_n hx hb dX3_hopAt_3 rfl (lv_at hl 2 rfl) ?_
      refine co_rV (As := [.int x, .int y]) (rest := [.ref (b 0)]) S (c_X3_refusesLookup l G Z b σ μ hR x y) (cwV 2 hts gX3_hopAt_X3_refusesLookup rfl rfl rfl (by decide +kernel) ⟨Nat.le_of_ble_eq_true rfl, Nat.le_of_ble_eq_true rfl⟩) hK hP (va_recv hK hP (ci := 2) (q0 := 0) rfl rfl) rfl hl.1 rfl (Nat.le_of_ble_eq_true rfl) dX3_hopAt_4 ⟨Nat.zero_le _, Nat.zero_le _⟩ ?_
      refine co_eq (show nI (cdP σ x y 63) = 1 from congrArg nI (show cdP σ x y 63 = 1 by simp only [cdP, hon0, hok0, eq_self, Bool.false_eq_true, ite_self, ↓reduceIte])) ?_
      refine va_put (D := G.1) (ci := 2) (v := .int 1) (ty := .int) (C := RX3) (T := TX3) (N := 13) hx hb hts uX3 tyX3 tyX3_ok nmX3 hown hK hP hD hS 0 rfl rfl 0 (by decide) (hts (.fieldLink RX3 41 "ChordOverlayModel" "thrown" "I") (by decide +kernel)) (fun _ h9 => h9) rfl (by decide +kernel) rfl rfl (Nat.le_of_ble_eq_true rfl) dX3_hopAt_7 (fun H locs hP hD hS => ?_)
      have hP : pG G (wM G b (va_up μ 0 (fun _ => 1))) H := hP
      have hD : va_D A (wM G b (va_up μ 0 (fun _ => 1))) := hD
      have hz_1 : Rl Z σ (va_up μ 0 (fun _ => 1)) := Rl.s0 (f := fun _ => 1) hR
      refine lv_aload_n hx hb dX3_hopAt_10 rfl (lv_at hl 0 rfl) ?_
      refine va_get (D := G.1) (ci := 2) (v := .int 1) (C := RX3) (T := TX3) (N := 13) hx hb hts uX3 hown hK hP 0 rfl rfl 0 (by decide) (hts (.fieldLink RX3 41 "ChordOverlayModel" "thrown" "I") (by decide +kernel)) (fun _ h9 => h9) rfl dX3_hopAt_11 ?_
      refine lv_if_le (tgt := 19) hx hb dX3_hopAt_14 (by decide) (fun c_2 => ?_) (fun c_2 => ?_)
      · exact absurd c_2 (by decide)
      · refine lv_iconst (v := 0) hx hb dX3_hopAt_17 (by decide) ?_
        exact co_endI (va_up μ 0 (fun _ => 1)) S hr hlocks dX3_hopAt_18 hK hP hD hS (by have hcd : cdH σ x y h = 1 := (cdH_b (by simp only [cdP, hon0, hok0, eq_self, Bool.false_eq_true, ite_self, ↓reduceIte])); exact ⟨by rw [hcd]; exact rfl, fun h => absurd (hcd.symm.trans h) (by decide), fun _ => hz_1⟩)

set_option maxRecDepth 20000 in
theorem uX3_X3_put : ∀ w ∈ u_ws RX3 TX3 13, w ∈ wsX3_put := by decide +kernel
abbrev rm_X3_put : Room := { frames := 5, cells := 0, slots := 0, locals := 117 }
set_option maxHeartbeats 4000000 in
set_option maxRecDepth 100000 in
theorem c_X3_put (l : Launch) (G : cG) (Z : Nat) (b : Nat → Nat) (σ μ : cS) (hR : Rl Z σ μ) (x : Int32) (y : Int32) (v : Int32) (hZ : Z + 1 < 2 ^ 30) : MetI l yX3_put wsX3_put rm_X3_put G (wM G b μ) [.ref (b 0), .int x, .int y, .int v] (fun u : cS => wM G b u) (fun r u => u 0 0 = nI (cdW σ x y v) ∧ (cdW σ x y v = 0 → r = fnR σ x y ∧ Rl (Z + 1) (puS σ x y v) u) ∧ (cdW σ x y v ≠ 0 → Rl Z σ u)) := by
  rcases rg_or2 v (N := 999) (by decide) with ⟨w, hw0, rfl⟩ | ⟨hzw0, how0⟩ | ⟨hzw0, hyw0, how0⟩
  · rcases id_or x with ⟨n, hn0, rfl⟩ | ⟨hin0, hon0⟩
    · rcases id_or y with ⟨k, hk0, rfl⟩ | ⟨hik0, hok0⟩
      · cases haln : alv (σ 0) (nI n) with
        | false =>
          refine co_bodyI (cc := cX3_put) (maxL := 6) (ret := (some .int)) (by decide) rfl (Nat.le_of_ble_eq_true rfl) ?_
          intro p e s m args below meth c S hr hlocks hK A hA hP hD hS ls hl
          have S : CallFix p m c cX3_put 6 s args wsX3_put RX3 := S
          obtain ⟨hx, hb, hml, hown, hts⟩ := id S
          have hl : lv_has ls 6 [(0, .ref (b 0)), (1, .int (nI n)), (2, .int (nI k)), (3, .int (nI w))] := hl
          have uX3 := uX3_X3_put
          refine lv_aload_n hx hb dX3_put_0 rfl (lv_at hl 0 rfl) ?_
          refine lv_iload_n hx hb dX3_put_1 rfl (lv_at hl 3 rfl) ?_
          refine lv_if_lt (tgt := 21) hx hb dX3_put_2 (by decide) (fun c_1 => ?_) (fun c_1 => ?_)
          · exact absurd c_1 (nI_pos (by omega))
          · refine lv_iload_n hx hb dX3_put_5 rfl (lv_at hl 3 rfl) ?_
            refine lv_sipush (v := 999) hx hb dX3_put_6 (by decide) ?_
            refine lv_icmp_gt (tgt := 21) hx hb dX3_put_9 (by decide) (fun c_2 => ?_) (fun c_2 => ?_)
            · exact absurd (show nI 999 < nI w from c_2) (nI_nlt (by omega) (by decide))
            · refine lv_aload_n hx hb dX3_put_12 rfl (lv_at hl 0 rfl) ?_
              refine lv_iload_n hx hb dX3_put_13 rfl (lv_at hl 1 rfl) ?_
              refine lv_iload_n hx hb dX3_put_14 rfl (lv_at hl 2 rfl) ?_
              refine co_rV (As := [.int (nI n), .int (nI k)]) (rest := [.ref (b 0)]) S (c_X3_refusesLookup l G Z b σ μ hR (nI n) (nI k)) (cwV 2 hts gX3_put_X3_refusesLookup rfl rfl rfl (by decide +kernel) ⟨Nat.le_of_ble_eq_true rfl, Nat.le_of_ble_eq_true rfl⟩) hK hP (va_recv hK hP (ci := 2) (q0 := 0) rfl rfl) rfl hl.1 rfl (Nat.le_of_ble_eq_true rfl) dX3_put_15 ⟨Nat.zero_le _, Nat.zero_le _⟩ ?_
              refine co_eq (show nI (cdP σ (nI n) (nI k) 63) = 2 from congrArg nI (show cdP σ (nI n) (nI k) 63 = 2 by simp only [cdP, show okR (nI w) 0 999 = true from okR_rg (N := 999) hw0 (by decide), okR_id hn0, okR_id hk0, haln, eq_self, Bool.false_eq_true, ite_self, ↓reduceIte])) ?_
              refine lv_goto (tgt := 22) hx hb dX3_put_18 (by decide) ?_
              refine va_put (D := G.1) (ci := 2) (v := .int 2) (ty := .int) (C := RX3) (T := TX3) (N := 13) hx hb hts uX3 tyX3 tyX3_ok nmX3 hown hK hP hD hS 0 rfl rfl 0 (by decide) (hts (.fieldLink RX3 41 "ChordOverlayModel" "thrown" "I") (by decide +kernel)) (fun _ h9 => h9) rfl (by decide +kernel) rfl rfl (Nat.le_of_ble_eq_true rfl) dX3_put_22 (fun H locs hP hD hS => ?_)
              have hP : pG G (wM G b (va_up μ 0 (fun _ => 2))) H := hP
              have hD : va_D A (wM G b (va_up μ 0 (fun _ => 2))) := hD
              have hz_3 : Rl Z σ (va_up μ 0 (fun _ => 2)) := Rl.s0 (f := fun _ => 2) hR
              refine lv_aload_n hx hb dX3_put_25 rfl (lv_at hl 0 rfl) ?_
              refine va_get (D := G.1) (ci := 2) (v := .int 2) (C := RX3) (T := TX3) (N := 13) hx hb hts uX3 hown hK hP 0 rfl rfl 0 (by decide) (hts (.fieldLink RX3 41 "ChordOverlayModel" "thrown" "I") (by decide +kernel)) (fun _ h9 => h9) rfl dX3_put_26 ?_
              refine lv_if_ne (tgt := 41) hx hb dX3_put_29 (by decide) (fun c_4 => ?_) (fun c_4 => ?_)
              · refine lv_iconst (v := 0) hx hb dX3_put_41 (by decide) ?_
                refine lv_istore (lv' := [(4, .int 0), (0, .ref (b 0)), (1, .int (nI n)), (2, .int (nI k)), (3, .int (nI w))]) hx hb dX3_put_42 hl (by decide) rfl (fun ls hl => ?_)
                refine lv_aload_n hx hb dX3_put_44 rfl (lv_at hl 1 rfl) ?_
                refine lv_iload hx hb dX3_put_45 (lv_at hl 0 rfl) ?_
                refine lv_iconst (v := (-1)) hx hb dX3_put_47 (by decide) ?_
                refine lv_icmp_ne (tgt := 55) hx hb dX3_put_48 (by decide) (fun c_5 => ?_) (fun c_5 => ?_)
                · refine lv_aload_n hx hb dX3_put_55 rfl (lv_at hl 1 rfl) ?_
                  refine va_get (D := G.1) (ci := 2) (v := .int 2) (C := RX3) (T := TX3) (N := 13) hx hb hts uX3 hown hK hP 0 rfl rfl 0 (by decide) (hts (.fieldLink RX3 41 "ChordOverlayModel" "thrown" "I") (by decide +kernel)) (fun _ h9 => h9) rfl dX3_put_56 ?_
                  refine va_put (D := G.1) (ci := 2) (v := .int 2) (ty := .int) (C := RX3) (T := TX3) (N := 13) hx hb hts uX3 tyX3 tyX3_ok nmX3 hown hK hP hD hS 0 rfl rfl 0 (by decide) (hts (.fieldLink RX3 41 "ChordOverlayModel" "thrown" "I") (by decide +kernel)) (fun _ h9 => h9) rfl (by decide +kernel) rfl rfl (Nat.le_of_ble_eq_true rfl) dX3_put_59 (fun H locs hP hD hS => ?_)
                  have hP : pG G (wM G b (va_up (va_up μ 0 (fun _ => 2)) 0 (fun _ => 2))) H := hP
                  have hD : va_D A (wM G b (va_up (va_up μ 0 (fun _ => 2)) 0 (fun _ => 2))) := hD
                  have hz_6 : Rl Z σ (va_up (va_up μ 0 (fun _ => 2)) 0 (fun _ => 2)) := Rl.s0 (f := fun _ => 2) hz_3
                  refine lv_aload_n hx hb dX3_put_62 rfl (lv_at hl 1 rfl) ?_
                  refine va_get (D := G.1) (ci := 2) (v := .int 2) (C := RX3) (T := TX3) (N := 13) hx hb hts uX3 hown hK hP 0 rfl rfl 0 (by decide) (hts (.fieldLink RX3 41 "ChordOverlayModel" "thrown" "I") (by decide +kernel)) (fun _ h9 => h9) rfl dX3_put_63 ?_
                  refine lv_if_le (tgt := 71) hx hb dX3_put_66 (by decide) (fun c_7 => ?_) (fun c_7 => ?_)
                  · exact absurd c_7 (by decide)
                  · refine lv_iconst (v := 0) hx hb dX3_put_69 (by decide) ?_
                    exact co_endI (va_up (va_up μ 0 (fun _ => 2)) 0 (fun _ => 2)) S hr hlocks dX3_put_70 hK hP hD hS (by have hcd : cdW σ (nI n) (nI k) (nI w) = 2 := (by simp only [cdW, show okR (nI w) 0 999 = true from okR_rg (N := 999) hw0 (by decide), okR_id hn0, okR_id hk0, haln, c_1, c_2, c_4, c_5, c_7, eq_self, Bool.false_eq_true, ite_self, ↓reduceIte]); exact ⟨by rw [hcd]; exact rfl, fun h => absurd (hcd.symm.trans h) (by decide), fun _ => hz_6⟩)
                · exact absurd c_5 (by decide)
              · exact absurd c_4 (by decide)
        | true =>
          refine co_bodyI (cc := cX3_put) (maxL := 6) (ret := (some .int)) (by decide) rfl (Nat.le_of_ble_eq_true rfl) ?_
          intro p e s m args below meth c S hr hlocks hK A hA hP hD hS ls hl
          have S : CallFix p m c cX3_put 6 s args wsX3_put RX3 := S
          obtain ⟨hx, hb, hml, hown, hts⟩ := id S
          have hl : lv_has ls 6 [(0, .ref (b 0)), (1, .int (nI n)), (2, .int (nI k)), (3, .int (nI w))] := hl
          have uX3 := uX3_X3_put
          refine lv_aload_n hx hb dX3_put_0 rfl (lv_at hl 0 rfl) ?_
          refine lv_iload_n hx hb dX3_put_1 rfl (lv_at hl 3 rfl) ?_
          refine lv_if_lt (tgt := 21) hx hb dX3_put_2 (by decide) (fun c_1 => ?_) (fun c_1 => ?_)
          · exact absurd c_1 (nI_pos (by omega))
          · refine lv_iload_n hx hb dX3_put_5 rfl (lv_at hl 3 rfl) ?_
            refine lv_sipush (v := 999) hx hb dX3_put_6 (by decide) ?_
            refine lv_icmp_gt (tgt := 21) hx hb dX3_put_9 (by decide) (fun c_2 => ?_) (fun c_2 => ?_)
            · exact absurd (show nI 999 < nI w from c_2) (nI_nlt (by omega) (by decide))
            · refine lv_aload_n hx hb dX3_put_12 rfl (lv_at hl 0 rfl) ?_
              refine lv_iload_n hx hb dX3_put_13 rfl (lv_at hl 1 rfl) ?_
              refine lv_iload_n hx hb dX3_put_14 rfl (lv_at hl 2 rfl) ?_
              refine co_rV (As := [.int (nI n), .int (nI k)]) (rest := [.ref (b 0)]) S (c_X3_refusesLookup l G Z b σ μ hR (nI n) (nI k)) (cwV 2 hts gX3_put_X3_refusesLookup rfl rfl rfl (by decide +kernel) ⟨Nat.le_of_ble_eq_true rfl, Nat.le_of_ble_eq_true rfl⟩) hK hP (va_recv hK hP (ci := 2) (q0 := 0) rfl rfl) rfl hl.1 rfl (Nat.le_of_ble_eq_true rfl) dX3_put_15 ⟨Nat.zero_le _, Nat.zero_le _⟩ ?_
              refine co_eq (show nI (cdP σ (nI n) (nI k) 63) = 0 from congrArg nI (show cdP σ (nI n) (nI k) 63 = 0 by simp only [cdP, show okR (nI w) 0 999 = true from okR_rg (N := 999) hw0 (by decide), okR_id hn0, okR_id hk0, haln, eq_self, Bool.false_eq_true, ite_self, ↓reduceIte])) ?_
              refine lv_goto (tgt := 22) hx hb dX3_put_18 (by decide) ?_
              refine va_put (D := G.1) (ci := 2) (v := .int 0) (ty := .int) (C := RX3) (T := TX3) (N := 13) hx hb hts uX3 tyX3 tyX3_ok nmX3 hown hK hP hD hS 0 rfl rfl 0 (by decide) (hts (.fieldLink RX3 41 "ChordOverlayModel" "thrown" "I") (by decide +kernel)) (fun _ h9 => h9) rfl (by decide +kernel) rfl rfl (Nat.le_of_ble_eq_true rfl) dX3_put_22 (fun H locs hP hD hS => ?_)
              have hP : pG G (wM G b (va_up μ 0 (fun _ => 0))) H := hP
              have hD : va_D A (wM G b (va_up μ 0 (fun _ => 0))) := hD
              have hz_3 : Rl Z σ (va_up μ 0 (fun _ => 0)) := Rl.s0 (f := fun _ => 0) hR
              refine lv_aload_n hx hb dX3_put_25 rfl (lv_at hl 0 rfl) ?_
              refine va_get (D := G.1) (ci := 2) (v := .int 0) (C := RX3) (T := TX3) (N := 13) hx hb hts uX3 hown hK hP 0 rfl rfl 0 (by decide) (hts (.fieldLink RX3 41 "ChordOverlayModel" "thrown" "I") (by decide +kernel)) (fun _ h9 => h9) rfl dX3_put_26 ?_
              refine lv_if_ne (tgt := 41) hx hb dX3_put_29 (by decide) (fun c_4 => ?_) (fun c_4 => ?_)
              · exact absurd (by decide) c_4
              · refine lv_aload_n hx hb dX3_put_32 rfl (lv_at hl 0 rfl) ?_
                refine lv_iload_n hx hb dX3_put_33 rfl (lv_at hl 1 rfl) ?_
                refine lv_iload_n hx hb dX3_put_34 rfl (lv_at hl 2 rfl) ?_
                obtain ⟨j_5, ej_5, lj_5⟩ := Lv.fn hz_3 ⟨hn0, haln⟩ hk0
                refine co_mVi (As := [.int (nI n), .int (nI k)]) (rest := []) S (c_X3_find l G Z b σ (va_up μ 0 (fun _ => 0)) hz_3 n k ⟨hn0, haln⟩ hk0) (cwV 2 hts gX3_put_X3_find rfl rfl rfl (by decide +kernel) ⟨Nat.le_of_ble_eq_true rfl, Nat.le_of_ble_eq_true rfl⟩) hK hP hD hS hA (va_recv hK hP (ci := 2) (q0 := 0) rfl rfl) rfl hl.1 rfl (Nat.le_of_ble_eq_true rfl) dX3_put_35 ⟨Nat.zero_le _, Nat.zero_le _⟩ (fun r_6 u_6 H locs hu_6 hP hD hS => ?_)
                obtain ⟨hr_6, hq_6, hk_6, hp_6, hw_6⟩ := hu_6
                have hr_6 : r_6 = nI j_5 := hr_6.trans ej_5
                subst hr_6
                have hP : pG G (wM G b u_6) H := hP
                have hD : va_D A (wM G b u_6) := hD
                refine lv_goto (tgt := 42) hx hb dX3_put_38 (by decide) ?_
                refine lv_istore (lv' := [(4, .int (nI j_5)), (0, .ref (b 0)), (1, .int (nI n)), (2, .int (nI k)), (3, .int (nI w))]) hx hb dX3_put_42 hl (by decide) rfl (fun ls hl => ?_)
                refine lv_aload_n hx hb dX3_put_44 rfl (lv_at hl 1 rfl) ?_
                refine lv_iload hx hb dX3_put_45 (lv_at hl 0 rfl) ?_
                refine lv_iconst (v := (-1)) hx hb dX3_put_47 (by decide) ?_
                refine lv_icmp_ne (tgt := 55) hx hb dX3_put_48 (by decide) (fun c_7 => ?_) (fun c_7 => ?_)
                · refine lv_aload_n hx hb dX3_put_55 rfl (lv_at hl 1 rfl) ?_
                  refine va_get (D := G.1) (ci := 2) (v := .int (u_6 0 0)) (C := RX3) (T := TX3) (N := 13) hx hb hts uX3 hown hK hP 0 rfl rfl 0 (by decide) (hts (.fieldLink RX3 41 "ChordOverlayModel" "thrown" "I") (by decide +kernel)) (fun _ h9 => h9) rfl dX3_put_56 ?_
                  refine co_eq (show u_6 0 0 = 0 from congrFun hk_6.1 0) ?_
                  refine va_put (D := G.1) (ci := 2) (v := .int 0) (ty := .int) (C := RX3) (T := TX3) (N := 13) hx hb hts uX3 tyX3 tyX3_ok nmX3 hown hK hP hD hS 0 rfl rfl 0 (by decide) (hts (.fieldLink RX3 41 "ChordOverlayModel" "thrown" "I") (by decide +kernel)) (fun _ h9 => h9) rfl (by decide +kernel) rfl rfl (Nat.le_of_ble_eq_true rfl) dX3_put_59 (fun H locs hP hD hS => ?_)
                  have hP : pG G (wM G b (va_up u_6 0 (fun _ => 0))) H := hP
                  have hD : va_D A (wM G b (va_up u_6 0 (fun _ => 0))) := hD
                  have hz_8 : Rl Z σ (va_up u_6 0 (fun _ => 0)) := Rl.s0 (f := fun _ => 0) hq_6
                  refine lv_aload_n hx hb dX3_put_62 rfl (lv_at hl 1 rfl) ?_
                  refine va_get (D := G.1) (ci := 2) (v := .int 0) (C := RX3) (T := TX3) (N := 13) hx hb hts uX3 hown hK hP 0 rfl rfl 0 (by decide) (hts (.fieldLink RX3 41 "ChordOverlayModel" "thrown" "I") (by decide +kernel)) (fun _ h9 => h9) rfl dX3_put_63 ?_
                  refine lv_if_le (tgt := 71) hx hb dX3_put_66 (by decide) (fun c_9 => ?_) (fun c_9 => ?_)
                  · refine lv_aload_n hx hb dX3_put_71 rfl (lv_at hl 1 rfl) ?_
                    refine lv_dup hx hb dX3_put_72 rfl ?_
                    refine va_get (D := G.1) (ci := 2) (v := .int ((va_up u_6 0 (fun _ => 0)) 1 0)) (C := RX3) (T := TX3) (N := 13) hx hb hts uX3 hown hK hP 0 rfl rfl 1 (by decide) (hts (.fieldLink RX3 121 "ChordOverlayModel" "stamps" "I") (by decide +kernel)) (fun _ h9 => h9) rfl dX3_put_73 ?_
                    obtain ⟨z, hz9, ez9, mz9⟩ := hz_8.2.2
                    refine co_eq (show (va_up u_6 0 (fun _ => 0)) 1 0 = nI z from mz9) ?_
                    refine lv_iconst (v := 1) hx hb dX3_put_76 (by decide) ?_
                    refine lv_iadd hx hb dX3_put_77 ?_
                    refine co_eq (nI_1 z) ?_
                    refine va_put (D := G.1) (ci := 2) (v := .int (nI (z + 1))) (ty := .int) (C := RX3) (T := TX3) (N := 13) hx hb hts uX3 tyX3 tyX3_ok nmX3 hown hK hP hD hS 0 rfl rfl 1 (by decide) (hts (.fieldLink RX3 121 "ChordOverlayModel" "stamps" "I") (by decide +kernel)) (fun _ h9 => h9) rfl (by decide +kernel) rfl rfl (Nat.le_of_ble_eq_true rfl) dX3_put_78 (fun H locs hP hD hS => ?_)
                    have hP : pG G (wM G b (va_up (va_up u_6 0 (fun _ => 0)) 1 (fun _ => (nI (z + 1))))) H := hP
                    have hD : va_D A (wM G b (va_up (va_up u_6 0 (fun _ => 0)) 1 (fun _ => (nI (z + 1))))) := hD
                    refine lv_aload_n hx hb dX3_put_81 rfl (lv_at hl 1 rfl) ?_
                    refine va_get (D := G.1) (ci := 2) (v := .ref (b 6)) (C := RX3) (T := TX3) (N := 13) hx hb hts uX3 hown hK hP 0 rfl rfl 7 (by decide) (hts (.fieldLink RX3 26 "ChordOverlayModel" "stamp" "[I") (by decide +kernel)) (fun _ h9 => h9) rfl dX3_put_82 ?_
                    refine lv_bipush (v := 64) hx hb dX3_put_85 (by decide) ?_
                    refine lv_iload hx hb dX3_put_87 (lv_at hl 0 rfl) ?_
                    refine lv_imul hx hb dX3_put_89 ?_
                    refine lv_iload_n hx hb dX3_put_90 rfl (lv_at hl 3 rfl) ?_
                    refine lv_iadd hx hb dX3_put_91 ?_
                    refine lv_aload_n hx hb dX3_put_92 rfl (lv_at hl 1 rfl) ?_
                    refine va_get (D := G.1) (ci := 2) (v := .int (nI (z + 1))) (C := RX3) (T := TX3) (N := 13) hx hb hts uX3 hown hK hP 0 rfl rfl 1 (by decide) (hts (.fieldLink RX3 121 "ChordOverlayModel" "stamps" "I") (by decide +kernel)) (fun _ h9 => h9) rfl dX3_put_93 ?_
                    refine va_iast hx hb hK hP hD hS 6 0 (f := (u_6 7)) rfl rfl (vi_w (w := 64) (p := k) (by decide) lj_5.1 hk0) dX3_put_96 (fun H locs hP hD hS => ?_)
                    have hP : pG G (wM G b (va_up (va_up (va_up u_6 0 (fun _ => 0)) 1 (fun _ => (nI (z + 1)))) 7 (upd (u_6 7) ((64 * (nI j_5)) + (nI k)).toNatClampNeg (nI (z + 1))))) H := hP
                    have hD : va_D A (wM G b (va_up (va_up (va_up u_6 0 (fun _ => 0)) 1 (fun _ => (nI (z + 1)))) 7 (upd (u_6 7) ((64 * (nI j_5)) + (nI k)).toNatClampNeg (nI (z + 1))))) := hD
                    refine lv_aload_n hx hb dX3_put_97 rfl (lv_at hl 1 rfl) ?_
                    refine va_get (D := G.1) (ci := 2) (v := .ref (b 5)) (C := RX3) (T := TX3) (N := 13) hx hb hts uX3 hown hK hP 0 rfl rfl 6 (by decide) (hts (.fieldLink RX3 23 "ChordOverlayModel" "value" "[I") (by decide +kernel)) (fun _ h9 => h9) rfl dX3_put_98 ?_
                    refine lv_bipush (v := 64) hx hb dX3_put_101 (by decide) ?_
                    refine lv_iload hx hb dX3_put_103 (lv_at hl 0 rfl) ?_
                    refine lv_imul hx hb dX3_put_105 ?_
                    refine lv_iload_n hx hb dX3_put_106 rfl (lv_at hl 3 rfl) ?_
                    refine lv_iadd hx hb dX3_put_107 ?_
                    refine lv_iload_n hx hb dX3_put_108 rfl (lv_at hl 4 rfl) ?_
                    refine va_iast hx hb hK hP hD hS 5 0 (f := (u_6 6)) rfl rfl (vi_w (w := 64) (p := k) (by decide) lj_5.1 hk0) dX3_put_109 (fun H locs hP hD hS => ?_)
                    have hP : pG G (wM G b (va_up (va_up (va_up (va_up u_6 0 (fun _ => 0)) 1 (fun _ => (nI (z + 1)))) 7 (upd (u_6 7) ((64 * (nI j_5)) + (nI k)).toNatClampNeg (nI (z + 1)))) 6 (upd (u_6 6) ((64 * (nI j_5)) + (nI k)).toNatClampNeg (nI w)))) H := hP
                    have hD : va_D A (wM G b (va_up (va_up (va_up (va_up u_6 0 (fun _ => 0)) 1 (fun _ => (nI (z + 1)))) 7 (upd (u_6 7) ((64 * (nI j_5)) + (nI k)).toNatClampNeg (nI (z + 1)))) 6 (upd (u_6 6) ((64 * (nI j_5)) + (nI k)).toNatClampNeg (nI w)))) := hD
                    obtain ⟨σp, eσp⟩ : ∃ z9, z9 = puA σ (nI j_5) (nI k) (nI w) := ⟨_, rfl⟩
                    have hRp : Rl (Z + 1) σp (va_up (va_up (va_up (va_up u_6 0 (fun _ => 0)) 1 (fun _ => (nI (z + 1)))) 7 (upd (u_6 7) ((64 * (nI j_5)) + (nI k)).toNatClampNeg (nI (z + 1)))) 6 (upd (u_6 6) ((64 * (nI j_5)) + (nI k)).toNatClampNeg (nI w))) := (by rw [eσp]; exact rl_put (μ := (va_up u_6 0 (fun _ => 0))) hz_8 lj_5.1 hk0 (by omega) hz9 hZ ez9)
                    have h0p : σp 0 = σ 0 := (by rw [eσp]; rfl)
                    refine lv_aload_n hx hb dX3_put_110 rfl (lv_at hl 1 rfl) ?_
                    refine lv_iload hx hb dX3_put_111 (lv_at hl 0 rfl) ?_
                    refine lv_iload_n hx hb dX3_put_113 rfl (lv_at hl 3 rfl) ?_
                    refine co_mVi (As := [.int (nI j_5), .int (nI k)]) (rest := []) S (c_X3_spreads l G (Z + 1) b σp (va_up (va_up (va_up (va_up u_6 0 (fun _ => 0)) 1 (fun _ => (nI (z + 1)))) 7 (upd (u_6 7) ((64 * (nI j_5)) + (nI k)).toNatClampNeg (nI (z + 1)))) 6 (upd (u_6 6) ((64 * (nI j_5)) + (nI k)).toNatClampNeg (nI w))) hRp j_5 k (Lv.tr h0p lj_5) hk0) (cwV 2 hts gX3_put_X3_spreads rfl rfl rfl (by decide +kernel) ⟨Nat.le_of_ble_eq_true rfl, Nat.le_of_ble_eq_true rfl⟩) hK hP hD hS hA (va_recv hK hP (ci := 2) (q0 := 0) rfl rfl) rfl hl.1 rfl (Nat.le_of_ble_eq_true rfl) dX3_put_114 ⟨Nat.zero_le _, Nat.zero_le _⟩ (fun r_10 u_10 H locs hu_10 hP hD hS => ?_)
                    obtain ⟨hr_10, hq_10, hk_10⟩ := hu_10
                    have hr_10 : r_10 = (chC σp (nI j_5) (nI k)) := hr_10
                    obtain ⟨σ_10, eσ_10⟩ : ∃ z9, z9 = (chS σp (nI j_5) (nI k)) := ⟨_, rfl⟩
                    have hq_10 : Rl (Z + 1) σ_10 u_10 := (by rw [eσ_10]; exact hq_10)
                    have hc0_10 : σ_10 0 = (σ 0) := (by rw [eσ_10]; exact (chS_0).trans h0p)
                    have hP : pG G (wM G b u_10) H := hP
                    have hD : va_D A (wM G b u_10) := hD
                    refine lv_istore (lv' := [(5, .int r_10), (4, .int (nI j_5)), (0, .ref (b 0)), (1, .int (nI n)), (2, .int (nI k)), (3, .int (nI w))]) hx hb dX3_put_117 hl (by decide) rfl (fun ls hl => ?_)
                    refine lv_iload hx hb dX3_put_119 (lv_at hl 1 rfl) ?_
                    exact co_endI u_10 S hr hlocks dX3_put_121 hK hP hD hS (by have hcd : cdW σ (nI n) (nI k) (nI w) = 0 := (by simp only [cdW, show okR (nI w) 0 999 = true from okR_rg (N := 999) hw0 (by decide), okR_id hn0, okR_id hk0, haln, c_1, c_2, (eq_true c_4), c_9, eq_self, Bool.false_eq_true, ite_self, ↓reduceIte]); exact ⟨by rw [hcd]; exact (congrFun hk_10.1 0), fun _ => ⟨by first | with_reducible rfl | with_reducible assumption | simp only [← eσp, ← eσ_10, puS, ej_5, c_1, c_2, (eq_true c_4), c_9, show okR (nI w) 0 999 = true from okR_rg (N := 999) hw0 (by decide), okR_id hn0, okR_id hk0, haln, nI_nem lj_5.1, eq_self, Bool.false_eq_true, ite_self, ↓reduceIte], by first | with_reducible exact hq_10 | (simp only [← eσp, ← eσ_10, puS, ej_5, c_1, c_2, (eq_true c_4), c_9, show okR (nI w) 0 999 = true from okR_rg (N := 999) hw0 (by decide), okR_id hn0, okR_id hk0, haln, nI_nem lj_5.1, eq_self, Bool.false_eq_true, ite_self, ↓reduceIte]; with_reducible exact hq_10)⟩, fun h => absurd hcd h⟩)
                  · exact absurd (by decide) c_9
                · exact absurd c_7 (nI_nem lj_5.1)
      · cases haln : alv (σ 0) (nI n) with
        | false =>
          refine co_bodyI (cc := cX3_put) (maxL := 6) (ret := (some .int)) (by decide) rfl (Nat.le_of_ble_eq_true rfl) ?_
          intro p e s m args below meth c S hr hlocks hK A hA hP hD hS ls hl
          have S : CallFix p m c cX3_put 6 s args wsX3_put RX3 := S
          obtain ⟨hx, hb, hml, hown, hts⟩ := id S
          have hl : lv_has ls 6 [(0, .ref (b 0)), (1, .int (nI n)), (2, .int y), (3, .int (nI w))] := hl
          have uX3 := uX3_X3_put
          refine lv_aload_n hx hb dX3_put_0 rfl (lv_at hl 0 rfl) ?_
          refine lv_iload_n hx hb dX3_put_1 rfl (lv_at hl 3 rfl) ?_
          refine lv_if_lt (tgt := 21) hx hb dX3_put_2 (by decide) (fun c_1 => ?_) (fun c_1 => ?_)
          · exact absurd c_1 (nI_pos (by omega))
          · refine lv_iload_n hx hb dX3_put_5 rfl (lv_at hl 3 rfl) ?_
            refine lv_sipush (v := 999) hx hb dX3_put_6 (by decide) ?_
            refine lv_icmp_gt (tgt := 21) hx hb dX3_put_9 (by decide) (fun c_2 => ?_) (fun c_2 => ?_)
            · exact absurd (show nI 999 < nI w from c_2) (nI_nlt (by omega) (by decide))
            · refine lv_aload_n hx hb dX3_put_12 rfl (lv_at hl 0 rfl) ?_
              refine lv_iload_n hx hb dX3_put_13 rfl (lv_at hl 1 rfl) ?_
              refine lv_iload_n hx hb dX3_put_14 rfl (lv_at hl 2 rfl) ?_
              refine co_rV (As := [.int (nI n), .int y]) (rest := [.ref (b 0)]) S (c_X3_refusesLookup l G Z b σ μ hR (nI n) y) (cwV 2 hts gX3_put_X3_refusesLookup rfl rfl rfl (by decide +kernel) ⟨Nat.le_of_ble_eq_true rfl, Nat.le_of_ble_eq_true rfl⟩) hK hP (va_recv hK hP (ci := 2) (q0 := 0) rfl rfl) rfl hl.1 rfl (Nat.le_of_ble_eq_true rfl) dX3_put_15 ⟨Nat.zero_le _, Nat.zero_le _⟩ ?_
              refine co_eq (show nI (cdP σ (nI n) y 63) = 1 from congrArg nI (show cdP σ (nI n) y 63 = 1 by simp only [cdP, show okR (nI w) 0 999 = true from okR_rg (N := 999) hw0 (by decide), okR_id hn0, hok0, haln, eq_self, Bool.false_eq_true, ite_self, ↓reduceIte])) ?_
              refine lv_goto (tgt := 22) hx hb dX3_put_18 (by decide) ?_
              refine va_put (D := G.1) (ci := 2) (v := .int 1) (ty := .int) (C := RX3) (T := TX3) (N := 13) hx hb hts uX3 tyX3 tyX3_ok nmX3 hown hK hP hD hS 0 rfl rfl 0 (by decide) (hts (.fieldLink RX3 41 "ChordOverlayModel" "thrown" "I") (by decide +kernel)) (fun _ h9 => h9) rfl (by decide +kernel) rfl rfl (Nat.le_of_ble_eq_true rfl) dX3_put_22 (fun H locs hP hD hS => ?_)
              have hP : pG G (wM G b (va_up μ 0 (fun _ => 1))) H := hP
              have hD : va_D A (wM G b (va_up μ 0 (fun _ => 1))) := hD
              have hz_3 : Rl Z σ (va_up μ 0 (fun _ => 1)) := Rl.s0 (f := fun _ => 1) hR
              refine lv_aload_n hx hb dX3_put_25 rfl (lv_at hl 0 rfl) ?_
              refine va_get (D := G.1) (ci := 2) (v := .int 1) (C := RX3) (T := TX3) (N := 13) hx hb hts uX3 hown hK hP 0 rfl rfl 0 (by decide) (hts (.fieldLink RX3 41 "ChordOverlayModel" "thrown" "I") (by decide +kernel)) (fun _ h9 => h9) rfl dX3_put_26 ?_
              refine lv_if_ne (tgt := 41) hx hb dX3_put_29 (by decide) (fun c_4 => ?_) (fun c_4 => ?_)
              · refine lv_iconst (v := 0) hx hb dX3_put_41 (by decide) ?_
                refine lv_istore (lv' := [(4, .int 0), (0, .ref (b 0)), (1, .int (nI n)), (2, .int y), (3, .int (nI w))]) hx hb dX3_put_42 hl (by decide) rfl (fun ls hl => ?_)
                refine lv_aload_n hx hb dX3_put_44 rfl (lv_at hl 1 rfl) ?_
                refine lv_iload hx hb dX3_put_45 (lv_at hl 0 rfl) ?_
                refine lv_iconst (v := (-1)) hx hb dX3_put_47 (by decide) ?_
                refine lv_icmp_ne (tgt := 55) hx hb dX3_put_48 (by decide) (fun c_5 => ?_) (fun c_5 => ?_)
                · refine lv_aload_n hx hb dX3_put_55 rfl (lv_at hl 1 rfl) ?_
                  refine va_get (D := G.1) (ci := 2) (v := .int 1) (C := RX3) (T := TX3) (N := 13) hx hb hts uX3 hown hK hP 0 rfl rfl 0 (by decide) (hts (.fieldLink RX3 41 "ChordOverlayModel" "thrown" "I") (by decide +kernel)) (fun _ h9 => h9) rfl dX3_put_56 ?_
                  refine va_put (D := G.1) (ci := 2) (v := .int 1) (ty := .int) (C := RX3) (T := TX3) (N := 13) hx hb hts uX3 tyX3 tyX3_ok nmX3 hown hK hP hD hS 0 rfl rfl 0 (by decide) (hts (.fieldLink RX3 41 "ChordOverlayModel" "thrown" "I") (by decide +kernel)) (fun _ h9 => h9) rfl (by decide +kernel) rfl rfl (Nat.le_of_ble_eq_true rfl) dX3_put_59 (fun H locs hP hD hS => ?_)
                  have hP : pG G (wM G b (va_up (va_up μ 0 (fun _ => 1)) 0 (fun _ => 1))) H := hP
                  have hD : va_D A (wM G b (va_up (va_up μ 0 (fun _ => 1)) 0 (fun _ => 1))) := hD
                  have hz_6 : Rl Z σ (va_up (va_up μ 0 (fun _ => 1)) 0 (fun _ => 1)) := Rl.s0 (f := fun _ => 1) hz_3
                  refine lv_aload_n hx hb dX3_put_62 rfl (lv_at hl 1 rfl) ?_
                  refine va_get (D := G.1) (ci := 2) (v := .int 1) (C := RX3) (T := TX3) (N := 13) hx hb hts uX3 hown hK hP 0 rfl rfl 0 (by decide) (hts (.fieldLink RX3 41 "ChordOverlayModel" "thrown" "I") (by decide +kernel)) (fun _ h9 => h9) rfl dX3_put_63 ?_
                  refine lv_if_le (tgt := 71) hx hb dX3_put_66 (by decide) (fun c_7 => ?_) (fun c_7 => ?_)
                  · exact absurd c_7 (by decide)
                  · refine lv_iconst (v := 0) hx hb dX3_put_69 (by decide) ?_
                    exact co_endI (va_up (va_up μ 0 (fun _ => 1)) 0 (fun _ => 1)) S hr hlocks dX3_put_70 hK hP hD hS (by have hcd : cdW σ (nI n) y (nI w) = 1 := (by simp only [cdW, show okR (nI w) 0 999 = true from okR_rg (N := 999) hw0 (by decide), okR_id hn0, hok0, haln, c_1, c_2, c_4, c_5, c_7, eq_self, Bool.false_eq_true, ite_self, ↓reduceIte]); exact ⟨by rw [hcd]; exact rfl, fun h => absurd (hcd.symm.trans h) (by decide), fun _ => hz_6⟩)
                · exact absurd c_5 (by decide)
              · exact absurd c_4 (by decide)
        | true =>
          refine co_bodyI (cc := cX3_put) (maxL := 6) (ret := (some .int)) (by decide) rfl (Nat.le_of_ble_eq_true rfl) ?_
          intro p e s m args below meth c S hr hlocks hK A hA hP hD hS ls hl
          have S : CallFix p m c cX3_put 6 s args wsX3_put RX3 := S
          obtain ⟨hx, hb, hml, hown, hts⟩ := id S
          have hl : lv_has ls 6 [(0, .ref (b 0)), (1, .int (nI n)), (2, .int y), (3, .int (nI w))] := hl
          have uX3 := uX3_X3_put
          refine lv_aload_n hx hb dX3_put_0 rfl (lv_at hl 0 rfl) ?_
          refine lv_iload_n hx hb dX3_put_1 rfl (lv_at hl 3 rfl) ?_
          refine lv_if_lt (tgt := 21) hx hb dX3_put_2 (by decide) (fun c_1 => ?_) (fun c_1 => ?_)
          · exact absurd c_1 (nI_pos (by omega))
          · refine lv_iload_n hx hb dX3_put_5 rfl (lv_at hl 3 rfl) ?_
            refine lv_sipush (v := 999) hx hb dX3_put_6 (by decide) ?_
            refine lv_icmp_gt (tgt := 21) hx hb dX3_put_9 (by decide) (fun c_2 => ?_) (fun c_2 => ?_)
            · exact absurd (show nI 999 < nI w from c_2) (nI_nlt (by omega) (by decide))
            · refine lv_aload_n hx hb dX3_put_12 rfl (lv_at hl 0 rfl) ?_
              refine lv_iload_n hx hb dX3_put_13 rfl (lv_at hl 1 rfl) ?_
              refine lv_iload_n hx hb dX3_put_14 rfl (lv_at hl 2 rfl) ?_
              refine co_rV (As := [.int (nI n), .int y]) (rest := [.ref (b 0)]) S (c_X3_refusesLookup l G Z b σ μ hR (nI n) y) (cwV 2 hts gX3_put_X3_refusesLookup rfl rfl rfl (by decide +kernel) ⟨Nat.le_of_ble_eq_true rfl, Nat.le_of_ble_eq_true rfl⟩) hK hP (va_recv hK hP (ci := 2) (q0 := 0) rfl rfl) rfl hl.1 rfl (Nat.le_of_ble_eq_true rfl) dX3_put_15 ⟨Nat.zero_le _, Nat.zero_le _⟩ ?_
              refine co_eq (show nI (cdP σ (nI n) y 63) = 1 from congrArg nI (show cdP σ (nI n) y 63 = 1 by simp only [cdP, show okR (nI w) 0 999 = true from okR_rg (N := 999) hw0 (by decide), okR_id hn0, hok0, haln, eq_self, Bool.false_eq_true, ite_self, ↓reduceIte])) ?_
              refine lv_goto (tgt := 22) hx hb dX3_put_18 (by decide) ?_
              refine va_put (D := G.1) (ci := 2) (v := .int 1) (ty := .int) (C := RX3) (T := TX3) (N := 13) hx hb hts uX3 tyX3 tyX3_ok nmX3 hown hK hP hD hS 0 rfl rfl 0 (by decide) (hts (.fieldLink RX3 41 "ChordOverlayModel" "thrown" "I") (by decide +kernel)) (fun _ h9 => h9) rfl (by decide +kernel) rfl rfl (Nat.le_of_ble_eq_true rfl) dX3_put_22 (fun H locs hP hD hS => ?_)
              have hP : pG G (wM G b (va_up μ 0 (fun _ => 1))) H := hP
              have hD : va_D A (wM G b (va_up μ 0 (fun _ => 1))) := hD
              have hz_3 : Rl Z σ (va_up μ 0 (fun _ => 1)) := Rl.s0 (f := fun _ => 1) hR
              refine lv_aload_n hx hb dX3_put_25 rfl (lv_at hl 0 rfl) ?_
              refine va_get (D := G.1) (ci := 2) (v := .int 1) (C := RX3) (T := TX3) (N := 13) hx hb hts uX3 hown hK hP 0 rfl rfl 0 (by decide) (hts (.fieldLink RX3 41 "ChordOverlayModel" "thrown" "I") (by decide +kernel)) (fun _ h9 => h9) rfl dX3_put_26 ?_
              refine lv_if_ne (tgt := 41) hx hb dX3_put_29 (by decide) (fun c_4 => ?_) (fun c_4 => ?_)
              · refine lv_iconst (v := 0) hx hb dX3_put_41 (by decide) ?_
                refine lv_istore (lv' := [(4, .int 0), (0, .ref (b 0)), (1, .int (nI n)), (2, .int y), (3, .int (nI w))]) hx hb dX3_put_42 hl (by decide) rfl (fun ls hl => ?_)
                refine lv_aload_n hx hb dX3_put_44 rfl (lv_at hl 1 rfl) ?_
                refine lv_iload hx hb dX3_put_45 (lv_at hl 0 rfl) ?_
                refine lv_iconst (v := (-1)) hx hb dX3_put_47 (by decide) ?_
                refine lv_icmp_ne (tgt := 55) hx hb dX3_put_48 (by decide) (fun c_5 => ?_) (fun c_5 => ?_)
                · refine lv_aload_n hx hb dX3_put_55 rfl (lv_at hl 1 rfl) ?_
                  refine va_get (D := G.1) (ci := 2) (v := .int 1) (C := RX3) (T := TX3) (N := 13) hx hb hts uX3 hown hK hP 0 rfl rfl 0 (by decide) (hts (.fieldLink RX3 41 "ChordOverlayModel" "thrown" "I") (by decide +kernel)) (fun _ h9 => h9) rfl dX3_put_56 ?_
                  refine va_put (D := G.1) (ci := 2) (v := .int 1) (ty := .int) (C := RX3) (T := TX3) (N := 13) hx hb hts uX3 tyX3 tyX3_ok nmX3 hown hK hP hD hS 0 rfl rfl 0 (by decide) (hts (.fieldLink RX3 41 "ChordOverlayModel" "thrown" "I") (by decide +kernel)) (fun _ h9 => h9) rfl (by decide +kernel) rfl rfl (Nat.le_of_ble_eq_true rfl) dX3_put_59 (fun H locs hP hD hS => ?_)
                  have hP : pG G (wM G b (va_up (va_up μ 0 (fun _ => 1)) 0 (fun _ => 1))) H := hP
                  have hD : va_D A (wM G b (va_up (va_up μ 0 (fun _ => 1)) 0 (fun _ => 1))) := hD
                  have hz_6 : Rl Z σ (va_up (va_up μ 0 (fun _ => 1)) 0 (fun _ => 1)) := Rl.s0 (f := fun _ => 1) hz_3
                  refine lv_aload_n hx hb dX3_put_62 rfl (lv_at hl 1 rfl) ?_
                  refine va_get (D := G.1) (ci := 2) (v := .int 1) (C := RX3) (T := TX3) (N := 13) hx hb hts uX3 hown hK hP 0 rfl rfl 0 (by decide) (hts (.fieldLink RX3 41 "ChordOverlayModel" "thrown" "I") (by decide +kernel)) (fun _ h9 => h9) rfl dX3_put_63 ?_
                  refine lv_if_le (tgt := 71) hx hb dX3_put_66 (by decide) (fun c_7 => ?_) (fun c_7 => ?_)
                  · exact absurd c_7 (by decide)
                  · refine lv_iconst (v := 0) hx hb dX3_put_69 (by decide) ?_
                    exact co_endI (va_up (va_up μ 0 (fun _ => 1)) 0 (fun _ => 1)) S hr hlocks dX3_put_70 hK hP hD hS (by have hcd : cdW σ (nI n) y (nI w) = 1 := (by simp only [cdW, show okR (nI w) 0 999 = true from okR_rg (N := 999) hw0 (by decide), okR_id hn0, hok0, haln, c_1, c_2, c_4, c_5, c_7, eq_self, Bool.false_eq_true, ite_self, ↓reduceIte]); exact ⟨by rw [hcd]; exact rfl, fun h => absurd (hcd.symm.trans h) (by decide), fun _ => hz_6⟩)
                · exact absurd c_5 (by decide)
              · exact absurd c_4 (by decide)
    · rcases id_or y with ⟨k, hk0, rfl⟩ | ⟨hik0, hok0⟩
      · refine co_bodyI (cc := cX3_put) (maxL := 6) (ret := (some .int)) (by decide) rfl (Nat.le_of_ble_eq_true rfl) ?_
        intro p e s m args below meth c S hr hlocks hK A hA hP hD hS ls hl
        have S : CallFix p m c cX3_put 6 s args wsX3_put RX3 := S
        obtain ⟨hx, hb, hml, hown, hts⟩ := id S
        have hl : lv_has ls 6 [(0, .ref (b 0)), (1, .int x), (2, .int (nI k)), (3, .int (nI w))] := hl
        have uX3 := uX3_X3_put
        refine lv_aload_n hx hb dX3_put_0 rfl (lv_at hl 0 rfl) ?_
        refine lv_iload_n hx hb dX3_put_1 rfl (lv_at hl 3 rfl) ?_
        refine lv_if_lt (tgt := 21) hx hb dX3_put_2 (by decide) (fun c_1 => ?_) (fun c_1 => ?_)
        · exact absurd c_1 (nI_pos (by omega))
        · refine lv_iload_n hx hb dX3_put_5 rfl (lv_at hl 3 rfl) ?_
          refine lv_sipush (v := 999) hx hb dX3_put_6 (by decide) ?_
          refine lv_icmp_gt (tgt := 21) hx hb dX3_put_9 (by decide) (fun c_2 => ?_) (fun c_2 => ?_)
          · exact absurd (show nI 999 < nI w from c_2) (nI_nlt (by omega) (by decide))
          · refine lv_aload_n hx hb dX3_put_12 rfl (lv_at hl 0 rfl) ?_
            refine lv_iload_n hx hb dX3_put_13 rfl (lv_at hl 1 rfl) ?_
            refine lv_iload_n hx hb dX3_put_14 rfl (lv_at hl 2 rfl) ?_
            refine co_rV (As := [.int x, .int (nI k)]) (rest := [.ref (b 0)]) S (c_X3_refusesLookup l G Z b σ μ hR x (nI k)) (cwV 2 hts gX3_put_X3_refusesLookup rfl rfl rfl (by decide +kernel) ⟨Nat.le_of_ble_eq_true rfl, Nat.le_of_ble_eq_true rfl⟩) hK hP (va_recv hK hP (ci := 2) (q0 := 0) rfl rfl) rfl hl.1 rfl (Nat.le_of_ble_eq_true rfl) dX3_put_15 ⟨Nat.zero_le _, Nat.zero_le _⟩ ?_
            refine co_eq (show nI (cdP σ x (nI k) 63) = 1 from congrArg nI (show cdP σ x (nI k) 63 = 1 by simp only [cdP, show okR (nI w) 0 999 = true from okR_rg (N := 999) hw0 (by decide), hon0, okR_id hk0, eq_self, Bool.false_eq_true, ite_self, ↓reduceIte])) ?_
            refine lv_goto (tgt := 22) hx hb dX3_put_18 (by decide) ?_
            refine va_put (D := G.1) (ci := 2) (v := .int 1) (ty := .int) (C := RX3) (T := TX3) (N := 13) hx hb hts uX3 tyX3 tyX3_ok nmX3 hown hK hP hD hS 0 rfl rfl 0 (by decide) (hts (.fieldLink RX3 41 "ChordOverlayModel" "thrown" "I") (by decide +kernel)) (fun _ h9 => h9) rfl (by decide +kernel) rfl rfl (Nat.le_of_ble_eq_true rfl) dX3_put_22 (fun H locs hP hD hS => ?_)
            have hP : pG G (wM G b (va_up μ 0 (fun _ => 1))) H := hP
            have hD : va_D A (wM G b (va_up μ 0 (fun _ => 1))) := hD
            have hz_3 : Rl Z σ (va_up μ 0 (fun _ => 1)) := Rl.s0 (f := fun _ => 1) hR
            refine lv_aload_n hx hb dX3_put_25 rfl (lv_at hl 0 rfl) ?_
            refine va_get (D := G.1) (ci := 2) (v := .int 1) (C := RX3) (T := TX3) (N := 13) hx hb hts uX3 hown hK hP 0 rfl rfl 0 (by decide) (hts (.fieldLink RX3 41 "ChordOverlayModel" "thrown" "I") (by decide +kernel)) (fun _ h9 => h9) rfl dX3_put_26 ?_
            refine lv_if_ne (tgt := 41) hx hb dX3_put_29 (by decide) (fun c_4 => ?_) (fun c_4 => ?_)
            · refine lv_iconst (v := 0) hx hb dX3_put_41 (by decide) ?_
              refine lv_istore (lv' := [(4, .int 0), (0, .ref (b 0)), (1, .int x), (2, .int (nI k)), (3, .int (nI w))]) hx hb dX3_put_42 hl (by decide) rfl (fun ls hl => ?_)
              refine lv_aload_n hx hb dX3_put_44 rfl (lv_at hl 1 rfl) ?_
              refine lv_iload hx hb dX3_put_45 (lv_at hl 0 rfl) ?_
              refine lv_iconst (v := (-1)) hx hb dX3_put_47 (by decide) ?_
              refine lv_icmp_ne (tgt := 55) hx hb dX3_put_48 (by decide) (fun c_5 => ?_) (fun c_5 => ?_)
              · refine lv_aload_n hx hb dX3_put_55 rfl (lv_at hl 1 rfl) ?_
                refine va_get (D := G.1) (ci := 2) (v := .int 1) (C := RX3) (T := TX3) (N := 13) hx hb hts uX3 hown hK hP 0 rfl rfl 0 (by decide) (hts (.fieldLink RX3 41 "ChordOverlayModel" "thrown" "I") (by decide +kernel)) (fun _ h9 => h9) rfl dX3_put_56 ?_
                refine va_put (D := G.1) (ci := 2) (v := .int 1) (ty := .int) (C := RX3) (T := TX3) (N := 13) hx hb hts uX3 tyX3 tyX3_ok nmX3 hown hK hP hD hS 0 rfl rfl 0 (by decide) (hts (.fieldLink RX3 41 "ChordOverlayModel" "thrown" "I") (by decide +kernel)) (fun _ h9 => h9) rfl (by decide +kernel) rfl rfl (Nat.le_of_ble_eq_true rfl) dX3_put_59 (fun H locs hP hD hS => ?_)
                have hP : pG G (wM G b (va_up (va_up μ 0 (fun _ => 1)) 0 (fun _ => 1))) H := hP
                have hD : va_D A (wM G b (va_up (va_up μ 0 (fun _ => 1)) 0 (fun _ => 1))) := hD
                have hz_6 : Rl Z σ (va_up (va_up μ 0 (fun _ => 1)) 0 (fun _ => 1)) := Rl.s0 (f := fun _ => 1) hz_3
                refine lv_aload_n hx hb dX3_put_62 rfl (lv_at hl 1 rfl) ?_
                refine va_get (D := G.1) (ci := 2) (v := .int 1) (C := RX3) (T := TX3) (N := 13) hx hb hts uX3 hown hK hP 0 rfl rfl 0 (by decide) (hts (.fieldLink RX3 41 "ChordOverlayModel" "thrown" "I") (by decide +kernel)) (fun _ h9 => h9) rfl dX3_put_63 ?_
                refine lv_if_le (tgt := 71) hx hb dX3_put_66 (by decide) (fun c_7 => ?_) (fun c_7 => ?_)
                · exact absurd c_7 (by decide)
                · refine lv_iconst (v := 0) hx hb dX3_put_69 (by decide) ?_
                  exact co_endI (va_up (va_up μ 0 (fun _ => 1)) 0 (fun _ => 1)) S hr hlocks dX3_put_70 hK hP hD hS (by have hcd : cdW σ x (nI k) (nI w) = 1 := (by simp only [cdW, show okR (nI w) 0 999 = true from okR_rg (N := 999) hw0 (by decide), hon0, okR_id hk0, c_1, c_2, c_4, c_5, c_7, eq_self, Bool.false_eq_true, ite_self, ↓reduceIte]); exact ⟨by rw [hcd]; exact rfl, fun h => absurd (hcd.symm.trans h) (by decide), fun _ => hz_6⟩)
              · exact absurd c_5 (by decide)
            · exact absurd c_4 (by decide)
      · refine co_bodyI (cc := cX3_put) (maxL := 6) (ret := (some .int)) (by decide) rfl (Nat.le_of_ble_eq_true rfl) ?_
        intro p e s m args below meth c S hr hlocks hK A hA hP hD hS ls hl
        have S : CallFix p m c cX3_put 6 s args wsX3_put RX3 := S
        obtain ⟨hx, hb, hml, hown, hts⟩ := id S
        have hl : lv_has ls 6 [(0, .ref (b 0)), (1, .int x), (2, .int y), (3, .int (nI w))] := hl
        have uX3 := uX3_X3_put
        refine lv_aload_n hx hb dX3_put_0 rfl (lv_at hl 0 rfl) ?_
        refine lv_iload_n hx hb dX3_put_1 rfl (lv_at hl 3 rfl) ?_
        refine lv_if_lt (tgt := 21) hx hb dX3_put_2 (by decide) (fun c_1 => ?_) (fun c_1 => ?_)
        · exact absurd c_1 (nI_pos (by omega))
        · refine lv_iload_n hx hb dX3_put_5 rfl (lv_at hl 3 rfl) ?_
          refine lv_sipush (v := 999) hx hb dX3_put_6 (by decide) ?_
          refine lv_icmp_gt (tgt := 21) hx hb dX3_put_9 (by decide) (fun c_2 => ?_) (fun c_2 => ?_)
          · exact absurd (show nI 999 < nI w from c_2) (nI_nlt (by omega) (by decide))
          · refine lv_aload_n hx hb dX3_put_12 rfl (lv_at hl 0 rfl) ?_
            refine lv_iload_n hx hb dX3_put_13 rfl (lv_at hl 1 rfl) ?_
            refine lv_iload_n hx hb dX3_put_14 rfl (lv_at hl 2 rfl) ?_
            refine co_rV (As := [.int x, .int y]) (rest := [.ref (b 0)]) S (c_X3_refusesLookup l G Z b σ μ hR x y) (cwV 2 hts gX3_put_X3_refusesLookup rfl rfl rfl (by decide +kernel) ⟨Nat.le_of_ble_eq_true rfl, Nat.le_of_ble_eq_true rfl⟩) hK hP (va_recv hK hP (ci := 2) (q0 := 0) rfl rfl) rfl hl.1 rfl (Nat.le_of_ble_eq_true rfl) dX3_put_15 ⟨Nat.zero_le _, Nat.zero_le _⟩ ?_
            refine co_eq (show nI (cdP σ x y 63) = 1 from congrArg nI (show cdP σ x y 63 = 1 by simp only [cdP, show okR (nI w) 0 999 = true from okR_rg (N := 999) hw0 (by decide), hon0, hok0, eq_self, Bool.false_eq_true, ite_self, ↓reduceIte])) ?_
            refine lv_goto (tgt := 22) hx hb dX3_put_18 (by decide) ?_
            refine va_put (D := G.1) (ci := 2) (v := .int 1) (ty := .int) (C := RX3) (T := TX3) (N := 13) hx hb hts uX3 tyX3 tyX3_ok nmX3 hown hK hP hD hS 0 rfl rfl 0 (by decide) (hts (.fieldLink RX3 41 "ChordOverlayModel" "thrown" "I") (by decide +kernel)) (fun _ h9 => h9) rfl (by decide +kernel) rfl rfl (Nat.le_of_ble_eq_true rfl) dX3_put_22 (fun H locs hP hD hS => ?_)
            have hP : pG G (wM G b (va_up μ 0 (fun _ => 1))) H := hP
            have hD : va_D A (wM G b (va_up μ 0 (fun _ => 1))) := hD
            have hz_3 : Rl Z σ (va_up μ 0 (fun _ => 1)) := Rl.s0 (f := fun _ => 1) hR
            refine lv_aload_n hx hb dX3_put_25 rfl (lv_at hl 0 rfl) ?_
            refine va_get (D := G.1) (ci := 2) (v := .int 1) (C := RX3) (T := TX3) (N := 13) hx hb hts uX3 hown hK hP 0 rfl rfl 0 (by decide) (hts (.fieldLink RX3 41 "ChordOverlayModel" "thrown" "I") (by decide +kernel)) (fun _ h9 => h9) rfl dX3_put_26 ?_
            refine lv_if_ne (tgt := 41) hx hb dX3_put_29 (by decide) (fun c_4 => ?_) (fun c_4 => ?_)
            · refine lv_iconst (v := 0) hx hb dX3_put_41 (by decide) ?_
              refine lv_istore (lv' := [(4, .int 0), (0, .ref (b 0)), (1, .int x), (2, .int y), (3, .int (nI w))]) hx hb dX3_put_42 hl (by decide) rfl (fun ls hl => ?_)
              refine lv_aload_n hx hb dX3_put_44 rfl (lv_at hl 1 rfl) ?_
              refine lv_iload hx hb dX3_put_45 (lv_at hl 0 rfl) ?_
              refine lv_iconst (v := (-1)) hx hb dX3_put_47 (by decide) ?_
              refine lv_icmp_ne (tgt := 55) hx hb dX3_put_48 (by decide) (fun c_5 => ?_) (fun c_5 => ?_)
              · refine lv_aload_n hx hb dX3_put_55 rfl (lv_at hl 1 rfl) ?_
                refine va_get (D := G.1) (ci := 2) (v := .int 1) (C := RX3) (T := TX3) (N := 13) hx hb hts uX3 hown hK hP 0 rfl rfl 0 (by decide) (hts (.fieldLink RX3 41 "ChordOverlayModel" "thrown" "I") (by decide +kernel)) (fun _ h9 => h9) rfl dX3_put_56 ?_
                refine va_put (D := G.1) (ci := 2) (v := .int 1) (ty := .int) (C := RX3) (T := TX3) (N := 13) hx hb hts uX3 tyX3 tyX3_ok nmX3 hown hK hP hD hS 0 rfl rfl 0 (by decide) (hts (.fieldLink RX3 41 "ChordOverlayModel" "thrown" "I") (by decide +kernel)) (fun _ h9 => h9) rfl (by decide +kernel) rfl rfl (Nat.le_of_ble_eq_true rfl) dX3_put_59 (fun H locs hP hD hS => ?_)
                have hP : pG G (wM G b (va_up (va_up μ 0 (fun _ => 1)) 0 (fun _ => 1))) H := hP
                have hD : va_D A (wM G b (va_up (va_up μ 0 (fun _ => 1)) 0 (fun _ => 1))) := hD
                have hz_6 : Rl Z σ (va_up (va_up μ 0 (fun _ => 1)) 0 (fun _ => 1)) := Rl.s0 (f := fun _ => 1) hz_3
                refine lv_aload_n hx hb dX3_put_62 rfl (lv_at hl 1 rfl) ?_
                refine va_get (D := G.1) (ci := 2) (v := .int 1) (C := RX3) (T := TX3) (N := 13) hx hb hts uX3 hown hK hP 0 rfl rfl 0 (by decide) (hts (.fieldLink RX3 41 "ChordOverlayModel" "thrown" "I") (by decide +kernel)) (fun _ h9 => h9) rfl dX3_put_63 ?_
                refine lv_if_le (tgt := 71) hx hb dX3_put_66 (by decide) (fun c_7 => ?_) (fun c_7 => ?_)
                · exact absurd c_7 (by decide)
                · refine lv_iconst (v := 0) hx hb dX3_put_69 (by decide) ?_
                  exact co_endI (va_up (va_up μ 0 (fun _ => 1)) 0 (fun _ => 1)) S hr hlocks dX3_put_70 hK hP hD hS (by have hcd : cdW σ x y (nI w) = 1 := (by simp only [cdW, show okR (nI w) 0 999 = true from okR_rg (N := 999) hw0 (by decide), hon0, hok0, c_1, c_2, c_4, c_5, c_7, eq_self, Bool.false_eq_true, ite_self, ↓reduceIte]); exact ⟨by rw [hcd]; exact rfl, fun h => absurd (hcd.symm.trans h) (by decide), fun _ => hz_6⟩)
              · exact absurd c_5 (by decide)
            · exact absurd c_4 (by decide)
  · rcases id_or x with ⟨n, hn0, rfl⟩ | ⟨hin0, hon0⟩
    · rcases id_or y with ⟨k, hk0, rfl⟩ | ⟨hik0, hok0⟩
      · cases haln : alv (σ 0) (nI n) with
        | false =>
          refine co_bodyI (cc := cX3_put) (maxL := 6) (ret := (some .int)) (by decide) rfl (Nat.le_of_ble_eq_true rfl) ?_
          intro p e s m args below meth c S hr hlocks hK A hA hP hD hS ls hl
          have S : CallFix p m c cX3_put 6 s args wsX3_put RX3 := S
          obtain ⟨hx, hb, hml, hown, hts⟩ := id S
          have hl : lv_has ls 6 [(0, .ref (b 0)), (1, .int (nI n)), (2, .int (nI k)), (3, .int v)] := hl
          have uX3 := uX3_X3_put
          refine lv_aload_n hx hb dX3_put_0 rfl (lv_at hl 0 rfl) ?_
          refine lv_iload_n hx hb dX3_put_1 rfl (lv_at hl 3 rfl) ?_
          refine lv_if_lt (tgt := 21) hx hb dX3_put_2 (by decide) (fun c_1 => ?_) (fun c_1 => ?_)
          · refine lv_iconst (v := 1) hx hb dX3_put_21 (by decide) ?_
            refine va_put (D := G.1) (ci := 2) (v := .int 1) (ty := .int) (C := RX3) (T := TX3) (N := 13) hx hb hts uX3 tyX3 tyX3_ok nmX3 hown hK hP hD hS 0 rfl rfl 0 (by decide) (hts (.fieldLink RX3 41 "ChordOverlayModel" "thrown" "I") (by decide +kernel)) (fun _ h9 => h9) rfl (by decide +kernel) rfl rfl (Nat.le_of_ble_eq_true rfl) dX3_put_22 (fun H locs hP hD hS => ?_)
            have hP : pG G (wM G b (va_up μ 0 (fun _ => 1))) H := hP
            have hD : va_D A (wM G b (va_up μ 0 (fun _ => 1))) := hD
            have hz_2 : Rl Z σ (va_up μ 0 (fun _ => 1)) := Rl.s0 (f := fun _ => 1) hR
            refine lv_aload_n hx hb dX3_put_25 rfl (lv_at hl 0 rfl) ?_
            refine va_get (D := G.1) (ci := 2) (v := .int 1) (C := RX3) (T := TX3) (N := 13) hx hb hts uX3 hown hK hP 0 rfl rfl 0 (by decide) (hts (.fieldLink RX3 41 "ChordOverlayModel" "thrown" "I") (by decide +kernel)) (fun _ h9 => h9) rfl dX3_put_26 ?_
            refine lv_if_ne (tgt := 41) hx hb dX3_put_29 (by decide) (fun c_3 => ?_) (fun c_3 => ?_)
            · refine lv_iconst (v := 0) hx hb dX3_put_41 (by decide) ?_
              refine lv_istore (lv' := [(4, .int 0), (0, .ref (b 0)), (1, .int (nI n)), (2, .int (nI k)), (3, .int v)]) hx hb dX3_put_42 hl (by decide) rfl (fun ls hl => ?_)
              refine lv_aload_n hx hb dX3_put_44 rfl (lv_at hl 1 rfl) ?_
              refine lv_iload hx hb dX3_put_45 (lv_at hl 0 rfl) ?_
              refine lv_iconst (v := (-1)) hx hb dX3_put_47 (by decide) ?_
              refine lv_icmp_ne (tgt := 55) hx hb dX3_put_48 (by decide) (fun c_4 => ?_) (fun c_4 => ?_)
              · refine lv_aload_n hx hb dX3_put_55 rfl (lv_at hl 1 rfl) ?_
                refine va_get (D := G.1) (ci := 2) (v := .int 1) (C := RX3) (T := TX3) (N := 13) hx hb hts uX3 hown hK hP 0 rfl rfl 0 (by decide) (hts (.fieldLink RX3 41 "ChordOverlayModel" "thrown" "I") (by decide +kernel)) (fun _ h9 => h9) rfl dX3_put_56 ?_
                refine va_put (D := G.1) (ci := 2) (v := .int 1) (ty := .int) (C := RX3) (T := TX3) (N := 13) hx hb hts uX3 tyX3 tyX3_ok nmX3 hown hK hP hD hS 0 rfl rfl 0 (by decide) (hts (.fieldLink RX3 41 "ChordOverlayModel" "thrown" "I") (by decide +kernel)) (fun _ h9 => h9) rfl (by decide +kernel) rfl rfl (Nat.le_of_ble_eq_true rfl) dX3_put_59 (fun H locs hP hD hS => ?_)
                have hP : pG G (wM G b (va_up (va_up μ 0 (fun _ => 1)) 0 (fun _ => 1))) H := hP
                have hD : va_D A (wM G b (va_up (va_up μ 0 (fun _ => 1)) 0 (fun _ => 1))) := hD
                have hz_5 : Rl Z σ (va_up (va_up μ 0 (fun _ => 1)) 0 (fun _ => 1)) := Rl.s0 (f := fun _ => 1) hz_2
                refine lv_aload_n hx hb dX3_put_62 rfl (lv_at hl 1 rfl) ?_
                refine va_get (D := G.1) (ci := 2) (v := .int 1) (C := RX3) (T := TX3) (N := 13) hx hb hts uX3 hown hK hP 0 rfl rfl 0 (by decide) (hts (.fieldLink RX3 41 "ChordOverlayModel" "thrown" "I") (by decide +kernel)) (fun _ h9 => h9) rfl dX3_put_63 ?_
                refine lv_if_le (tgt := 71) hx hb dX3_put_66 (by decide) (fun c_6 => ?_) (fun c_6 => ?_)
                · exact absurd c_6 (by decide)
                · refine lv_iconst (v := 0) hx hb dX3_put_69 (by decide) ?_
                  exact co_endI (va_up (va_up μ 0 (fun _ => 1)) 0 (fun _ => 1)) S hr hlocks dX3_put_70 hK hP hD hS (by have hcd : cdW σ (nI n) (nI k) v = 1 := (by simp only [cdW, show okR v 0 999 = false from how0, okR_id hn0, okR_id hk0, haln, c_1, c_3, c_4, c_6, eq_self, Bool.false_eq_true, ite_self, ↓reduceIte]); exact ⟨by rw [hcd]; exact rfl, fun h => absurd (hcd.symm.trans h) (by decide), fun _ => hz_5⟩)
              · exact absurd c_4 (by decide)
            · exact absurd c_3 (by decide)
          · exact absurd hzw0 c_1
        | true =>
          refine co_bodyI (cc := cX3_put) (maxL := 6) (ret := (some .int)) (by decide) rfl (Nat.le_of_ble_eq_true rfl) ?_
          intro p e s m args below meth c S hr hlocks hK A hA hP hD hS ls hl
          have S : CallFix p m c cX3_put 6 s args wsX3_put RX3 := S
          obtain ⟨hx, hb, hml, hown, hts⟩ := id S
          have hl : lv_has ls 6 [(0, .ref (b 0)), (1, .int (nI n)), (2, .int (nI k)), (3, .int v)] := hl
          have uX3 := uX3_X3_put
          refine lv_aload_n hx hb dX3_put_0 rfl (lv_at hl 0 rfl) ?_
          refine lv_iload_n hx hb dX3_put_1 rfl (lv_at hl 3 rfl) ?_
          refine lv_if_lt (tgt := 21) hx hb dX3_put_2 (by decide) (fun c_1 => ?_) (fun c_1 => ?_)
          · refine lv_iconst (v := 1) hx hb dX3_put_21 (by decide) ?_
            refine va_put (D := G.1) (ci := 2) (v := .int 1) (ty := .int) (C := RX3) (T := TX3) (N := 13) hx hb hts uX3 tyX3 tyX3_ok nmX3 hown hK hP hD hS 0 rfl rfl 0 (by decide) (hts (.fieldLink RX3 41 "ChordOverlayModel" "thrown" "I") (by decide +kernel)) (fun _ h9 => h9) rfl (by decide +kernel) rfl rfl (Nat.le_of_ble_eq_true rfl) dX3_put_22 (fun H locs hP hD hS => ?_)
            have hP : pG G (wM G b (va_up μ 0 (fun _ => 1))) H := hP
            have hD : va_D A (wM G b (va_up μ 0 (fun _ => 1))) := hD
            have hz_2 : Rl Z σ (va_up μ 0 (fun _ => 1)) := Rl.s0 (f := fun _ => 1) hR
            refine lv_aload_n hx hb dX3_put_25 rfl (lv_at hl 0 rfl) ?_
            refine va_get (D := G.1) (ci := 2) (v := .int 1) (C := RX3) (T := TX3) (N := 13) hx hb hts uX3 hown hK hP 0 rfl rfl 0 (by decide) (hts (.fieldLink RX3 41 "ChordOverlayModel" "thrown" "I") (by decide +kernel)) (fun _ h9 => h9) rfl dX3_put_26 ?_
            refine lv_if_ne (tgt := 41) hx hb dX3_put_29 (by decide) (fun c_3 => ?_) (fun c_3 => ?_)
            · refine lv_iconst (v := 0) hx hb dX3_put_41 (by decide) ?_
              refine lv_istore (lv' := [(4, .int 0), (0, .ref (b 0)), (1, .int (nI n)), (2, .int (nI k)), (3, .int v)]) hx hb dX3_put_42 hl (by decide) rfl (fun ls hl => ?_)
              refine lv_aload_n hx hb dX3_put_44 rfl (lv_at hl 1 rfl) ?_
              refine lv_iload hx hb dX3_put_45 (lv_at hl 0 rfl) ?_
              refine lv_iconst (v := (-1)) hx hb dX3_put_47 (by decide) ?_
              refine lv_icmp_ne (tgt := 55) hx hb dX3_put_48 (by decide) (fun c_4 => ?_) (fun c_4 => ?_)
              · refine lv_aload_n hx hb dX3_put_55 rfl (lv_at hl 1 rfl) ?_
                refine va_get (D := G.1) (ci := 2) (v := .int 1) (C := RX3) (T := TX3) (N := 13) hx hb hts uX3 hown hK hP 0 rfl rfl 0 (by decide) (hts (.fieldLink RX3 41 "ChordOverlayModel" "thrown" "I") (by decide +kernel)) (fun _ h9 => h9) rfl dX3_put_56 ?_
                refine va_put (D := G.1) (ci := 2) (v := .int 1) (ty := .int) (C := RX3) (T := TX3) (N := 13) hx hb hts uX3 tyX3 tyX3_ok nmX3 hown hK hP hD hS 0 rfl rfl 0 (by decide) (hts (.fieldLink RX3 41 "ChordOverlayModel" "thrown" "I") (by decide +kernel)) (fun _ h9 => h9) rfl (by decide +kernel) rfl rfl (Nat.le_of_ble_eq_true rfl) dX3_put_59 (fun H locs hP hD hS => ?_)
                have hP : pG G (wM G b (va_up (va_up μ 0 (fun _ => 1)) 0 (fun _ => 1))) H := hP
                have hD : va_D A (wM G b (va_up (va_up μ 0 (fun _ => 1)) 0 (fun _ => 1))) := hD
                have hz_5 : Rl Z σ (va_up (va_up μ 0 (fun _ => 1)) 0 (fun _ => 1)) := Rl.s0 (f := fun _ => 1) hz_2
                refine lv_aload_n hx hb dX3_put_62 rfl (lv_at hl 1 rfl) ?_
                refine va_get (D := G.1) (ci := 2) (v := .int 1) (C := RX3) (T := TX3) (N := 13) hx hb hts uX3 hown hK hP 0 rfl rfl 0 (by decide) (hts (.fieldLink RX3 41 "ChordOverlayModel" "thrown" "I") (by decide +kernel)) (fun _ h9 => h9) rfl dX3_put_63 ?_
                refine lv_if_le (tgt := 71) hx hb dX3_put_66 (by decide) (fun c_6 => ?_) (fun c_6 => ?_)
                · exact absurd c_6 (by decide)
                · refine lv_iconst (v := 0) hx hb dX3_put_69 (by decide) ?_
                  exact co_endI (va_up (va_up μ 0 (fun _ => 1)) 0 (fun _ => 1)) S hr hlocks dX3_put_70 hK hP hD hS (by have hcd : cdW σ (nI n) (nI k) v = 1 := (by simp only [cdW, show okR v 0 999 = false from how0, okR_id hn0, okR_id hk0, haln, c_1, c_3, c_4, c_6, eq_self, Bool.false_eq_true, ite_self, ↓reduceIte]); exact ⟨by rw [hcd]; exact rfl, fun h => absurd (hcd.symm.trans h) (by decide), fun _ => hz_5⟩)
              · exact absurd c_4 (by decide)
            · exact absurd c_3 (by decide)
          · exact absurd hzw0 c_1
      · cases haln : alv (σ 0) (nI n) with
        | false =>
          refine co_bodyI (cc := cX3_put) (maxL := 6) (ret := (some .int)) (by decide) rfl (Nat.le_of_ble_eq_true rfl) ?_
          intro p e s m args below meth c S hr hlocks hK A hA hP hD hS ls hl
          have S : CallFix p m c cX3_put 6 s args wsX3_put RX3 := S
          obtain ⟨hx, hb, hml, hown, hts⟩ := id S
          have hl : lv_has ls 6 [(0, .ref (b 0)), (1, .int (nI n)), (2, .int y), (3, .int v)] := hl
          have uX3 := uX3_X3_put
          refine lv_aload_n hx hb dX3_put_0 rfl (lv_at hl 0 rfl) ?_
          refine lv_iload_n hx hb dX3_put_1 rfl (lv_at hl 3 rfl) ?_
          refine lv_if_lt (tgt := 21) hx hb dX3_put_2 (by decide) (fun c_1 => ?_) (fun c_1 => ?_)
          · refine lv_iconst (v := 1) hx hb dX3_put_21 (by decide) ?_
            refine va_put (D := G.1) (ci := 2) (v := .int 1) (ty := .int) (C := RX3) (T := TX3) (N := 13) hx hb hts uX3 tyX3 tyX3_ok nmX3 hown hK hP hD hS 0 rfl rfl 0 (by decide) (hts (.fieldLink RX3 41 "ChordOverlayModel" "thrown" "I") (by decide +kernel)) (fun _ h9 => h9) rfl (by decide +kernel) rfl rfl (Nat.le_of_ble_eq_true rfl) dX3_put_22 (fun H locs hP hD hS => ?_)
            have hP : pG G (wM G b (va_up μ 0 (fun _ => 1))) H := hP
            have hD : va_D A (wM G b (va_up μ 0 (fun _ => 1))) := hD
            have hz_2 : Rl Z σ (va_up μ 0 (fun _ => 1)) := Rl.s0 (f := fun _ => 1) hR
            refine lv_aload_n hx hb dX3_put_25 rfl (lv_at hl 0 rfl) ?_
            refine va_get (D := G.1) (ci := 2) (v := .int 1) (C := RX3) (T := TX3) (N := 13) hx hb hts uX3 hown hK hP 0 rfl rfl 0 (by decide) (hts (.fieldLink RX3 41 "ChordOverlayModel" "thrown" "I") (by decide +kernel)) (fun _ h9 => h9) rfl dX3_put_26 ?_
            refine lv_if_ne (tgt := 41) hx hb dX3_put_29 (by decide) (fun c_3 => ?_) (fun c_3 => ?_)
            · refine lv_iconst (v := 0) hx hb dX3_put_41 (by decide) ?_
              refine lv_istore (lv' := [(4, .int 0), (0, .ref (b 0)), (1, .int (nI n)), (2, .int y), (3, .int v)]) hx hb dX3_put_42 hl (by decide) rfl (fun ls hl => ?_)
              refine lv_aload_n hx hb dX3_put_44 rfl (lv_at hl 1 rfl) ?_
              refine lv_iload hx hb dX3_put_45 (lv_at hl 0 rfl) ?_
              refine lv_iconst (v := (-1)) hx hb dX3_put_47 (by decide) ?_
              refine lv_icmp_ne (tgt := 55) hx hb dX3_put_48 (by decide) (fun c_4 => ?_) (fun c_4 => ?_)
              · refine lv_aload_n hx hb dX3_put_55 rfl (lv_at hl 1 rfl) ?_
                refine va_get (D := G.1) (ci := 2) (v := .int 1) (C := RX3) (T := TX3) (N := 13) hx hb hts uX3 hown hK hP 0 rfl rfl 0 (by decide) (hts (.fieldLink RX3 41 "ChordOverlayModel" "thrown" "I") (by decide +kernel)) (fun _ h9 => h9) rfl dX3_put_56 ?_
                refine va_put (D := G.1) (ci := 2) (v := .int 1) (ty := .int) (C := RX3) (T := TX3) (N := 13) hx hb hts uX3 tyX3 tyX3_ok nmX3 hown hK hP hD hS 0 rfl rfl 0 (by decide) (hts (.fieldLink RX3 41 "ChordOverlayModel" "thrown" "I") (by decide +kernel)) (fun _ h9 => h9) rfl (by decide +kernel) rfl rfl (Nat.le_of_ble_eq_true rfl) dX3_put_59 (fun H locs hP hD hS => ?_)
                have hP : pG G (wM G b (va_up (va_up μ 0 (fun _ => 1)) 0 (fun _ => 1))) H := hP
                have hD : va_D A (wM G b (va_up (va_up μ 0 (fun _ => 1)) 0 (fun _ => 1))) := hD
                have hz_5 : Rl Z σ (va_up (va_up μ 0 (fun _ => 1)) 0 (fun _ => 1)) := Rl.s0 (f := fun _ => 1) hz_2
                refine lv_aload_n hx hb dX3_put_62 rfl (lv_at hl 1 rfl) ?_
                refine va_get (D := G.1) (ci := 2) (v := .int 1) (C := RX3) (T := TX3) (N := 13) hx hb hts uX3 hown hK hP 0 rfl rfl 0 (by decide) (hts (.fieldLink RX3 41 "ChordOverlayModel" "thrown" "I") (by decide +kernel)) (fun _ h9 => h9) rfl dX3_put_63 ?_
                refine lv_if_le (tgt := 71) hx hb dX3_put_66 (by decide) (fun c_6 => ?_) (fun c_6 => ?_)
                · exact absurd c_6 (by decide)
                · refine lv_iconst (v := 0) hx hb dX3_put_69 (by decide) ?_
                  exact co_endI (va_up (va_up μ 0 (fun _ => 1)) 0 (fun _ => 1)) S hr hlocks dX3_put_70 hK hP hD hS (by have hcd : cdW σ (nI n) y v = 1 := (by simp only [cdW, show okR v 0 999 = false from how0, okR_id hn0, hok0, haln, c_1, c_3, c_4, c_6, eq_self, Bool.false_eq_true, ite_self, ↓reduceIte]); exact ⟨by rw [hcd]; exact rfl, fun h => absurd (hcd.symm.trans h) (by decide), fun _ => hz_5⟩)
              · exact absurd c_4 (by decide)
            · exact absurd c_3 (by decide)
          · exact absurd hzw0 c_1
        | true =>
          refine co_bodyI (cc := cX3_put) (maxL := 6) (ret := (some .int)) (by decide) rfl (Nat.le_of_ble_eq_true rfl) ?_
          intro p e s m args below meth c S hr hlocks hK A hA hP hD hS ls hl
          have S : CallFix p m c cX3_put 6 s args wsX3_put RX3 := S
          obtain ⟨hx, hb, hml, hown, hts⟩ := id S
          have hl : lv_has ls 6 [(0, .ref (b 0)), (1, .int (nI n)), (2, .int y), (3, .int v)] := hl
          have uX3 := uX3_X3_put
          refine lv_aload_n hx hb dX3_put_0 rfl (lv_at hl 0 rfl) ?_
          refine lv_iload_n hx hb dX3_put_1 rfl (lv_at hl 3 rfl) ?_
          refine lv_if_lt (tgt := 21) hx hb dX3_put_2 (by decide) (fun c_1 => ?_) (fun c_1 => ?_)
          · refine lv_iconst (v := 1) hx hb dX3_put_21 (by decide) ?_
            refine va_put (D := G.1) (ci := 2) (v := .int 1) (ty := .int) (C := RX3) (T := TX3) (N := 13) hx hb hts uX3 tyX3 tyX3_ok nmX3 hown hK hP hD hS 0 rfl rfl 0 (by decide) (hts (.fieldLink RX3 41 "ChordOverlayModel" "thrown" "I") (by decide +kernel)) (fun _ h9 => h9) rfl (by decide +kernel) rfl rfl (Nat.le_of_ble_eq_true rfl) dX3_put_22 (fun H locs hP hD hS => ?_)
            have hP : pG G (wM G b (va_up μ 0 (fun _ => 1))) H := hP
            have hD : va_D A (wM G b (va_up μ 0 (fun _ => 1))) := hD
            have hz_2 : Rl Z σ (va_up μ 0 (fun _ => 1)) := Rl.s0 (f := fun _ => 1) hR
            refine lv_aload_n hx hb dX3_put_25 rfl (lv_at hl 0 rfl) ?_
            refine va_get (D := G.1) (ci := 2) (v := .int 1) (C := RX3) (T := TX3) (N := 13) hx hb hts uX3 hown hK hP 0 rfl rfl 0 (by decide) (hts (.fieldLink RX3 41 "ChordOverlayModel" "thrown" "I") (by decide +kernel)) (fun _ h9 => h9) rfl dX3_put_26 ?_
            refine lv_if_ne (tgt := 41) hx hb dX3_put_29 (by decide) (fun c_3 => ?_) (fun c_3 => ?_)
            · refine lv_iconst (v := 0) hx hb dX3_put_41 (by decide) ?_
              refine lv_istore (lv' := [(4, .int 0), (0, .ref (b 0)), (1, .int (nI n)), (2, .int y), (3, .int v)]) hx hb dX3_put_42 hl (by decide) rfl (fun ls hl => ?_)
              refine lv_aload_n hx hb dX3_put_44 rfl (lv_at hl 1 rfl) ?_
              refine lv_iload hx hb dX3_put_45 (lv_at hl 0 rfl) ?_
              refine lv_iconst (v := (-1)) hx hb dX3_put_47 (by decide) ?_
              refine lv_icmp_ne (tgt := 55) hx hb dX3_put_48 (by decide) (fun c_4 => ?_) (fun c_4 => ?_)
              · refine lv_aload_n hx hb dX3_put_55 rfl (lv_at hl 1 rfl) ?_
                refine va_get (D := G.1) (ci := 2) (v := .int 1) (C := RX3) (T := TX3) (N := 13) hx hb hts uX3 hown hK hP 0 rfl rfl 0 (by decide) (hts (.fieldLink RX3 41 "ChordOverlayModel" "thrown" "I") (by decide +kernel)) (fun _ h9 => h9) rfl dX3_put_56 ?_
                refine va_put (D := G.1) (ci := 2) (v := .int 1) (ty := .int) (C := RX3) (T := TX3) (N := 13) hx hb hts uX3 tyX3 tyX3_ok nmX3 hown hK hP hD hS 0 rfl rfl 0 (by decide) (hts (.fieldLink RX3 41 "ChordOverlayModel" "thrown" "I") (by decide +kernel)) (fun _ h9 => h9) rfl (by decide +kernel) rfl rfl (Nat.le_of_ble_eq_true rfl) dX3_put_59 (fun H locs hP hD hS => ?_)
                have hP : pG G (wM G b (va_up (va_up μ 0 (fun _ => 1)) 0 (fun _ => 1))) H := hP
                have hD : va_D A (wM G b (va_up (va_up μ 0 (fun _ => 1)) 0 (fun _ => 1))) := hD
                have hz_5 : Rl Z σ (va_up (va_up μ 0 (fun _ => 1)) 0 (fun _ => 1)) := Rl.s0 (f := fun _ => 1) hz_2
                refine lv_aload_n hx hb dX3_put_62 rfl (lv_at hl 1 rfl) ?_
                refine va_get (D := G.1) (ci := 2) (v := .int 1) (C := RX3) (T := TX3) (N := 13) hx hb hts uX3 hown hK hP 0 rfl rfl 0 (by decide) (hts (.fieldLink RX3 41 "ChordOverlayModel" "thrown" "I") (by decide +kernel)) (fun _ h9 => h9) rfl dX3_put_63 ?_
                refine lv_if_le (tgt := 71) hx hb dX3_put_66 (by decide) (fun c_6 => ?_) (fun c_6 => ?_)
                · exact absurd c_6 (by decide)
                · refine lv_iconst (v := 0) hx hb dX3_put_69 (by decide) ?_
                  exact co_endI (va_up (va_up μ 0 (fun _ => 1)) 0 (fun _ => 1)) S hr hlocks dX3_put_70 hK hP hD hS (by have hcd : cdW σ (nI n) y v = 1 := (by simp only [cdW, show okR v 0 999 = false from how0, okR_id hn0, hok0, haln, c_1, c_3, c_4, c_6, eq_self, Bool.false_eq_true, ite_self, ↓reduceIte]); exact ⟨by rw [hcd]; exact rfl, fun h => absurd (hcd.symm.trans h) (by decide), fun _ => hz_5⟩)
              · exact absurd c_4 (by decide)
            · exact absurd c_3 (by decide)
          · exact absurd hzw0 c_1
    · rcases id_or y with ⟨k, hk0, rfl⟩ | ⟨hik0, hok0⟩
      · refine co_bodyI (cc := cX3_put) (maxL := 6) (ret := (some .int)) (by decide) rfl (Nat.le_of_ble_eq_true rfl) ?_
        intro p e s m args below meth c S hr hlocks hK A hA hP hD hS ls hl
        have S : CallFix p m c cX3_put 6 s args wsX3_put RX3 := S
        obtain ⟨hx, hb, hml, hown, hts⟩ := id S
        have hl : lv_has ls 6 [(0, .ref (b 0)), (1, .int x), (2, .int (nI k)), (3, .int v)] := hl
        have uX3 := uX3_X3_put
        refine lv_aload_n hx hb dX3_put_0 rfl (lv_at hl 0 rfl) ?_
        refine lv_iload_n hx hb dX3_put_1 rfl (lv_at hl 3 rfl) ?_
        refine lv_if_lt (tgt := 21) hx hb dX3_put_2 (by decide) (fun c_1 => ?_) (fun c_1 => ?_)
        · refine lv_iconst (v := 1) hx hb dX3_put_21 (by decide) ?_
          refine va_put (D := G.1) (ci := 2) (v := .int 1) (ty := .int) (C := RX3) (T := TX3) (N := 13) hx hb hts uX3 tyX3 tyX3_ok nmX3 hown hK hP hD hS 0 rfl rfl 0 (by decide) (hts (.fieldLink RX3 41 "ChordOverlayModel" "thrown" "I") (by decide +kernel)) (fun _ h9 => h9) rfl (by decide +kernel) rfl rfl (Nat.le_of_ble_eq_true rfl) dX3_put_22 (fun H locs hP hD hS => ?_)
          have hP : pG G (wM G b (va_up μ 0 (fun _ => 1))) H := hP
          have hD : va_D A (wM G b (va_up μ 0 (fun _ => 1))) := hD
          have hz_2 : Rl Z σ (va_up μ 0 (fun _ => 1)) := Rl.s0 (f := fun _ => 1) hR
          refine lv_aload_n hx hb dX3_put_25 rfl (lv_at hl 0 rfl) ?_
          refine va_get (D := G.1) (ci := 2) (v := .int 1) (C := RX3) (T := TX3) (N := 13) hx hb hts uX3 hown hK hP 0 rfl rfl 0 (by decide) (hts (.fieldLink RX3 41 "ChordOverlayModel" "thrown" "I") (by decide +kernel)) (fun _ h9 => h9) rfl dX3_put_26 ?_
          refine lv_if_ne (tgt := 41) hx hb dX3_put_29 (by decide) (fun c_3 => ?_) (fun c_3 => ?_)
          · refine lv_iconst (v := 0) hx hb dX3_put_41 (by decide) ?_
            refine lv_istore (lv' := [(4, .int 0), (0, .ref (b 0)), (1, .int x), (2, .int (nI k)), (3, .int v)]) hx hb dX3_put_42 hl (by decide) rfl (fun ls hl => ?_)
            refine lv_aload_n hx hb dX3_put_44 rfl (lv_at hl 1 rfl) ?_
            refine lv_iload hx hb dX3_put_45 (lv_at hl 0 rfl) ?_
            refine lv_iconst (v := (-1)) hx hb dX3_put_47 (by decide) ?_
            refine lv_icmp_ne (tgt := 55) hx hb dX3_put_48 (by decide) (fun c_4 => ?_) (fun c_4 => ?_)
            · refine lv_aload_n hx hb dX3_put_55 rfl (lv_at hl 1 rfl) ?_
              refine va_get (D := G.1) (ci := 2) (v := .int 1) (C := RX3) (T := TX3) (N := 13) hx hb hts uX3 hown hK hP 0 rfl rfl 0 (by decide) (hts (.fieldLink RX3 41 "ChordOverlayModel" "thrown" "I") (by decide +kernel)) (fun _ h9 => h9) rfl dX3_put_56 ?_
              refine va_put (D := G.1) (ci := 2) (v := .int 1) (ty := .int) (C := RX3) (T := TX3) (N := 13) hx hb hts uX3 tyX3 tyX3_ok nmX3 hown hK hP hD hS 0 rfl rfl 0 (by decide) (hts (.fieldLink RX3 41 "ChordOverlayModel" "thrown" "I") (by decide +kernel)) (fun _ h9 => h9) rfl (by decide +kernel) rfl rfl (Nat.le_of_ble_eq_true rfl) dX3_put_59 (fun H locs hP hD hS => ?_)
              have hP : pG G (wM G b (va_up (va_up μ 0 (fun _ => 1)) 0 (fun _ => 1))) H := hP
              have hD : va_D A (wM G b (va_up (va_up μ 0 (fun _ => 1)) 0 (fun _ => 1))) := hD
              have hz_5 : Rl Z σ (va_up (va_up μ 0 (fun _ => 1)) 0 (fun _ => 1)) := Rl.s0 (f := fun _ => 1) hz_2
              refine lv_aload_n hx hb dX3_put_62 rfl (lv_at hl 1 rfl) ?_
              refine va_get (D := G.1) (ci := 2) (v := .int 1) (C := RX3) (T := TX3) (N := 13) hx hb hts uX3 hown hK hP 0 rfl rfl 0 (by decide) (hts (.fieldLink RX3 41 "ChordOverlayModel" "thrown" "I") (by decide +kernel)) (fun _ h9 => h9) rfl dX3_put_63 ?_
              refine lv_if_le (tgt := 71) hx hb dX3_put_66 (by decide) (fun c_6 => ?_) (fun c_6 => ?_)
              · exact absurd c_6 (by decide)
              · refine lv_iconst (v := 0) hx hb dX3_put_69 (by decide) ?_
                exact co_endI (va_up (va_up μ 0 (fun _ => 1)) 0 (fun _ => 1)) S hr hlocks dX3_put_70 hK hP hD hS (by have hcd : cdW σ x (nI k) v = 1 := (by simp only [cdW, show okR v 0 999 = false from how0, hon0, okR_id hk0, c_1, c_3, c_4, c_6, eq_self, Bool.false_eq_true, ite_self, ↓reduceIte]); exact ⟨by rw [hcd]; exact rfl, fun h => absurd (hcd.symm.trans h) (by decide), fun _ => hz_5⟩)
            · exact absurd c_4 (by decide)
          · exact absurd c_3 (by decide)
        · exact absurd hzw0 c_1
      · refine co_bodyI (cc := cX3_put) (maxL := 6) (ret := (some .int)) (by decide) rfl (Nat.le_of_ble_eq_true rfl) ?_
        intro p e s m args below meth c S hr hlocks hK A hA hP hD hS ls hl
        have S : CallFix p m c cX3_put 6 s args wsX3_put RX3 := S
        obtain ⟨hx, hb, hml, hown, hts⟩ := id S
        have hl : lv_has ls 6 [(0, .ref (b 0)), (1, .int x), (2, .int y), (3, .int v)] := hl
        have uX3 := uX3_X3_put
        refine lv_aload_n hx hb dX3_put_0 rfl (lv_at hl 0 rfl) ?_
        refine lv_iload_n hx hb dX3_put_1 rfl (lv_at hl 3 rfl) ?_
        refine lv_if_lt (tgt := 21) hx hb dX3_put_2 (by decide) (fun c_1 => ?_) (fun c_1 => ?_)
        · refine lv_iconst (v := 1) hx hb dX3_put_21 (by decide) ?_
          refine va_put (D := G.1) (ci := 2) (v := .int 1) (ty := .int) (C := RX3) (T := TX3) (N := 13) hx hb hts uX3 tyX3 tyX3_ok nmX3 hown hK hP hD hS 0 rfl rfl 0 (by decide) (hts (.fieldLink RX3 41 "ChordOverlayModel" "thrown" "I") (by decide +kernel)) (fun _ h9 => h9) rfl (by decide +kernel) rfl rfl (Nat.le_of_ble_eq_true rfl) dX3_put_22 (fun H locs hP hD hS => ?_)
          have hP : pG G (wM G b (va_up μ 0 (fun _ => 1))) H := hP
          have hD : va_D A (wM G b (va_up μ 0 (fun _ => 1))) := hD
          have hz_2 : Rl Z σ (va_up μ 0 (fun _ => 1)) := Rl.s0 (f := fun _ => 1) hR
          refine lv_aload_n hx hb dX3_put_25 rfl (lv_at hl 0 rfl) ?_
          refine va_get (D := G.1) (ci := 2) (v := .int 1) (C := RX3) (T := TX3) (N := 13) hx hb hts uX3 hown hK hP 0 rfl rfl 0 (by decide) (hts (.fieldLink RX3 41 "ChordOverlayModel" "thrown" "I") (by decide +kernel)) (fun _ h9 => h9) rfl dX3_put_26 ?_
          refine lv_if_ne (tgt := 41) hx hb dX3_put_29 (by decide) (fun c_3 => ?_) (fun c_3 => ?_)
          · refine lv_iconst (v := 0) hx hb dX3_put_41 (by decide) ?_
            refine lv_istore (lv' := [(4, .int 0), (0, .ref (b 0)), (1, .int x), (2, .int y), (3, .int v)]) hx hb dX3_put_42 hl (by decide) rfl (fun ls hl => ?_)
            refine lv_aload_n hx hb dX3_put_44 rfl (lv_at hl 1 rfl) ?_
            refine lv_iload hx hb dX3_put_45 (lv_at hl 0 rfl) ?_
            refine lv_iconst (v := (-1)) hx hb dX3_put_47 (by decide) ?_
            refine lv_icmp_ne (tgt := 55) hx hb dX3_put_48 (by decide) (fun c_4 => ?_) (fun c_4 => ?_)
            · refine lv_aload_n hx hb dX3_put_55 rfl (lv_at hl 1 rfl) ?_
              refine va_get (D := G.1) (ci := 2) (v := .int 1) (C := RX3) (T := TX3) (N := 13) hx hb hts uX3 hown hK hP 0 rfl rfl 0 (by decide) (hts (.fieldLink RX3 41 "ChordOverlayModel" "thrown" "I") (by decide +kernel)) (fun _ h9 => h9) rfl dX3_put_56 ?_
              refine va_put (D := G.1) (ci := 2) (v := .int 1) (ty := .int) (C := RX3) (T := TX3) (N := 13) hx hb hts uX3 tyX3 tyX3_ok nmX3 hown hK hP hD hS 0 rfl rfl 0 (by decide) (hts (.fieldLink RX3 41 "ChordOverlayModel" "thrown" "I") (by decide +kernel)) (fun _ h9 => h9) rfl (by decide +kernel) rfl rfl (Nat.le_of_ble_eq_true rfl) dX3_put_59 (fun H locs hP hD hS => ?_)
              have hP : pG G (wM G b (va_up (va_up μ 0 (fun _ => 1)) 0 (fun _ => 1))) H := hP
              have hD : va_D A (wM G b (va_up (va_up μ 0 (fun _ => 1)) 0 (fun _ => 1))) := hD
              have hz_5 : Rl Z σ (va_up (va_up μ 0 (fun _ => 1)) 0 (fun _ => 1)) := Rl.s0 (f := fun _ => 1) hz_2
              refine lv_aload_n hx hb dX3_put_62 rfl (lv_at hl 1 rfl) ?_
              refine va_get (D := G.1) (ci := 2) (v := .int 1) (C := RX3) (T := TX3) (N := 13) hx hb hts uX3 hown hK hP 0 rfl rfl 0 (by decide) (hts (.fieldLink RX3 41 "ChordOverlayModel" "thrown" "I") (by decide +kernel)) (fun _ h9 => h9) rfl dX3_put_63 ?_
              refine lv_if_le (tgt := 71) hx hb dX3_put_66 (by decide) (fun c_6 => ?_) (fun c_6 => ?_)
              · exact absurd c_6 (by decide)
              · refine lv_iconst (v := 0) hx hb dX3_put_69 (by decide) ?_
                exact co_endI (va_up (va_up μ 0 (fun _ => 1)) 0 (fun _ => 1)) S hr hlocks dX3_put_70 hK hP hD hS (by have hcd : cdW σ x y v = 1 := (by simp only [cdW, show okR v 0 999 = false from how0, hon0, hok0, c_1, c_3, c_4, c_6, eq_self, Bool.false_eq_true, ite_self, ↓reduceIte]); exact ⟨by rw [hcd]; exact rfl, fun h => absurd (hcd.symm.trans h) (by decide), fun _ => hz_5⟩)
            · exact absurd c_4 (by decide)
          · exact absurd c_3 (by decide)
        · exact absurd hzw0 c_1
  · rcases id_or x with ⟨n, hn0, rfl⟩ | ⟨hin0, hon0⟩
    · rcases id_or y with ⟨k, hk0, rfl⟩ | ⟨hik0, hok0⟩
      · cases haln : alv (σ 0) (nI n) with
        | false =>
          refine co_bodyI (cc := cX3_put) (maxL := 6) (ret := (some .int)) (by decide) rfl (Nat.le_of_ble_eq_true rfl) ?_
          intro p e s m args below meth c S hr hlocks hK A hA hP hD hS ls hl
          have S : CallFix p m c cX3_put 6 s args wsX3_put RX3 := S
          obtain ⟨hx, hb, hml, hown, hts⟩ := id S
          have hl : lv_has ls 6 [(0, .ref (b 0)), (1, .int (nI n)), (2, .int (nI k)), (3, .int v)] := hl
          have uX3 := uX3_X3_put
          refine lv_aload_n hx hb dX3_put_0 rfl (lv_at hl 0 rfl) ?_
          refine lv_iload_n hx hb dX3_put_1 rfl (lv_at hl 3 rfl) ?_
          refine lv_if_lt (tgt := 21) hx hb dX3_put_2 (by decide) (fun c_1 => ?_) (fun c_1 => ?_)
          · exact absurd c_1 hzw0
          · refine lv_iload_n hx hb dX3_put_5 rfl (lv_at hl 3 rfl) ?_
            refine lv_sipush (v := 999) hx hb dX3_put_6 (by decide) ?_
            refine lv_icmp_gt (tgt := 21) hx hb dX3_put_9 (by decide) (fun c_2 => ?_) (fun c_2 => ?_)
            · refine lv_iconst (v := 1) hx hb dX3_put_21 (by decide) ?_
              refine va_put (D := G.1) (ci := 2) (v := .int 1) (ty := .int) (C := RX3) (T := TX3) (N := 13) hx hb hts uX3 tyX3 tyX3_ok nmX3 hown hK hP hD hS 0 rfl rfl 0 (by decide) (hts (.fieldLink RX3 41 "ChordOverlayModel" "thrown" "I") (by decide +kernel)) (fun _ h9 => h9) rfl (by decide +kernel) rfl rfl (Nat.le_of_ble_eq_true rfl) dX3_put_22 (fun H locs hP hD hS => ?_)
              have hP : pG G (wM G b (va_up μ 0 (fun _ => 1))) H := hP
              have hD : va_D A (wM G b (va_up μ 0 (fun _ => 1))) := hD
              have hz_3 : Rl Z σ (va_up μ 0 (fun _ => 1)) := Rl.s0 (f := fun _ => 1) hR
              refine lv_aload_n hx hb dX3_put_25 rfl (lv_at hl 0 rfl) ?_
              refine va_get (D := G.1) (ci := 2) (v := .int 1) (C := RX3) (T := TX3) (N := 13) hx hb hts uX3 hown hK hP 0 rfl rfl 0 (by decide) (hts (.fieldLink RX3 41 "ChordOverlayModel" "thrown" "I") (by decide +kernel)) (fun _ h9 => h9) rfl dX3_put_26 ?_
              refine lv_if_ne (tgt := 41) hx hb dX3_put_29 (by decide) (fun c_4 => ?_) (fun c_4 => ?_)
              · refine lv_iconst (v := 0) hx hb dX3_put_41 (by decide) ?_
                refine lv_istore (lv' := [(4, .int 0), (0, .ref (b 0)), (1, .int (nI n)), (2, .int (nI k)), (3, .int v)]) hx hb dX3_put_42 hl (by decide) rfl (fun ls hl => ?_)
                refine lv_aload_n hx hb dX3_put_44 rfl (lv_at hl 1 rfl) ?_
                refine lv_iload hx hb dX3_put_45 (lv_at hl 0 rfl) ?_
                refine lv_iconst (v := (-1)) hx hb dX3_put_47 (by decide) ?_
                refine lv_icmp_ne (tgt := 55) hx hb dX3_put_48 (by decide) (fun c_5 => ?_) (fun c_5 => ?_)
                · refine lv_aload_n hx hb dX3_put_55 rfl (lv_at hl 1 rfl) ?_
                  refine va_get (D := G.1) (ci := 2) (v := .int 1) (C := RX3) (T := TX3) (N := 13) hx hb hts uX3 hown hK hP 0 rfl rfl 0 (by decide) (hts (.fieldLink RX3 41 "ChordOverlayModel" "thrown" "I") (by decide +kernel)) (fun _ h9 => h9) rfl dX3_put_56 ?_
                  refine va_put (D := G.1) (ci := 2) (v := .int 1) (ty := .int) (C := RX3) (T := TX3) (N := 13) hx hb hts uX3 tyX3 tyX3_ok nmX3 hown hK hP hD hS 0 rfl rfl 0 (by decide) (hts (.fieldLink RX3 41 "ChordOverlayModel" "thrown" "I") (by decide +kernel)) (fun _ h9 => h9) rfl (by decide +kernel) rfl rfl (Nat.le_of_ble_eq_true rfl) dX3_put_59 (fun H locs hP hD hS => ?_)
                  have hP : pG G (wM G b (va_up (va_up μ 0 (fun _ => 1)) 0 (fun _ => 1))) H := hP
                  have hD : va_D A (wM G b (va_up (va_up μ 0 (fun _ => 1)) 0 (fun _ => 1))) := hD
                  have hz_6 : Rl Z σ (va_up (va_up μ 0 (fun _ => 1)) 0 (fun _ => 1)) := Rl.s0 (f := fun _ => 1) hz_3
                  refine lv_aload_n hx hb dX3_put_62 rfl (lv_at hl 1 rfl) ?_
                  refine va_get (D := G.1) (ci := 2) (v := .int 1) (C := RX3) (T := TX3) (N := 13) hx hb hts uX3 hown hK hP 0 rfl rfl 0 (by decide) (hts (.fieldLink RX3 41 "ChordOverlayModel" "thrown" "I") (by decide +kernel)) (fun _ h9 => h9) rfl dX3_put_63 ?_
                  refine lv_if_le (tgt := 71) hx hb dX3_put_66 (by decide) (fun c_7 => ?_) (fun c_7 => ?_)
                  · exact absurd c_7 (by decide)
                  · refine lv_iconst (v := 0) hx hb dX3_put_69 (by decide) ?_
                    exact co_endI (va_up (va_up μ 0 (fun _ => 1)) 0 (fun _ => 1)) S hr hlocks dX3_put_70 hK hP hD hS (by have hcd : cdW σ (nI n) (nI k) v = 1 := (by simp only [cdW, show okR v 0 999 = false from how0, okR_id hn0, okR_id hk0, haln, c_1, c_2, c_4, c_5, c_7, eq_self, Bool.false_eq_true, ite_self, ↓reduceIte]); exact ⟨by rw [hcd]; exact rfl, fun h => absurd (hcd.symm.trans h) (by decide), fun _ => hz_6⟩)
                · exact absurd c_5 (by decide)
              · exact absurd c_4 (by decide)
            · exact absurd (Int32.lt_of_lt_of_le (by decide) hyw0) c_2
        | true =>
          refine co_bodyI (cc := cX3_put) (maxL := 6) (ret := (some .int)) (by decide) rfl (Nat.le_of_ble_eq_true rfl) ?_
          intro p e s m args below meth c S hr hlocks hK A hA hP hD hS ls hl
          have S : CallFix p m c cX3_put 6 s args wsX3_put RX3 := S
          obtain ⟨hx, hb, hml, hown, hts⟩ := id S
          have hl : lv_has ls 6 [(0, .ref (b 0)), (1, .int (nI n)), (2, .int (nI k)), (3, .int v)] := hl
          have uX3 := uX3_X3_put
          refine lv_aload_n hx hb dX3_put_0 rfl (lv_at hl 0 rfl) ?_
          refine lv_iload_n hx hb dX3_put_1 rfl (lv_at hl 3 rfl) ?_
          refine lv_if_lt (tgt := 21) hx hb dX3_put_2 (by decide) (fun c_1 => ?_) (fun c_1 => ?_)
          · exact absurd c_1 hzw0
          · refine lv_iload_n hx hb dX3_put_5 rfl (lv_at hl 3 rfl) ?_
            refine lv_sipush (v := 999) hx hb dX3_put_6 (by decide) ?_
            refine lv_icmp_gt (tgt := 21) hx hb dX3_put_9 (by decide) (fun c_2 => ?_) (fun c_2 => ?_)
            · refine lv_iconst (v := 1) hx hb dX3_put_21 (by decide) ?_
              refine va_put (D := G.1) (ci := 2) (v := .int 1) (ty := .int) (C := RX3) (T := TX3) (N := 13) hx hb hts uX3 tyX3 tyX3_ok nmX3 hown hK hP hD hS 0 rfl rfl 0 (by decide) (hts (.fieldLink RX3 41 "ChordOverlayModel" "thrown" "I") (by decide +kernel)) (fun _ h9 => h9) rfl (by decide +kernel) rfl rfl (Nat.le_of_ble_eq_true rfl) dX3_put_22 (fun H locs hP hD hS => ?_)
              have hP : pG G (wM G b (va_up μ 0 (fun _ => 1))) H := hP
              have hD : va_D A (wM G b (va_up μ 0 (fun _ => 1))) := hD
              have hz_3 : Rl Z σ (va_up μ 0 (fun _ => 1)) := Rl.s0 (f := fun _ => 1) hR
              refine lv_aload_n hx hb dX3_put_25 rfl (lv_at hl 0 rfl) ?_
              refine va_get (D := G.1) (ci := 2) (v := .int 1) (C := RX3) (T := TX3) (N := 13) hx hb hts uX3 hown hK hP 0 rfl rfl 0 (by decide) (hts (.fieldLink RX3 41 "ChordOverlayModel" "thrown" "I") (by decide +kernel)) (fun _ h9 => h9) rfl dX3_put_26 ?_
              refine lv_if_ne (tgt := 41) hx hb dX3_put_29 (by decide) (fun c_4 => ?_) (fun c_4 => ?_)
              · refine lv_iconst (v := 0) hx hb dX3_put_41 (by decide) ?_
                refine lv_istore (lv' := [(4, .int 0), (0, .ref (b 0)), (1, .int (nI n)), (2, .int (nI k)), (3, .int v)]) hx hb dX3_put_42 hl (by decide) rfl (fun ls hl => ?_)
                refine lv_aload_n hx hb dX3_put_44 rfl (lv_at hl 1 rfl) ?_
                refine lv_iload hx hb dX3_put_45 (lv_at hl 0 rfl) ?_
                refine lv_iconst (v := (-1)) hx hb dX3_put_47 (by decide) ?_
                refine lv_icmp_ne (tgt := 55) hx hb dX3_put_48 (by decide) (fun c_5 => ?_) (fun c_5 => ?_)
                · refine lv_aload_n hx hb dX3_put_55 rfl (lv_at hl 1 rfl) ?_
                  refine va_get (D := G.1) (ci := 2) (v := .int 1) (C := RX3) (T := TX3) (N := 13) hx hb hts uX3 hown hK hP 0 rfl rfl 0 (by decide) (hts (.fieldLink RX3 41 "ChordOverlayModel" "thrown" "I") (by decide +kernel)) (fun _ h9 => h9) rfl dX3_put_56 ?_
                  refine va_put (D := G.1) (ci := 2) (v := .int 1) (ty := .int) (C := RX3) (T := TX3) (N := 13) hx hb hts uX3 tyX3 tyX3_ok nmX3 hown hK hP hD hS 0 rfl rfl 0 (by decide) (hts (.fieldLink RX3 41 "ChordOverlayModel" "thrown" "I") (by decide +kernel)) (fun _ h9 => h9) rfl (by decide +kernel) rfl rfl (Nat.le_of_ble_eq_true rfl) dX3_put_59 (fun H locs hP hD hS => ?_)
                  have hP : pG G (wM G b (va_up (va_up μ 0 (fun _ => 1)) 0 (fun _ => 1))) H := hP
                  have hD : va_D A (wM G b (va_up (va_up μ 0 (fun _ => 1)) 0 (fun _ => 1))) := hD
                  have hz_6 : Rl Z σ (va_up (va_up μ 0 (fun _ => 1)) 0 (fun _ => 1)) := Rl.s0 (f := fun _ => 1) hz_3
                  refine lv_aload_n hx hb dX3_put_62 rfl (lv_at hl 1 rfl) ?_
                  refine va_get (D := G.1) (ci := 2) (v := .int 1) (C := RX3) (T := TX3) (N := 13) hx hb hts uX3 hown hK hP 0 rfl rfl 0 (by decide) (hts (.fieldLink RX3 41 "ChordOverlayModel" "thrown" "I") (by decide +kernel)) (fun _ h9 => h9) rfl dX3_put_63 ?_
                  refine lv_if_le (tgt := 71) hx hb dX3_put_66 (by decide) (fun c_7 => ?_) (fun c_7 => ?_)
                  · exact absurd c_7 (by decide)
                  · refine lv_iconst (v := 0) hx hb dX3_put_69 (by decide) ?_
                    exact co_endI (va_up (va_up μ 0 (fun _ => 1)) 0 (fun _ => 1)) S hr hlocks dX3_put_70 hK hP hD hS (by have hcd : cdW σ (nI n) (nI k) v = 1 := (by simp only [cdW, show okR v 0 999 = false from how0, okR_id hn0, okR_id hk0, haln, c_1, c_2, c_4, c_5, c_7, eq_self, Bool.false_eq_true, ite_self, ↓reduceIte]); exact ⟨by rw [hcd]; exact rfl, fun h => absurd (hcd.symm.trans h) (by decide), fun _ => hz_6⟩)
                · exact absurd c_5 (by decide)
              · exact absurd c_4 (by decide)
            · exact absurd (Int32.lt_of_lt_of_le (by decide) hyw0) c_2
      · cases haln : alv (σ 0) (nI n) with
        | false =>
          refine co_bodyI (cc := cX3_put) (maxL := 6) (ret := (some .int)) (by decide) rfl (Nat.le_of_ble_eq_true rfl) ?_
          intro p e s m args below meth c S hr hlocks hK A hA hP hD hS ls hl
          have S : CallFix p m c cX3_put 6 s args wsX3_put RX3 := S
          obtain ⟨hx, hb, hml, hown, hts⟩ := id S
          have hl : lv_has ls 6 [(0, .ref (b 0)), (1, .int (nI n)), (2, .int y), (3, .int v)] := hl
          have uX3 := uX3_X3_put
          refine lv_aload_n hx hb dX3_put_0 rfl (lv_at hl 0 rfl) ?_
          refine lv_iload_n hx hb dX3_put_1 rfl (lv_at hl 3 rfl) ?_
          refine lv_if_lt (tgt := 21) hx hb dX3_put_2 (by decide) (fun c_1 => ?_) (fun c_1 => ?_)
          · exact absurd c_1 hzw0
          · refine lv_iload_n hx hb dX3_put_5 rfl (lv_at hl 3 rfl) ?_
            refine lv_sipush (v := 999) hx hb dX3_put_6 (by decide) ?_
            refine lv_icmp_gt (tgt := 21) hx hb dX3_put_9 (by decide) (fun c_2 => ?_) (fun c_2 => ?_)
            · refine lv_iconst (v := 1) hx hb dX3_put_21 (by decide) ?_
              refine va_put (D := G.1) (ci := 2) (v := .int 1) (ty := .int) (C := RX3) (T := TX3) (N := 13) hx hb hts uX3 tyX3 tyX3_ok nmX3 hown hK hP hD hS 0 rfl rfl 0 (by decide) (hts (.fieldLink RX3 41 "ChordOverlayModel" "thrown" "I") (by decide +kernel)) (fun _ h9 => h9) rfl (by decide +kernel) rfl rfl (Nat.le_of_ble_eq_true rfl) dX3_put_22 (fun H locs hP hD hS => ?_)
              have hP : pG G (wM G b (va_up μ 0 (fun _ => 1))) H := hP
              have hD : va_D A (wM G b (va_up μ 0 (fun _ => 1))) := hD
              have hz_3 : Rl Z σ (va_up μ 0 (fun _ => 1)) := Rl.s0 (f := fun _ => 1) hR
              refine lv_aload_n hx hb dX3_put_25 rfl (lv_at hl 0 rfl) ?_
              refine va_get (D := G.1) (ci := 2) (v := .int 1) (C := RX3) (T := TX3) (N := 13) hx hb hts uX3 hown hK hP 0 rfl rfl 0 (by decide) (hts (.fieldLink RX3 41 "ChordOverlayModel" "thrown" "I") (by decide +kernel)) (fun _ h9 => h9) rfl dX3_put_26 ?_
              refine lv_if_ne (tgt := 41) hx hb dX3_put_29 (by decide) (fun c_4 => ?_) (fun c_4 => ?_)
              · refine lv_iconst (v := 0) hx hb dX3_put_41 (by decide) ?_
                refine lv_istore (lv' := [(4, .int 0), (0, .ref (b 0)), (1, .int (nI n)), (2, .int y), (3, .int v)]) hx hb dX3_put_42 hl (by decide) rfl (fun ls hl => ?_)
                refine lv_aload_n hx hb dX3_put_44 rfl (lv_at hl 1 rfl) ?_
                refine lv_iload hx hb dX3_put_45 (lv_at hl 0 rfl) ?_
                refine lv_iconst (v := (-1)) hx hb dX3_put_47 (by decide) ?_
                refine lv_icmp_ne (tgt := 55) hx hb dX3_put_48 (by decide) (fun c_5 => ?_) (fun c_5 => ?_)
                · refine lv_aload_n hx hb dX3_put_55 rfl (lv_at hl 1 rfl) ?_
                  refine va_get (D := G.1) (ci := 2) (v := .int 1) (C := RX3) (T := TX3) (N := 13) hx hb hts uX3 hown hK hP 0 rfl rfl 0 (by decide) (hts (.fieldLink RX3 41 "ChordOverlayModel" "thrown" "I") (by decide +kernel)) (fun _ h9 => h9) rfl dX3_put_56 ?_
                  refine va_put (D := G.1) (ci := 2) (v := .int 1) (ty := .int) (C := RX3) (T := TX3) (N := 13) hx hb hts uX3 tyX3 tyX3_ok nmX3 hown hK hP hD hS 0 rfl rfl 0 (by decide) (hts (.fieldLink RX3 41 "ChordOverlayModel" "thrown" "I") (by decide +kernel)) (fun _ h9 => h9) rfl (by decide +kernel) rfl rfl (Nat.le_of_ble_eq_true rfl) dX3_put_59 (fun H locs hP hD hS => ?_)
                  have hP : pG G (wM G b (va_up (va_up μ 0 (fun _ => 1)) 0 (fun _ => 1))) H := hP
                  have hD : va_D A (wM G b (va_up (va_up μ 0 (fun _ => 1)) 0 (fun _ => 1))) := hD
                  have hz_6 : Rl Z σ (va_up (va_up μ 0 (fun _ => 1)) 0 (fun _ => 1)) := Rl.s0 (f := fun _ => 1) hz_3
                  refine lv_aload_n hx hb dX3_put_62 rfl (lv_at hl 1 rfl) ?_
                  refine va_get (D := G.1) (ci := 2) (v := .int 1) (C := RX3) (T := TX3) (N := 13) hx hb hts uX3 hown hK hP 0 rfl rfl 0 (by decide) (hts (.fieldLink RX3 41 "ChordOverlayModel" "thrown" "I") (by decide +kernel)) (fun _ h9 => h9) rfl dX3_put_63 ?_
                  refine lv_if_le (tgt := 71) hx hb dX3_put_66 (by decide) (fun c_7 => ?_) (fun c_7 => ?_)
                  · exact absurd c_7 (by decide)
                  · refine lv_iconst (v := 0) hx hb dX3_put_69 (by decide) ?_
                    exact co_endI (va_up (va_up μ 0 (fun _ => 1)) 0 (fun _ => 1)) S hr hlocks dX3_put_70 hK hP hD hS (by have hcd : cdW σ (nI n) y v = 1 := (by simp only [cdW, show okR v 0 999 = false from how0, okR_id hn0, hok0, haln, c_1, c_2, c_4, c_5, c_7, eq_self, Bool.false_eq_true, ite_self, ↓reduceIte]); exact ⟨by rw [hcd]; exact rfl, fun h => absurd (hcd.symm.trans h) (by decide), fun _ => hz_6⟩)
                · exact absurd c_5 (by decide)
              · exact absurd c_4 (by decide)
            · exact absurd (Int32.lt_of_lt_of_le (by decide) hyw0) c_2
        | true =>
          refine co_bodyI (cc := cX3_put) (maxL := 6) (ret := (some .int)) (by decide) rfl (Nat.le_of_ble_eq_true rfl) ?_
          intro p e s m args below meth c S hr hlocks hK A hA hP hD hS ls hl
          have S : CallFix p m c cX3_put 6 s args wsX3_put RX3 := S
          obtain ⟨hx, hb, hml, hown, hts⟩ := id S
          have hl : lv_has ls 6 [(0, .ref (b 0)), (1, .int (nI n)), (2, .int y), (3, .int v)] := hl
          have uX3 := uX3_X3_put
          refine lv_aload_n hx hb dX3_put_0 rfl (lv_at hl 0 rfl) ?_
          refine lv_iload_n hx hb dX3_put_1 rfl (lv_at hl 3 rfl) ?_
          refine lv_if_lt (tgt := 21) hx hb dX3_put_2 (by decide) (fun c_1 => ?_) (fun c_1 => ?_)
          · exact absurd c_1 hzw0
          · refine lv_iload_n hx hb dX3_put_5 rfl (lv_at hl 3 rfl) ?_
            refine lv_sipush (v := 999) hx hb dX3_put_6 (by decide) ?_
            refine lv_icmp_gt (tgt := 21) hx hb dX3_put_9 (by decide) (fun c_2 => ?_) (fun c_2 => ?_)
            · refine lv_iconst (v := 1) hx hb dX3_put_21 (by decide) ?_
              refine va_put (D := G.1) (ci := 2) (v := .int 1) (ty := .int) (C := RX3) (T := TX3) (N := 13) hx hb hts uX3 tyX3 tyX3_ok nmX3 hown hK hP hD hS 0 rfl rfl 0 (by decide) (hts (.fieldLink RX3 41 "ChordOverlayModel" "thrown" "I") (by decide +kernel)) (fun _ h9 => h9) rfl (by decide +kernel) rfl rfl (Nat.le_of_ble_eq_true rfl) dX3_put_22 (fun H locs hP hD hS => ?_)
              have hP : pG G (wM G b (va_up μ 0 (fun _ => 1))) H := hP
              have hD : va_D A (wM G b (va_up μ 0 (fun _ => 1))) := hD
              have hz_3 : Rl Z σ (va_up μ 0 (fun _ => 1)) := Rl.s0 (f := fun _ => 1) hR
              refine lv_aload_n hx hb dX3_put_25 rfl (lv_at hl 0 rfl) ?_
              refine va_get (D := G.1) (ci := 2) (v := .int 1) (C := RX3) (T := TX3) (N := 13) hx hb hts uX3 hown hK hP 0 rfl rfl 0 (by decide) (hts (.fieldLink RX3 41 "ChordOverlayModel" "thrown" "I") (by decide +kernel)) (fun _ h9 => h9) rfl dX3_put_26 ?_
              refine lv_if_ne (tgt := 41) hx hb dX3_put_29 (by decide) (fun c_4 => ?_) (fun c_4 => ?_)
              · refine lv_iconst (v := 0) hx hb dX3_put_41 (by decide) ?_
                refine lv_istore (lv' := [(4, .int 0), (0, .ref (b 0)), (1, .int (nI n)), (2, .int y), (3, .int v)]) hx hb dX3_put_42 hl (by decide) rfl (fun ls hl => ?_)
                refine lv_aload_n hx hb dX3_put_44 rfl (lv_at hl 1 rfl) ?_
                refine lv_iload hx hb dX3_put_45 (lv_at hl 0 rfl) ?_
                refine lv_iconst (v := (-1)) hx hb dX3_put_47 (by decide) ?_
                refine lv_icmp_ne (tgt := 55) hx hb dX3_put_48 (by decide) (fun c_5 => ?_) (fun c_5 => ?_)
                · refine lv_aload_n hx hb dX3_put_55 rfl (lv_at hl 1 rfl) ?_
                  refine va_get (D := G.1) (ci := 2) (v := .int 1) (C := RX3) (T := TX3) (N := 13) hx hb hts uX3 hown hK hP 0 rfl rfl 0 (by decide) (hts (.fieldLink RX3 41 "ChordOverlayModel" "thrown" "I") (by decide +kernel)) (fun _ h9 => h9) rfl dX3_put_56 ?_
                  refine va_put (D := G.1) (ci := 2) (v := .int 1) (ty := .int) (C := RX3) (T := TX3) (N := 13) hx hb hts uX3 tyX3 tyX3_ok nmX3 hown hK hP hD hS 0 rfl rfl 0 (by decide) (hts (.fieldLink RX3 41 "ChordOverlayModel" "thrown" "I") (by decide +kernel)) (fun _ h9 => h9) rfl (by decide +kernel) rfl rfl (Nat.le_of_ble_eq_true rfl) dX3_put_59 (fun H locs hP hD hS => ?_)
                  have hP : pG G (wM G b (va_up (va_up μ 0 (fun _ => 1)) 0 (fun _ => 1))) H := hP
                  have hD : va_D A (wM G b (va_up (va_up μ 0 (fun _ => 1)) 0 (fun _ => 1))) := hD
                  have hz_6 : Rl Z σ (va_up (va_up μ 0 (fun _ => 1)) 0 (fun _ => 1)) := Rl.s0 (f := fun _ => 1) hz_3
                  refine lv_aload_n hx hb dX3_put_62 rfl (lv_at hl 1 rfl) ?_
                  refine va_get (D := G.1) (ci := 2) (v := .int 1) (C := RX3) (T := TX3) (N := 13) hx hb hts uX3 hown hK hP 0 rfl rfl 0 (by decide) (hts (.fieldLink RX3 41 "ChordOverlayModel" "thrown" "I") (by decide +kernel)) (fun _ h9 => h9) rfl dX3_put_63 ?_
                  refine lv_if_le (tgt := 71) hx hb dX3_put_66 (by decide) (fun c_7 => ?_) (fun c_7 => ?_)
                  · exact absurd c_7 (by decide)
                  · refine lv_iconst (v := 0) hx hb dX3_put_69 (by decide) ?_
                    exact co_endI (va_up (va_up μ 0 (fun _ => 1)) 0 (fun _ => 1)) S hr hlocks dX3_put_70 hK hP hD hS (by have hcd : cdW σ (nI n) y v = 1 := (by simp only [cdW, show okR v 0 999 = false from how0, okR_id hn0, hok0, haln, c_1, c_2, c_4, c_5, c_7, eq_self, Bool.false_eq_true, ite_self, ↓reduceIte]); exact ⟨by rw [hcd]; exact rfl, fun h => absurd (hcd.symm.trans h) (by decide), fun _ => hz_6⟩)
                · exact absurd c_5 (by decide)
              · exact absurd c_4 (by decide)
            · exact absurd (Int32.lt_of_lt_of_le (by decide) hyw0) c_2
    · rcases id_or y with ⟨k, hk0, rfl⟩ | ⟨hik0, hok0⟩
      · refine co_bodyI (cc := cX3_put) (maxL := 6) (ret := (some .int)) (by decide) rfl (Nat.le_of_ble_eq_true rfl) ?_
        intro p e s m args below meth c S hr hlocks hK A hA hP hD hS ls hl
        have S : CallFix p m c cX3_put 6 s args wsX3_put RX3 := S
        obtain ⟨hx, hb, hml, hown, hts⟩ := id S
        have hl : lv_has ls 6 [(0, .ref (b 0)), (1, .int x), (2, .int (nI k)), (3, .int v)] := hl
        have uX3 := uX3_X3_put
        refine lv_aload_n hx hb dX3_put_0 rfl (lv_at hl 0 rfl) ?_
        refine lv_iload_n hx hb dX3_put_1 rfl (lv_at hl 3 rfl) ?_
        refine lv_if_lt (tgt := 21) hx hb dX3_put_2 (by decide) (fun c_1 => ?_) (fun c_1 => ?_)
        · exact absurd c_1 hzw0
        · refine lv_iload_n hx hb dX3_put_5 rfl (lv_at hl 3 rfl) ?_
          refine lv_sipush (v := 999) hx hb dX3_put_6 (by decide) ?_
          refine lv_icmp_gt (tgt := 21) hx hb dX3_put_9 (by decide) (fun c_2 => ?_) (fun c_2 => ?_)
          · refine lv_iconst (v := 1) hx hb dX3_put_21 (by decide) ?_
            refine va_put (D := G.1) (ci := 2) (v := .int 1) (ty := .int) (C := RX3) (T := TX3) (N := 13) hx hb hts uX3 tyX3 tyX3_ok nmX3 hown hK hP hD hS 0 rfl rfl 0 (by decide) (hts (.fieldLink RX3 41 "ChordOverlayModel" "thrown" "I") (by decide +kernel)) (fun _ h9 => h9) rfl (by decide +kernel) rfl rfl (Nat.le_of_ble_eq_true rfl) dX3_put_22 (fun H locs hP hD hS => ?_)
            have hP : pG G (wM G b (va_up μ 0 (fun _ => 1))) H := hP
            have hD : va_D A (wM G b (va_up μ 0 (fun _ => 1))) := hD
            have hz_3 : Rl Z σ (va_up μ 0 (fun _ => 1)) := Rl.s0 (f := fun _ => 1) hR
            refine lv_aload_n hx hb dX3_put_25 rfl (lv_at hl 0 rfl) ?_
            refine va_get (D := G.1) (ci := 2) (v := .int 1) (C := RX3) (T := TX3) (N := 13) hx hb hts uX3 hown hK hP 0 rfl rfl 0 (by decide) (hts (.fieldLink RX3 41 "ChordOverlayModel" "thrown" "I") (by decide +kernel)) (fun _ h9 => h9) rfl dX3_put_26 ?_
            refine lv_if_ne (tgt := 41) hx hb dX3_put_29 (by decide) (fun c_4 => ?_) (fun c_4 => ?_)
            · refine lv_iconst (v := 0) hx hb dX3_put_41 (by decide) ?_
              refine lv_istore (lv' := [(4, .int 0), (0, .ref (b 0)), (1, .int x), (2, .int (nI k)), (3, .int v)]) hx hb dX3_put_42 hl (by decide) rfl (fun ls hl => ?_)
              refine lv_aload_n hx hb dX3_put_44 rfl (lv_at hl 1 rfl) ?_
              refine lv_iload hx hb dX3_put_45 (lv_at hl 0 rfl) ?_
              refine lv_iconst (v := (-1)) hx hb dX3_put_47 (by decide) ?_
              refine lv_icmp_ne (tgt := 55) hx hb dX3_put_48 (by decide) (fun c_5 => ?_) (fun c_5 => ?_)
              · refine lv_aload_n hx hb dX3_put_55 rfl (lv_at hl 1 rfl) ?_
                refine va_get (D := G.1) (ci := 2) (v := .int 1) (C := RX3) (T := TX3) (N := 13) hx hb hts uX3 hown hK hP 0 rfl rfl 0 (by decide) (hts (.fieldLink RX3 41 "ChordOverlayModel" "thrown" "I") (by decide +kernel)) (fun _ h9 => h9) rfl dX3_put_56 ?_
                refine va_put (D := G.1) (ci := 2) (v := .int 1) (ty := .int) (C := RX3) (T := TX3) (N := 13) hx hb hts uX3 tyX3 tyX3_ok nmX3 hown hK hP hD hS 0 rfl rfl 0 (by decide) (hts (.fieldLink RX3 41 "ChordOverlayModel" "thrown" "I") (by decide +kernel)) (fun _ h9 => h9) rfl (by decide +kernel) rfl rfl (Nat.le_of_ble_eq_true rfl) dX3_put_59 (fun H locs hP hD hS => ?_)
                have hP : pG G (wM G b (va_up (va_up μ 0 (fun _ => 1)) 0 (fun _ => 1))) H := hP
                have hD : va_D A (wM G b (va_up (va_up μ 0 (fun _ => 1)) 0 (fun _ => 1))) := hD
                have hz_6 : Rl Z σ (va_up (va_up μ 0 (fun _ => 1)) 0 (fun _ => 1)) := Rl.s0 (f := fun _ => 1) hz_3
                refine lv_aload_n hx hb dX3_put_62 rfl (lv_at hl 1 rfl) ?_
                refine va_get (D := G.1) (ci := 2) (v := .int 1) (C := RX3) (T := TX3) (N := 13) hx hb hts uX3 hown hK hP 0 rfl rfl 0 (by decide) (hts (.fieldLink RX3 41 "ChordOverlayModel" "thrown" "I") (by decide +kernel)) (fun _ h9 => h9) rfl dX3_put_63 ?_
                refine lv_if_le (tgt := 71) hx hb dX3_put_66 (by decide) (fun c_7 => ?_) (fun c_7 => ?_)
                · exact absurd c_7 (by decide)
                · refine lv_iconst (v := 0) hx hb dX3_put_69 (by decide) ?_
                  exact co_endI (va_up (va_up μ 0 (fun _ => 1)) 0 (fun _ => 1)) S hr hlocks dX3_put_70 hK hP hD hS (by have hcd : cdW σ x (nI k) v = 1 := (by simp only [cdW, show okR v 0 999 = false from how0, hon0, okR_id hk0, c_1, c_2, c_4, c_5, c_7, eq_self, Bool.false_eq_true, ite_self, ↓reduceIte]); exact ⟨by rw [hcd]; exact rfl, fun h => absurd (hcd.symm.trans h) (by decide), fun _ => hz_6⟩)
              · exact absurd c_5 (by decide)
            · exact absurd c_4 (by decide)
          · exact absurd (Int32.lt_of_lt_of_le (by decide) hyw0) c_2
      · refine co_bodyI (cc := cX3_put) (maxL := 6) (ret := (some .int)) (by decide) rfl (Nat.le_of_ble_eq_true rfl) ?_
        intro p e s m args below meth c S hr hlocks hK A hA hP hD hS ls hl
        have S : CallFix p m c cX3_put 6 s args wsX3_put RX3 := S
        obtain ⟨hx, hb, hml, hown, hts⟩ := id S
        have hl : lv_has ls 6 [(0, .ref (b 0)), (1, .int x), (2, .int y), (3, .int v)] := hl
        have uX3 := uX3_X3_put
        refine lv_aload_n hx hb dX3_put_0 rfl (lv_at hl 0 rfl) ?_
        refine lv_iload_n hx hb dX3_put_1 rfl (lv_at hl 3 rfl) ?_
        refine lv_if_lt (tgt := 21) hx hb dX3_put_2 (by decide) (fun c_1 => ?_) (fun c_1 => ?_)
        · exact absurd c_1 hzw0
        · refine lv_iload_n hx hb dX3_put_5 rfl (lv_at hl 3 rfl) ?_
          refine lv_sipush (v := 999) hx hb dX3_put_6 (by decide) ?_
          refine lv_icmp_gt (tgt := 21) hx hb dX3_put_9 (by decide) (fun c_2 => ?_) (fun c_2 => ?_)
          · refine lv_iconst (v := 1) hx hb dX3_put_21 (by decide) ?_
            refine va_put (D := G.1) (ci := 2) (v := .int 1) (ty := .int) (C := RX3) (T := TX3) (N := 13) hx hb hts uX3 tyX3 tyX3_ok nmX3 hown hK hP hD hS 0 rfl rfl 0 (by decide) (hts (.fieldLink RX3 41 "ChordOverlayModel" "thrown" "I") (by decide +kernel)) (fun _ h9 => h9) rfl (by decide +kernel) rfl rfl (Nat.le_of_ble_eq_true rfl) dX3_put_22 (fun H locs hP hD hS => ?_)
            have hP : pG G (wM G b (va_up μ 0 (fun _ => 1))) H := hP
            have hD : va_D A (wM G b (va_up μ 0 (fun _ => 1))) := hD
            have hz_3 : Rl Z σ (va_up μ 0 (fun _ => 1)) := Rl.s0 (f := fun _ => 1) hR
            refine lv_aload_n hx hb dX3_put_25 rfl (lv_at hl 0 rfl) ?_
            refine va_get (D := G.1) (ci := 2) (v := .int 1) (C := RX3) (T := TX3) (N := 13) hx hb hts uX3 hown hK hP 0 rfl rfl 0 (by decide) (hts (.fieldLink RX3 41 "ChordOverlayModel" "thrown" "I") (by decide +kernel)) (fun _ h9 => h9) rfl dX3_put_26 ?_
            refine lv_if_ne (tgt := 41) hx hb dX3_put_29 (by decide) (fun c_4 => ?_) (fun c_4 => ?_)
            · refine lv_iconst (v := 0) hx hb dX3_put_41 (by decide) ?_
              refine lv_istore (lv' := [(4, .int 0), (0, .ref (b 0)), (1, .int x), (2, .int y), (3, .int v)]) hx hb dX3_put_42 hl (by decide) rfl (fun ls hl => ?_)
              refine lv_aload_n hx hb dX3_put_44 rfl (lv_at hl 1 rfl) ?_
              refine lv_iload hx hb dX3_put_45 (lv_at hl 0 rfl) ?_
              refine lv_iconst (v := (-1)) hx hb dX3_put_47 (by decide) ?_
              refine lv_icmp_ne (tgt := 55) hx hb dX3_put_48 (by decide) (fun c_5 => ?_) (fun c_5 => ?_)
              · refine lv_aload_n hx hb dX3_put_55 rfl (lv_at hl 1 rfl) ?_
                refine va_get (D := G.1) (ci := 2) (v := .int 1) (C := RX3) (T := TX3) (N := 13) hx hb hts uX3 hown hK hP 0 rfl rfl 0 (by decide) (hts (.fieldLink RX3 41 "ChordOverlayModel" "thrown" "I") (by decide +kernel)) (fun _ h9 => h9) rfl dX3_put_56 ?_
                refine va_put (D := G.1) (ci := 2) (v := .int 1) (ty := .int) (C := RX3) (T := TX3) (N := 13) hx hb hts uX3 tyX3 tyX3_ok nmX3 hown hK hP hD hS 0 rfl rfl 0 (by decide) (hts (.fieldLink RX3 41 "ChordOverlayModel" "thrown" "I") (by decide +kernel)) (fun _ h9 => h9) rfl (by decide +kernel) rfl rfl (Nat.le_of_ble_eq_true rfl) dX3_put_59 (fun H locs hP hD hS => ?_)
                have hP : pG G (wM G b (va_up (va_up μ 0 (fun _ => 1)) 0 (fun _ => 1))) H := hP
                have hD : va_D A (wM G b (va_up (va_up μ 0 (fun _ => 1)) 0 (fun _ => 1))) := hD
                have hz_6 : Rl Z σ (va_up (va_up μ 0 (fun _ => 1)) 0 (fun _ => 1)) := Rl.s0 (f := fun _ => 1) hz_3
                refine lv_aload_n hx hb dX3_put_62 rfl (lv_at hl 1 rfl) ?_
                refine va_get (D := G.1) (ci := 2) (v := .int 1) (C := RX3) (T := TX3) (N := 13) hx hb hts uX3 hown hK hP 0 rfl rfl 0 (by decide) (hts (.fieldLink RX3 41 "ChordOverlayModel" "thrown" "I") (by decide +kernel)) (fun _ h9 => h9) rfl dX3_put_63 ?_
                refine lv_if_le (tgt := 71) hx hb dX3_put_66 (by decide) (fun c_7 => ?_) (fun c_7 => ?_)
                · exact absurd c_7 (by decide)
                · refine lv_iconst (v := 0) hx hb dX3_put_69 (by decide) ?_
                  exact co_endI (va_up (va_up μ 0 (fun _ => 1)) 0 (fun _ => 1)) S hr hlocks dX3_put_70 hK hP hD hS (by have hcd : cdW σ x y v = 1 := (by simp only [cdW, show okR v 0 999 = false from how0, hon0, hok0, c_1, c_2, c_4, c_5, c_7, eq_self, Bool.false_eq_true, ite_self, ↓reduceIte]); exact ⟨by rw [hcd]; exact rfl, fun h => absurd (hcd.symm.trans h) (by decide), fun _ => hz_6⟩)
              · exact absurd c_5 (by decide)
            · exact absurd c_4 (by decide)
          · exact absurd (Int32.lt_of_lt_of_le (by decide) hyw0) c_2

set_option maxRecDepth 20000 in
theorem uX3_X3_roundsToRight : ∀ w ∈ u_ws RX3 TX3 13, w ∈ wsX3_roundsToRight := by decide +kernel
abbrev rm_X3_roundsToRight : Room := { frames := 7, cells := 0, slots := 0, locals := 166 }
set_option maxHeartbeats 4000000 in
set_option maxRecDepth 100000 in
theorem c_X3_roundsToRight (l : Launch) (G : cG) (Z : Nat) (b : Nat → Nat) (σ μ : cS) (hR : Rl Z σ μ) (x : Int32) : MetI l yX3_roundsToRight wsX3_roundsToRight rm_X3_roundsToRight G (wM G b μ) [.ref (b 0), .int x] (fun u : cS => wM G b u) (fun r u => u 0 0 = nI (cd1 x 1 30) ∧ (cd1 x 1 30 = 0 → r = (if rtK (lpS σ) (x.toNatClampNeg + 1) 0 ≤ x.toNatClampNeg then nI (rtK (lpS σ) (x.toNatClampNeg + 1) 0) else -1) ∧ Rl Z (tbS (rtS (lpS σ) (x.toNatClampNeg + 1))) u) ∧ (cd1 x 1 30 ≠ 0 → Rl Z σ u)) := by
  refine co_bodyI (cc := cX3_roundsToRight) (maxL := 3) (ret := (some .int)) (by decide) rfl (Nat.le_of_ble_eq_true rfl) ?_
  intro p e s m args below meth c S hr hlocks hK A hA hP hD hS ls hl
  have S : CallFix p m c cX3_roundsToRight 3 s args wsX3_roundsToRight RX3 := S
  obtain ⟨hx, hb, hml, hown, hts⟩ := id S
  have hl : lv_has ls 3 [(0, .ref (b 0)), (1, .int x)] := hl
  have uX3 := uX3_X3_roundsToRight
  refine lv_aload_n hx hb dX3_roundsToRight_0 rfl (lv_at hl 0 rfl) ?_
  refine lv_iconst (v := 0) hx hb dX3_roundsToRight_1 (by decide) ?_
  refine va_put (D := G.1) (ci := 2) (v := .int 0) (ty := .int) (C := RX3) (T := TX3) (N := 13) hx hb hts uX3 tyX3 tyX3_ok nmX3 hown hK hP hD hS 0 rfl rfl 0 (by decide) (hts (.fieldLink RX3 41 "ChordOverlayModel" "thrown" "I") (by decide +kernel)) (fun _ h9 => h9) rfl (by decide +kernel) rfl rfl (Nat.le_of_ble_eq_true rfl) dX3_roundsToRight_2 (fun H locs hP hD hS => ?_)
  have hP : pG G (wM G b (va_up μ 0 (fun _ => 0))) H := hP
  have hD : va_D A (wM G b (va_up μ 0 (fun _ => 0))) := hD
  have hz_1 : Rl Z σ (va_up μ 0 (fun _ => 0)) := Rl.s0 (f := fun _ => 0) hR
  refine lv_iload_n hx hb dX3_roundsToRight_5 rfl (lv_at hl 1 rfl) ?_
  refine lv_iconst (v := 1) hx hb dX3_roundsToRight_6 (by decide) ?_
  refine lv_icmp_lt (tgt := 16) hx hb dX3_roundsToRight_7 (by decide) (fun c_2 => ?_) (fun c_2 => ?_)
  · refine lv_aload_n hx hb dX3_roundsToRight_16 rfl (lv_at hl 0 rfl) ?_
    refine lv_iconst (v := 1) hx hb dX3_roundsToRight_17 (by decide) ?_
    refine co_mVi (As := [.int 1]) (rest := []) S (c_X3_fails l G Z b σ (va_up μ 0 (fun _ => 0)) hz_1 1) (cwV 1 hts gX3_roundsToRight_X3_fails rfl rfl rfl (by decide +kernel) ⟨Nat.le_of_ble_eq_true rfl, Nat.le_of_ble_eq_true rfl⟩) hK hP hD hS hA (va_recv hK hP (ci := 2) (q0 := 0) rfl rfl) rfl hl.1 rfl (Nat.le_of_ble_eq_true rfl) dX3_roundsToRight_18 ⟨Nat.zero_le _, Nat.zero_le _⟩ (fun r_3 u_3 H locs hu_3 hP hD hS => ?_)
    obtain ⟨hr_3, hu_3⟩ := hu_3
    subst hr_3
    subst hu_3
    have hP : pG G (wM G b (va_up (va_up μ 0 (fun _ => 0)) 0 (fun _ => 1))) H := hP
    have hD : va_D A (wM G b (va_up (va_up μ 0 (fun _ => 0)) 0 (fun _ => 1))) := hD
    have hz_4 : Rl Z σ (va_up (va_up μ 0 (fun _ => 0)) 0 (fun _ => 1)) := Rl.s0 (f := fun _ => 1) hz_1
    exact co_endI (va_up (va_up μ 0 (fun _ => 0)) 0 (fun _ => 1)) S hr hlocks dX3_roundsToRight_21 hK hP hD hS (by have hcd : cd1 x 1 30 = 1 := (by simp only [cd1, okR, c_2, eq_self, Bool.false_eq_true, ite_self, ↓reduceIte]); exact ⟨by rw [hcd]; exact rfl, fun h => absurd (hcd.symm.trans h) (by decide), fun _ => hz_4⟩)
  · refine lv_iload_n hx hb dX3_roundsToRight_10 rfl (lv_at hl 1 rfl) ?_
    refine lv_bipush (v := 30) hx hb dX3_roundsToRight_11 (by decide) ?_
    refine lv_icmp_le (tgt := 22) hx hb dX3_roundsToRight_13 (by decide) (fun c_5 => ?_) (fun c_5 => ?_)
    · refine lv_aload_n hx hb dX3_roundsToRight_22 rfl (lv_at hl 0 rfl) ?_
      refine va_get (D := G.1) (ci := 2) (v := .ref (b 2)) (C := RX3) (T := TX3) (N := 13) hx hb hts uX3 hown hK hP 0 rfl rfl 3 (by decide) (hts (.fieldLink RX3 13 "ChordOverlayModel" "successor" "[I") (by decide +kernel)) (fun _ h9 => h9) rfl dX3_roundsToRight_23 ?_
      refine lv_aload_n hx hb dX3_roundsToRight_26 rfl (lv_at hl 0 rfl) ?_
      refine va_get (D := G.1) (ci := 2) (v := .ref (b 8)) (C := RX3) (T := TX3) (N := 13) hx hb hts uX3 hown hK hP 0 rfl rfl 10 (by decide) (hts (.fieldLink RX3 32 "ChordOverlayModel" "heldSuccessor" "[I") (by decide +kernel)) (fun _ h9 => h9) rfl dX3_roundsToRight_27 ?_
      refine co_mSvS (As := [.ref (b 2), .ref (b 8)]) (rest := []) (wr := ([0, 1, 3, 4, 5, 6, 7, 9, 10].filterMap (fun i => (wM G b (va_up μ 0 (fun _ => 0)))[i]?))) (w' := (fun u => wM G b (va_up (va_up μ 0 (fun _ => 0)) 10 u))) [2, 8] [0, 1, 3, 4, 5, 6, 7, 9, 10] [0, 1, 9, 2, 3, 4, 5, 6, 10, 7, 8] S (c_X3_move l G (b 2) (b 8) (64 * 3) (μ 3) (μ 10) (by decide)) (va_cwS 2 hts gX3_roundsToRight_X3_move rfl rfl rfl (by decide +kernel) ⟨Nat.le_of_ble_eq_true rfl, Nat.le_of_ble_eq_true rfl⟩) hK hP hD hS hA rfl rfl (by decide) (by decide) (by decide) (by decide) (fun _ => rfl) rfl hl.1 rfl (Nat.le_of_ble_eq_true rfl) dX3_roundsToRight_30 ⟨Nat.zero_le _, Nat.zero_le _⟩ (fun u_6 H locs hu_6 hP hD hS => ?_)
      have hP : pG G (wM G b (va_up (va_up μ 0 (fun _ => 0)) 10 u_6)) H := hP
      have hD : va_D A (wM G b (va_up (va_up μ 0 (fun _ => 0)) 10 u_6)) := hD
      refine lv_aload_n hx hb dX3_roundsToRight_33 rfl (lv_at hl 0 rfl) ?_
      refine va_get (D := G.1) (ci := 2) (v := .ref (b 3)) (C := RX3) (T := TX3) (N := 13) hx hb hts uX3 hown hK hP 0 rfl rfl 4 (by decide) (hts (.fieldLink RX3 17 "ChordOverlayModel" "predecessor" "[I") (by decide +kernel)) (fun _ h9 => h9) rfl dX3_roundsToRight_34 ?_
      refine lv_aload_n hx hb dX3_roundsToRight_37 rfl (lv_at hl 0 rfl) ?_
      refine va_get (D := G.1) (ci := 2) (v := .ref (b 9)) (C := RX3) (T := TX3) (N := 13) hx hb hts uX3 hown hK hP 0 rfl rfl 11 (by decide) (hts (.fieldLink RX3 35 "ChordOverlayModel" "heldPredecessor" "[I") (by decide +kernel)) (fun _ h9 => h9) rfl dX3_roundsToRight_38 ?_
      refine co_mSvS (As := [.ref (b 3), .ref (b 9)]) (rest := []) (wr := ([0, 1, 2, 4, 5, 6, 7, 8, 10].filterMap (fun i => (wM G b (va_up (va_up μ 0 (fun _ => 0)) 10 u_6))[i]?))) (w' := (fun u => wM G b (va_up (va_up (va_up μ 0 (fun _ => 0)) 10 u_6) 11 u))) [3, 9] [0, 1, 2, 4, 5, 6, 7, 8, 10] [0, 1, 2, 9, 3, 4, 5, 6, 7, 10, 8] S (c_X3_move l G (b 3) (b 9) 64 (μ 4) (μ 11) (by decide)) (va_cwS 2 hts gX3_roundsToRight_X3_move rfl rfl rfl (by decide +kernel) ⟨Nat.le_of_ble_eq_true rfl, Nat.le_of_ble_eq_true rfl⟩) hK hP hD hS hA rfl rfl (by decide) (by decide) (by decide) (by decide) (fun _ => rfl) rfl hl.1 rfl (Nat.le_of_ble_eq_true rfl) dX3_roundsToRight_41 ⟨Nat.zero_le _, Nat.zero_le _⟩ (fun u_7 H locs hu_7 hP hD hS => ?_)
      have hP : pG G (wM G b (va_up (va_up (va_up μ 0 (fun _ => 0)) 10 u_6) 11 u_7)) H := hP
      have hD : va_D A (wM G b (va_up (va_up (va_up μ 0 (fun _ => 0)) 10 u_6) 11 u_7)) := hD
      refine lv_aload_n hx hb dX3_roundsToRight_44 rfl (lv_at hl 0 rfl) ?_
      refine va_get (D := G.1) (ci := 2) (v := .ref (b 4)) (C := RX3) (T := TX3) (N := 13) hx hb hts uX3 hown hK hP 0 rfl rfl 5 (by decide) (hts (.fieldLink RX3 20 "ChordOverlayModel" "finger" "[I") (by decide +kernel)) (fun _ h9 => h9) rfl dX3_roundsToRight_45 ?_
      refine lv_aload_n hx hb dX3_roundsToRight_48 rfl (lv_at hl 0 rfl) ?_
      refine va_get (D := G.1) (ci := 2) (v := .ref (b 10)) (C := RX3) (T := TX3) (N := 13) hx hb hts uX3 hown hK hP 0 rfl rfl 12 (by decide) (hts (.fieldLink RX3 38 "ChordOverlayModel" "heldFinger" "[I") (by decide +kernel)) (fun _ h9 => h9) rfl dX3_roundsToRight_49 ?_
      refine co_mSvS (As := [.ref (b 4), .ref (b 10)]) (rest := []) (wr := ([0, 1, 2, 3, 5, 6, 7, 8, 9].filterMap (fun i => (wM G b (va_up (va_up (va_up μ 0 (fun _ => 0)) 10 u_6) 11 u_7))[i]?))) (w' := (fun u => wM G b (va_up (va_up (va_up (va_up μ 0 (fun _ => 0)) 10 u_6) 11 u_7) 12 u))) [4, 10] [0, 1, 2, 3, 5, 6, 7, 8, 9] [0, 1, 2, 3, 9, 4, 5, 6, 7, 8, 10] S (c_X3_move l G (b 4) (b 10) (64 * 6) (μ 5) (μ 12) (by decide)) (va_cwS 2 hts gX3_roundsToRight_X3_move rfl rfl rfl (by decide +kernel) ⟨Nat.le_of_ble_eq_true rfl, Nat.le_of_ble_eq_true rfl⟩) hK hP hD hS hA rfl rfl (by decide) (by decide) (by decide) (by decide) (fun _ => rfl) rfl hl.1 rfl (Nat.le_of_ble_eq_true rfl) dX3_roundsToRight_52 ⟨Nat.zero_le _, Nat.zero_le _⟩ (fun u_8 H locs hu_8 hP hD hS => ?_)
      have hP : pG G (wM G b (va_up (va_up (va_up (va_up μ 0 (fun _ => 0)) 10 u_6) 11 u_7) 12 u_8)) H := hP
      have hD : va_D A (wM G b (va_up (va_up (va_up (va_up μ 0 (fun _ => 0)) 10 u_6) 11 u_7) 12 u_8)) := hD
      refine lv_iconst (v := 0) hx hb dX3_roundsToRight_55 (by decide) ?_
      refine lv_istore_n (lv' := [(2, .int 0), (0, .ref (b 0)), (1, .int x)]) hx hb dX3_roundsToRight_56 rfl hl (by decide) rfl (fun ls hl => ?_)
      obtain ⟨N, hN1, hN2, eN⟩ := okR_nI (M := 30) (by decide) (show okR x 1 (nI 30) = true by rw [okR, if_neg c_2, if_pos (show x ≤ nI 30 from c_5)])
      have hR1 : Rl Z (lpS σ) (va_up (va_up (va_up (va_up μ 0 (fun _ => 0)) 10 u_6) 11 u_7) 12 u_8) := rl_lp (Rl.s12 (f := u_8) (Rl.s11 (f := u_7) (Rl.s10 (f := u_6) hz_1)))
      have hK1 : Kp (va_up (va_up (va_up (va_up μ 0 (fun _ => 0)) 10 u_6) 11 u_7) 12 u_8) (va_up (va_up (va_up (va_up μ 0 (fun _ => 0)) 10 u_6) 11 u_7) 12 u_8) := Kp.rf
      have h81 : rtK (lpS σ) (N + 1) 0 = rtK (lpS σ) (N + 1) 0 := rfl
      have LP : ∀ (d : Nat) (k : Nat) (σ' μ' : cS), k + d = N + 1 → Rl Z σ' μ' → Kp (va_up (va_up (va_up (va_up μ 0 (fun _ => 0)) 10 u_6) 11 u_7) 12 u_8) μ' → K4 σ σ' → rtK σ' d k = rtK (lpS σ) (N + 1) 0 → ∀ (H : Heap) (locs : List Loc), pG G (wM G b μ') H → va_D A (wM G b μ') → va_S A s.heap H locs → ∀ ls : Array Slot, lv_has ls 3 [(0, .ref (b 0)), (1, .int x), (2, .int (nI k))] → W p l e rm_X3_roundsToRight s m args below meth c H locs 0 0 (QI below G A (fun u : cS => wM G b u) (fun r u => u 0 0 = nI (cd1 x 1 30) ∧ (cd1 x 1 30 = 0 → r = (if rtK (lpS σ) (x.toNatClampNeg + 1) 0 ≤ x.toNatClampNeg then nI (rtK (lpS σ) (x.toNatClampNeg + 1) 0) else -1) ∧ Rl Z (tbS (rtS (lpS σ) (x.toNatClampNeg + 1))) u) ∧ (cd1 x 1 30 ≠ 0 → Rl Z σ u)) args s) (F0 m 57 ls []) := by
        intro d
        induction d with
        | zero =>
          intro k σ' μ' hk hR9 hK9 h4 h8 H locs hP hD hS ls hl
          refine lv_iload_n hx hb dX3_roundsToRight_57 rfl (lv_at hl 2 rfl) ?_
          refine lv_iload_n hx hb dX3_roundsToRight_58 rfl (lv_at hl 1 rfl) ?_
          refine lv_icmp_gt (tgt := 85) hx hb dX3_roundsToRight_59 (by decide) (fun c_9 => ?_) (fun c_9 => ?_)
          · refine lv_aload_n hx hb dX3_roundsToRight_85 rfl (lv_at hl 0 rfl) ?_
            refine va_get (D := G.1) (ci := 2) (v := .ref (b 8)) (C := RX3) (T := TX3) (N := 13) hx hb hts uX3 hown hK hP 0 rfl rfl 10 (by decide) (hts (.fieldLink RX3 32 "ChordOverlayModel" "heldSuccessor" "[I") (by decide +kernel)) (fun _ h9 => h9) rfl dX3_roundsToRight_86 ?_
            refine lv_aload_n hx hb dX3_roundsToRight_89 rfl (lv_at hl 0 rfl) ?_
            refine va_get (D := G.1) (ci := 2) (v := .ref (b 2)) (C := RX3) (T := TX3) (N := 13) hx hb hts uX3 hown hK hP 0 rfl rfl 3 (by decide) (hts (.fieldLink RX3 13 "ChordOverlayModel" "successor" "[I") (by decide +kernel)) (fun _ h9 => h9) rfl dX3_roundsToRight_90 ?_
            refine co_mSvS (As := [.ref (b 8), .ref (b 2)]) (rest := []) (wr := ([0, 1, 3, 4, 5, 6, 7, 9, 10].filterMap (fun i => (wM G b μ')[i]?))) (w' := (fun u => wM G b (va_up μ' 3 u))) [8, 2] [0, 1, 3, 4, 5, 6, 7, 9, 10] [0, 1, 10, 2, 3, 4, 5, 6, 9, 7, 8] S (c_X3_move l G (b 8) (b 2) (64 * 3) (μ' 10) (μ' 3) (by decide)) (va_cwS 2 hts gX3_roundsToRight_X3_move rfl rfl rfl (by decide +kernel) ⟨Nat.le_of_ble_eq_true rfl, Nat.le_of_ble_eq_true rfl⟩) hK hP hD hS hA rfl rfl (by decide) (by decide) (by decide) (by decide) (fun _ => rfl) rfl hl.1 rfl (Nat.le_of_ble_eq_true rfl) dX3_roundsToRight_93 ⟨Nat.zero_le _, Nat.zero_le _⟩ (fun u_10 H locs hu_10 hP hD hS => ?_)
            have hP : pG G (wM G b (va_up μ' 3 u_10)) H := hP
            have hD : va_D A (wM G b (va_up μ' 3 u_10)) := hD
            refine lv_aload_n hx hb dX3_roundsToRight_96 rfl (lv_at hl 0 rfl) ?_
            refine va_get (D := G.1) (ci := 2) (v := .ref (b 9)) (C := RX3) (T := TX3) (N := 13) hx hb hts uX3 hown hK hP 0 rfl rfl 11 (by decide) (hts (.fieldLink RX3 35 "ChordOverlayModel" "heldPredecessor" "[I") (by decide +kernel)) (fun _ h9 => h9) rfl dX3_roundsToRight_97 ?_
            refine lv_aload_n hx hb dX3_roundsToRight_100 rfl (lv_at hl 0 rfl) ?_
            refine va_get (D := G.1) (ci := 2) (v := .ref (b 3)) (C := RX3) (T := TX3) (N := 13) hx hb hts uX3 hown hK hP 0 rfl rfl 4 (by decide) (hts (.fieldLink RX3 17 "ChordOverlayModel" "predecessor" "[I") (by decide +kernel)) (fun _ h9 => h9) rfl dX3_roundsToRight_101 ?_
            refine co_mSvS (As := [.ref (b 9), .ref (b 3)]) (rest := []) (wr := ([0, 1, 2, 4, 5, 6, 7, 8, 10].filterMap (fun i => (wM G b (va_up μ' 3 u_10))[i]?))) (w' := (fun u => wM G b (va_up (va_up μ' 3 u_10) 4 u))) [9, 3] [0, 1, 2, 4, 5, 6, 7, 8, 10] [0, 1, 2, 10, 3, 4, 5, 6, 7, 9, 8] S (c_X3_move l G (b 9) (b 3) 64 (μ' 11) (μ' 4) (by decide)) (va_cwS 2 hts gX3_roundsToRight_X3_move rfl rfl rfl (by decide +kernel) ⟨Nat.le_of_ble_eq_true rfl, Nat.le_of_ble_eq_true rfl⟩) hK hP hD hS hA rfl rfl (by decide) (by decide) (by decide) (by decide) (fun _ => rfl) rfl hl.1 rfl (Nat.le_of_ble_eq_true rfl) dX3_roundsToRight_104 ⟨Nat.zero_le _, Nat.zero_le _⟩ (fun u_11 H locs hu_11 hP hD hS => ?_)
            have hP : pG G (wM G b (va_up (va_up μ' 3 u_10) 4 u_11)) H := hP
            have hD : va_D A (wM G b (va_up (va_up μ' 3 u_10) 4 u_11)) := hD
            refine lv_aload_n hx hb dX3_roundsToRight_107 rfl (lv_at hl 0 rfl) ?_
            refine va_get (D := G.1) (ci := 2) (v := .ref (b 10)) (C := RX3) (T := TX3) (N := 13) hx hb hts uX3 hown hK hP 0 rfl rfl 12 (by decide) (hts (.fieldLink RX3 38 "ChordOverlayModel" "heldFinger" "[I") (by decide +kernel)) (fun _ h9 => h9) rfl dX3_roundsToRight_108 ?_
            refine lv_aload_n hx hb dX3_roundsToRight_111 rfl (lv_at hl 0 rfl) ?_
            refine va_get (D := G.1) (ci := 2) (v := .ref (b 4)) (C := RX3) (T := TX3) (N := 13) hx hb hts uX3 hown hK hP 0 rfl rfl 5 (by decide) (hts (.fieldLink RX3 20 "ChordOverlayModel" "finger" "[I") (by decide +kernel)) (fun _ h9 => h9) rfl dX3_roundsToRight_112 ?_
            refine co_mSvS (As := [.ref (b 10), .ref (b 4)]) (rest := []) (wr := ([0, 1, 2, 3, 5, 6, 7, 8, 9].filterMap (fun i => (wM G b (va_up (va_up μ' 3 u_10) 4 u_11))[i]?))) (w' := (fun u => wM G b (va_up (va_up (va_up μ' 3 u_10) 4 u_11) 5 u))) [10, 4] [0, 1, 2, 3, 5, 6, 7, 8, 9] [0, 1, 2, 3, 10, 4, 5, 6, 7, 8, 9] S (c_X3_move l G (b 10) (b 4) (64 * 6) (μ' 12) (μ' 5) (by decide)) (va_cwS 2 hts gX3_roundsToRight_X3_move rfl rfl rfl (by decide +kernel) ⟨Nat.le_of_ble_eq_true rfl, Nat.le_of_ble_eq_true rfl⟩) hK hP hD hS hA rfl rfl (by decide) (by decide) (by decide) (by decide) (fun _ => rfl) rfl hl.1 rfl (Nat.le_of_ble_eq_true rfl) dX3_roundsToRight_115 ⟨Nat.zero_le _, Nat.zero_le _⟩ (fun u_12 H locs hu_12 hP hD hS => ?_)
            have hP : pG G (wM G b (va_up (va_up (va_up μ' 3 u_10) 4 u_11) 5 u_12)) H := hP
            have hD : va_D A (wM G b (va_up (va_up (va_up μ' 3 u_10) 4 u_11) 5 u_12)) := hD
            refine lv_iload_n hx hb dX3_roundsToRight_118 rfl (lv_at hl 2 rfl) ?_
            refine lv_iload_n hx hb dX3_roundsToRight_119 rfl (lv_at hl 1 rfl) ?_
            refine lv_icmp_gt (tgt := 127) hx hb dX3_roundsToRight_120 (by decide) (fun c_13 => ?_) (fun c_13 => ?_)
            · refine lv_iconst (v := (-1)) hx hb dX3_roundsToRight_127 (by decide) ?_
              exact co_endI (va_up (va_up (va_up μ' 3 u_10) 4 u_11) 5 u_12) S hr hlocks dX3_roundsToRight_128 hK hP hD hS (by have hcd : cd1 x 1 30 = 0 := (by simp only [cd1, okR, c_2, c_5, c_9, c_13, eq_self, Bool.false_eq_true, ite_self, ↓reduceIte]); exact ⟨by rw [hcd]; exact (congrFun hK9.1 0), fun _ => ⟨by have hxN : x.toNatClampNeg = N := (by rw [eN]; exact nI_clamp (by omega)); rw [hxN]; exact rt_r (k := k) (by omega) (by omega) (h8.symm.trans (rfl)) (Or.inr ⟨by rw [← eN]; exact c_13, rfl⟩), by have hxN : x.toNatClampNeg = N := (by rw [eN]; exact nI_clamp (by omega)); rw [hxN]; exact rt_fin hR hR9 h4 rfl rfl rfl rfl (by show u_10 = _; rw [hu_10, show μ' 10 = u_6 from hK9.2.1, hu_6]) (by show u_11 = _; rw [hu_11, show μ' 11 = u_7 from hK9.2.2.1, hu_7]) (by show u_12 = _; rw [hu_12, show μ' 12 = u_8 from hK9.2.2.2, hu_8])⟩, fun h => absurd hcd h⟩)
            · refine lv_iload_n hx hb dX3_roundsToRight_123 rfl (lv_at hl 2 rfl) ?_
              refine lv_goto (tgt := 128) hx hb dX3_roundsToRight_124 (by decide) ?_
              exact co_endI (va_up (va_up (va_up μ' 3 u_10) 4 u_11) 5 u_12) S hr hlocks dX3_roundsToRight_128 hK hP hD hS (by have hcd : cd1 x 1 30 = 0 := (by simp only [cd1, okR, c_2, c_5, c_9, c_13, eq_self, Bool.false_eq_true, ite_self, ↓reduceIte]); exact ⟨by rw [hcd]; exact (congrFun hK9.1 0), fun _ => ⟨by have hxN : x.toNatClampNeg = N := (by rw [eN]; exact nI_clamp (by omega)); rw [hxN]; exact rt_r (k := k) (by omega) (by omega) (h8.symm.trans (rfl)) (Or.inl ⟨fun q => c_13 (by rw [eN]; exact q), rfl⟩), by have hxN : x.toNatClampNeg = N := (by rw [eN]; exact nI_clamp (by omega)); rw [hxN]; exact rt_fin hR hR9 h4 rfl rfl rfl rfl (by show u_10 = _; rw [hu_10, show μ' 10 = u_6 from hK9.2.1, hu_6]) (by show u_11 = _; rw [hu_11, show μ' 11 = u_7 from hK9.2.2.1, hu_7]) (by show u_12 = _; rw [hu_12, show μ' 12 = u_8 from hK9.2.2.2, hu_8])⟩, fun h => absurd hcd h⟩)
          · exact absurd (show x < nI k by rw [eN]; exact nI_lt (by omega) (by omega)) c_9
        | succ d ih =>
          intro k σ' μ' hk hR9 hK9 h4 h8 H locs hP hD hS ls hl
          refine lv_iload_n hx hb dX3_roundsToRight_57 rfl (lv_at hl 2 rfl) ?_
          refine lv_iload_n hx hb dX3_roundsToRight_58 rfl (lv_at hl 1 rfl) ?_
          refine lv_icmp_gt (tgt := 85) hx hb dX3_roundsToRight_59 (by decide) (fun c_14 => ?_) (fun c_14 => ?_)
          · exact absurd (show nI N < nI k by rw [← eN]; exact c_14) (nI_nlt (by omega) (by omega))
          · refine lv_aload_n hx hb dX3_roundsToRight_62 rfl (lv_at hl 0 rfl) ?_
            refine co_rV (As := []) (rest := []) S (c_X3_countWrong l G Z b σ' μ' hR9) (cwV 0 hts gX3_roundsToRight_X3_countWrong rfl rfl rfl (by decide +kernel) ⟨Nat.le_of_ble_eq_true rfl, Nat.le_of_ble_eq_true rfl⟩) hK hP (va_recv hK hP (ci := 2) (q0 := 0) rfl rfl) rfl hl.1 rfl (Nat.le_of_ble_eq_true rfl) dX3_roundsToRight_63 ⟨Nat.zero_le _, Nat.zero_le _⟩ ?_
            refine lv_if_le (tgt := 85) hx hb dX3_roundsToRight_66 (by decide) (fun c_15 => ?_) (fun c_15 => ?_)
            · refine lv_aload_n hx hb dX3_roundsToRight_85 rfl (lv_at hl 0 rfl) ?_
              refine va_get (D := G.1) (ci := 2) (v := .ref (b 8)) (C := RX3) (T := TX3) (N := 13) hx hb hts uX3 hown hK hP 0 rfl rfl 10 (by decide) (hts (.fieldLink RX3 32 "ChordOverlayModel" "heldSuccessor" "[I") (by decide +kernel)) (fun _ h9 => h9) rfl dX3_roundsToRight_86 ?_
              refine lv_aload_n hx hb dX3_roundsToRight_89 rfl (lv_at hl 0 rfl) ?_
              refine va_get (D := G.1) (ci := 2) (v := .ref (b 2)) (C := RX3) (T := TX3) (N := 13) hx hb hts uX3 hown hK hP 0 rfl rfl 3 (by decide) (hts (.fieldLink RX3 13 "ChordOverlayModel" "successor" "[I") (by decide +kernel)) (fun _ h9 => h9) rfl dX3_roundsToRight_90 ?_
              refine co_mSvS (As := [.ref (b 8), .ref (b 2)]) (rest := []) (wr := ([0, 1, 3, 4, 5, 6, 7, 9, 10].filterMap (fun i => (wM G b μ')[i]?))) (w' := (fun u => wM G b (va_up μ' 3 u))) [8, 2] [0, 1, 3, 4, 5, 6, 7, 9, 10] [0, 1, 10, 2, 3, 4, 5, 6, 9, 7, 8] S (c_X3_move l G (b 8) (b 2) (64 * 3) (μ' 10) (μ' 3) (by decide)) (va_cwS 2 hts gX3_roundsToRight_X3_move rfl rfl rfl (by decide +kernel) ⟨Nat.le_of_ble_eq_true rfl, Nat.le_of_ble_eq_true rfl⟩) hK hP hD hS hA rfl rfl (by decide) (by decide) (by decide) (by decide) (fun _ => rfl) rfl hl.1 rfl (Nat.le_of_ble_eq_true rfl) dX3_roundsToRight_93 ⟨Nat.zero_le _, Nat.zero_le _⟩ (fun u_16 H locs hu_16 hP hD hS => ?_)
              have hP : pG G (wM G b (va_up μ' 3 u_16)) H := hP
              have hD : va_D A (wM G b (va_up μ' 3 u_16)) := hD
              refine lv_aload_n hx hb dX3_roundsToRight_96 rfl (lv_at hl 0 rfl) ?_
              refine va_get (D := G.1) (ci := 2) (v := .ref (b 9)) (C := RX3) (T := TX3) (N := 13) hx hb hts uX3 hown hK hP 0 rfl rfl 11 (by decide) (hts (.fieldLink RX3 35 "ChordOverlayModel" "heldPredecessor" "[I") (by decide +kernel)) (fun _ h9 => h9) rfl dX3_roundsToRight_97 ?_
              refine lv_aload_n hx hb dX3_roundsToRight_100 rfl (lv_at hl 0 rfl) ?_
              refine va_get (D := G.1) (ci := 2) (v := .ref (b 3)) (C := RX3) (T := TX3) (N := 13) hx hb hts uX3 hown hK hP 0 rfl rfl 4 (by decide) (hts (.fieldLink RX3 17 "ChordOverlayModel" "predecessor" "[I") (by decide +kernel)) (fun _ h9 => h9) rfl dX3_roundsToRight_101 ?_
              refine co_mSvS (As := [.ref (b 9), .ref (b 3)]) (rest := []) (wr := ([0, 1, 2, 4, 5, 6, 7, 8, 10].filterMap (fun i => (wM G b (va_up μ' 3 u_16))[i]?))) (w' := (fun u => wM G b (va_up (va_up μ' 3 u_16) 4 u))) [9, 3] [0, 1, 2, 4, 5, 6, 7, 8, 10] [0, 1, 2, 10, 3, 4, 5, 6, 7, 9, 8] S (c_X3_move l G (b 9) (b 3) 64 (μ' 11) (μ' 4) (by decide)) (va_cwS 2 hts gX3_roundsToRight_X3_move rfl rfl rfl (by decide +kernel) ⟨Nat.le_of_ble_eq_true rfl, Nat.le_of_ble_eq_true rfl⟩) hK hP hD hS hA rfl rfl (by decide) (by decide) (by decide) (by decide) (fun _ => rfl) rfl hl.1 rfl (Nat.le_of_ble_eq_true rfl) dX3_roundsToRight_104 ⟨Nat.zero_le _, Nat.zero_le _⟩ (fun u_17 H locs hu_17 hP hD hS => ?_)
              have hP : pG G (wM G b (va_up (va_up μ' 3 u_16) 4 u_17)) H := hP
              have hD : va_D A (wM G b (va_up (va_up μ' 3 u_16) 4 u_17)) := hD
              refine lv_aload_n hx hb dX3_roundsToRight_107 rfl (lv_at hl 0 rfl) ?_
              refine va_get (D := G.1) (ci := 2) (v := .ref (b 10)) (C := RX3) (T := TX3) (N := 13) hx hb hts uX3 hown hK hP 0 rfl rfl 12 (by decide) (hts (.fieldLink RX3 38 "ChordOverlayModel" "heldFinger" "[I") (by decide +kernel)) (fun _ h9 => h9) rfl dX3_roundsToRight_108 ?_
              refine lv_aload_n hx hb dX3_roundsToRight_111 rfl (lv_at hl 0 rfl) ?_
              refine va_get (D := G.1) (ci := 2) (v := .ref (b 4)) (C := RX3) (T := TX3) (N := 13) hx hb hts uX3 hown hK hP 0 rfl rfl 5 (by decide) (hts (.fieldLink RX3 20 "ChordOverlayModel" "finger" "[I") (by decide +kernel)) (fun _ h9 => h9) rfl dX3_roundsToRight_112 ?_
              refine co_mSvS (As := [.ref (b 10), .ref (b 4)]) (rest := []) (wr := ([0, 1, 2, 3, 5, 6, 7, 8, 9].filterMap (fun i => (wM G b (va_up (va_up μ' 3 u_16) 4 u_17))[i]?))) (w' := (fun u => wM G b (va_up (va_up (va_up μ' 3 u_16) 4 u_17) 5 u))) [10, 4] [0, 1, 2, 3, 5, 6, 7, 8, 9] [0, 1, 2, 3, 10, 4, 5, 6, 7, 8, 9] S (c_X3_move l G (b 10) (b 4) (64 * 6) (μ' 12) (μ' 5) (by decide)) (va_cwS 2 hts gX3_roundsToRight_X3_move rfl rfl rfl (by decide +kernel) ⟨Nat.le_of_ble_eq_true rfl, Nat.le_of_ble_eq_true rfl⟩) hK hP hD hS hA rfl rfl (by decide) (by decide) (by decide) (by decide) (fun _ => rfl) rfl hl.1 rfl (Nat.le_of_ble_eq_true rfl) dX3_roundsToRight_115 ⟨Nat.zero_le _, Nat.zero_le _⟩ (fun u_18 H locs hu_18 hP hD hS => ?_)
              have hP : pG G (wM G b (va_up (va_up (va_up μ' 3 u_16) 4 u_17) 5 u_18)) H := hP
              have hD : va_D A (wM G b (va_up (va_up (va_up μ' 3 u_16) 4 u_17) 5 u_18)) := hD
              refine lv_iload_n hx hb dX3_roundsToRight_118 rfl (lv_at hl 2 rfl) ?_
              refine lv_iload_n hx hb dX3_roundsToRight_119 rfl (lv_at hl 1 rfl) ?_
              refine lv_icmp_gt (tgt := 127) hx hb dX3_roundsToRight_120 (by decide) (fun c_19 => ?_) (fun c_19 => ?_)
              · refine lv_iconst (v := (-1)) hx hb dX3_roundsToRight_127 (by decide) ?_
                exact co_endI (va_up (va_up (va_up μ' 3 u_16) 4 u_17) 5 u_18) S hr hlocks dX3_roundsToRight_128 hK hP hD hS (by have hcd : cd1 x 1 30 = 0 := (by simp only [cd1, okR, c_2, c_5, c_14, c_15, c_19, eq_self, Bool.false_eq_true, ite_self, ↓reduceIte]); exact ⟨by rw [hcd]; exact (congrFun hK9.1 0), fun _ => ⟨by have hxN : x.toNatClampNeg = N := (by rw [eN]; exact nI_clamp (by omega)); rw [hxN]; exact rt_r (k := k) (by omega) (by omega) (h8.symm.trans (rt_k0 c_15)) (Or.inr ⟨by rw [← eN]; exact c_19, rfl⟩), by have hxN : x.toNatClampNeg = N := (by rw [eN]; exact nI_clamp (by omega)); rw [hxN]; exact rt_fin hR hR9 h4 rfl rfl rfl rfl (by show u_16 = _; rw [hu_16, show μ' 10 = u_6 from hK9.2.1, hu_6]) (by show u_17 = _; rw [hu_17, show μ' 11 = u_7 from hK9.2.2.1, hu_7]) (by show u_18 = _; rw [hu_18, show μ' 12 = u_8 from hK9.2.2.2, hu_8])⟩, fun h => absurd hcd h⟩)
              · refine lv_iload_n hx hb dX3_roundsToRight_123 rfl (lv_at hl 2 rfl) ?_
                refine lv_goto (tgt := 128) hx hb dX3_roundsToRight_124 (by decide) ?_
                exact co_endI (va_up (va_up (va_up μ' 3 u_16) 4 u_17) 5 u_18) S hr hlocks dX3_roundsToRight_128 hK hP hD hS (by have hcd : cd1 x 1 30 = 0 := (by simp only [cd1, okR, c_2, c_5, c_14, c_15, c_19, eq_self, Bool.false_eq_true, ite_self, ↓reduceIte]); exact ⟨by rw [hcd]; exact (congrFun hK9.1 0), fun _ => ⟨by have hxN : x.toNatClampNeg = N := (by rw [eN]; exact nI_clamp (by omega)); rw [hxN]; exact rt_r (k := k) (by omega) (by omega) (h8.symm.trans (rt_k0 c_15)) (Or.inl ⟨fun q => c_19 (by rw [eN]; exact q), rfl⟩), by have hxN : x.toNatClampNeg = N := (by rw [eN]; exact nI_clamp (by omega)); rw [hxN]; exact rt_fin hR hR9 h4 rfl rfl rfl rfl (by show u_16 = _; rw [hu_16, show μ' 10 = u_6 from hK9.2.1, hu_6]) (by show u_17 = _; rw [hu_17, show μ' 11 = u_7 from hK9.2.2.1, hu_7]) (by show u_18 = _; rw [hu_18, show μ' 12 = u_8 from hK9.2.2.2, hu_8])⟩, fun h => absurd hcd h⟩)
            · refine lv_iinc (v := (nI (k + 1))) (lv' := [(2, .int (nI (k + 1))), (0, .ref (b 0)), (1, .int x)]) hx hb dX3_roundsToRight_69 hl (k := 2) rfl (nI_1 k) (by decide) rfl (fun ls hl => ?_)
              refine lv_iload_n hx hb dX3_roundsToRight_72 rfl (lv_at hl 0 rfl) ?_
              refine lv_iload_n hx hb dX3_roundsToRight_73 rfl (lv_at hl 2 rfl) ?_
              refine lv_icmp_gt (tgt := 57) hx hb dX3_roundsToRight_74 (by decide) (fun c_20 => ?_) (fun c_20 => ?_)
              · exact ih (k + 1) σ' μ' (by omega) hR9 hK9 h4 (by rw [← h8, show d = 0 by have := (nI_ltI (a := N) (b := k + 1) (by omega) (by omega)).mp (by rw [← eN]; exact c_20); omega]; exact rt_k9 c_15) _ _ hP hD hS ls (lv_sub hl [1, 2, 0] rfl)
              · refine lv_aload_n hx hb dX3_roundsToRight_77 rfl (lv_at hl 1 rfl) ?_
                refine lv_iconst (v := 0) hx hb dX3_roundsToRight_78 (by decide) ?_
                refine co_mVv (As := [.int 0]) (rest := []) S (c_X3_round l G Z b σ' μ' hR9 false) (cwV 1 hts gX3_roundsToRight_X3_round rfl rfl rfl (by decide +kernel) ⟨Nat.le_of_ble_eq_true rfl, Nat.le_of_ble_eq_true rfl⟩) hK hP hD hS hA (va_recv hK hP (ci := 2) (q0 := 0) rfl rfl) rfl hl.1 rfl (Nat.le_of_ble_eq_true rfl) dX3_roundsToRight_79 ⟨Nat.zero_le _, Nat.zero_le _⟩ (fun u_21 H locs hu_21 hP hD hS => ?_)
                obtain ⟨hq_21, hk_21⟩ := hu_21
                obtain ⟨σ_21, eσ_21⟩ : ∃ z9, z9 = (lrS false σ' 64) := ⟨_, rfl⟩
                have hq_21 : Rl Z σ_21 u_21 := (by rw [eσ_21]; exact hq_21)
                have hc0_21 : σ_21 0 = (σ' 0) := (by rw [eσ_21]; exact (lrS_0 64))
                have hk_21 := Kp.tr hK9 hk_21
                have hP : pG G (wM G b u_21) H := hP
                have hD : va_D A (wM G b u_21) := hD
                refine lv_goto (tgt := 57) hx hb dX3_roundsToRight_82 (by decide) ?_
                exact ih (k + 1) σ_21 u_21 (by omega) hq_21 hk_21 (by rw [eσ_21]; exact K4.lr h4) (by rw [← h8, eσ_21]; exact rt_k c_15) _ _ hP hD hS ls (lv_sub hl [1, 2, 0] rfl)
      exact LP (N + 1) 0 (lpS σ) (va_up (va_up (va_up (va_up μ 0 (fun _ => 0)) 10 u_6) 11 u_7) 12 u_8) (Nat.zero_add (N + 1)) hR1 hK1 K4.lp h81 _ _ hP hD hS ls (lv_sub hl [1, 2, 0] rfl)
    · refine lv_aload_n hx hb dX3_roundsToRight_16 rfl (lv_at hl 0 rfl) ?_
      refine lv_iconst (v := 1) hx hb dX3_roundsToRight_17 (by decide) ?_
      refine co_mVi (As := [.int 1]) (rest := []) S (c_X3_fails l G Z b σ (va_up μ 0 (fun _ => 0)) hz_1 1) (cwV 1 hts gX3_roundsToRight_X3_fails rfl rfl rfl (by decide +kernel) ⟨Nat.le_of_ble_eq_true rfl, Nat.le_of_ble_eq_true rfl⟩) hK hP hD hS hA (va_recv hK hP (ci := 2) (q0 := 0) rfl rfl) rfl hl.1 rfl (Nat.le_of_ble_eq_true rfl) dX3_roundsToRight_18 ⟨Nat.zero_le _, Nat.zero_le _⟩ (fun r_22 u_22 H locs hu_22 hP hD hS => ?_)
      obtain ⟨hr_22, hu_22⟩ := hu_22
      subst hr_22
      subst hu_22
      have hP : pG G (wM G b (va_up (va_up μ 0 (fun _ => 0)) 0 (fun _ => 1))) H := hP
      have hD : va_D A (wM G b (va_up (va_up μ 0 (fun _ => 0)) 0 (fun _ => 1))) := hD
      have hz_23 : Rl Z σ (va_up (va_up μ 0 (fun _ => 0)) 0 (fun _ => 1)) := Rl.s0 (f := fun _ => 1) hz_1
      exact co_endI (va_up (va_up μ 0 (fun _ => 0)) 0 (fun _ => 1)) S hr hlocks dX3_roundsToRight_21 hK hP hD hS (by have hcd : cd1 x 1 30 = 1 := (by simp only [cd1, okR, c_2, c_5, eq_self, Bool.false_eq_true, ite_self, ↓reduceIte]); exact ⟨by rw [hcd]; exact rfl, fun h => absurd (hcd.symm.trans h) (by decide), fun _ => hz_23⟩)
