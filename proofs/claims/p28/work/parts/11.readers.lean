set_option maxRecDepth 20000 in
theorem uX2_X2_isAlive : ∀ w ∈ u_ws RX2 TX2 12, w ∈ wsX2_isAlive := by decide +kernel
abbrev rm_X2_isAlive : Room := { frames := 0, cells := 0, slots := 0, locals := 0 }
set_option maxHeartbeats 4000000 in
set_option maxRecDepth 100000 in
theorem c_X2_isAlive (l : Launch) (G : cG) (a : Nat → Nat) (σ ρ : cS) (n : Int32) : MetR l yX2_isAlive wsX2_isAlive rm_X2_isAlive G (wO G a σ ρ) [.ref (a 0), .int n] (bI (alv (σ 0) n)) := by
  refine co_bodyR (cc := cX2_isAlive) (maxL := 2) (ret := (some .boolean)) (by decide) rfl (Nat.le_of_ble_eq_true rfl) ?_
  intro p e s m args below meth c S hr hlocks hK hP ls hl
  have S : CallFix p m c cX2_isAlive 2 s args wsX2_isAlive RX2 := S
  obtain ⟨hx, hb, hml, hown, hts⟩ := id S
  have hl : lv_has ls 2 [(0, .ref (a 0)), (1, .int n)] := hl
  have uX2 := uX2_X2_isAlive
  refine lv_iload_n hx hb dX2_isAlive_0 rfl (lv_at hl 1 rfl) ?_
  refine lv_if_lt (tgt := 26) hx hb dX2_isAlive_1 (by decide) (fun c_1 => ?_) (fun c_1 => ?_)
  · refine lv_iconst (v := 0) hx hb dX2_isAlive_26 (by decide) ?_
    exact co_endRz (v := false) S hr hlocks dX2_isAlive_27 (by simp only [alv, c_1, eq_self, Bool.false_eq_true, ↓reduceIte])
  · refine lv_iload_n hx hb dX2_isAlive_4 rfl (lv_at hl 1 rfl) ?_
    refine lv_aload_n hx hb dX2_isAlive_5 rfl (lv_at hl 0 rfl) ?_
    refine va_get (D := G.1) (ci := 1) (v := .ref (a 1)) (C := RX2) (T := TX2) (N := 12) hx hb hts uX2 hown hK hP 0 rfl rfl 0 (by decide) (hts (.fieldLink RX2 9 "ChordOverlay" "lives" "[Z") (by decide +kernel)) (fun _ h9 => h9) rfl dX2_isAlive_6 ?_
    refine va_alen (v := nI 64) hx hb hK hP 1 1 rfl rfl rfl dX2_isAlive_9 ?_
    refine lv_icmp_ge (tgt := 26) hx hb dX2_isAlive_10 (by decide) (fun c_2 => ?_) (fun c_2 => ?_)
    · refine lv_iconst (v := 0) hx hb dX2_isAlive_26 (by decide) ?_
      exact co_endRz (v := false) S hr hlocks dX2_isAlive_27 (by simp only [alv, c_1, c_2, eq_self, Bool.false_eq_true, ↓reduceIte])
    · refine lv_aload_n hx hb dX2_isAlive_13 rfl (lv_at hl 0 rfl) ?_
      refine va_get (D := G.1) (ci := 1) (v := .ref (a 1)) (C := RX2) (T := TX2) (N := 12) hx hb hts uX2 hown hK hP 0 rfl rfl 0 (by decide) (hts (.fieldLink RX2 9 "ChordOverlay" "lives" "[Z") (by decide +kernel)) (fun _ h9 => h9) rfl dX2_isAlive_14 ?_
      refine lv_iload_n hx hb dX2_isAlive_17 rfl (lv_at hl 1 rfl) ?_
      refine va_zald hx hb hK hP 1 1 rfl rfl (vin_of c_1 c_2 (by decide)) dX2_isAlive_18 ?_
      refine lv_if_eq (tgt := 26) hx hb dX2_isAlive_19 (by decide) (fun c_3 => ?_) (fun c_3 => ?_)
      · refine lv_iconst (v := 0) hx hb dX2_isAlive_26 (by decide) ?_
        exact co_endRz (v := false) S hr hlocks dX2_isAlive_27 (by simp only [alv, c_1, c_2, (eq_true c_3), eq_self, Bool.false_eq_true, ↓reduceIte])
      · refine lv_iconst (v := 1) hx hb dX2_isAlive_22 (by decide) ?_
        refine lv_goto (tgt := 27) hx hb dX2_isAlive_23 (by decide) ?_
        exact co_endRz (v := true) S hr hlocks dX2_isAlive_27 (by simp only [alv, c_1, c_2, c_3, eq_self, Bool.false_eq_true, ↓reduceIte])

abbrev rm_X2_countLiving : Room := { frames := 1, cells := 0, slots := 0, locals := 21 }
set_option maxHeartbeats 4000000 in
set_option maxRecDepth 100000 in
theorem c_X2_countLiving (l : Launch) (G : cG) (a : Nat → Nat) (σ ρ : cS) : MetR l yX2_countLiving wsX2_countLiving rm_X2_countLiving G (wO G a σ ρ) [.ref (a 0)] (cnt (σ 0) 64) := by
  refine co_bodyR (cc := cX2_countLiving) (maxL := 3) (ret := (some .int)) (by decide) rfl (Nat.le_of_ble_eq_true rfl) ?_
  intro p e s m args below meth c S hr hlocks hK hP ls hl
  have S : CallFix p m c cX2_countLiving 3 s args wsX2_countLiving RX2 := S
  obtain ⟨hx, hb, hml, hown, hts⟩ := id S
  have hl : lv_has ls 3 [(0, .ref (a 0))] := hl
  refine lv_iconst (v := 0) hx hb dX2_countLiving_0 (by decide) ?_
  refine lv_istore_n (lv' := [(1, .int 0), (0, .ref (a 0))]) hx hb dX2_countLiving_1 rfl hl (by decide) rfl (fun ls hl => ?_)
  refine lv_iconst (v := 0) hx hb dX2_countLiving_2 (by decide) ?_
  refine lv_istore_n (lv' := [(2, .int 0), (1, .int 0), (0, .ref (a 0))]) hx hb dX2_countLiving_3 rfl hl (by decide) rfl (fun ls hl => ?_)
  have LP : ∀ (d : Nat) (k : Nat) (x : Int32), k + d = 64 → x = cnt (σ 0) k → ∀ ls : Array Slot, lv_has ls 3 [(0, .ref (a 0)), (1, .int x), (2, .int (nI k))] → W p l e rm_X2_countLiving s m args below meth c s.heap [] 0 0 (QR below (cnt (σ 0) 64) args s) (F0 m 4 ls []) := by
    intro d
    induction d with
    | zero =>
      intro k x hk hx9 ls hl
      refine lv_iload_n hx hb dX2_countLiving_4 rfl (lv_at hl 2 rfl) ?_
      refine lv_bipush (v := 64) hx hb dX2_countLiving_5 (by decide) ?_
      refine lv_icmp_ge (tgt := 27) hx hb dX2_countLiving_7 (by decide) (fun c_1 => ?_) (fun c_1 => ?_)
      · refine lv_iload_n hx hb dX2_countLiving_27 rfl (lv_at hl 1 rfl) ?_
        exact co_endR S hr hlocks dX2_countLiving_28 (by rw [hx9, show k = 64 by omega])
      · exact absurd (nI_le (a := 64) (b := k) (by omega) (by omega)) c_1
    | succ d ih =>
      intro k x hk hx9 ls hl
      refine lv_iload_n hx hb dX2_countLiving_4 rfl (lv_at hl 2 rfl) ?_
      refine lv_bipush (v := 64) hx hb dX2_countLiving_5 (by decide) ?_
      refine lv_icmp_ge (tgt := 27) hx hb dX2_countLiving_7 (by decide) (fun c_2 => ?_) (fun c_2 => ?_)
      · exact absurd c_2 (nI_ge (a := k) (b := 64) (by omega) (by omega))
      · refine lv_aload_n hx hb dX2_countLiving_10 rfl (lv_at hl 0 rfl) ?_
        refine lv_iload_n hx hb dX2_countLiving_11 rfl (lv_at hl 2 rfl) ?_
        refine co_rV (As := [.int (nI k)]) (rest := []) S (c_X2_isAlive l G a σ ρ (nI k)) (cwV 1 hts gX2_countLiving_X2_isAlive rfl rfl rfl (by decide +kernel) ⟨Nat.le_of_ble_eq_true rfl, Nat.le_of_ble_eq_true rfl⟩) hK hP (va_recv hK hP (ci := 1) (q0 := 0) rfl rfl) rfl hl.1 rfl (Nat.le_of_ble_eq_true rfl) dX2_countLiving_12 ⟨Nat.zero_le _, Nat.zero_le _⟩ ?_
        refine co_ifeq (tgt := 21) S dX2_countLiving_15 (by decide) (fun c_3 => ?_) (fun c_3 => ?_)
        · refine lv_iinc (v := (nI (k + 1))) (lv' := [(2, .int (nI (k + 1))), (0, .ref (a 0)), (1, .int x)]) hx hb dX2_countLiving_21 hl (k := 2) rfl (nI_1 k) (by decide) rfl (fun ls hl => ?_)
          refine lv_goto (tgt := 4) hx hb dX2_countLiving_24 (by decide) ?_
          exact ih (k + 1) _ (by omega) (by subst hx9; simp only [cnt, c_3, eq_self, Bool.false_eq_true, ↓reduceIte]) ls (lv_sub hl [1, 2, 0] rfl)
        · refine lv_iinc (v := (x + 1)) (lv' := [(1, .int (x + 1)), (0, .ref (a 0)), (2, .int (nI k))]) hx hb dX2_countLiving_18 hl (k := 1) rfl rfl (by decide) rfl (fun ls hl => ?_)
          refine lv_iinc (v := (nI (k + 1))) (lv' := [(2, .int (nI (k + 1))), (1, .int (x + 1)), (0, .ref (a 0))]) hx hb dX2_countLiving_21 hl (k := 2) rfl (nI_1 k) (by decide) rfl (fun ls hl => ?_)
          refine lv_goto (tgt := 4) hx hb dX2_countLiving_24 (by decide) ?_
          exact ih (k + 1) _ (by omega) (by subst hx9; simp only [cnt, c_3, eq_self, Bool.false_eq_true, ↓reduceIte]) ls (lv_sub hl [2, 1, 0] rfl)
  exact LP 64 0 _ rfl rfl ls (lv_sub hl [2, 1, 0] rfl)

set_option maxRecDepth 20000 in
theorem uX2_X2_firstLivingSuccessor : ∀ w ∈ u_ws RX2 TX2 12, w ∈ wsX2_firstLivingSuccessor := by decide +kernel
abbrev rm_X2_firstLivingSuccessor : Room := { frames := 1, cells := 0, slots := 0, locals := 23 }
set_option maxHeartbeats 4000000 in
set_option maxRecDepth 100000 in
theorem c_X2_firstLivingSuccessor (l : Launch) (G : cG) (a : Nat → Nat) (σ ρ : cS) (n : Int32) : MetR l yX2_firstLivingSuccessor wsX2_firstLivingSuccessor rm_X2_firstLivingSuccessor G (wO G a σ ρ) [.ref (a 0), .int n] (lsF (σ 0) (σ 1) n) := by
  refine co_bodyR (cc := cX2_firstLivingSuccessor) (maxL := 4) (ret := (some .int)) (by decide) rfl (Nat.le_of_ble_eq_true rfl) ?_
  intro p e s m args below meth c S hr hlocks hK hP ls hl
  have S : CallFix p m c cX2_firstLivingSuccessor 4 s args wsX2_firstLivingSuccessor RX2 := S
  obtain ⟨hx, hb, hml, hown, hts⟩ := id S
  have hl : lv_has ls 4 [(0, .ref (a 0)), (1, .int n)] := hl
  have uX2 := uX2_X2_firstLivingSuccessor
  refine lv_iconst (v := 0) hx hb dX2_firstLivingSuccessor_0 (by decide) ?_
  refine lv_istore_n (lv' := [(2, .int 0), (0, .ref (a 0)), (1, .int n)]) hx hb dX2_firstLivingSuccessor_1 rfl hl (by decide) rfl (fun ls hl => ?_)
  refine lv_iload_n hx hb dX2_firstLivingSuccessor_2 rfl (lv_at hl 0 rfl) ?_
  refine lv_iconst (v := 3) hx hb dX2_firstLivingSuccessor_3 (by decide) ?_
  refine lv_icmp_ge (tgt := 33) hx hb dX2_firstLivingSuccessor_4 (by decide) (fun c_1 => ?_) (fun c_1 => ?_)
  · exact absurd c_1 (by decide)
  · refine lv_aload_n hx hb dX2_firstLivingSuccessor_7 rfl (lv_at hl 1 rfl) ?_
    refine va_get (D := G.1) (ci := 1) (v := .ref (a 2)) (C := RX2) (T := TX2) (N := 12) hx hb hts uX2 hown hK hP 0 rfl rfl 1 (by decide) (hts (.fieldLink RX2 18 "ChordOverlay" "successors" "LChordOverlay$Table;") (by decide +kernel)) (fun _ h9 => h9) rfl dX2_firstLivingSuccessor_8 ?_
    refine lv_iload_n hx hb dX2_firstLivingSuccessor_11 rfl (lv_at hl 2 rfl) ?_
    refine lv_iload_n hx hb dX2_firstLivingSuccessor_12 rfl (lv_at hl 0 rfl) ?_
    refine co_rV (As := [.int n, .int 0]) (rest := []) S (c_X1_at l G (a 2) (a 3) 3 (σ 1) n 0 (by decide)) (cwV 2 hts gX2_firstLivingSuccessor_X1_at rfl rfl rfl (by decide +kernel) ⟨Nat.le_of_ble_eq_true rfl, Nat.le_of_ble_eq_true rfl⟩) hK (pG_perm hP [2, 3] rfl) (va_recv hK hP (ci := 0) (q0 := 2) rfl rfl) rfl hl.1 rfl (Nat.le_of_ble_eq_true rfl) dX2_firstLivingSuccessor_13 ⟨Nat.zero_le _, Nat.zero_le _⟩ ?_
    refine lv_istore_n (lv' := [(3, .int (tat 3 (σ 1) n 0)), (2, .int 0), (0, .ref (a 0)), (1, .int n)]) hx hb dX2_firstLivingSuccessor_16 rfl hl (by decide) rfl (fun ls hl => ?_)
    refine lv_aload_n hx hb dX2_firstLivingSuccessor_17 rfl (lv_at hl 2 rfl) ?_
    refine lv_iload_n hx hb dX2_firstLivingSuccessor_18 rfl (lv_at hl 0 rfl) ?_
    refine co_rV (As := [.int (tat 3 (σ 1) n 0)]) (rest := []) S (c_X2_isAlive l G a σ ρ (tat 3 (σ 1) n 0)) (cwV 1 hts gX2_firstLivingSuccessor_X2_isAlive rfl rfl rfl (by decide +kernel) ⟨Nat.le_of_ble_eq_true rfl, Nat.le_of_ble_eq_true rfl⟩) hK hP (va_recv hK hP (ci := 1) (q0 := 0) rfl rfl) rfl hl.1 rfl (Nat.le_of_ble_eq_true rfl) dX2_firstLivingSuccessor_19 ⟨Nat.zero_le _, Nat.zero_le _⟩ ?_
    refine co_ifeq (tgt := 27) S dX2_firstLivingSuccessor_22 (by decide) (fun c_2 => ?_) (fun c_2 => ?_)
    · refine lv_iinc (v := 1) (lv' := [(2, .int 1), (3, .int (tat 3 (σ 1) n 0)), (0, .ref (a 0)), (1, .int n)]) hx hb dX2_firstLivingSuccessor_27 hl (k := 1) rfl (by decide) (by decide) rfl (fun ls hl => ?_)
      refine lv_goto (tgt := 2) hx hb dX2_firstLivingSuccessor_30 (by decide) ?_
      refine lv_iload_n hx hb dX2_firstLivingSuccessor_2 rfl (lv_at hl 0 rfl) ?_
      refine lv_iconst (v := 3) hx hb dX2_firstLivingSuccessor_3 (by decide) ?_
      refine lv_icmp_ge (tgt := 33) hx hb dX2_firstLivingSuccessor_4 (by decide) (fun c_3 => ?_) (fun c_3 => ?_)
      · exact absurd c_3 (by decide)
      · refine lv_aload_n hx hb dX2_firstLivingSuccessor_7 rfl (lv_at hl 2 rfl) ?_
        refine va_get (D := G.1) (ci := 1) (v := .ref (a 2)) (C := RX2) (T := TX2) (N := 12) hx hb hts uX2 hown hK hP 0 rfl rfl 1 (by decide) (hts (.fieldLink RX2 18 "ChordOverlay" "successors" "LChordOverlay$Table;") (by decide +kernel)) (fun _ h9 => h9) rfl dX2_firstLivingSuccessor_8 ?_
        refine lv_iload_n hx hb dX2_firstLivingSuccessor_11 rfl (lv_at hl 3 rfl) ?_
        refine lv_iload_n hx hb dX2_firstLivingSuccessor_12 rfl (lv_at hl 0 rfl) ?_
        refine co_rV (As := [.int n, .int 1]) (rest := []) S (c_X1_at l G (a 2) (a 3) 3 (σ 1) n 1 (by decide)) (cwV 2 hts gX2_firstLivingSuccessor_X1_at rfl rfl rfl (by decide +kernel) ⟨Nat.le_of_ble_eq_true rfl, Nat.le_of_ble_eq_true rfl⟩) hK (pG_perm hP [2, 3] rfl) (va_recv hK hP (ci := 0) (q0 := 2) rfl rfl) rfl hl.1 rfl (Nat.le_of_ble_eq_true rfl) dX2_firstLivingSuccessor_13 ⟨Nat.zero_le _, Nat.zero_le _⟩ ?_
        refine lv_istore_n (lv' := [(3, .int (tat 3 (σ 1) n 1)), (2, .int 1), (0, .ref (a 0)), (1, .int n)]) hx hb dX2_firstLivingSuccessor_16 rfl hl (by decide) rfl (fun ls hl => ?_)
        refine lv_aload_n hx hb dX2_firstLivingSuccessor_17 rfl (lv_at hl 2 rfl) ?_
        refine lv_iload_n hx hb dX2_firstLivingSuccessor_18 rfl (lv_at hl 0 rfl) ?_
        refine co_rV (As := [.int (tat 3 (σ 1) n 1)]) (rest := []) S (c_X2_isAlive l G a σ ρ (tat 3 (σ 1) n 1)) (cwV 1 hts gX2_firstLivingSuccessor_X2_isAlive rfl rfl rfl (by decide +kernel) ⟨Nat.le_of_ble_eq_true rfl, Nat.le_of_ble_eq_true rfl⟩) hK hP (va_recv hK hP (ci := 1) (q0 := 0) rfl rfl) rfl hl.1 rfl (Nat.le_of_ble_eq_true rfl) dX2_firstLivingSuccessor_19 ⟨Nat.zero_le _, Nat.zero_le _⟩ ?_
        refine co_ifeq (tgt := 27) S dX2_firstLivingSuccessor_22 (by decide) (fun c_4 => ?_) (fun c_4 => ?_)
        · refine lv_iinc (v := 2) (lv' := [(2, .int 2), (3, .int (tat 3 (σ 1) n 1)), (0, .ref (a 0)), (1, .int n)]) hx hb dX2_firstLivingSuccessor_27 hl (k := 1) rfl (by decide) (by decide) rfl (fun ls hl => ?_)
          refine lv_goto (tgt := 2) hx hb dX2_firstLivingSuccessor_30 (by decide) ?_
          refine lv_iload_n hx hb dX2_firstLivingSuccessor_2 rfl (lv_at hl 0 rfl) ?_
          refine lv_iconst (v := 3) hx hb dX2_firstLivingSuccessor_3 (by decide) ?_
          refine lv_icmp_ge (tgt := 33) hx hb dX2_firstLivingSuccessor_4 (by decide) (fun c_5 => ?_) (fun c_5 => ?_)
          · exact absurd c_5 (by decide)
          · refine lv_aload_n hx hb dX2_firstLivingSuccessor_7 rfl (lv_at hl 2 rfl) ?_
            refine va_get (D := G.1) (ci := 1) (v := .ref (a 2)) (C := RX2) (T := TX2) (N := 12) hx hb hts uX2 hown hK hP 0 rfl rfl 1 (by decide) (hts (.fieldLink RX2 18 "ChordOverlay" "successors" "LChordOverlay$Table;") (by decide +kernel)) (fun _ h9 => h9) rfl dX2_firstLivingSuccessor_8 ?_
            refine lv_iload_n hx hb dX2_firstLivingSuccessor_11 rfl (lv_at hl 3 rfl) ?_
            refine lv_iload_n hx hb dX2_firstLivingSuccessor_12 rfl (lv_at hl 0 rfl) ?_
            refine co_rV (As := [.int n, .int 2]) (rest := []) S (c_X1_at l G (a 2) (a 3) 3 (σ 1) n 2 (by decide)) (cwV 2 hts gX2_firstLivingSuccessor_X1_at rfl rfl rfl (by decide +kernel) ⟨Nat.le_of_ble_eq_true rfl, Nat.le_of_ble_eq_true rfl⟩) hK (pG_perm hP [2, 3] rfl) (va_recv hK hP (ci := 0) (q0 := 2) rfl rfl) rfl hl.1 rfl (Nat.le_of_ble_eq_true rfl) dX2_firstLivingSuccessor_13 ⟨Nat.zero_le _, Nat.zero_le _⟩ ?_
            refine lv_istore_n (lv' := [(3, .int (tat 3 (σ 1) n 2)), (2, .int 2), (0, .ref (a 0)), (1, .int n)]) hx hb dX2_firstLivingSuccessor_16 rfl hl (by decide) rfl (fun ls hl => ?_)
            refine lv_aload_n hx hb dX2_firstLivingSuccessor_17 rfl (lv_at hl 2 rfl) ?_
            refine lv_iload_n hx hb dX2_firstLivingSuccessor_18 rfl (lv_at hl 0 rfl) ?_
            refine co_rV (As := [.int (tat 3 (σ 1) n 2)]) (rest := []) S (c_X2_isAlive l G a σ ρ (tat 3 (σ 1) n 2)) (cwV 1 hts gX2_firstLivingSuccessor_X2_isAlive rfl rfl rfl (by decide +kernel) ⟨Nat.le_of_ble_eq_true rfl, Nat.le_of_ble_eq_true rfl⟩) hK hP (va_recv hK hP (ci := 1) (q0 := 0) rfl rfl) rfl hl.1 rfl (Nat.le_of_ble_eq_true rfl) dX2_firstLivingSuccessor_19 ⟨Nat.zero_le _, Nat.zero_le _⟩ ?_
            refine co_ifeq (tgt := 27) S dX2_firstLivingSuccessor_22 (by decide) (fun c_6 => ?_) (fun c_6 => ?_)
            · refine lv_iinc (v := 3) (lv' := [(2, .int 3), (3, .int (tat 3 (σ 1) n 2)), (0, .ref (a 0)), (1, .int n)]) hx hb dX2_firstLivingSuccessor_27 hl (k := 1) rfl (by decide) (by decide) rfl (fun ls hl => ?_)
              refine lv_goto (tgt := 2) hx hb dX2_firstLivingSuccessor_30 (by decide) ?_
              refine lv_iload_n hx hb dX2_firstLivingSuccessor_2 rfl (lv_at hl 0 rfl) ?_
              refine lv_iconst (v := 3) hx hb dX2_firstLivingSuccessor_3 (by decide) ?_
              refine lv_icmp_ge (tgt := 33) hx hb dX2_firstLivingSuccessor_4 (by decide) (fun c_7 => ?_) (fun c_7 => ?_)
              · refine lv_iload_n hx hb dX2_firstLivingSuccessor_33 rfl (lv_at hl 3 rfl) ?_
                exact co_endR S hr hlocks dX2_firstLivingSuccessor_34 (by simp only [lsF, c_1, c_2, c_3, c_4, c_5, c_6, c_7, eq_self, Bool.false_eq_true, ↓reduceIte])
              · exact absurd (by decide) c_7
            · refine lv_iload_n hx hb dX2_firstLivingSuccessor_25 rfl (lv_at hl 0 rfl) ?_
              exact co_endR S hr hlocks dX2_firstLivingSuccessor_26 (by simp only [lsF, c_1, c_2, c_3, c_4, c_5, c_6, eq_self, Bool.false_eq_true, ↓reduceIte])
        · refine lv_iload_n hx hb dX2_firstLivingSuccessor_25 rfl (lv_at hl 0 rfl) ?_
          exact co_endR S hr hlocks dX2_firstLivingSuccessor_26 (by simp only [lsF, c_1, c_2, c_3, c_4, eq_self, Bool.false_eq_true, ↓reduceIte])
    · refine lv_iload_n hx hb dX2_firstLivingSuccessor_25 rfl (lv_at hl 0 rfl) ?_
      exact co_endR S hr hlocks dX2_firstLivingSuccessor_26 (by simp only [lsF, c_1, c_2, eq_self, Bool.false_eq_true, ↓reduceIte])

set_option maxRecDepth 20000 in
theorem uX2_X2_firstHeir : ∀ w ∈ u_ws RX2 TX2 12, w ∈ wsX2_firstHeir := by decide +kernel
abbrev rm_X2_firstHeir : Room := { frames := 1, cells := 0, slots := 0, locals := 23 }
set_option maxHeartbeats 4000000 in
set_option maxRecDepth 100000 in
theorem c_X2_firstHeir (l : Launch) (G : cG) (a : Nat → Nat) (σ ρ : cS) (n x : Int32) : MetR l yX2_firstHeir wsX2_firstHeir rm_X2_firstHeir G (wO G a σ ρ) [.ref (a 0), .int n, .int x] (heir (σ 0) (σ 1) n x) := by
  refine co_bodyR (cc := cX2_firstHeir) (maxL := 5) (ret := (some .int)) (by decide) rfl (Nat.le_of_ble_eq_true rfl) ?_
  intro p e s m args below meth c S hr hlocks hK hP ls hl
  have S : CallFix p m c cX2_firstHeir 5 s args wsX2_firstHeir RX2 := S
  obtain ⟨hx, hb, hml, hown, hts⟩ := id S
  have hl : lv_has ls 5 [(0, .ref (a 0)), (1, .int n), (2, .int x)] := hl
  have uX2 := uX2_X2_firstHeir
  refine lv_iconst (v := 0) hx hb dX2_firstHeir_0 (by decide) ?_
  refine lv_istore_n (lv' := [(3, .int 0), (0, .ref (a 0)), (1, .int n), (2, .int x)]) hx hb dX2_firstHeir_1 rfl hl (by decide) rfl (fun ls hl => ?_)
  refine lv_iload_n hx hb dX2_firstHeir_2 rfl (lv_at hl 0 rfl) ?_
  refine lv_iconst (v := 3) hx hb dX2_firstHeir_3 (by decide) ?_
  refine lv_icmp_ge (tgt := 48) hx hb dX2_firstHeir_4 (by decide) (fun c_1 => ?_) (fun c_1 => ?_)
  · exact absurd c_1 (by decide)
  · refine lv_aload_n hx hb dX2_firstHeir_7 rfl (lv_at hl 1 rfl) ?_
    refine va_get (D := G.1) (ci := 1) (v := .ref (a 2)) (C := RX2) (T := TX2) (N := 12) hx hb hts uX2 hown hK hP 0 rfl rfl 1 (by decide) (hts (.fieldLink RX2 18 "ChordOverlay" "successors" "LChordOverlay$Table;") (by decide +kernel)) (fun _ h9 => h9) rfl dX2_firstHeir_8 ?_
    refine lv_iload_n hx hb dX2_firstHeir_11 rfl (lv_at hl 2 rfl) ?_
    refine lv_iload_n hx hb dX2_firstHeir_12 rfl (lv_at hl 0 rfl) ?_
    refine co_rV (As := [.int n, .int 0]) (rest := []) S (c_X1_at l G (a 2) (a 3) 3 (σ 1) n 0 (by decide)) (cwV 2 hts gX2_firstHeir_X1_at rfl rfl rfl (by decide +kernel) ⟨Nat.le_of_ble_eq_true rfl, Nat.le_of_ble_eq_true rfl⟩) hK (pG_perm hP [2, 3] rfl) (va_recv hK hP (ci := 0) (q0 := 2) rfl rfl) rfl hl.1 rfl (Nat.le_of_ble_eq_true rfl) dX2_firstHeir_13 ⟨Nat.zero_le _, Nat.zero_le _⟩ ?_
    refine lv_istore (lv' := [(4, .int (tat 3 (σ 1) n 0)), (3, .int 0), (0, .ref (a 0)), (1, .int n), (2, .int x)]) hx hb dX2_firstHeir_16 hl (by decide) rfl (fun ls hl => ?_)
    refine lv_aload_n hx hb dX2_firstHeir_18 rfl (lv_at hl 2 rfl) ?_
    refine lv_iload hx hb dX2_firstHeir_19 (lv_at hl 0 rfl) ?_
    refine co_rV (As := [.int (tat 3 (σ 1) n 0)]) (rest := []) S (c_X2_isAlive l G a σ ρ (tat 3 (σ 1) n 0)) (cwV 1 hts gX2_firstHeir_X2_isAlive rfl rfl rfl (by decide +kernel) ⟨Nat.le_of_ble_eq_true rfl, Nat.le_of_ble_eq_true rfl⟩) hK hP (va_recv hK hP (ci := 1) (q0 := 0) rfl rfl) rfl hl.1 rfl (Nat.le_of_ble_eq_true rfl) dX2_firstHeir_21 ⟨Nat.zero_le _, Nat.zero_le _⟩ ?_
    refine co_ifeq (tgt := 42) S dX2_firstHeir_24 (by decide) (fun c_2 => ?_) (fun c_2 => ?_)
    · refine lv_iinc (v := 1) (lv' := [(3, .int 1), (4, .int (tat 3 (σ 1) n 0)), (0, .ref (a 0)), (1, .int n), (2, .int x)]) hx hb dX2_firstHeir_42 hl (k := 1) rfl (by decide) (by decide) rfl (fun ls hl => ?_)
      refine lv_goto (tgt := 2) hx hb dX2_firstHeir_45 (by decide) ?_
      refine lv_iload_n hx hb dX2_firstHeir_2 rfl (lv_at hl 0 rfl) ?_
      refine lv_iconst (v := 3) hx hb dX2_firstHeir_3 (by decide) ?_
      refine lv_icmp_ge (tgt := 48) hx hb dX2_firstHeir_4 (by decide) (fun c_3 => ?_) (fun c_3 => ?_)
      · exact absurd c_3 (by decide)
      · refine lv_aload_n hx hb dX2_firstHeir_7 rfl (lv_at hl 2 rfl) ?_
        refine va_get (D := G.1) (ci := 1) (v := .ref (a 2)) (C := RX2) (T := TX2) (N := 12) hx hb hts uX2 hown hK hP 0 rfl rfl 1 (by decide) (hts (.fieldLink RX2 18 "ChordOverlay" "successors" "LChordOverlay$Table;") (by decide +kernel)) (fun _ h9 => h9) rfl dX2_firstHeir_8 ?_
        refine lv_iload_n hx hb dX2_firstHeir_11 rfl (lv_at hl 3 rfl) ?_
        refine lv_iload_n hx hb dX2_firstHeir_12 rfl (lv_at hl 0 rfl) ?_
        refine co_rV (As := [.int n, .int 1]) (rest := []) S (c_X1_at l G (a 2) (a 3) 3 (σ 1) n 1 (by decide)) (cwV 2 hts gX2_firstHeir_X1_at rfl rfl rfl (by decide +kernel) ⟨Nat.le_of_ble_eq_true rfl, Nat.le_of_ble_eq_true rfl⟩) hK (pG_perm hP [2, 3] rfl) (va_recv hK hP (ci := 0) (q0 := 2) rfl rfl) rfl hl.1 rfl (Nat.le_of_ble_eq_true rfl) dX2_firstHeir_13 ⟨Nat.zero_le _, Nat.zero_le _⟩ ?_
        refine lv_istore (lv' := [(4, .int (tat 3 (σ 1) n 1)), (3, .int 1), (0, .ref (a 0)), (1, .int n), (2, .int x)]) hx hb dX2_firstHeir_16 hl (by decide) rfl (fun ls hl => ?_)
        refine lv_aload_n hx hb dX2_firstHeir_18 rfl (lv_at hl 2 rfl) ?_
        refine lv_iload hx hb dX2_firstHeir_19 (lv_at hl 0 rfl) ?_
        refine co_rV (As := [.int (tat 3 (σ 1) n 1)]) (rest := []) S (c_X2_isAlive l G a σ ρ (tat 3 (σ 1) n 1)) (cwV 1 hts gX2_firstHeir_X2_isAlive rfl rfl rfl (by decide +kernel) ⟨Nat.le_of_ble_eq_true rfl, Nat.le_of_ble_eq_true rfl⟩) hK hP (va_recv hK hP (ci := 1) (q0 := 0) rfl rfl) rfl hl.1 rfl (Nat.le_of_ble_eq_true rfl) dX2_firstHeir_21 ⟨Nat.zero_le _, Nat.zero_le _⟩ ?_
        refine co_ifeq (tgt := 42) S dX2_firstHeir_24 (by decide) (fun c_4 => ?_) (fun c_4 => ?_)
        · refine lv_iinc (v := 2) (lv' := [(3, .int 2), (4, .int (tat 3 (σ 1) n 1)), (0, .ref (a 0)), (1, .int n), (2, .int x)]) hx hb dX2_firstHeir_42 hl (k := 1) rfl (by decide) (by decide) rfl (fun ls hl => ?_)
          refine lv_goto (tgt := 2) hx hb dX2_firstHeir_45 (by decide) ?_
          refine lv_iload_n hx hb dX2_firstHeir_2 rfl (lv_at hl 0 rfl) ?_
          refine lv_iconst (v := 3) hx hb dX2_firstHeir_3 (by decide) ?_
          refine lv_icmp_ge (tgt := 48) hx hb dX2_firstHeir_4 (by decide) (fun c_5 => ?_) (fun c_5 => ?_)
          · exact absurd c_5 (by decide)
          · refine lv_aload_n hx hb dX2_firstHeir_7 rfl (lv_at hl 2 rfl) ?_
            refine va_get (D := G.1) (ci := 1) (v := .ref (a 2)) (C := RX2) (T := TX2) (N := 12) hx hb hts uX2 hown hK hP 0 rfl rfl 1 (by decide) (hts (.fieldLink RX2 18 "ChordOverlay" "successors" "LChordOverlay$Table;") (by decide +kernel)) (fun _ h9 => h9) rfl dX2_firstHeir_8 ?_
            refine lv_iload_n hx hb dX2_firstHeir_11 rfl (lv_at hl 3 rfl) ?_
            refine lv_iload_n hx hb dX2_firstHeir_12 rfl (lv_at hl 0 rfl) ?_
            refine co_rV (As := [.int n, .int 2]) (rest := []) S (c_X1_at l G (a 2) (a 3) 3 (σ 1) n 2 (by decide)) (cwV 2 hts gX2_firstHeir_X1_at rfl rfl rfl (by decide +kernel) ⟨Nat.le_of_ble_eq_true rfl, Nat.le_of_ble_eq_true rfl⟩) hK (pG_perm hP [2, 3] rfl) (va_recv hK hP (ci := 0) (q0 := 2) rfl rfl) rfl hl.1 rfl (Nat.le_of_ble_eq_true rfl) dX2_firstHeir_13 ⟨Nat.zero_le _, Nat.zero_le _⟩ ?_
            refine lv_istore (lv' := [(4, .int (tat 3 (σ 1) n 2)), (3, .int 2), (0, .ref (a 0)), (1, .int n), (2, .int x)]) hx hb dX2_firstHeir_16 hl (by decide) rfl (fun ls hl => ?_)
            refine lv_aload_n hx hb dX2_firstHeir_18 rfl (lv_at hl 2 rfl) ?_
            refine lv_iload hx hb dX2_firstHeir_19 (lv_at hl 0 rfl) ?_
            refine co_rV (As := [.int (tat 3 (σ 1) n 2)]) (rest := []) S (c_X2_isAlive l G a σ ρ (tat 3 (σ 1) n 2)) (cwV 1 hts gX2_firstHeir_X2_isAlive rfl rfl rfl (by decide +kernel) ⟨Nat.le_of_ble_eq_true rfl, Nat.le_of_ble_eq_true rfl⟩) hK hP (va_recv hK hP (ci := 1) (q0 := 0) rfl rfl) rfl hl.1 rfl (Nat.le_of_ble_eq_true rfl) dX2_firstHeir_21 ⟨Nat.zero_le _, Nat.zero_le _⟩ ?_
            refine co_ifeq (tgt := 42) S dX2_firstHeir_24 (by decide) (fun c_6 => ?_) (fun c_6 => ?_)
            · refine lv_iinc (v := 3) (lv' := [(3, .int 3), (4, .int (tat 3 (σ 1) n 2)), (0, .ref (a 0)), (1, .int n), (2, .int x)]) hx hb dX2_firstHeir_42 hl (k := 1) rfl (by decide) (by decide) rfl (fun ls hl => ?_)
              refine lv_goto (tgt := 2) hx hb dX2_firstHeir_45 (by decide) ?_
              refine lv_iload_n hx hb dX2_firstHeir_2 rfl (lv_at hl 0 rfl) ?_
              refine lv_iconst (v := 3) hx hb dX2_firstHeir_3 (by decide) ?_
              refine lv_icmp_ge (tgt := 48) hx hb dX2_firstHeir_4 (by decide) (fun c_7 => ?_) (fun c_7 => ?_)
              · refine lv_iconst (v := (-1)) hx hb dX2_firstHeir_48 (by decide) ?_
                exact co_endR S hr hlocks dX2_firstHeir_49 (by simp only [heir, hrS, c_1, c_2, c_3, c_4, c_5, c_6, c_7, eq_self, Bool.false_eq_true, ↓reduceIte])
              · exact absurd (by decide) c_7
            · refine lv_iload hx hb dX2_firstHeir_27 (lv_at hl 0 rfl) ?_
              refine lv_iload_n hx hb dX2_firstHeir_29 rfl (lv_at hl 3 rfl) ?_
              refine lv_icmp_eq (tgt := 42) hx hb dX2_firstHeir_30 (by decide) (fun c_8 => ?_) (fun c_8 => ?_)
              · refine lv_iinc (v := 3) (lv' := [(3, .int 3), (4, .int (tat 3 (σ 1) n 2)), (0, .ref (a 0)), (1, .int n), (2, .int x)]) hx hb dX2_firstHeir_42 hl (k := 1) rfl (by decide) (by decide) rfl (fun ls hl => ?_)
                refine lv_goto (tgt := 2) hx hb dX2_firstHeir_45 (by decide) ?_
                refine lv_iload_n hx hb dX2_firstHeir_2 rfl (lv_at hl 0 rfl) ?_
                refine lv_iconst (v := 3) hx hb dX2_firstHeir_3 (by decide) ?_
                refine lv_icmp_ge (tgt := 48) hx hb dX2_firstHeir_4 (by decide) (fun c_9 => ?_) (fun c_9 => ?_)
                · refine lv_iconst (v := (-1)) hx hb dX2_firstHeir_48 (by decide) ?_
                  exact co_endR S hr hlocks dX2_firstHeir_49 (by simp only [heir, hrS, c_1, c_2, c_3, c_4, c_5, c_6, (eq_true c_8), c_9, eq_self, Bool.false_eq_true, ↓reduceIte])
                · exact absurd (by decide) c_9
              · refine lv_iload hx hb dX2_firstHeir_33 (lv_at hl 0 rfl) ?_
                refine lv_iload_n hx hb dX2_firstHeir_35 rfl (lv_at hl 4 rfl) ?_
                refine lv_icmp_eq (tgt := 42) hx hb dX2_firstHeir_36 (by decide) (fun c_10 => ?_) (fun c_10 => ?_)
                · refine lv_iinc (v := 3) (lv' := [(3, .int 3), (4, .int (tat 3 (σ 1) n 2)), (0, .ref (a 0)), (1, .int n), (2, .int x)]) hx hb dX2_firstHeir_42 hl (k := 1) rfl (by decide) (by decide) rfl (fun ls hl => ?_)
                  refine lv_goto (tgt := 2) hx hb dX2_firstHeir_45 (by decide) ?_
                  refine lv_iload_n hx hb dX2_firstHeir_2 rfl (lv_at hl 0 rfl) ?_
                  refine lv_iconst (v := 3) hx hb dX2_firstHeir_3 (by decide) ?_
                  refine lv_icmp_ge (tgt := 48) hx hb dX2_firstHeir_4 (by decide) (fun c_11 => ?_) (fun c_11 => ?_)
                  · refine lv_iconst (v := (-1)) hx hb dX2_firstHeir_48 (by decide) ?_
                    exact co_endR S hr hlocks dX2_firstHeir_49 (by simp only [heir, hrS, c_1, c_2, c_3, c_4, c_5, c_6, c_8, (eq_true c_10), c_11, eq_self, Bool.false_eq_true, ↓reduceIte])
                  · exact absurd (by decide) c_11
                · refine lv_iload hx hb dX2_firstHeir_39 (lv_at hl 0 rfl) ?_
                  exact co_endR S hr hlocks dX2_firstHeir_41 (by simp only [heir, hrS, c_1, c_2, c_3, c_4, c_5, c_6, c_8, c_10, eq_self, Bool.false_eq_true, ↓reduceIte])
        · refine lv_iload hx hb dX2_firstHeir_27 (lv_at hl 0 rfl) ?_
          refine lv_iload_n hx hb dX2_firstHeir_29 rfl (lv_at hl 3 rfl) ?_
          refine lv_icmp_eq (tgt := 42) hx hb dX2_firstHeir_30 (by decide) (fun c_12 => ?_) (fun c_12 => ?_)
          · refine lv_iinc (v := 2) (lv' := [(3, .int 2), (4, .int (tat 3 (σ 1) n 1)), (0, .ref (a 0)), (1, .int n), (2, .int x)]) hx hb dX2_firstHeir_42 hl (k := 1) rfl (by decide) (by decide) rfl (fun ls hl => ?_)
            refine lv_goto (tgt := 2) hx hb dX2_firstHeir_45 (by decide) ?_
            refine lv_iload_n hx hb dX2_firstHeir_2 rfl (lv_at hl 0 rfl) ?_
            refine lv_iconst (v := 3) hx hb dX2_firstHeir_3 (by decide) ?_
            refine lv_icmp_ge (tgt := 48) hx hb dX2_firstHeir_4 (by decide) (fun c_13 => ?_) (fun c_13 => ?_)
            · exact absurd c_13 (by decide)
            · refine lv_aload_n hx hb dX2_firstHeir_7 rfl (lv_at hl 2 rfl) ?_
              refine va_get (D := G.1) (ci := 1) (v := .ref (a 2)) (C := RX2) (T := TX2) (N := 12) hx hb hts uX2 hown hK hP 0 rfl rfl 1 (by decide) (hts (.fieldLink RX2 18 "ChordOverlay" "successors" "LChordOverlay$Table;") (by decide +kernel)) (fun _ h9 => h9) rfl dX2_firstHeir_8 ?_
              refine lv_iload_n hx hb dX2_firstHeir_11 rfl (lv_at hl 3 rfl) ?_
              refine lv_iload_n hx hb dX2_firstHeir_12 rfl (lv_at hl 0 rfl) ?_
              refine co_rV (As := [.int n, .int 2]) (rest := []) S (c_X1_at l G (a 2) (a 3) 3 (σ 1) n 2 (by decide)) (cwV 2 hts gX2_firstHeir_X1_at rfl rfl rfl (by decide +kernel) ⟨Nat.le_of_ble_eq_true rfl, Nat.le_of_ble_eq_true rfl⟩) hK (pG_perm hP [2, 3] rfl) (va_recv hK hP (ci := 0) (q0 := 2) rfl rfl) rfl hl.1 rfl (Nat.le_of_ble_eq_true rfl) dX2_firstHeir_13 ⟨Nat.zero_le _, Nat.zero_le _⟩ ?_
              refine lv_istore (lv' := [(4, .int (tat 3 (σ 1) n 2)), (3, .int 2), (0, .ref (a 0)), (1, .int n), (2, .int x)]) hx hb dX2_firstHeir_16 hl (by decide) rfl (fun ls hl => ?_)
              refine lv_aload_n hx hb dX2_firstHeir_18 rfl (lv_at hl 2 rfl) ?_
              refine lv_iload hx hb dX2_firstHeir_19 (lv_at hl 0 rfl) ?_
              refine co_rV (As := [.int (tat 3 (σ 1) n 2)]) (rest := []) S (c_X2_isAlive l G a σ ρ (tat 3 (σ 1) n 2)) (cwV 1 hts gX2_firstHeir_X2_isAlive rfl rfl rfl (by decide +kernel) ⟨Nat.le_of_ble_eq_true rfl, Nat.le_of_ble_eq_true rfl⟩) hK hP (va_recv hK hP (ci := 1) (q0 := 0) rfl rfl) rfl hl.1 rfl (Nat.le_of_ble_eq_true rfl) dX2_firstHeir_21 ⟨Nat.zero_le _, Nat.zero_le _⟩ ?_
              refine co_ifeq (tgt := 42) S dX2_firstHeir_24 (by decide) (fun c_14 => ?_) (fun c_14 => ?_)
              · refine lv_iinc (v := 3) (lv' := [(3, .int 3), (4, .int (tat 3 (σ 1) n 2)), (0, .ref (a 0)), (1, .int n), (2, .int x)]) hx hb dX2_firstHeir_42 hl (k := 1) rfl (by decide) (by decide) rfl (fun ls hl => ?_)
                refine lv_goto (tgt := 2) hx hb dX2_firstHeir_45 (by decide) ?_
                refine lv_iload_n hx hb dX2_firstHeir_2 rfl (lv_at hl 0 rfl) ?_
                refine lv_iconst (v := 3) hx hb dX2_firstHeir_3 (by decide) ?_
                refine lv_icmp_ge (tgt := 48) hx hb dX2_firstHeir_4 (by decide) (fun c_15 => ?_) (fun c_15 => ?_)
                · refine lv_iconst (v := (-1)) hx hb dX2_firstHeir_48 (by decide) ?_
                  exact co_endR S hr hlocks dX2_firstHeir_49 (by simp only [heir, hrS, c_1, c_2, c_3, c_4, (eq_true c_12), c_13, c_14, c_15, eq_self, Bool.false_eq_true, ↓reduceIte])
                · exact absurd (by decide) c_15
              · refine lv_iload hx hb dX2_firstHeir_27 (lv_at hl 0 rfl) ?_
                refine lv_iload_n hx hb dX2_firstHeir_29 rfl (lv_at hl 3 rfl) ?_
                refine lv_icmp_eq (tgt := 42) hx hb dX2_firstHeir_30 (by decide) (fun c_16 => ?_) (fun c_16 => ?_)
                · refine lv_iinc (v := 3) (lv' := [(3, .int 3), (4, .int (tat 3 (σ 1) n 2)), (0, .ref (a 0)), (1, .int n), (2, .int x)]) hx hb dX2_firstHeir_42 hl (k := 1) rfl (by decide) (by decide) rfl (fun ls hl => ?_)
                  refine lv_goto (tgt := 2) hx hb dX2_firstHeir_45 (by decide) ?_
                  refine lv_iload_n hx hb dX2_firstHeir_2 rfl (lv_at hl 0 rfl) ?_
                  refine lv_iconst (v := 3) hx hb dX2_firstHeir_3 (by decide) ?_
                  refine lv_icmp_ge (tgt := 48) hx hb dX2_firstHeir_4 (by decide) (fun c_17 => ?_) (fun c_17 => ?_)
                  · refine lv_iconst (v := (-1)) hx hb dX2_firstHeir_48 (by decide) ?_
                    exact co_endR S hr hlocks dX2_firstHeir_49 (by simp only [heir, hrS, c_1, c_2, c_3, c_4, (eq_true c_12), c_13, c_14, (eq_true c_16), c_17, eq_self, Bool.false_eq_true, ↓reduceIte])
                  · exact absurd (by decide) c_17
                · refine lv_iload hx hb dX2_firstHeir_33 (lv_at hl 0 rfl) ?_
                  refine lv_iload_n hx hb dX2_firstHeir_35 rfl (lv_at hl 4 rfl) ?_
                  refine lv_icmp_eq (tgt := 42) hx hb dX2_firstHeir_36 (by decide) (fun c_18 => ?_) (fun c_18 => ?_)
                  · refine lv_iinc (v := 3) (lv' := [(3, .int 3), (4, .int (tat 3 (σ 1) n 2)), (0, .ref (a 0)), (1, .int n), (2, .int x)]) hx hb dX2_firstHeir_42 hl (k := 1) rfl (by decide) (by decide) rfl (fun ls hl => ?_)
                    refine lv_goto (tgt := 2) hx hb dX2_firstHeir_45 (by decide) ?_
                    refine lv_iload_n hx hb dX2_firstHeir_2 rfl (lv_at hl 0 rfl) ?_
                    refine lv_iconst (v := 3) hx hb dX2_firstHeir_3 (by decide) ?_
                    refine lv_icmp_ge (tgt := 48) hx hb dX2_firstHeir_4 (by decide) (fun c_19 => ?_) (fun c_19 => ?_)
                    · refine lv_iconst (v := (-1)) hx hb dX2_firstHeir_48 (by decide) ?_
                      exact co_endR S hr hlocks dX2_firstHeir_49 (by simp only [heir, hrS, c_1, c_2, c_3, c_4, (eq_true c_12), c_13, c_14, c_16, (eq_true c_18), c_19, eq_self, Bool.false_eq_true, ↓reduceIte])
                    · exact absurd (by decide) c_19
                  · refine lv_iload hx hb dX2_firstHeir_39 (lv_at hl 0 rfl) ?_
                    exact co_endR S hr hlocks dX2_firstHeir_41 (by simp only [heir, hrS, c_1, c_2, c_3, c_4, (eq_true c_12), c_13, c_14, c_16, c_18, eq_self, Bool.false_eq_true, ↓reduceIte])
          · refine lv_iload hx hb dX2_firstHeir_33 (lv_at hl 0 rfl) ?_
            refine lv_iload_n hx hb dX2_firstHeir_35 rfl (lv_at hl 4 rfl) ?_
            refine lv_icmp_eq (tgt := 42) hx hb dX2_firstHeir_36 (by decide) (fun c_20 => ?_) (fun c_20 => ?_)
            · refine lv_iinc (v := 2) (lv' := [(3, .int 2), (4, .int (tat 3 (σ 1) n 1)), (0, .ref (a 0)), (1, .int n), (2, .int x)]) hx hb dX2_firstHeir_42 hl (k := 1) rfl (by decide) (by decide) rfl (fun ls hl => ?_)
              refine lv_goto (tgt := 2) hx hb dX2_firstHeir_45 (by decide) ?_
              refine lv_iload_n hx hb dX2_firstHeir_2 rfl (lv_at hl 0 rfl) ?_
              refine lv_iconst (v := 3) hx hb dX2_firstHeir_3 (by decide) ?_
              refine lv_icmp_ge (tgt := 48) hx hb dX2_firstHeir_4 (by decide) (fun c_21 => ?_) (fun c_21 => ?_)
              · exact absurd c_21 (by decide)
              · refine lv_aload_n hx hb dX2_firstHeir_7 rfl (lv_at hl 2 rfl) ?_
                refine va_get (D := G.1) (ci := 1) (v := .ref (a 2)) (C := RX2) (T := TX2) (N := 12) hx hb hts uX2 hown hK hP 0 rfl rfl 1 (by decide) (hts (.fieldLink RX2 18 "ChordOverlay" "successors" "LChordOverlay$Table;") (by decide +kernel)) (fun _ h9 => h9) rfl dX2_firstHeir_8 ?_
                refine lv_iload_n hx hb dX2_firstHeir_11 rfl (lv_at hl 3 rfl) ?_
                refine lv_iload_n hx hb dX2_firstHeir_12 rfl (lv_at hl 0 rfl) ?_
                refine co_rV (As := [.int n, .int 2]) (rest := []) S (c_X1_at l G (a 2) (a 3) 3 (σ 1) n 2 (by decide)) (cwV 2 hts gX2_firstHeir_X1_at rfl rfl rfl (by decide +kernel) ⟨Nat.le_of_ble_eq_true rfl, Nat.le_of_ble_eq_true rfl⟩) hK (pG_perm hP [2, 3] rfl) (va_recv hK hP (ci := 0) (q0 := 2) rfl rfl) rfl hl.1 rfl (Nat.le_of_ble_eq_true rfl) dX2_firstHeir_13 ⟨Nat.zero_le _, Nat.zero_le _⟩ ?_
                refine lv_istore (lv' := [(4, .int (tat 3 (σ 1) n 2)), (3, .int 2), (0, .ref (a 0)), (1, .int n), (2, .int x)]) hx hb dX2_firstHeir_16 hl (by decide) rfl (fun ls hl => ?_)
                refine lv_aload_n hx hb dX2_firstHeir_18 rfl (lv_at hl 2 rfl) ?_
                refine lv_iload hx hb dX2_firstHeir_19 (lv_at hl 0 rfl) ?_
                refine co_rV (As := [.int (tat 3 (σ 1) n 2)]) (rest := []) S (c_X2_isAlive l G a σ ρ (tat 3 (σ 1) n 2)) (cwV 1 hts gX2_firstHeir_X2_isAlive rfl rfl rfl (by decide +kernel) ⟨Nat.le_of_ble_eq_true rfl, Nat.le_of_ble_eq_true rfl⟩) hK hP (va_recv hK hP (ci := 1) (q0 := 0) rfl rfl) rfl hl.1 rfl (Nat.le_of_ble_eq_true rfl) dX2_firstHeir_21 ⟨Nat.zero_le _, Nat.zero_le _⟩ ?_
                refine co_ifeq (tgt := 42) S dX2_firstHeir_24 (by decide) (fun c_22 => ?_) (fun c_22 => ?_)
                · refine lv_iinc (v := 3) (lv' := [(3, .int 3), (4, .int (tat 3 (σ 1) n 2)), (0, .ref (a 0)), (1, .int n), (2, .int x)]) hx hb dX2_firstHeir_42 hl (k := 1) rfl (by decide) (by decide) rfl (fun ls hl => ?_)
                  refine lv_goto (tgt := 2) hx hb dX2_firstHeir_45 (by decide) ?_
                  refine lv_iload_n hx hb dX2_firstHeir_2 rfl (lv_at hl 0 rfl) ?_
                  refine lv_iconst (v := 3) hx hb dX2_firstHeir_3 (by decide) ?_
                  refine lv_icmp_ge (tgt := 48) hx hb dX2_firstHeir_4 (by decide) (fun c_23 => ?_) (fun c_23 => ?_)
                  · refine lv_iconst (v := (-1)) hx hb dX2_firstHeir_48 (by decide) ?_
                    exact co_endR S hr hlocks dX2_firstHeir_49 (by simp only [heir, hrS, c_1, c_2, c_3, c_4, c_12, (eq_true c_20), c_21, c_22, c_23, eq_self, Bool.false_eq_true, ↓reduceIte])
                  · exact absurd (by decide) c_23
                · refine lv_iload hx hb dX2_firstHeir_27 (lv_at hl 0 rfl) ?_
                  refine lv_iload_n hx hb dX2_firstHeir_29 rfl (lv_at hl 3 rfl) ?_
                  refine lv_icmp_eq (tgt := 42) hx hb dX2_firstHeir_30 (by decide) (fun c_24 => ?_) (fun c_24 => ?_)
                  · refine lv_iinc (v := 3) (lv' := [(3, .int 3), (4, .int (tat 3 (σ 1) n 2)), (0, .ref (a 0)), (1, .int n), (2, .int x)]) hx hb dX2_firstHeir_42 hl (k := 1) rfl (by decide) (by decide) rfl (fun ls hl => ?_)
                    refine lv_goto (tgt := 2) hx hb dX2_firstHeir_45 (by decide) ?_
                    refine lv_iload_n hx hb dX2_firstHeir_2 rfl (lv_at hl 0 rfl) ?_
                    refine lv_iconst (v := 3) hx hb dX2_firstHeir_3 (by decide) ?_
                    refine lv_icmp_ge (tgt := 48) hx hb dX2_firstHeir_4 (by decide) (fun c_25 => ?_) (fun c_25 => ?_)
                    · refine lv_iconst (v := (-1)) hx hb dX2_firstHeir_48 (by decide) ?_
                      exact co_endR S hr hlocks dX2_firstHeir_49 (by simp only [heir, hrS, c_1, c_2, c_3, c_4, c_12, (eq_true c_20), c_21, c_22, (eq_true c_24), c_25, eq_self, Bool.false_eq_true, ↓reduceIte])
                    · exact absurd (by decide) c_25
                  · refine lv_iload hx hb dX2_firstHeir_33 (lv_at hl 0 rfl) ?_
                    refine lv_iload_n hx hb dX2_firstHeir_35 rfl (lv_at hl 4 rfl) ?_
                    refine lv_icmp_eq (tgt := 42) hx hb dX2_firstHeir_36 (by decide) (fun c_26 => ?_) (fun c_26 => ?_)
                    · refine lv_iinc (v := 3) (lv' := [(3, .int 3), (4, .int (tat 3 (σ 1) n 2)), (0, .ref (a 0)), (1, .int n), (2, .int x)]) hx hb dX2_firstHeir_42 hl (k := 1) rfl (by decide) (by decide) rfl (fun ls hl => ?_)
                      refine lv_goto (tgt := 2) hx hb dX2_firstHeir_45 (by decide) ?_
                      refine lv_iload_n hx hb dX2_firstHeir_2 rfl (lv_at hl 0 rfl) ?_
                      refine lv_iconst (v := 3) hx hb dX2_firstHeir_3 (by decide) ?_
                      refine lv_icmp_ge (tgt := 48) hx hb dX2_firstHeir_4 (by decide) (fun c_27 => ?_) (fun c_27 => ?_)
                      · refine lv_iconst (v := (-1)) hx hb dX2_firstHeir_48 (by decide) ?_
                        exact co_endR S hr hlocks dX2_firstHeir_49 (by simp only [heir, hrS, c_1, c_2, c_3, c_4, c_12, (eq_true c_20), c_21, c_22, c_24, (eq_true c_26), c_27, eq_self, Bool.false_eq_true, ↓reduceIte])
                      · exact absurd (by decide) c_27
                    · refine lv_iload hx hb dX2_firstHeir_39 (lv_at hl 0 rfl) ?_
                      exact co_endR S hr hlocks dX2_firstHeir_41 (by simp only [heir, hrS, c_1, c_2, c_3, c_4, c_12, (eq_true c_20), c_21, c_22, c_24, c_26, eq_self, Bool.false_eq_true, ↓reduceIte])
            · refine lv_iload hx hb dX2_firstHeir_39 (lv_at hl 0 rfl) ?_
              exact co_endR S hr hlocks dX2_firstHeir_41 (by simp only [heir, hrS, c_1, c_2, c_3, c_4, c_12, c_20, eq_self, Bool.false_eq_true, ↓reduceIte])
    · refine lv_iload hx hb dX2_firstHeir_27 (lv_at hl 0 rfl) ?_
      refine lv_iload_n hx hb dX2_firstHeir_29 rfl (lv_at hl 3 rfl) ?_
      refine lv_icmp_eq (tgt := 42) hx hb dX2_firstHeir_30 (by decide) (fun c_28 => ?_) (fun c_28 => ?_)
      · refine lv_iinc (v := 1) (lv' := [(3, .int 1), (4, .int (tat 3 (σ 1) n 0)), (0, .ref (a 0)), (1, .int n), (2, .int x)]) hx hb dX2_firstHeir_42 hl (k := 1) rfl (by decide) (by decide) rfl (fun ls hl => ?_)
        refine lv_goto (tgt := 2) hx hb dX2_firstHeir_45 (by decide) ?_
        refine lv_iload_n hx hb dX2_firstHeir_2 rfl (lv_at hl 0 rfl) ?_
        refine lv_iconst (v := 3) hx hb dX2_firstHeir_3 (by decide) ?_
        refine lv_icmp_ge (tgt := 48) hx hb dX2_firstHeir_4 (by decide) (fun c_29 => ?_) (fun c_29 => ?_)
        · exact absurd c_29 (by decide)
        · refine lv_aload_n hx hb dX2_firstHeir_7 rfl (lv_at hl 2 rfl) ?_
          refine va_get (D := G.1) (ci := 1) (v := .ref (a 2)) (C := RX2) (T := TX2) (N := 12) hx hb hts uX2 hown hK hP 0 rfl rfl 1 (by decide) (hts (.fieldLink RX2 18 "ChordOverlay" "successors" "LChordOverlay$Table;") (by decide +kernel)) (fun _ h9 => h9) rfl dX2_firstHeir_8 ?_
          refine lv_iload_n hx hb dX2_firstHeir_11 rfl (lv_at hl 3 rfl) ?_
          refine lv_iload_n hx hb dX2_firstHeir_12 rfl (lv_at hl 0 rfl) ?_
          refine co_rV (As := [.int n, .int 1]) (rest := []) S (c_X1_at l G (a 2) (a 3) 3 (σ 1) n 1 (by decide)) (cwV 2 hts gX2_firstHeir_X1_at rfl rfl rfl (by decide +kernel) ⟨Nat.le_of_ble_eq_true rfl, Nat.le_of_ble_eq_true rfl⟩) hK (pG_perm hP [2, 3] rfl) (va_recv hK hP (ci := 0) (q0 := 2) rfl rfl) rfl hl.1 rfl (Nat.le_of_ble_eq_true rfl) dX2_firstHeir_13 ⟨Nat.zero_le _, Nat.zero_le _⟩ ?_
          refine lv_istore (lv' := [(4, .int (tat 3 (σ 1) n 1)), (3, .int 1), (0, .ref (a 0)), (1, .int n), (2, .int x)]) hx hb dX2_firstHeir_16 hl (by decide) rfl (fun ls hl => ?_)
          refine lv_aload_n hx hb dX2_firstHeir_18 rfl (lv_at hl 2 rfl) ?_
          refine lv_iload hx hb dX2_firstHeir_19 (lv_at hl 0 rfl) ?_
          refine co_rV (As := [.int (tat 3 (σ 1) n 1)]) (rest := []) S (c_X2_isAlive l G a σ ρ (tat 3 (σ 1) n 1)) (cwV 1 hts gX2_firstHeir_X2_isAlive rfl rfl rfl (by decide +kernel) ⟨Nat.le_of_ble_eq_true rfl, Nat.le_of_ble_eq_true rfl⟩) hK hP (va_recv hK hP (ci := 1) (q0 := 0) rfl rfl) rfl hl.1 rfl (Nat.le_of_ble_eq_true rfl) dX2_firstHeir_21 ⟨Nat.zero_le _, Nat.zero_le _⟩ ?_
          refine co_ifeq (tgt := 42) S dX2_firstHeir_24 (by decide) (fun c_30 => ?_) (fun c_30 => ?_)
          · refine lv_iinc (v := 2) (lv' := [(3, .int 2), (4, .int (tat 3 (σ 1) n 1)), (0, .ref (a 0)), (1, .int n), (2, .int x)]) hx hb dX2_firstHeir_42 hl (k := 1) rfl (by decide) (by decide) rfl (fun ls hl => ?_)
            refine lv_goto (tgt := 2) hx hb dX2_firstHeir_45 (by decide) ?_
            refine lv_iload_n hx hb dX2_firstHeir_2 rfl (lv_at hl 0 rfl) ?_
            refine lv_iconst (v := 3) hx hb dX2_firstHeir_3 (by decide) ?_
            refine lv_icmp_ge (tgt := 48) hx hb dX2_firstHeir_4 (by decide) (fun c_31 => ?_) (fun c_31 => ?_)
            · exact absurd c_31 (by decide)
            · refine lv_aload_n hx hb dX2_firstHeir_7 rfl (lv_at hl 2 rfl) ?_
              refine va_get (D := G.1) (ci := 1) (v := .ref (a 2)) (C := RX2) (T := TX2) (N := 12) hx hb hts uX2 hown hK hP 0 rfl rfl 1 (by decide) (hts (.fieldLink RX2 18 "ChordOverlay" "successors" "LChordOverlay$Table;") (by decide +kernel)) (fun _ h9 => h9) rfl dX2_firstHeir_8 ?_
              refine lv_iload_n hx hb dX2_firstHeir_11 rfl (lv_at hl 3 rfl) ?_
              refine lv_iload_n hx hb dX2_firstHeir_12 rfl (lv_at hl 0 rfl) ?_
              refine co_rV (As := [.int n, .int 2]) (rest := []) S (c_X1_at l G (a 2) (a 3) 3 (σ 1) n 2 (by decide)) (cwV 2 hts gX2_firstHeir_X1_at rfl rfl rfl (by decide +kernel) ⟨Nat.le_of_ble_eq_true rfl, Nat.le_of_ble_eq_true rfl⟩) hK (pG_perm hP [2, 3] rfl) (va_recv hK hP (ci := 0) (q0 := 2) rfl rfl) rfl hl.1 rfl (Nat.le_of_ble_eq_true rfl) dX2_firstHeir_13 ⟨Nat.zero_le _, Nat.zero_le _⟩ ?_
              refine lv_istore (lv' := [(4, .int (tat 3 (σ 1) n 2)), (3, .int 2), (0, .ref (a 0)), (1, .int n), (2, .int x)]) hx hb dX2_firstHeir_16 hl (by decide) rfl (fun ls hl => ?_)
              refine lv_aload_n hx hb dX2_firstHeir_18 rfl (lv_at hl 2 rfl) ?_
              refine lv_iload hx hb dX2_firstHeir_19 (lv_at hl 0 rfl) ?_
              refine co_rV (As := [.int (tat 3 (σ 1) n 2)]) (rest := []) S (c_X2_isAlive l G a σ ρ (tat 3 (σ 1) n 2)) (cwV 1 hts gX2_firstHeir_X2_isAlive rfl rfl rfl (by decide +kernel) ⟨Nat.le_of_ble_eq_true rfl, Nat.le_of_ble_eq_true rfl⟩) hK hP (va_recv hK hP (ci := 1) (q0 := 0) rfl rfl) rfl hl.1 rfl (Nat.le_of_ble_eq_true rfl) dX2_firstHeir_21 ⟨Nat.zero_le _, Nat.zero_le _⟩ ?_
              refine co_ifeq (tgt := 42) S dX2_firstHeir_24 (by decide) (fun c_32 => ?_) (fun c_32 => ?_)
              · refine lv_iinc (v := 3) (lv' := [(3, .int 3), (4, .int (tat 3 (σ 1) n 2)), (0, .ref (a 0)), (1, .int n), (2, .int x)]) hx hb dX2_firstHeir_42 hl (k := 1) rfl (by decide) (by decide) rfl (fun ls hl => ?_)
                refine lv_goto (tgt := 2) hx hb dX2_firstHeir_45 (by decide) ?_
                refine lv_iload_n hx hb dX2_firstHeir_2 rfl (lv_at hl 0 rfl) ?_
                refine lv_iconst (v := 3) hx hb dX2_firstHeir_3 (by decide) ?_
                refine lv_icmp_ge (tgt := 48) hx hb dX2_firstHeir_4 (by decide) (fun c_33 => ?_) (fun c_33 => ?_)
                · refine lv_iconst (v := (-1)) hx hb dX2_firstHeir_48 (by decide) ?_
                  exact co_endR S hr hlocks dX2_firstHeir_49 (by simp only [heir, hrS, c_1, c_2, (eq_true c_28), c_29, c_30, c_31, c_32, c_33, eq_self, Bool.false_eq_true, ↓reduceIte])
                · exact absurd (by decide) c_33
              · refine lv_iload hx hb dX2_firstHeir_27 (lv_at hl 0 rfl) ?_
                refine lv_iload_n hx hb dX2_firstHeir_29 rfl (lv_at hl 3 rfl) ?_
                refine lv_icmp_eq (tgt := 42) hx hb dX2_firstHeir_30 (by decide) (fun c_34 => ?_) (fun c_34 => ?_)
                · refine lv_iinc (v := 3) (lv' := [(3, .int 3), (4, .int (tat 3 (σ 1) n 2)), (0, .ref (a 0)), (1, .int n), (2, .int x)]) hx hb dX2_firstHeir_42 hl (k := 1) rfl (by decide) (by decide) rfl (fun ls hl => ?_)
                  refine lv_goto (tgt := 2) hx hb dX2_firstHeir_45 (by decide) ?_
                  refine lv_iload_n hx hb dX2_firstHeir_2 rfl (lv_at hl 0 rfl) ?_
                  refine lv_iconst (v := 3) hx hb dX2_firstHeir_3 (by decide) ?_
                  refine lv_icmp_ge (tgt := 48) hx hb dX2_firstHeir_4 (by decide) (fun c_35 => ?_) (fun c_35 => ?_)
                  · refine lv_iconst (v := (-1)) hx hb dX2_firstHeir_48 (by decide) ?_
                    exact co_endR S hr hlocks dX2_firstHeir_49 (by simp only [heir, hrS, c_1, c_2, (eq_true c_28), c_29, c_30, c_31, c_32, (eq_true c_34), c_35, eq_self, Bool.false_eq_true, ↓reduceIte])
                  · exact absurd (by decide) c_35
                · refine lv_iload hx hb dX2_firstHeir_33 (lv_at hl 0 rfl) ?_
                  refine lv_iload_n hx hb dX2_firstHeir_35 rfl (lv_at hl 4 rfl) ?_
                  refine lv_icmp_eq (tgt := 42) hx hb dX2_firstHeir_36 (by decide) (fun c_36 => ?_) (fun c_36 => ?_)
                  · refine lv_iinc (v := 3) (lv' := [(3, .int 3), (4, .int (tat 3 (σ 1) n 2)), (0, .ref (a 0)), (1, .int n), (2, .int x)]) hx hb dX2_firstHeir_42 hl (k := 1) rfl (by decide) (by decide) rfl (fun ls hl => ?_)
                    refine lv_goto (tgt := 2) hx hb dX2_firstHeir_45 (by decide) ?_
                    refine lv_iload_n hx hb dX2_firstHeir_2 rfl (lv_at hl 0 rfl) ?_
                    refine lv_iconst (v := 3) hx hb dX2_firstHeir_3 (by decide) ?_
                    refine lv_icmp_ge (tgt := 48) hx hb dX2_firstHeir_4 (by decide) (fun c_37 => ?_) (fun c_37 => ?_)
                    · refine lv_iconst (v := (-1)) hx hb dX2_firstHeir_48 (by decide) ?_
                      exact co_endR S hr hlocks dX2_firstHeir_49 (by simp only [heir, hrS, c_1, c_2, (eq_true c_28), c_29, c_30, c_31, c_32, c_34, (eq_true c_36), c_37, eq_self, Bool.false_eq_true, ↓reduceIte])
                    · exact absurd (by decide) c_37
                  · refine lv_iload hx hb dX2_firstHeir_39 (lv_at hl 0 rfl) ?_
                    exact co_endR S hr hlocks dX2_firstHeir_41 (by simp only [heir, hrS, c_1, c_2, (eq_true c_28), c_29, c_30, c_31, c_32, c_34, c_36, eq_self, Bool.false_eq_true, ↓reduceIte])
          · refine lv_iload hx hb dX2_firstHeir_27 (lv_at hl 0 rfl) ?_
            refine lv_iload_n hx hb dX2_firstHeir_29 rfl (lv_at hl 3 rfl) ?_
            refine lv_icmp_eq (tgt := 42) hx hb dX2_firstHeir_30 (by decide) (fun c_38 => ?_) (fun c_38 => ?_)
            · refine lv_iinc (v := 2) (lv' := [(3, .int 2), (4, .int (tat 3 (σ 1) n 1)), (0, .ref (a 0)), (1, .int n), (2, .int x)]) hx hb dX2_firstHeir_42 hl (k := 1) rfl (by decide) (by decide) rfl (fun ls hl => ?_)
              refine lv_goto (tgt := 2) hx hb dX2_firstHeir_45 (by decide) ?_
              refine lv_iload_n hx hb dX2_firstHeir_2 rfl (lv_at hl 0 rfl) ?_
              refine lv_iconst (v := 3) hx hb dX2_firstHeir_3 (by decide) ?_
              refine lv_icmp_ge (tgt := 48) hx hb dX2_firstHeir_4 (by decide) (fun c_39 => ?_) (fun c_39 => ?_)
              · exact absurd c_39 (by decide)
              · refine lv_aload_n hx hb dX2_firstHeir_7 rfl (lv_at hl 2 rfl) ?_
                refine va_get (D := G.1) (ci := 1) (v := .ref (a 2)) (C := RX2) (T := TX2) (N := 12) hx hb hts uX2 hown hK hP 0 rfl rfl 1 (by decide) (hts (.fieldLink RX2 18 "ChordOverlay" "successors" "LChordOverlay$Table;") (by decide +kernel)) (fun _ h9 => h9) rfl dX2_firstHeir_8 ?_
                refine lv_iload_n hx hb dX2_firstHeir_11 rfl (lv_at hl 3 rfl) ?_
                refine lv_iload_n hx hb dX2_firstHeir_12 rfl (lv_at hl 0 rfl) ?_
                refine co_rV (As := [.int n, .int 2]) (rest := []) S (c_X1_at l G (a 2) (a 3) 3 (σ 1) n 2 (by decide)) (cwV 2 hts gX2_firstHeir_X1_at rfl rfl rfl (by decide +kernel) ⟨Nat.le_of_ble_eq_true rfl, Nat.le_of_ble_eq_true rfl⟩) hK (pG_perm hP [2, 3] rfl) (va_recv hK hP (ci := 0) (q0 := 2) rfl rfl) rfl hl.1 rfl (Nat.le_of_ble_eq_true rfl) dX2_firstHeir_13 ⟨Nat.zero_le _, Nat.zero_le _⟩ ?_
                refine lv_istore (lv' := [(4, .int (tat 3 (σ 1) n 2)), (3, .int 2), (0, .ref (a 0)), (1, .int n), (2, .int x)]) hx hb dX2_firstHeir_16 hl (by decide) rfl (fun ls hl => ?_)
                refine lv_aload_n hx hb dX2_firstHeir_18 rfl (lv_at hl 2 rfl) ?_
                refine lv_iload hx hb dX2_firstHeir_19 (lv_at hl 0 rfl) ?_
                refine co_rV (As := [.int (tat 3 (σ 1) n 2)]) (rest := []) S (c_X2_isAlive l G a σ ρ (tat 3 (σ 1) n 2)) (cwV 1 hts gX2_firstHeir_X2_isAlive rfl rfl rfl (by decide +kernel) ⟨Nat.le_of_ble_eq_true rfl, Nat.le_of_ble_eq_true rfl⟩) hK hP (va_recv hK hP (ci := 1) (q0 := 0) rfl rfl) rfl hl.1 rfl (Nat.le_of_ble_eq_true rfl) dX2_firstHeir_21 ⟨Nat.zero_le _, Nat.zero_le _⟩ ?_
                refine co_ifeq (tgt := 42) S dX2_firstHeir_24 (by decide) (fun c_40 => ?_) (fun c_40 => ?_)
                · refine lv_iinc (v := 3) (lv' := [(3, .int 3), (4, .int (tat 3 (σ 1) n 2)), (0, .ref (a 0)), (1, .int n), (2, .int x)]) hx hb dX2_firstHeir_42 hl (k := 1) rfl (by decide) (by decide) rfl (fun ls hl => ?_)
                  refine lv_goto (tgt := 2) hx hb dX2_firstHeir_45 (by decide) ?_
                  refine lv_iload_n hx hb dX2_firstHeir_2 rfl (lv_at hl 0 rfl) ?_
                  refine lv_iconst (v := 3) hx hb dX2_firstHeir_3 (by decide) ?_
                  refine lv_icmp_ge (tgt := 48) hx hb dX2_firstHeir_4 (by decide) (fun c_41 => ?_) (fun c_41 => ?_)
                  · refine lv_iconst (v := (-1)) hx hb dX2_firstHeir_48 (by decide) ?_
                    exact co_endR S hr hlocks dX2_firstHeir_49 (by simp only [heir, hrS, c_1, c_2, (eq_true c_28), c_29, c_30, (eq_true c_38), c_39, c_40, c_41, eq_self, Bool.false_eq_true, ↓reduceIte])
                  · exact absurd (by decide) c_41
                · refine lv_iload hx hb dX2_firstHeir_27 (lv_at hl 0 rfl) ?_
                  refine lv_iload_n hx hb dX2_firstHeir_29 rfl (lv_at hl 3 rfl) ?_
                  refine lv_icmp_eq (tgt := 42) hx hb dX2_firstHeir_30 (by decide) (fun c_42 => ?_) (fun c_42 => ?_)
                  · refine lv_iinc (v := 3) (lv' := [(3, .int 3), (4, .int (tat 3 (σ 1) n 2)), (0, .ref (a 0)), (1, .int n), (2, .int x)]) hx hb dX2_firstHeir_42 hl (k := 1) rfl (by decide) (by decide) rfl (fun ls hl => ?_)
                    refine lv_goto (tgt := 2) hx hb dX2_firstHeir_45 (by decide) ?_
                    refine lv_iload_n hx hb dX2_firstHeir_2 rfl (lv_at hl 0 rfl) ?_
                    refine lv_iconst (v := 3) hx hb dX2_firstHeir_3 (by decide) ?_
                    refine lv_icmp_ge (tgt := 48) hx hb dX2_firstHeir_4 (by decide) (fun c_43 => ?_) (fun c_43 => ?_)
                    · refine lv_iconst (v := (-1)) hx hb dX2_firstHeir_48 (by decide) ?_
                      exact co_endR S hr hlocks dX2_firstHeir_49 (by simp only [heir, hrS, c_1, c_2, (eq_true c_28), c_29, c_30, (eq_true c_38), c_39, c_40, (eq_true c_42), c_43, eq_self, Bool.false_eq_true, ↓reduceIte])
                    · exact absurd (by decide) c_43
                  · refine lv_iload hx hb dX2_firstHeir_33 (lv_at hl 0 rfl) ?_
                    refine lv_iload_n hx hb dX2_firstHeir_35 rfl (lv_at hl 4 rfl) ?_
                    refine lv_icmp_eq (tgt := 42) hx hb dX2_firstHeir_36 (by decide) (fun c_44 => ?_) (fun c_44 => ?_)
                    · refine lv_iinc (v := 3) (lv' := [(3, .int 3), (4, .int (tat 3 (σ 1) n 2)), (0, .ref (a 0)), (1, .int n), (2, .int x)]) hx hb dX2_firstHeir_42 hl (k := 1) rfl (by decide) (by decide) rfl (fun ls hl => ?_)
                      refine lv_goto (tgt := 2) hx hb dX2_firstHeir_45 (by decide) ?_
                      refine lv_iload_n hx hb dX2_firstHeir_2 rfl (lv_at hl 0 rfl) ?_
                      refine lv_iconst (v := 3) hx hb dX2_firstHeir_3 (by decide) ?_
                      refine lv_icmp_ge (tgt := 48) hx hb dX2_firstHeir_4 (by decide) (fun c_45 => ?_) (fun c_45 => ?_)
                      · refine lv_iconst (v := (-1)) hx hb dX2_firstHeir_48 (by decide) ?_
                        exact co_endR S hr hlocks dX2_firstHeir_49 (by simp only [heir, hrS, c_1, c_2, (eq_true c_28), c_29, c_30, (eq_true c_38), c_39, c_40, c_42, (eq_true c_44), c_45, eq_self, Bool.false_eq_true, ↓reduceIte])
                      · exact absurd (by decide) c_45
                    · refine lv_iload hx hb dX2_firstHeir_39 (lv_at hl 0 rfl) ?_
                      exact co_endR S hr hlocks dX2_firstHeir_41 (by simp only [heir, hrS, c_1, c_2, (eq_true c_28), c_29, c_30, (eq_true c_38), c_39, c_40, c_42, c_44, eq_self, Bool.false_eq_true, ↓reduceIte])
            · refine lv_iload hx hb dX2_firstHeir_33 (lv_at hl 0 rfl) ?_
              refine lv_iload_n hx hb dX2_firstHeir_35 rfl (lv_at hl 4 rfl) ?_
              refine lv_icmp_eq (tgt := 42) hx hb dX2_firstHeir_36 (by decide) (fun c_46 => ?_) (fun c_46 => ?_)
              · refine lv_iinc (v := 2) (lv' := [(3, .int 2), (4, .int (tat 3 (σ 1) n 1)), (0, .ref (a 0)), (1, .int n), (2, .int x)]) hx hb dX2_firstHeir_42 hl (k := 1) rfl (by decide) (by decide) rfl (fun ls hl => ?_)
                refine lv_goto (tgt := 2) hx hb dX2_firstHeir_45 (by decide) ?_
                refine lv_iload_n hx hb dX2_firstHeir_2 rfl (lv_at hl 0 rfl) ?_
                refine lv_iconst (v := 3) hx hb dX2_firstHeir_3 (by decide) ?_
                refine lv_icmp_ge (tgt := 48) hx hb dX2_firstHeir_4 (by decide) (fun c_47 => ?_) (fun c_47 => ?_)
                · exact absurd c_47 (by decide)
                · refine lv_aload_n hx hb dX2_firstHeir_7 rfl (lv_at hl 2 rfl) ?_
                  refine va_get (D := G.1) (ci := 1) (v := .ref (a 2)) (C := RX2) (T := TX2) (N := 12) hx hb hts uX2 hown hK hP 0 rfl rfl 1 (by decide) (hts (.fieldLink RX2 18 "ChordOverlay" "successors" "LChordOverlay$Table;") (by decide +kernel)) (fun _ h9 => h9) rfl dX2_firstHeir_8 ?_
                  refine lv_iload_n hx hb dX2_firstHeir_11 rfl (lv_at hl 3 rfl) ?_
                  refine lv_iload_n hx hb dX2_firstHeir_12 rfl (lv_at hl 0 rfl) ?_
                  refine co_rV (As := [.int n, .int 2]) (rest := []) S (c_X1_at l G (a 2) (a 3) 3 (σ 1) n 2 (by decide)) (cwV 2 hts gX2_firstHeir_X1_at rfl rfl rfl (by decide +kernel) ⟨Nat.le_of_ble_eq_true rfl, Nat.le_of_ble_eq_true rfl⟩) hK (pG_perm hP [2, 3] rfl) (va_recv hK hP (ci := 0) (q0 := 2) rfl rfl) rfl hl.1 rfl (Nat.le_of_ble_eq_true rfl) dX2_firstHeir_13 ⟨Nat.zero_le _, Nat.zero_le _⟩ ?_
                  refine lv_istore (lv' := [(4, .int (tat 3 (σ 1) n 2)), (3, .int 2), (0, .ref (a 0)), (1, .int n), (2, .int x)]) hx hb dX2_firstHeir_16 hl (by decide) rfl (fun ls hl => ?_)
                  refine lv_aload_n hx hb dX2_firstHeir_18 rfl (lv_at hl 2 rfl) ?_
                  refine lv_iload hx hb dX2_firstHeir_19 (lv_at hl 0 rfl) ?_
                  refine co_rV (As := [.int (tat 3 (σ 1) n 2)]) (rest := []) S (c_X2_isAlive l G a σ ρ (tat 3 (σ 1) n 2)) (cwV 1 hts gX2_firstHeir_X2_isAlive rfl rfl rfl (by decide +kernel) ⟨Nat.le_of_ble_eq_true rfl, Nat.le_of_ble_eq_true rfl⟩) hK hP (va_recv hK hP (ci := 1) (q0 := 0) rfl rfl) rfl hl.1 rfl (Nat.le_of_ble_eq_true rfl) dX2_firstHeir_21 ⟨Nat.zero_le _, Nat.zero_le _⟩ ?_
                  refine co_ifeq (tgt := 42) S dX2_firstHeir_24 (by decide) (fun c_48 => ?_) (fun c_48 => ?_)
                  · refine lv_iinc (v := 3) (lv' := [(3, .int 3), (4, .int (tat 3 (σ 1) n 2)), (0, .ref (a 0)), (1, .int n), (2, .int x)]) hx hb dX2_firstHeir_42 hl (k := 1) rfl (by decide) (by decide) rfl (fun ls hl => ?_)
                    refine lv_goto (tgt := 2) hx hb dX2_firstHeir_45 (by decide) ?_
                    refine lv_iload_n hx hb dX2_firstHeir_2 rfl (lv_at hl 0 rfl) ?_
                    refine lv_iconst (v := 3) hx hb dX2_firstHeir_3 (by decide) ?_
                    refine lv_icmp_ge (tgt := 48) hx hb dX2_firstHeir_4 (by decide) (fun c_49 => ?_) (fun c_49 => ?_)
                    · refine lv_iconst (v := (-1)) hx hb dX2_firstHeir_48 (by decide) ?_
                      exact co_endR S hr hlocks dX2_firstHeir_49 (by simp only [heir, hrS, c_1, c_2, (eq_true c_28), c_29, c_30, c_38, (eq_true c_46), c_47, c_48, c_49, eq_self, Bool.false_eq_true, ↓reduceIte])
                    · exact absurd (by decide) c_49
                  · refine lv_iload hx hb dX2_firstHeir_27 (lv_at hl 0 rfl) ?_
                    refine lv_iload_n hx hb dX2_firstHeir_29 rfl (lv_at hl 3 rfl) ?_
                    refine lv_icmp_eq (tgt := 42) hx hb dX2_firstHeir_30 (by decide) (fun c_50 => ?_) (fun c_50 => ?_)
                    · refine lv_iinc (v := 3) (lv' := [(3, .int 3), (4, .int (tat 3 (σ 1) n 2)), (0, .ref (a 0)), (1, .int n), (2, .int x)]) hx hb dX2_firstHeir_42 hl (k := 1) rfl (by decide) (by decide) rfl (fun ls hl => ?_)
                      refine lv_goto (tgt := 2) hx hb dX2_firstHeir_45 (by decide) ?_
                      refine lv_iload_n hx hb dX2_firstHeir_2 rfl (lv_at hl 0 rfl) ?_
                      refine lv_iconst (v := 3) hx hb dX2_firstHeir_3 (by decide) ?_
                      refine lv_icmp_ge (tgt := 48) hx hb dX2_firstHeir_4 (by decide) (fun c_51 => ?_) (fun c_51 => ?_)
                      · refine lv_iconst (v := (-1)) hx hb dX2_firstHeir_48 (by decide) ?_
                        exact co_endR S hr hlocks dX2_firstHeir_49 (by simp only [heir, hrS, c_1, c_2, (eq_true c_28), c_29, c_30, c_38, (eq_true c_46), c_47, c_48, (eq_true c_50), c_51, eq_self, Bool.false_eq_true, ↓reduceIte])
                      · exact absurd (by decide) c_51
                    · refine lv_iload hx hb dX2_firstHeir_33 (lv_at hl 0 rfl) ?_
                      refine lv_iload_n hx hb dX2_firstHeir_35 rfl (lv_at hl 4 rfl) ?_
                      refine lv_icmp_eq (tgt := 42) hx hb dX2_firstHeir_36 (by decide) (fun c_52 => ?_) (fun c_52 => ?_)
                      · refine lv_iinc (v := 3) (lv' := [(3, .int 3), (4, .int (tat 3 (σ 1) n 2)), (0, .ref (a 0)), (1, .int n), (2, .int x)]) hx hb dX2_firstHeir_42 hl (k := 1) rfl (by decide) (by decide) rfl (fun ls hl => ?_)
                        refine lv_goto (tgt := 2) hx hb dX2_firstHeir_45 (by decide) ?_
                        refine lv_iload_n hx hb dX2_firstHeir_2 rfl (lv_at hl 0 rfl) ?_
                        refine lv_iconst (v := 3) hx hb dX2_firstHeir_3 (by decide) ?_
                        refine lv_icmp_ge (tgt := 48) hx hb dX2_firstHeir_4 (by decide) (fun c_53 => ?_) (fun c_53 => ?_)
                        · refine lv_iconst (v := (-1)) hx hb dX2_firstHeir_48 (by decide) ?_
                          exact co_endR S hr hlocks dX2_firstHeir_49 (by simp only [heir, hrS, c_1, c_2, (eq_true c_28), c_29, c_30, c_38, (eq_true c_46), c_47, c_48, c_50, (eq_true c_52), c_53, eq_self, Bool.false_eq_true, ↓reduceIte])
                        · exact absurd (by decide) c_53
                      · refine lv_iload hx hb dX2_firstHeir_39 (lv_at hl 0 rfl) ?_
                        exact co_endR S hr hlocks dX2_firstHeir_41 (by simp only [heir, hrS, c_1, c_2, (eq_true c_28), c_29, c_30, c_38, (eq_true c_46), c_47, c_48, c_50, c_52, eq_self, Bool.false_eq_true, ↓reduceIte])
              · refine lv_iload hx hb dX2_firstHeir_39 (lv_at hl 0 rfl) ?_
                exact co_endR S hr hlocks dX2_firstHeir_41 (by simp only [heir, hrS, c_1, c_2, (eq_true c_28), c_29, c_30, c_38, c_46, eq_self, Bool.false_eq_true, ↓reduceIte])
      · refine lv_iload hx hb dX2_firstHeir_33 (lv_at hl 0 rfl) ?_
        refine lv_iload_n hx hb dX2_firstHeir_35 rfl (lv_at hl 4 rfl) ?_
        refine lv_icmp_eq (tgt := 42) hx hb dX2_firstHeir_36 (by decide) (fun c_54 => ?_) (fun c_54 => ?_)
        · refine lv_iinc (v := 1) (lv' := [(3, .int 1), (4, .int (tat 3 (σ 1) n 0)), (0, .ref (a 0)), (1, .int n), (2, .int x)]) hx hb dX2_firstHeir_42 hl (k := 1) rfl (by decide) (by decide) rfl (fun ls hl => ?_)
          refine lv_goto (tgt := 2) hx hb dX2_firstHeir_45 (by decide) ?_
          refine lv_iload_n hx hb dX2_firstHeir_2 rfl (lv_at hl 0 rfl) ?_
          refine lv_iconst (v := 3) hx hb dX2_firstHeir_3 (by decide) ?_
          refine lv_icmp_ge (tgt := 48) hx hb dX2_firstHeir_4 (by decide) (fun c_55 => ?_) (fun c_55 => ?_)
          · exact absurd c_55 (by decide)
          · refine lv_aload_n hx hb dX2_firstHeir_7 rfl (lv_at hl 2 rfl) ?_
            refine va_get (D := G.1) (ci := 1) (v := .ref (a 2)) (C := RX2) (T := TX2) (N := 12) hx hb hts uX2 hown hK hP 0 rfl rfl 1 (by decide) (hts (.fieldLink RX2 18 "ChordOverlay" "successors" "LChordOverlay$Table;") (by decide +kernel)) (fun _ h9 => h9) rfl dX2_firstHeir_8 ?_
            refine lv_iload_n hx hb dX2_firstHeir_11 rfl (lv_at hl 3 rfl) ?_
            refine lv_iload_n hx hb dX2_firstHeir_12 rfl (lv_at hl 0 rfl) ?_
            refine co_rV (As := [.int n, .int 1]) (rest := []) S (c_X1_at l G (a 2) (a 3) 3 (σ 1) n 1 (by decide)) (cwV 2 hts gX2_firstHeir_X1_at rfl rfl rfl (by decide +kernel) ⟨Nat.le_of_ble_eq_true rfl, Nat.le_of_ble_eq_true rfl⟩) hK (pG_perm hP [2, 3] rfl) (va_recv hK hP (ci := 0) (q0 := 2) rfl rfl) rfl hl.1 rfl (Nat.le_of_ble_eq_true rfl) dX2_firstHeir_13 ⟨Nat.zero_le _, Nat.zero_le _⟩ ?_
            refine lv_istore (lv' := [(4, .int (tat 3 (σ 1) n 1)), (3, .int 1), (0, .ref (a 0)), (1, .int n), (2, .int x)]) hx hb dX2_firstHeir_16 hl (by decide) rfl (fun ls hl => ?_)
            refine lv_aload_n hx hb dX2_firstHeir_18 rfl (lv_at hl 2 rfl) ?_
            refine lv_iload hx hb dX2_firstHeir_19 (lv_at hl 0 rfl) ?_
            refine co_rV (As := [.int (tat 3 (σ 1) n 1)]) (rest := []) S (c_X2_isAlive l G a σ ρ (tat 3 (σ 1) n 1)) (cwV 1 hts gX2_firstHeir_X2_isAlive rfl rfl rfl (by decide +kernel) ⟨Nat.le_of_ble_eq_true rfl, Nat.le_of_ble_eq_true rfl⟩) hK hP (va_recv hK hP (ci := 1) (q0 := 0) rfl rfl) rfl hl.1 rfl (Nat.le_of_ble_eq_true rfl) dX2_firstHeir_21 ⟨Nat.zero_le _, Nat.zero_le _⟩ ?_
            refine co_ifeq (tgt := 42) S dX2_firstHeir_24 (by decide) (fun c_56 => ?_) (fun c_56 => ?_)
            · refine lv_iinc (v := 2) (lv' := [(3, .int 2), (4, .int (tat 3 (σ 1) n 1)), (0, .ref (a 0)), (1, .int n), (2, .int x)]) hx hb dX2_firstHeir_42 hl (k := 1) rfl (by decide) (by decide) rfl (fun ls hl => ?_)
              refine lv_goto (tgt := 2) hx hb dX2_firstHeir_45 (by decide) ?_
              refine lv_iload_n hx hb dX2_firstHeir_2 rfl (lv_at hl 0 rfl) ?_
              refine lv_iconst (v := 3) hx hb dX2_firstHeir_3 (by decide) ?_
              refine lv_icmp_ge (tgt := 48) hx hb dX2_firstHeir_4 (by decide) (fun c_57 => ?_) (fun c_57 => ?_)
              · exact absurd c_57 (by decide)
              · refine lv_aload_n hx hb dX2_firstHeir_7 rfl (lv_at hl 2 rfl) ?_
                refine va_get (D := G.1) (ci := 1) (v := .ref (a 2)) (C := RX2) (T := TX2) (N := 12) hx hb hts uX2 hown hK hP 0 rfl rfl 1 (by decide) (hts (.fieldLink RX2 18 "ChordOverlay" "successors" "LChordOverlay$Table;") (by decide +kernel)) (fun _ h9 => h9) rfl dX2_firstHeir_8 ?_
                refine lv_iload_n hx hb dX2_firstHeir_11 rfl (lv_at hl 3 rfl) ?_
                refine lv_iload_n hx hb dX2_firstHeir_12 rfl (lv_at hl 0 rfl) ?_
                refine co_rV (As := [.int n, .int 2]) (rest := []) S (c_X1_at l G (a 2) (a 3) 3 (σ 1) n 2 (by decide)) (cwV 2 hts gX2_firstHeir_X1_at rfl rfl rfl (by decide +kernel) ⟨Nat.le_of_ble_eq_true rfl, Nat.le_of_ble_eq_true rfl⟩) hK (pG_perm hP [2, 3] rfl) (va_recv hK hP (ci := 0) (q0 := 2) rfl rfl) rfl hl.1 rfl (Nat.le_of_ble_eq_true rfl) dX2_firstHeir_13 ⟨Nat.zero_le _, Nat.zero_le _⟩ ?_
                refine lv_istore (lv' := [(4, .int (tat 3 (σ 1) n 2)), (3, .int 2), (0, .ref (a 0)), (1, .int n), (2, .int x)]) hx hb dX2_firstHeir_16 hl (by decide) rfl (fun ls hl => ?_)
                refine lv_aload_n hx hb dX2_firstHeir_18 rfl (lv_at hl 2 rfl) ?_
                refine lv_iload hx hb dX2_firstHeir_19 (lv_at hl 0 rfl) ?_
                refine co_rV (As := [.int (tat 3 (σ 1) n 2)]) (rest := []) S (c_X2_isAlive l G a σ ρ (tat 3 (σ 1) n 2)) (cwV 1 hts gX2_firstHeir_X2_isAlive rfl rfl rfl (by decide +kernel) ⟨Nat.le_of_ble_eq_true rfl, Nat.le_of_ble_eq_true rfl⟩) hK hP (va_recv hK hP (ci := 1) (q0 := 0) rfl rfl) rfl hl.1 rfl (Nat.le_of_ble_eq_true rfl) dX2_firstHeir_21 ⟨Nat.zero_le _, Nat.zero_le _⟩ ?_
                refine co_ifeq (tgt := 42) S dX2_firstHeir_24 (by decide) (fun c_58 => ?_) (fun c_58 => ?_)
                · refine lv_iinc (v := 3) (lv' := [(3, .int 3), (4, .int (tat 3 (σ 1) n 2)), (0, .ref (a 0)), (1, .int n), (2, .int x)]) hx hb dX2_firstHeir_42 hl (k := 1) rfl (by decide) (by decide) rfl (fun ls hl => ?_)
                  refine lv_goto (tgt := 2) hx hb dX2_firstHeir_45 (by decide) ?_
                  refine lv_iload_n hx hb dX2_firstHeir_2 rfl (lv_at hl 0 rfl) ?_
                  refine lv_iconst (v := 3) hx hb dX2_firstHeir_3 (by decide) ?_
                  refine lv_icmp_ge (tgt := 48) hx hb dX2_firstHeir_4 (by decide) (fun c_59 => ?_) (fun c_59 => ?_)
                  · refine lv_iconst (v := (-1)) hx hb dX2_firstHeir_48 (by decide) ?_
                    exact co_endR S hr hlocks dX2_firstHeir_49 (by simp only [heir, hrS, c_1, c_2, c_28, (eq_true c_54), c_55, c_56, c_57, c_58, c_59, eq_self, Bool.false_eq_true, ↓reduceIte])
                  · exact absurd (by decide) c_59
                · refine lv_iload hx hb dX2_firstHeir_27 (lv_at hl 0 rfl) ?_
                  refine lv_iload_n hx hb dX2_firstHeir_29 rfl (lv_at hl 3 rfl) ?_
                  refine lv_icmp_eq (tgt := 42) hx hb dX2_firstHeir_30 (by decide) (fun c_60 => ?_) (fun c_60 => ?_)
                  · refine lv_iinc (v := 3) (lv' := [(3, .int 3), (4, .int (tat 3 (σ 1) n 2)), (0, .ref (a 0)), (1, .int n), (2, .int x)]) hx hb dX2_firstHeir_42 hl (k := 1) rfl (by decide) (by decide) rfl (fun ls hl => ?_)
                    refine lv_goto (tgt := 2) hx hb dX2_firstHeir_45 (by decide) ?_
                    refine lv_iload_n hx hb dX2_firstHeir_2 rfl (lv_at hl 0 rfl) ?_
                    refine lv_iconst (v := 3) hx hb dX2_firstHeir_3 (by decide) ?_
                    refine lv_icmp_ge (tgt := 48) hx hb dX2_firstHeir_4 (by decide) (fun c_61 => ?_) (fun c_61 => ?_)
                    · refine lv_iconst (v := (-1)) hx hb dX2_firstHeir_48 (by decide) ?_
                      exact co_endR S hr hlocks dX2_firstHeir_49 (by simp only [heir, hrS, c_1, c_2, c_28, (eq_true c_54), c_55, c_56, c_57, c_58, (eq_true c_60), c_61, eq_self, Bool.false_eq_true, ↓reduceIte])
                    · exact absurd (by decide) c_61
                  · refine lv_iload hx hb dX2_firstHeir_33 (lv_at hl 0 rfl) ?_
                    refine lv_iload_n hx hb dX2_firstHeir_35 rfl (lv_at hl 4 rfl) ?_
                    refine lv_icmp_eq (tgt := 42) hx hb dX2_firstHeir_36 (by decide) (fun c_62 => ?_) (fun c_62 => ?_)
                    · refine lv_iinc (v := 3) (lv' := [(3, .int 3), (4, .int (tat 3 (σ 1) n 2)), (0, .ref (a 0)), (1, .int n), (2, .int x)]) hx hb dX2_firstHeir_42 hl (k := 1) rfl (by decide) (by decide) rfl (fun ls hl => ?_)
                      refine lv_goto (tgt := 2) hx hb dX2_firstHeir_45 (by decide) ?_
                      refine lv_iload_n hx hb dX2_firstHeir_2 rfl (lv_at hl 0 rfl) ?_
                      refine lv_iconst (v := 3) hx hb dX2_firstHeir_3 (by decide) ?_
                      refine lv_icmp_ge (tgt := 48) hx hb dX2_firstHeir_4 (by decide) (fun c_63 => ?_) (fun c_63 => ?_)
                      · refine lv_iconst (v := (-1)) hx hb dX2_firstHeir_48 (by decide) ?_
                        exact co_endR S hr hlocks dX2_firstHeir_49 (by simp only [heir, hrS, c_1, c_2, c_28, (eq_true c_54), c_55, c_56, c_57, c_58, c_60, (eq_true c_62), c_63, eq_self, Bool.false_eq_true, ↓reduceIte])
                      · exact absurd (by decide) c_63
                    · refine lv_iload hx hb dX2_firstHeir_39 (lv_at hl 0 rfl) ?_
                      exact co_endR S hr hlocks dX2_firstHeir_41 (by simp only [heir, hrS, c_1, c_2, c_28, (eq_true c_54), c_55, c_56, c_57, c_58, c_60, c_62, eq_self, Bool.false_eq_true, ↓reduceIte])
            · refine lv_iload hx hb dX2_firstHeir_27 (lv_at hl 0 rfl) ?_
              refine lv_iload_n hx hb dX2_firstHeir_29 rfl (lv_at hl 3 rfl) ?_
              refine lv_icmp_eq (tgt := 42) hx hb dX2_firstHeir_30 (by decide) (fun c_64 => ?_) (fun c_64 => ?_)
              · refine lv_iinc (v := 2) (lv' := [(3, .int 2), (4, .int (tat 3 (σ 1) n 1)), (0, .ref (a 0)), (1, .int n), (2, .int x)]) hx hb dX2_firstHeir_42 hl (k := 1) rfl (by decide) (by decide) rfl (fun ls hl => ?_)
                refine lv_goto (tgt := 2) hx hb dX2_firstHeir_45 (by decide) ?_
                refine lv_iload_n hx hb dX2_firstHeir_2 rfl (lv_at hl 0 rfl) ?_
                refine lv_iconst (v := 3) hx hb dX2_firstHeir_3 (by decide) ?_
                refine lv_icmp_ge (tgt := 48) hx hb dX2_firstHeir_4 (by decide) (fun c_65 => ?_) (fun c_65 => ?_)
                · exact absurd c_65 (by decide)
                · refine lv_aload_n hx hb dX2_firstHeir_7 rfl (lv_at hl 2 rfl) ?_
                  refine va_get (D := G.1) (ci := 1) (v := .ref (a 2)) (C := RX2) (T := TX2) (N := 12) hx hb hts uX2 hown hK hP 0 rfl rfl 1 (by decide) (hts (.fieldLink RX2 18 "ChordOverlay" "successors" "LChordOverlay$Table;") (by decide +kernel)) (fun _ h9 => h9) rfl dX2_firstHeir_8 ?_
                  refine lv_iload_n hx hb dX2_firstHeir_11 rfl (lv_at hl 3 rfl) ?_
                  refine lv_iload_n hx hb dX2_firstHeir_12 rfl (lv_at hl 0 rfl) ?_
                  refine co_rV (As := [.int n, .int 2]) (rest := []) S (c_X1_at l G (a 2) (a 3) 3 (σ 1) n 2 (by decide)) (cwV 2 hts gX2_firstHeir_X1_at rfl rfl rfl (by decide +kernel) ⟨Nat.le_of_ble_eq_true rfl, Nat.le_of_ble_eq_true rfl⟩) hK (pG_perm hP [2, 3] rfl) (va_recv hK hP (ci := 0) (q0 := 2) rfl rfl) rfl hl.1 rfl (Nat.le_of_ble_eq_true rfl) dX2_firstHeir_13 ⟨Nat.zero_le _, Nat.zero_le _⟩ ?_
                  refine lv_istore (lv' := [(4, .int (tat 3 (σ 1) n 2)), (3, .int 2), (0, .ref (a 0)), (1, .int n), (2, .int x)]) hx hb dX2_firstHeir_16 hl (by decide) rfl (fun ls hl => ?_)
                  refine lv_aload_n hx hb dX2_firstHeir_18 rfl (lv_at hl 2 rfl) ?_
                  refine lv_iload hx hb dX2_firstHeir_19 (lv_at hl 0 rfl) ?_
                  refine co_rV (As := [.int (tat 3 (σ 1) n 2)]) (rest := []) S (c_X2_isAlive l G a σ ρ (tat 3 (σ 1) n 2)) (cwV 1 hts gX2_firstHeir_X2_isAlive rfl rfl rfl (by decide +kernel) ⟨Nat.le_of_ble_eq_true rfl, Nat.le_of_ble_eq_true rfl⟩) hK hP (va_recv hK hP (ci := 1) (q0 := 0) rfl rfl) rfl hl.1 rfl (Nat.le_of_ble_eq_true rfl) dX2_firstHeir_21 ⟨Nat.zero_le _, Nat.zero_le _⟩ ?_
                  refine co_ifeq (tgt := 42) S dX2_firstHeir_24 (by decide) (fun c_66 => ?_) (fun c_66 => ?_)
                  · refine lv_iinc (v := 3) (lv' := [(3, .int 3), (4, .int (tat 3 (σ 1) n 2)), (0, .ref (a 0)), (1, .int n), (2, .int x)]) hx hb dX2_firstHeir_42 hl (k := 1) rfl (by decide) (by decide) rfl (fun ls hl => ?_)
                    refine lv_goto (tgt := 2) hx hb dX2_firstHeir_45 (by decide) ?_
                    refine lv_iload_n hx hb dX2_firstHeir_2 rfl (lv_at hl 0 rfl) ?_
                    refine lv_iconst (v := 3) hx hb dX2_firstHeir_3 (by decide) ?_
                    refine lv_icmp_ge (tgt := 48) hx hb dX2_firstHeir_4 (by decide) (fun c_67 => ?_) (fun c_67 => ?_)
                    · refine lv_iconst (v := (-1)) hx hb dX2_firstHeir_48 (by decide) ?_
                      exact co_endR S hr hlocks dX2_firstHeir_49 (by simp only [heir, hrS, c_1, c_2, c_28, (eq_true c_54), c_55, c_56, (eq_true c_64), c_65, c_66, c_67, eq_self, Bool.false_eq_true, ↓reduceIte])
                    · exact absurd (by decide) c_67
                  · refine lv_iload hx hb dX2_firstHeir_27 (lv_at hl 0 rfl) ?_
                    refine lv_iload_n hx hb dX2_firstHeir_29 rfl (lv_at hl 3 rfl) ?_
                    refine lv_icmp_eq (tgt := 42) hx hb dX2_firstHeir_30 (by decide) (fun c_68 => ?_) (fun c_68 => ?_)
                    · refine lv_iinc (v := 3) (lv' := [(3, .int 3), (4, .int (tat 3 (σ 1) n 2)), (0, .ref (a 0)), (1, .int n), (2, .int x)]) hx hb dX2_firstHeir_42 hl (k := 1) rfl (by decide) (by decide) rfl (fun ls hl => ?_)
                      refine lv_goto (tgt := 2) hx hb dX2_firstHeir_45 (by decide) ?_
                      refine lv_iload_n hx hb dX2_firstHeir_2 rfl (lv_at hl 0 rfl) ?_
                      refine lv_iconst (v := 3) hx hb dX2_firstHeir_3 (by decide) ?_
                      refine lv_icmp_ge (tgt := 48) hx hb dX2_firstHeir_4 (by decide) (fun c_69 => ?_) (fun c_69 => ?_)
                      · refine lv_iconst (v := (-1)) hx hb dX2_firstHeir_48 (by decide) ?_
                        exact co_endR S hr hlocks dX2_firstHeir_49 (by simp only [heir, hrS, c_1, c_2, c_28, (eq_true c_54), c_55, c_56, (eq_true c_64), c_65, c_66, (eq_true c_68), c_69, eq_self, Bool.false_eq_true, ↓reduceIte])
                      · exact absurd (by decide) c_69
                    · refine lv_iload hx hb dX2_firstHeir_33 (lv_at hl 0 rfl) ?_
                      refine lv_iload_n hx hb dX2_firstHeir_35 rfl (lv_at hl 4 rfl) ?_
                      refine lv_icmp_eq (tgt := 42) hx hb dX2_firstHeir_36 (by decide) (fun c_70 => ?_) (fun c_70 => ?_)
                      · refine lv_iinc (v := 3) (lv' := [(3, .int 3), (4, .int (tat 3 (σ 1) n 2)), (0, .ref (a 0)), (1, .int n), (2, .int x)]) hx hb dX2_firstHeir_42 hl (k := 1) rfl (by decide) (by decide) rfl (fun ls hl => ?_)
                        refine lv_goto (tgt := 2) hx hb dX2_firstHeir_45 (by decide) ?_
                        refine lv_iload_n hx hb dX2_firstHeir_2 rfl (lv_at hl 0 rfl) ?_
                        refine lv_iconst (v := 3) hx hb dX2_firstHeir_3 (by decide) ?_
                        refine lv_icmp_ge (tgt := 48) hx hb dX2_firstHeir_4 (by decide) (fun c_71 => ?_) (fun c_71 => ?_)
                        · refine lv_iconst (v := (-1)) hx hb dX2_firstHeir_48 (by decide) ?_
                          exact co_endR S hr hlocks dX2_firstHeir_49 (by simp only [heir, hrS, c_1, c_2, c_28, (eq_true c_54), c_55, c_56, (eq_true c_64), c_65, c_66, c_68, (eq_true c_70), c_71, eq_self, Bool.false_eq_true, ↓reduceIte])
                        · exact absurd (by decide) c_71
                      · refine lv_iload hx hb dX2_firstHeir_39 (lv_at hl 0 rfl) ?_
                        exact co_endR S hr hlocks dX2_firstHeir_41 (by simp only [heir, hrS, c_1, c_2, c_28, (eq_true c_54), c_55, c_56, (eq_true c_64), c_65, c_66, c_68, c_70, eq_self, Bool.false_eq_true, ↓reduceIte])
              · refine lv_iload hx hb dX2_firstHeir_33 (lv_at hl 0 rfl) ?_
                refine lv_iload_n hx hb dX2_firstHeir_35 rfl (lv_at hl 4 rfl) ?_
                refine lv_icmp_eq (tgt := 42) hx hb dX2_firstHeir_36 (by decide) (fun c_72 => ?_) (fun c_72 => ?_)
                · refine lv_iinc (v := 2) (lv' := [(3, .int 2), (4, .int (tat 3 (σ 1) n 1)), (0, .ref (a 0)), (1, .int n), (2, .int x)]) hx hb dX2_firstHeir_42 hl (k := 1) rfl (by decide) (by decide) rfl (fun ls hl => ?_)
                  refine lv_goto (tgt := 2) hx hb dX2_firstHeir_45 (by decide) ?_
                  refine lv_iload_n hx hb dX2_firstHeir_2 rfl (lv_at hl 0 rfl) ?_
                  refine lv_iconst (v := 3) hx hb dX2_firstHeir_3 (by decide) ?_
                  refine lv_icmp_ge (tgt := 48) hx hb dX2_firstHeir_4 (by decide) (fun c_73 => ?_) (fun c_73 => ?_)
                  · exact absurd c_73 (by decide)
                  · refine lv_aload_n hx hb dX2_firstHeir_7 rfl (lv_at hl 2 rfl) ?_
                    refine va_get (D := G.1) (ci := 1) (v := .ref (a 2)) (C := RX2) (T := TX2) (N := 12) hx hb hts uX2 hown hK hP 0 rfl rfl 1 (by decide) (hts (.fieldLink RX2 18 "ChordOverlay" "successors" "LChordOverlay$Table;") (by decide +kernel)) (fun _ h9 => h9) rfl dX2_firstHeir_8 ?_
                    refine lv_iload_n hx hb dX2_firstHeir_11 rfl (lv_at hl 3 rfl) ?_
                    refine lv_iload_n hx hb dX2_firstHeir_12 rfl (lv_at hl 0 rfl) ?_
                    refine co_rV (As := [.int n, .int 2]) (rest := []) S (c_X1_at l G (a 2) (a 3) 3 (σ 1) n 2 (by decide)) (cwV 2 hts gX2_firstHeir_X1_at rfl rfl rfl (by decide +kernel) ⟨Nat.le_of_ble_eq_true rfl, Nat.le_of_ble_eq_true rfl⟩) hK (pG_perm hP [2, 3] rfl) (va_recv hK hP (ci := 0) (q0 := 2) rfl rfl) rfl hl.1 rfl (Nat.le_of_ble_eq_true rfl) dX2_firstHeir_13 ⟨Nat.zero_le _, Nat.zero_le _⟩ ?_
                    refine lv_istore (lv' := [(4, .int (tat 3 (σ 1) n 2)), (3, .int 2), (0, .ref (a 0)), (1, .int n), (2, .int x)]) hx hb dX2_firstHeir_16 hl (by decide) rfl (fun ls hl => ?_)
                    refine lv_aload_n hx hb dX2_firstHeir_18 rfl (lv_at hl 2 rfl) ?_
                    refine lv_iload hx hb dX2_firstHeir_19 (lv_at hl 0 rfl) ?_
                    refine co_rV (As := [.int (tat 3 (σ 1) n 2)]) (rest := []) S (c_X2_isAlive l G a σ ρ (tat 3 (σ 1) n 2)) (cwV 1 hts gX2_firstHeir_X2_isAlive rfl rfl rfl (by decide +kernel) ⟨Nat.le_of_ble_eq_true rfl, Nat.le_of_ble_eq_true rfl⟩) hK hP (va_recv hK hP (ci := 1) (q0 := 0) rfl rfl) rfl hl.1 rfl (Nat.le_of_ble_eq_true rfl) dX2_firstHeir_21 ⟨Nat.zero_le _, Nat.zero_le _⟩ ?_
                    refine co_ifeq (tgt := 42) S dX2_firstHeir_24 (by decide) (fun c_74 => ?_) (fun c_74 => ?_)
                    · refine lv_iinc (v := 3) (lv' := [(3, .int 3), (4, .int (tat 3 (σ 1) n 2)), (0, .ref (a 0)), (1, .int n), (2, .int x)]) hx hb dX2_firstHeir_42 hl (k := 1) rfl (by decide) (by decide) rfl (fun ls hl => ?_)
                      refine lv_goto (tgt := 2) hx hb dX2_firstHeir_45 (by decide) ?_
                      refine lv_iload_n hx hb dX2_firstHeir_2 rfl (lv_at hl 0 rfl) ?_
                      refine lv_iconst (v := 3) hx hb dX2_firstHeir_3 (by decide) ?_
                      refine lv_icmp_ge (tgt := 48) hx hb dX2_firstHeir_4 (by decide) (fun c_75 => ?_) (fun c_75 => ?_)
                      · refine lv_iconst (v := (-1)) hx hb dX2_firstHeir_48 (by decide) ?_
                        exact co_endR S hr hlocks dX2_firstHeir_49 (by simp only [heir, hrS, c_1, c_2, c_28, (eq_true c_54), c_55, c_56, c_64, (eq_true c_72), c_73, c_74, c_75, eq_self, Bool.false_eq_true, ↓reduceIte])
                      · exact absurd (by decide) c_75
                    · refine lv_iload hx hb dX2_firstHeir_27 (lv_at hl 0 rfl) ?_
                      refine lv_iload_n hx hb dX2_firstHeir_29 rfl (lv_at hl 3 rfl) ?_
                      refine lv_icmp_eq (tgt := 42) hx hb dX2_firstHeir_30 (by decide) (fun c_76 => ?_) (fun c_76 => ?_)
                      · refine lv_iinc (v := 3) (lv' := [(3, .int 3), (4, .int (tat 3 (σ 1) n 2)), (0, .ref (a 0)), (1, .int n), (2, .int x)]) hx hb dX2_firstHeir_42 hl (k := 1) rfl (by decide) (by decide) rfl (fun ls hl => ?_)
                        refine lv_goto (tgt := 2) hx hb dX2_firstHeir_45 (by decide) ?_
                        refine lv_iload_n hx hb dX2_firstHeir_2 rfl (lv_at hl 0 rfl) ?_
                        refine lv_iconst (v := 3) hx hb dX2_firstHeir_3 (by decide) ?_
                        refine lv_icmp_ge (tgt := 48) hx hb dX2_firstHeir_4 (by decide) (fun c_77 => ?_) (fun c_77 => ?_)
                        · refine lv_iconst (v := (-1)) hx hb dX2_firstHeir_48 (by decide) ?_
                          exact co_endR S hr hlocks dX2_firstHeir_49 (by simp only [heir, hrS, c_1, c_2, c_28, (eq_true c_54), c_55, c_56, c_64, (eq_true c_72), c_73, c_74, (eq_true c_76), c_77, eq_self, Bool.false_eq_true, ↓reduceIte])
                        · exact absurd (by decide) c_77
                      · refine lv_iload hx hb dX2_firstHeir_33 (lv_at hl 0 rfl) ?_
                        refine lv_iload_n hx hb dX2_firstHeir_35 rfl (lv_at hl 4 rfl) ?_
                        refine lv_icmp_eq (tgt := 42) hx hb dX2_firstHeir_36 (by decide) (fun c_78 => ?_) (fun c_78 => ?_)
                        · refine lv_iinc (v := 3) (lv' := [(3, .int 3), (4, .int (tat 3 (σ 1) n 2)), (0, .ref (a 0)), (1, .int n), (2, .int x)]) hx hb dX2_firstHeir_42 hl (k := 1) rfl (by decide) (by decide) rfl (fun ls hl => ?_)
                          refine lv_goto (tgt := 2) hx hb dX2_firstHeir_45 (by decide) ?_
                          refine lv_iload_n hx hb dX2_firstHeir_2 rfl (lv_at hl 0 rfl) ?_
                          refine lv_iconst (v := 3) hx hb dX2_firstHeir_3 (by decide) ?_
                          refine lv_icmp_ge (tgt := 48) hx hb dX2_firstHeir_4 (by decide) (fun c_79 => ?_) (fun c_79 => ?_)
                          · refine lv_iconst (v := (-1)) hx hb dX2_firstHeir_48 (by decide) ?_
                            exact co_endR S hr hlocks dX2_firstHeir_49 (by simp only [heir, hrS, c_1, c_2, c_28, (eq_true c_54), c_55, c_56, c_64, (eq_true c_72), c_73, c_74, c_76, (eq_true c_78), c_79, eq_self, Bool.false_eq_true, ↓reduceIte])
                          · exact absurd (by decide) c_79
                        · refine lv_iload hx hb dX2_firstHeir_39 (lv_at hl 0 rfl) ?_
                          exact co_endR S hr hlocks dX2_firstHeir_41 (by simp only [heir, hrS, c_1, c_2, c_28, (eq_true c_54), c_55, c_56, c_64, (eq_true c_72), c_73, c_74, c_76, c_78, eq_self, Bool.false_eq_true, ↓reduceIte])
                · refine lv_iload hx hb dX2_firstHeir_39 (lv_at hl 0 rfl) ?_
                  exact co_endR S hr hlocks dX2_firstHeir_41 (by simp only [heir, hrS, c_1, c_2, c_28, (eq_true c_54), c_55, c_56, c_64, c_72, eq_self, Bool.false_eq_true, ↓reduceIte])
        · refine lv_iload hx hb dX2_firstHeir_39 (lv_at hl 0 rfl) ?_
          exact co_endR S hr hlocks dX2_firstHeir_41 (by simp only [heir, hrS, c_1, c_2, c_28, c_54, eq_self, Bool.false_eq_true, ↓reduceIte])

set_option maxRecDepth 20000 in
theorem uX2_X2_hopTowards : ∀ w ∈ u_ws RX2 TX2 12, w ∈ wsX2_hopTowards := by decide +kernel
abbrev rm_X2_hopTowards : Room := { frames := 1, cells := 0, slots := 0, locals := 23 }
set_option maxHeartbeats 4000000 in
set_option maxRecDepth 100000 in
theorem c_X2_hopTowards (l : Launch) (G : cG) (a : Nat → Nat) (σ ρ : cS) (key n nx : Int32) : MetR l yX2_hopTowards wsX2_hopTowards rm_X2_hopTowards G (wO G a σ ρ) [.ref (a 0), .int key, .int n, .int nx] (hopT (σ 0) (σ 3) key n nx 6) := by
  refine co_bodyR (cc := cX2_hopTowards) (maxL := 6) (ret := (some .int)) (by decide) rfl (Nat.le_of_ble_eq_true rfl) ?_
  intro p e s m args below meth c S hr hlocks hK hP ls hl
  have S : CallFix p m c cX2_hopTowards 6 s args wsX2_hopTowards RX2 := S
  obtain ⟨hx, hb, hml, hown, hts⟩ := id S
  have hl : lv_has ls 6 [(0, .ref (a 0)), (1, .int key), (2, .int n), (3, .int nx)] := hl
  have uX2 := uX2_X2_hopTowards
  refine lv_iconst (v := 5) hx hb dX2_hopTowards_0 (by decide) ?_
  refine lv_istore (lv' := [(4, .int 5), (0, .ref (a 0)), (1, .int key), (2, .int n), (3, .int nx)]) hx hb dX2_hopTowards_1 hl (by decide) rfl (fun ls hl => ?_)
  have LP : ∀ (d : Nat) (x : Int32), d ≤ 6 → x = nI d + Int32.ofInt (-1) → hopT (σ 0) (σ 3) key n nx d = hopT (σ 0) (σ 3) key n nx 6 → ∀ ls : Array Slot, lv_has ls 6 [(0, .ref (a 0)), (1, .int key), (2, .int n), (3, .int nx), (4, .int x)] → W p l e rm_X2_hopTowards s m args below meth c s.heap [] 0 0 (QR below (hopT (σ 0) (σ 3) key n nx 6) args s) (F0 m 3 ls []) := by
    intro d
    induction d with
    | zero =>
      intro x hd6 hx9 h9 ls hl
      refine lv_iload hx hb dX2_hopTowards_3 (lv_at hl 4 rfl) ?_
      refine lv_if_lt (tgt := 48) hx hb dX2_hopTowards_5 (by decide) (fun c_1 => ?_) (fun c_1 => ?_)
      · refine lv_iload_n hx hb dX2_hopTowards_48 rfl (lv_at hl 3 rfl) ?_
        exact co_endR S hr hlocks dX2_hopTowards_49 (by rw [← h9]; rfl)
      · exact absurd (by subst hx9; decide) c_1
    | succ d ih =>
      intro x hd6 hx9 h9 ls hl
      rw [nI_m] at hx9; subst hx9
      refine lv_iload hx hb dX2_hopTowards_3 (lv_at hl 4 rfl) ?_
      refine lv_if_lt (tgt := 48) hx hb dX2_hopTowards_5 (by decide) (fun c_2 => ?_) (fun c_2 => ?_)
      · exact absurd c_2 (nI_pos (by omega))
      · refine lv_aload_n hx hb dX2_hopTowards_8 rfl (lv_at hl 0 rfl) ?_
        refine va_get (D := G.1) (ci := 1) (v := .ref (a 6)) (C := RX2) (T := TX2) (N := 12) hx hb hts uX2 hown hK hP 0 rfl rfl 3 (by decide) (hts (.fieldLink RX2 25 "ChordOverlay" "fingers" "LChordOverlay$Table;") (by decide +kernel)) (fun _ h9 => h9) rfl dX2_hopTowards_9 ?_
        refine lv_iload_n hx hb dX2_hopTowards_12 rfl (lv_at hl 2 rfl) ?_
        refine lv_iload hx hb dX2_hopTowards_13 (lv_at hl 4 rfl) ?_
        refine co_rV (As := [.int n, .int (nI d)]) (rest := []) S (c_X1_at l G (a 6) (a 7) 6 (σ 3) n (nI d) (by decide)) (cwV 2 hts gX2_hopTowards_X1_at rfl rfl rfl (by decide +kernel) ⟨Nat.le_of_ble_eq_true rfl, Nat.le_of_ble_eq_true rfl⟩) hK (pG_perm hP [6, 7] rfl) (va_recv hK hP (ci := 0) (q0 := 6) rfl rfl) rfl hl.1 rfl (Nat.le_of_ble_eq_true rfl) dX2_hopTowards_15 ⟨Nat.zero_le _, Nat.zero_le _⟩ ?_
        refine lv_istore (lv' := [(5, .int (tat 6 (σ 3) n (nI d))), (0, .ref (a 0)), (1, .int key), (2, .int n), (3, .int nx), (4, .int (nI d))]) hx hb dX2_hopTowards_18 hl (by decide) rfl (fun ls hl => ?_)
        refine lv_aload_n hx hb dX2_hopTowards_20 rfl (lv_at hl 1 rfl) ?_
        refine lv_iload hx hb dX2_hopTowards_21 (lv_at hl 0 rfl) ?_
        refine co_rV (As := [.int (tat 6 (σ 3) n (nI d))]) (rest := []) S (c_X2_isAlive l G a σ ρ (tat 6 (σ 3) n (nI d))) (cwV 1 hts gX2_hopTowards_X2_isAlive rfl rfl rfl (by decide +kernel) ⟨Nat.le_of_ble_eq_true rfl, Nat.le_of_ble_eq_true rfl⟩) hK hP (va_recv hK hP (ci := 1) (q0 := 0) rfl rfl) rfl hl.1 rfl (Nat.le_of_ble_eq_true rfl) dX2_hopTowards_23 ⟨Nat.zero_le _, Nat.zero_le _⟩ ?_
        refine co_ifeq (tgt := 42) S dX2_hopTowards_26 (by decide) (fun c_3 => ?_) (fun c_3 => ?_)
        · refine lv_iinc (v := ((nI d) + (-1))) (lv' := [(4, .int ((nI d) + (-1))), (5, .int (tat 6 (σ 3) n (nI d))), (0, .ref (a 0)), (1, .int key), (2, .int n), (3, .int nx)]) hx hb dX2_hopTowards_42 hl (k := 5) rfl rfl (by decide) rfl (fun ls hl => ?_)
          refine lv_goto (tgt := 3) hx hb dX2_hopTowards_45 (by decide) ?_
          exact ih _ (by omega) rfl (by rw [← h9]; simp only [hopT, c_3, eq_self, Bool.false_eq_true, ↓reduceIte]) ls (lv_sub hl [2, 3, 4, 5, 0] rfl)
        · refine lv_iload hx hb dX2_hopTowards_29 (lv_at hl 0 rfl) ?_
          refine lv_iload_n hx hb dX2_hopTowards_31 rfl (lv_at hl 3 rfl) ?_
          refine lv_iload_n hx hb dX2_hopTowards_32 rfl (lv_at hl 2 rfl) ?_
          refine co_rS (As := [.int (tat 6 (σ 3) n (nI d)), .int n, .int key]) (rest := []) S (c_X0_isBetween l G (tat 6 (σ 3) n (nI d)) n key) (va_cwS 3 hts gX2_hopTowards_X0_isBetween rfl rfl rfl (by decide +kernel) ⟨Nat.le_of_ble_eq_true rfl, Nat.le_of_ble_eq_true rfl⟩) hK (pG_nil) rfl hl.1 rfl (Nat.le_of_ble_eq_true rfl) dX2_hopTowards_33 ⟨Nat.zero_le _, Nat.zero_le _⟩ ?_
          refine co_ifeq (tgt := 42) S dX2_hopTowards_36 (by decide) (fun c_4 => ?_) (fun c_4 => ?_)
          · refine lv_iinc (v := ((nI d) + (-1))) (lv' := [(4, .int ((nI d) + (-1))), (5, .int (tat 6 (σ 3) n (nI d))), (0, .ref (a 0)), (1, .int key), (2, .int n), (3, .int nx)]) hx hb dX2_hopTowards_42 hl (k := 5) rfl rfl (by decide) rfl (fun ls hl => ?_)
            refine lv_goto (tgt := 3) hx hb dX2_hopTowards_45 (by decide) ?_
            exact ih _ (by omega) rfl (by rw [← h9]; simp only [hopT, c_3, c_4, eq_self, Bool.false_eq_true, ↓reduceIte]) ls (lv_sub hl [2, 3, 4, 5, 0] rfl)
          · refine lv_iload hx hb dX2_hopTowards_39 (lv_at hl 0 rfl) ?_
            exact co_endR S hr hlocks dX2_hopTowards_41 (by rw [← h9]; simp only [hopT, c_3, c_4, eq_self, Bool.false_eq_true, ↓reduceIte])
  exact LP 6 _ (Nat.le_refl 6) (by decide) rfl ls (lv_sub hl [1, 2, 3, 4, 0] rfl)

abbrev rm_X2_firstLivingUpFrom : Room := { frames := 1, cells := 0, slots := 0, locals := 21 }
set_option maxHeartbeats 4000000 in
set_option maxRecDepth 100000 in
theorem c_X2_firstLivingUpFrom (l : Launch) (G : cG) (a : Nat → Nat) (σ ρ : cS) (x : Int32) : MetR l yX2_firstLivingUpFrom wsX2_firstLivingUpFrom rm_X2_firstLivingUpFrom G (wO G a σ ρ) [.ref (a 0), .int x] (upF (σ 0) x 64 0) := by
  refine co_bodyR (cc := cX2_firstLivingUpFrom) (maxL := 4) (ret := (some .int)) (by decide) rfl (Nat.le_of_ble_eq_true rfl) ?_
  intro p e s m args below meth c S hr hlocks hK hP ls hl
  have S : CallFix p m c cX2_firstLivingUpFrom 4 s args wsX2_firstLivingUpFrom RX2 := S
  obtain ⟨hx, hb, hml, hown, hts⟩ := id S
  have hl : lv_has ls 4 [(0, .ref (a 0)), (1, .int x)] := hl
  refine lv_iconst (v := 0) hx hb dX2_firstLivingUpFrom_0 (by decide) ?_
  refine lv_istore_n (lv' := [(2, .int 0), (0, .ref (a 0)), (1, .int x)]) hx hb dX2_firstLivingUpFrom_1 rfl hl (by decide) rfl (fun ls hl => ?_)
  have LP : ∀ (d : Nat) (k : Nat), k + d = 64 → upF (σ 0) x d k = upF (σ 0) x 64 0 → ∀ ls : Array Slot, lv_has ls 4 [(0, .ref (a 0)), (1, .int x), (2, .int (nI k))] → W p l e rm_X2_firstLivingUpFrom s m args below meth c s.heap [] 0 0 (QR below (upF (σ 0) x 64 0) args s) (F0 m 2 ls []) := by
    intro d
    induction d with
    | zero =>
      intro k hk h9 ls hl
      refine lv_iload_n hx hb dX2_firstLivingUpFrom_2 rfl (lv_at hl 2 rfl) ?_
      refine lv_bipush (v := 64) hx hb dX2_firstLivingUpFrom_3 (by decide) ?_
      refine lv_icmp_ge (tgt := 30) hx hb dX2_firstLivingUpFrom_5 (by decide) (fun c_1 => ?_) (fun c_1 => ?_)
      · refine lv_iconst (v := (-1)) hx hb dX2_firstLivingUpFrom_30 (by decide) ?_
        exact co_endR S hr hlocks dX2_firstLivingUpFrom_31 (by rw [← h9]; rfl)
      · exact absurd (nI_le (a := 64) (b := k) (by omega) (by omega)) c_1
    | succ d ih =>
      intro k hk h9 ls hl
      refine lv_iload_n hx hb dX2_firstLivingUpFrom_2 rfl (lv_at hl 2 rfl) ?_
      refine lv_bipush (v := 64) hx hb dX2_firstLivingUpFrom_3 (by decide) ?_
      refine lv_icmp_ge (tgt := 30) hx hb dX2_firstLivingUpFrom_5 (by decide) (fun c_2 => ?_) (fun c_2 => ?_)
      · exact absurd c_2 (nI_ge (a := k) (b := 64) (by omega) (by omega))
      · refine lv_iload_n hx hb dX2_firstLivingUpFrom_8 rfl (lv_at hl 1 rfl) ?_
        refine lv_iload_n hx hb dX2_firstLivingUpFrom_9 rfl (lv_at hl 2 rfl) ?_
        refine co_rS (As := [.int x, .int (nI k)]) (rest := []) S (c_X0_onward l G x (nI k)) (va_cwS 2 hts gX2_firstLivingUpFrom_X0_onward rfl rfl rfl (by decide +kernel) ⟨Nat.le_of_ble_eq_true rfl, Nat.le_of_ble_eq_true rfl⟩) hK (pG_nil) rfl hl.1 rfl (Nat.le_of_ble_eq_true rfl) dX2_firstLivingUpFrom_10 ⟨Nat.zero_le _, Nat.zero_le _⟩ ?_
        refine lv_istore_n (lv' := [(3, .int (onw x (nI k))), (0, .ref (a 0)), (1, .int x), (2, .int (nI k))]) hx hb dX2_firstLivingUpFrom_13 rfl hl (by decide) rfl (fun ls hl => ?_)
        refine lv_aload_n hx hb dX2_firstLivingUpFrom_14 rfl (lv_at hl 1 rfl) ?_
        refine lv_iload_n hx hb dX2_firstLivingUpFrom_15 rfl (lv_at hl 0 rfl) ?_
        refine co_rV (As := [.int (onw x (nI k))]) (rest := []) S (c_X2_isAlive l G a σ ρ (onw x (nI k))) (cwV 1 hts gX2_firstLivingUpFrom_X2_isAlive rfl rfl rfl (by decide +kernel) ⟨Nat.le_of_ble_eq_true rfl, Nat.le_of_ble_eq_true rfl⟩) hK hP (va_recv hK hP (ci := 1) (q0 := 0) rfl rfl) rfl hl.1 rfl (Nat.le_of_ble_eq_true rfl) dX2_firstLivingUpFrom_16 ⟨Nat.zero_le _, Nat.zero_le _⟩ ?_
        refine co_ifeq (tgt := 24) S dX2_firstLivingUpFrom_19 (by decide) (fun c_3 => ?_) (fun c_3 => ?_)
        · refine lv_iinc (v := (nI (k + 1))) (lv' := [(2, .int (nI (k + 1))), (3, .int (onw x (nI k))), (0, .ref (a 0)), (1, .int x)]) hx hb dX2_firstLivingUpFrom_24 hl (k := 3) rfl (nI_1 k) (by decide) rfl (fun ls hl => ?_)
          refine lv_goto (tgt := 2) hx hb dX2_firstLivingUpFrom_27 (by decide) ?_
          exact ih (k + 1) (by omega) (by rw [← h9]; simp only [upF, c_3, eq_self, Bool.false_eq_true, ↓reduceIte]) ls (lv_sub hl [2, 3, 0] rfl)
        · refine lv_iload_n hx hb dX2_firstLivingUpFrom_22 rfl (lv_at hl 0 rfl) ?_
          exact co_endR S hr hlocks dX2_firstLivingUpFrom_23 (by rw [← h9]; simp only [upF, c_3, eq_self, Bool.false_eq_true, ↓reduceIte])
  exact LP 64 0 rfl rfl ls (lv_sub hl [1, 2, 0] rfl)

abbrev rm_X2_firstLivingDownFrom : Room := { frames := 1, cells := 0, slots := 0, locals := 21 }
set_option maxHeartbeats 4000000 in
set_option maxRecDepth 100000 in
theorem c_X2_firstLivingDownFrom (l : Launch) (G : cG) (a : Nat → Nat) (σ ρ : cS) (x : Int32) : MetR l yX2_firstLivingDownFrom wsX2_firstLivingDownFrom rm_X2_firstLivingDownFrom G (wO G a σ ρ) [.ref (a 0), .int x] (dnF (σ 0) x 64 0) := by
  refine co_bodyR (cc := cX2_firstLivingDownFrom) (maxL := 4) (ret := (some .int)) (by decide) rfl (Nat.le_of_ble_eq_true rfl) ?_
  intro p e s m args below meth c S hr hlocks hK hP ls hl
  have S : CallFix p m c cX2_firstLivingDownFrom 4 s args wsX2_firstLivingDownFrom RX2 := S
  obtain ⟨hx, hb, hml, hown, hts⟩ := id S
  have hl : lv_has ls 4 [(0, .ref (a 0)), (1, .int x)] := hl
  refine lv_iconst (v := 0) hx hb dX2_firstLivingDownFrom_0 (by decide) ?_
  refine lv_istore_n (lv' := [(2, .int 0), (0, .ref (a 0)), (1, .int x)]) hx hb dX2_firstLivingDownFrom_1 rfl hl (by decide) rfl (fun ls hl => ?_)
  have LP : ∀ (d : Nat) (k : Nat), k + d = 64 → dnF (σ 0) x d k = dnF (σ 0) x 64 0 → ∀ ls : Array Slot, lv_has ls 4 [(0, .ref (a 0)), (1, .int x), (2, .int (nI k))] → W p l e rm_X2_firstLivingDownFrom s m args below meth c s.heap [] 0 0 (QR below (dnF (σ 0) x 64 0) args s) (F0 m 2 ls []) := by
    intro d
    induction d with
    | zero =>
      intro k hk h9 ls hl
      refine lv_iload_n hx hb dX2_firstLivingDownFrom_2 rfl (lv_at hl 2 rfl) ?_
      refine lv_bipush (v := 64) hx hb dX2_firstLivingDownFrom_3 (by decide) ?_
      refine lv_icmp_ge (tgt := 31) hx hb dX2_firstLivingDownFrom_5 (by decide) (fun c_1 => ?_) (fun c_1 => ?_)
      · refine lv_iconst (v := (-1)) hx hb dX2_firstLivingDownFrom_31 (by decide) ?_
        exact co_endR S hr hlocks dX2_firstLivingDownFrom_32 (by rw [← h9]; rfl)
      · exact absurd (nI_le (a := 64) (b := k) (by omega) (by omega)) c_1
    | succ d ih =>
      intro k hk h9 ls hl
      refine lv_iload_n hx hb dX2_firstLivingDownFrom_2 rfl (lv_at hl 2 rfl) ?_
      refine lv_bipush (v := 64) hx hb dX2_firstLivingDownFrom_3 (by decide) ?_
      refine lv_icmp_ge (tgt := 31) hx hb dX2_firstLivingDownFrom_5 (by decide) (fun c_2 => ?_) (fun c_2 => ?_)
      · exact absurd c_2 (nI_ge (a := k) (b := 64) (by omega) (by omega))
      · refine lv_iload_n hx hb dX2_firstLivingDownFrom_8 rfl (lv_at hl 1 rfl) ?_
        refine lv_iload_n hx hb dX2_firstLivingDownFrom_9 rfl (lv_at hl 2 rfl) ?_
        refine lv_ineg hx hb dX2_firstLivingDownFrom_10 ?_
        refine co_rS (As := [.int x, .int (-(nI k))]) (rest := []) S (c_X0_onward l G x (-(nI k))) (va_cwS 2 hts gX2_firstLivingDownFrom_X0_onward rfl rfl rfl (by decide +kernel) ⟨Nat.le_of_ble_eq_true rfl, Nat.le_of_ble_eq_true rfl⟩) hK (pG_nil) rfl hl.1 rfl (Nat.le_of_ble_eq_true rfl) dX2_firstLivingDownFrom_11 ⟨Nat.zero_le _, Nat.zero_le _⟩ ?_
        refine lv_istore_n (lv' := [(3, .int (onw x (-(nI k)))), (0, .ref (a 0)), (1, .int x), (2, .int (nI k))]) hx hb dX2_firstLivingDownFrom_14 rfl hl (by decide) rfl (fun ls hl => ?_)
        refine lv_aload_n hx hb dX2_firstLivingDownFrom_15 rfl (lv_at hl 1 rfl) ?_
        refine lv_iload_n hx hb dX2_firstLivingDownFrom_16 rfl (lv_at hl 0 rfl) ?_
        refine co_rV (As := [.int (onw x (-(nI k)))]) (rest := []) S (c_X2_isAlive l G a σ ρ (onw x (-(nI k)))) (cwV 1 hts gX2_firstLivingDownFrom_X2_isAlive rfl rfl rfl (by decide +kernel) ⟨Nat.le_of_ble_eq_true rfl, Nat.le_of_ble_eq_true rfl⟩) hK hP (va_recv hK hP (ci := 1) (q0 := 0) rfl rfl) rfl hl.1 rfl (Nat.le_of_ble_eq_true rfl) dX2_firstLivingDownFrom_17 ⟨Nat.zero_le _, Nat.zero_le _⟩ ?_
        refine co_ifeq (tgt := 25) S dX2_firstLivingDownFrom_20 (by decide) (fun c_3 => ?_) (fun c_3 => ?_)
        · refine lv_iinc (v := (nI (k + 1))) (lv' := [(2, .int (nI (k + 1))), (3, .int (onw x (-(nI k)))), (0, .ref (a 0)), (1, .int x)]) hx hb dX2_firstLivingDownFrom_25 hl (k := 3) rfl (nI_1 k) (by decide) rfl (fun ls hl => ?_)
          refine lv_goto (tgt := 2) hx hb dX2_firstLivingDownFrom_28 (by decide) ?_
          exact ih (k + 1) (by omega) (by rw [← h9]; simp only [dnF, c_3, eq_self, Bool.false_eq_true, ↓reduceIte]) ls (lv_sub hl [2, 3, 0] rfl)
        · refine lv_iload_n hx hb dX2_firstLivingDownFrom_23 rfl (lv_at hl 0 rfl) ?_
          exact co_endR S hr hlocks dX2_firstLivingDownFrom_24 (by rw [← h9]; simp only [dnF, c_3, eq_self, Bool.false_eq_true, ↓reduceIte])
  exact LP 64 0 rfl rfl ls (lv_sub hl [1, 2, 0] rfl)

set_option maxRecDepth 20000 in
theorem uX2_X2_countWrongPointersOf : ∀ w ∈ u_ws RX2 TX2 12, w ∈ wsX2_countWrongPointersOf := by decide +kernel
abbrev rm_X2_countWrongPointersOf : Room := { frames := 2, cells := 0, slots := 0, locals := 46 }
set_option maxHeartbeats 4000000 in
set_option maxRecDepth 100000 in
theorem c_X2_countWrongPointersOf (l : Launch) (G : cG) (a : Nat → Nat) (σ ρ : cS) (n : Int32) : MetR l yX2_countWrongPointersOf wsX2_countWrongPointersOf rm_X2_countWrongPointersOf G (wO G a σ ρ) [.ref (a 0), .int n] (wrg σ n) := by
  refine co_bodyR (cc := cX2_countWrongPointersOf) (maxL := 4) (ret := (some .int)) (by decide) rfl (Nat.le_of_ble_eq_true rfl) ?_
  intro p e s m args below meth c S hr hlocks hK hP ls hl
  have S : CallFix p m c cX2_countWrongPointersOf 4 s args wsX2_countWrongPointersOf RX2 := S
  obtain ⟨hx, hb, hml, hown, hts⟩ := id S
  have hl : lv_has ls 4 [(0, .ref (a 0)), (1, .int n)] := hl
  have uX2 := uX2_X2_countWrongPointersOf
  refine lv_iconst (v := 0) hx hb dX2_countWrongPointersOf_0 (by decide) ?_
  refine lv_istore_n (lv' := [(2, .int 0), (0, .ref (a 0)), (1, .int n)]) hx hb dX2_countWrongPointersOf_1 rfl hl (by decide) rfl (fun ls hl => ?_)
  refine lv_aload_n hx hb dX2_countWrongPointersOf_2 rfl (lv_at hl 1 rfl) ?_
  refine lv_iload_n hx hb dX2_countWrongPointersOf_3 rfl (lv_at hl 2 rfl) ?_
  refine co_rV (As := [.int n]) (rest := []) S (c_X2_firstLivingSuccessor l G a σ ρ n) (cwV 1 hts gX2_countWrongPointersOf_X2_firstLivingSuccessor rfl rfl rfl (by decide +kernel) ⟨Nat.le_of_ble_eq_true rfl, Nat.le_of_ble_eq_true rfl⟩) hK hP (va_recv hK hP (ci := 1) (q0 := 0) rfl rfl) rfl hl.1 rfl (Nat.le_of_ble_eq_true rfl) dX2_countWrongPointersOf_4 ⟨Nat.zero_le _, Nat.zero_le _⟩ ?_
  refine lv_aload_n hx hb dX2_countWrongPointersOf_7 rfl (lv_at hl 1 rfl) ?_
  refine lv_iload_n hx hb dX2_countWrongPointersOf_8 rfl (lv_at hl 2 rfl) ?_
  refine lv_iconst (v := 1) hx hb dX2_countWrongPointersOf_9 (by decide) ?_
  refine co_rS (As := [.int n, .int 1]) (rest := [.ref (a 0), .int (lsF (σ 0) (σ 1) n)]) S (c_X0_onward l G n 1) (va_cwS 2 hts gX2_countWrongPointersOf_X0_onward rfl rfl rfl (by decide +kernel) ⟨Nat.le_of_ble_eq_true rfl, Nat.le_of_ble_eq_true rfl⟩) hK (pG_nil) rfl hl.1 rfl (Nat.le_of_ble_eq_true rfl) dX2_countWrongPointersOf_10 ⟨Nat.zero_le _, Nat.zero_le _⟩ ?_
  refine co_rV (As := [.int (onw n 1)]) (rest := [.int (lsF (σ 0) (σ 1) n)]) S (c_X2_firstLivingUpFrom l G a σ ρ (onw n 1)) (cwV 1 hts gX2_countWrongPointersOf_X2_firstLivingUpFrom rfl rfl rfl (by decide +kernel) ⟨Nat.le_of_ble_eq_true rfl, Nat.le_of_ble_eq_true rfl⟩) hK hP (va_recv hK hP (ci := 1) (q0 := 0) rfl rfl) rfl hl.1 rfl (Nat.le_of_ble_eq_true rfl) dX2_countWrongPointersOf_13 ⟨Nat.zero_le _, Nat.zero_le _⟩ ?_
  refine lv_icmp_eq (tgt := 22) hx hb dX2_countWrongPointersOf_16 (by decide) (fun c_1 => ?_) (fun c_1 => ?_)
  · refine lv_aload_n hx hb dX2_countWrongPointersOf_22 rfl (lv_at hl 1 rfl) ?_
    refine va_get (D := G.1) (ci := 1) (v := .ref (a 4)) (C := RX2) (T := TX2) (N := 12) hx hb hts uX2 hown hK hP 0 rfl rfl 2 (by decide) (hts (.fieldLink RX2 22 "ChordOverlay" "predecessors" "LChordOverlay$Table;") (by decide +kernel)) (fun _ h9 => h9) rfl dX2_countWrongPointersOf_23 ?_
    refine lv_iload_n hx hb dX2_countWrongPointersOf_26 rfl (lv_at hl 2 rfl) ?_
    refine lv_iconst (v := 0) hx hb dX2_countWrongPointersOf_27 (by decide) ?_
    refine co_rV (As := [.int n, .int 0]) (rest := []) S (c_X1_at l G (a 4) (a 5) 1 (σ 2) n 0 (by decide)) (cwV 2 hts gX2_countWrongPointersOf_X1_at rfl rfl rfl (by decide +kernel) ⟨Nat.le_of_ble_eq_true rfl, Nat.le_of_ble_eq_true rfl⟩) hK (pG_perm hP [4, 5] rfl) (va_recv hK hP (ci := 0) (q0 := 4) rfl rfl) rfl hl.1 rfl (Nat.le_of_ble_eq_true rfl) dX2_countWrongPointersOf_28 ⟨Nat.zero_le _, Nat.zero_le _⟩ ?_
    refine lv_aload_n hx hb dX2_countWrongPointersOf_31 rfl (lv_at hl 1 rfl) ?_
    refine lv_iload_n hx hb dX2_countWrongPointersOf_32 rfl (lv_at hl 2 rfl) ?_
    refine lv_iconst (v := (-1)) hx hb dX2_countWrongPointersOf_33 (by decide) ?_
    refine co_rS (As := [.int n, .int (-1)]) (rest := [.ref (a 0), .int (tat 1 (σ 2) n 0)]) S (c_X0_onward l G n (-1)) (va_cwS 2 hts gX2_countWrongPointersOf_X0_onward rfl rfl rfl (by decide +kernel) ⟨Nat.le_of_ble_eq_true rfl, Nat.le_of_ble_eq_true rfl⟩) hK (pG_nil) rfl hl.1 rfl (Nat.le_of_ble_eq_true rfl) dX2_countWrongPointersOf_34 ⟨Nat.zero_le _, Nat.zero_le _⟩ ?_
    refine co_rV (As := [.int (onw n (-1))]) (rest := [.int (tat 1 (σ 2) n 0)]) S (c_X2_firstLivingDownFrom l G a σ ρ (onw n (-1))) (cwV 1 hts gX2_countWrongPointersOf_X2_firstLivingDownFrom rfl rfl rfl (by decide +kernel) ⟨Nat.le_of_ble_eq_true rfl, Nat.le_of_ble_eq_true rfl⟩) hK hP (va_recv hK hP (ci := 1) (q0 := 0) rfl rfl) rfl hl.1 rfl (Nat.le_of_ble_eq_true rfl) dX2_countWrongPointersOf_37 ⟨Nat.zero_le _, Nat.zero_le _⟩ ?_
    refine lv_icmp_eq (tgt := 46) hx hb dX2_countWrongPointersOf_40 (by decide) (fun c_2 => ?_) (fun c_2 => ?_)
    · refine lv_iconst (v := 0) hx hb dX2_countWrongPointersOf_46 (by decide) ?_
      refine lv_istore_n (lv' := [(3, .int 0), (2, .int 0), (0, .ref (a 0)), (1, .int n)]) hx hb dX2_countWrongPointersOf_47 rfl hl (by decide) rfl (fun ls hl => ?_)
      have LP : ∀ (d : Nat) (k : Nat) (x : Int32), k + d = 6 → x = wF (σ 0) (σ 3) n (w2S (σ 0) (σ 2) n (w1S (σ 0) (σ 1) n)) k → ∀ ls : Array Slot, lv_has ls 4 [(0, .ref (a 0)), (1, .int n), (2, .int x), (3, .int (nI k))] → W p l e rm_X2_countWrongPointersOf s m args below meth c s.heap [] 0 0 (QR below (wrg σ n) args s) (F0 m 48 ls []) := by
        intro d
        induction d with
        | zero =>
          intro k x hk hx9 ls hl
          refine lv_iload_n hx hb dX2_countWrongPointersOf_48 rfl (lv_at hl 3 rfl) ?_
          refine lv_bipush (v := 6) hx hb dX2_countWrongPointersOf_49 (by decide) ?_
          refine lv_icmp_ge (tgt := 84) hx hb dX2_countWrongPointersOf_51 (by decide) (fun c_3 => ?_) (fun c_3 => ?_)
          · refine lv_iload_n hx hb dX2_countWrongPointersOf_84 rfl (lv_at hl 2 rfl) ?_
            exact co_endR S hr hlocks dX2_countWrongPointersOf_85 (by rw [hx9, show k = 6 by omega]; rfl)
          · exact absurd (nI_le (a := 6) (b := k) (by omega) (by omega)) c_3
        | succ d ih =>
          intro k x hk hx9 ls hl
          refine lv_iload_n hx hb dX2_countWrongPointersOf_48 rfl (lv_at hl 3 rfl) ?_
          refine lv_bipush (v := 6) hx hb dX2_countWrongPointersOf_49 (by decide) ?_
          refine lv_icmp_ge (tgt := 84) hx hb dX2_countWrongPointersOf_51 (by decide) (fun c_4 => ?_) (fun c_4 => ?_)
          · exact absurd c_4 (nI_ge (a := k) (b := 6) (by omega) (by omega))
          · refine lv_aload_n hx hb dX2_countWrongPointersOf_54 rfl (lv_at hl 0 rfl) ?_
            refine va_get (D := G.1) (ci := 1) (v := .ref (a 6)) (C := RX2) (T := TX2) (N := 12) hx hb hts uX2 hown hK hP 0 rfl rfl 3 (by decide) (hts (.fieldLink RX2 25 "ChordOverlay" "fingers" "LChordOverlay$Table;") (by decide +kernel)) (fun _ h9 => h9) rfl dX2_countWrongPointersOf_55 ?_
            refine lv_iload_n hx hb dX2_countWrongPointersOf_58 rfl (lv_at hl 1 rfl) ?_
            refine lv_iload_n hx hb dX2_countWrongPointersOf_59 rfl (lv_at hl 3 rfl) ?_
            refine co_rV (As := [.int n, .int (nI k)]) (rest := []) S (c_X1_at l G (a 6) (a 7) 6 (σ 3) n (nI k) (by decide)) (cwV 2 hts gX2_countWrongPointersOf_X1_at rfl rfl rfl (by decide +kernel) ⟨Nat.le_of_ble_eq_true rfl, Nat.le_of_ble_eq_true rfl⟩) hK (pG_perm hP [6, 7] rfl) (va_recv hK hP (ci := 0) (q0 := 6) rfl rfl) rfl hl.1 rfl (Nat.le_of_ble_eq_true rfl) dX2_countWrongPointersOf_60 ⟨Nat.zero_le _, Nat.zero_le _⟩ ?_
            refine lv_aload_n hx hb dX2_countWrongPointersOf_63 rfl (lv_at hl 0 rfl) ?_
            refine lv_iload_n hx hb dX2_countWrongPointersOf_64 rfl (lv_at hl 1 rfl) ?_
            refine lv_iload_n hx hb dX2_countWrongPointersOf_65 rfl (lv_at hl 3 rfl) ?_
            refine co_rS (As := [.int n, .int (nI k)]) (rest := [.ref (a 0), .int (tat 6 (σ 3) n (nI k))]) S (c_X0_fingerStart l G n (nI k)) (va_cwS 2 hts gX2_countWrongPointersOf_X0_fingerStart rfl rfl rfl (by decide +kernel) ⟨Nat.le_of_ble_eq_true rfl, Nat.le_of_ble_eq_true rfl⟩) hK (pG_nil) rfl hl.1 rfl (Nat.le_of_ble_eq_true rfl) dX2_countWrongPointersOf_66 ⟨Nat.zero_le _, Nat.zero_le _⟩ ?_
            refine co_rV (As := [.int (fgs n (nI k))]) (rest := [.int (tat 6 (σ 3) n (nI k))]) S (c_X2_firstLivingUpFrom l G a σ ρ (fgs n (nI k))) (cwV 1 hts gX2_countWrongPointersOf_X2_firstLivingUpFrom rfl rfl rfl (by decide +kernel) ⟨Nat.le_of_ble_eq_true rfl, Nat.le_of_ble_eq_true rfl⟩) hK hP (va_recv hK hP (ci := 1) (q0 := 0) rfl rfl) rfl hl.1 rfl (Nat.le_of_ble_eq_true rfl) dX2_countWrongPointersOf_69 ⟨Nat.zero_le _, Nat.zero_le _⟩ ?_
            refine lv_icmp_eq (tgt := 78) hx hb dX2_countWrongPointersOf_72 (by decide) (fun c_5 => ?_) (fun c_5 => ?_)
            · refine lv_iinc (v := (nI (k + 1))) (lv' := [(3, .int (nI (k + 1))), (0, .ref (a 0)), (1, .int n), (2, .int x)]) hx hb dX2_countWrongPointersOf_78 hl (k := 3) rfl (nI_1 k) (by decide) rfl (fun ls hl => ?_)
              refine lv_goto (tgt := 48) hx hb dX2_countWrongPointersOf_81 (by decide) ?_
              exact ih (k + 1) _ (by omega) (by subst hx9; simp only [wF, (eq_true c_5), eq_self, Bool.false_eq_true, ↓reduceIte]) ls (lv_sub hl [1, 2, 3, 0] rfl)
            · refine lv_iinc (v := (x + 1)) (lv' := [(2, .int (x + 1)), (0, .ref (a 0)), (1, .int n), (3, .int (nI k))]) hx hb dX2_countWrongPointersOf_75 hl (k := 2) rfl rfl (by decide) rfl (fun ls hl => ?_)
              refine lv_iinc (v := (nI (k + 1))) (lv' := [(3, .int (nI (k + 1))), (2, .int (x + 1)), (0, .ref (a 0)), (1, .int n)]) hx hb dX2_countWrongPointersOf_78 hl (k := 3) rfl (nI_1 k) (by decide) rfl (fun ls hl => ?_)
              refine lv_goto (tgt := 48) hx hb dX2_countWrongPointersOf_81 (by decide) ?_
              exact ih (k + 1) _ (by omega) (by subst hx9; simp only [wF, c_5, eq_self, Bool.false_eq_true, ↓reduceIte]) ls (lv_sub hl [2, 3, 1, 0] rfl)
      exact LP 6 0 _ rfl (by simp only [wF, w1S, w2S, (eq_true c_1), (eq_true c_2), ↓reduceIte] <;> decide) ls (lv_sub hl [2, 3, 1, 0] rfl)
    · refine lv_iinc (v := 1) (lv' := [(2, .int 1), (0, .ref (a 0)), (1, .int n)]) hx hb dX2_countWrongPointersOf_43 hl (k := 0) rfl (by decide) (by decide) rfl (fun ls hl => ?_)
      refine lv_iconst (v := 0) hx hb dX2_countWrongPointersOf_46 (by decide) ?_
      refine lv_istore_n (lv' := [(3, .int 0), (2, .int 1), (0, .ref (a 0)), (1, .int n)]) hx hb dX2_countWrongPointersOf_47 rfl hl (by decide) rfl (fun ls hl => ?_)
      have LP : ∀ (d : Nat) (k : Nat) (x : Int32), k + d = 6 → x = wF (σ 0) (σ 3) n (w2S (σ 0) (σ 2) n (w1S (σ 0) (σ 1) n)) k → ∀ ls : Array Slot, lv_has ls 4 [(0, .ref (a 0)), (1, .int n), (2, .int x), (3, .int (nI k))] → W p l e rm_X2_countWrongPointersOf s m args below meth c s.heap [] 0 0 (QR below (wrg σ n) args s) (F0 m 48 ls []) := by
        intro d
        induction d with
        | zero =>
          intro k x hk hx9 ls hl
          refine lv_iload_n hx hb dX2_countWrongPointersOf_48 rfl (lv_at hl 3 rfl) ?_
          refine lv_bipush (v := 6) hx hb dX2_countWrongPointersOf_49 (by decide) ?_
          refine lv_icmp_ge (tgt := 84) hx hb dX2_countWrongPointersOf_51 (by decide) (fun c_6 => ?_) (fun c_6 => ?_)
          · refine lv_iload_n hx hb dX2_countWrongPointersOf_84 rfl (lv_at hl 2 rfl) ?_
            exact co_endR S hr hlocks dX2_countWrongPointersOf_85 (by rw [hx9, show k = 6 by omega]; rfl)
          · exact absurd (nI_le (a := 6) (b := k) (by omega) (by omega)) c_6
        | succ d ih =>
          intro k x hk hx9 ls hl
          refine lv_iload_n hx hb dX2_countWrongPointersOf_48 rfl (lv_at hl 3 rfl) ?_
          refine lv_bipush (v := 6) hx hb dX2_countWrongPointersOf_49 (by decide) ?_
          refine lv_icmp_ge (tgt := 84) hx hb dX2_countWrongPointersOf_51 (by decide) (fun c_7 => ?_) (fun c_7 => ?_)
          · exact absurd c_7 (nI_ge (a := k) (b := 6) (by omega) (by omega))
          · refine lv_aload_n hx hb dX2_countWrongPointersOf_54 rfl (lv_at hl 0 rfl) ?_
            refine va_get (D := G.1) (ci := 1) (v := .ref (a 6)) (C := RX2) (T := TX2) (N := 12) hx hb hts uX2 hown hK hP 0 rfl rfl 3 (by decide) (hts (.fieldLink RX2 25 "ChordOverlay" "fingers" "LChordOverlay$Table;") (by decide +kernel)) (fun _ h9 => h9) rfl dX2_countWrongPointersOf_55 ?_
            refine lv_iload_n hx hb dX2_countWrongPointersOf_58 rfl (lv_at hl 1 rfl) ?_
            refine lv_iload_n hx hb dX2_countWrongPointersOf_59 rfl (lv_at hl 3 rfl) ?_
            refine co_rV (As := [.int n, .int (nI k)]) (rest := []) S (c_X1_at l G (a 6) (a 7) 6 (σ 3) n (nI k) (by decide)) (cwV 2 hts gX2_countWrongPointersOf_X1_at rfl rfl rfl (by decide +kernel) ⟨Nat.le_of_ble_eq_true rfl, Nat.le_of_ble_eq_true rfl⟩) hK (pG_perm hP [6, 7] rfl) (va_recv hK hP (ci := 0) (q0 := 6) rfl rfl) rfl hl.1 rfl (Nat.le_of_ble_eq_true rfl) dX2_countWrongPointersOf_60 ⟨Nat.zero_le _, Nat.zero_le _⟩ ?_
            refine lv_aload_n hx hb dX2_countWrongPointersOf_63 rfl (lv_at hl 0 rfl) ?_
            refine lv_iload_n hx hb dX2_countWrongPointersOf_64 rfl (lv_at hl 1 rfl) ?_
            refine lv_iload_n hx hb dX2_countWrongPointersOf_65 rfl (lv_at hl 3 rfl) ?_
            refine co_rS (As := [.int n, .int (nI k)]) (rest := [.ref (a 0), .int (tat 6 (σ 3) n (nI k))]) S (c_X0_fingerStart l G n (nI k)) (va_cwS 2 hts gX2_countWrongPointersOf_X0_fingerStart rfl rfl rfl (by decide +kernel) ⟨Nat.le_of_ble_eq_true rfl, Nat.le_of_ble_eq_true rfl⟩) hK (pG_nil) rfl hl.1 rfl (Nat.le_of_ble_eq_true rfl) dX2_countWrongPointersOf_66 ⟨Nat.zero_le _, Nat.zero_le _⟩ ?_
            refine co_rV (As := [.int (fgs n (nI k))]) (rest := [.int (tat 6 (σ 3) n (nI k))]) S (c_X2_firstLivingUpFrom l G a σ ρ (fgs n (nI k))) (cwV 1 hts gX2_countWrongPointersOf_X2_firstLivingUpFrom rfl rfl rfl (by decide +kernel) ⟨Nat.le_of_ble_eq_true rfl, Nat.le_of_ble_eq_true rfl⟩) hK hP (va_recv hK hP (ci := 1) (q0 := 0) rfl rfl) rfl hl.1 rfl (Nat.le_of_ble_eq_true rfl) dX2_countWrongPointersOf_69 ⟨Nat.zero_le _, Nat.zero_le _⟩ ?_
            refine lv_icmp_eq (tgt := 78) hx hb dX2_countWrongPointersOf_72 (by decide) (fun c_8 => ?_) (fun c_8 => ?_)
            · refine lv_iinc (v := (nI (k + 1))) (lv' := [(3, .int (nI (k + 1))), (0, .ref (a 0)), (1, .int n), (2, .int x)]) hx hb dX2_countWrongPointersOf_78 hl (k := 3) rfl (nI_1 k) (by decide) rfl (fun ls hl => ?_)
              refine lv_goto (tgt := 48) hx hb dX2_countWrongPointersOf_81 (by decide) ?_
              exact ih (k + 1) _ (by omega) (by subst hx9; simp only [wF, (eq_true c_8), eq_self, Bool.false_eq_true, ↓reduceIte]) ls (lv_sub hl [1, 2, 3, 0] rfl)
            · refine lv_iinc (v := (x + 1)) (lv' := [(2, .int (x + 1)), (0, .ref (a 0)), (1, .int n), (3, .int (nI k))]) hx hb dX2_countWrongPointersOf_75 hl (k := 2) rfl rfl (by decide) rfl (fun ls hl => ?_)
              refine lv_iinc (v := (nI (k + 1))) (lv' := [(3, .int (nI (k + 1))), (2, .int (x + 1)), (0, .ref (a 0)), (1, .int n)]) hx hb dX2_countWrongPointersOf_78 hl (k := 3) rfl (nI_1 k) (by decide) rfl (fun ls hl => ?_)
              refine lv_goto (tgt := 48) hx hb dX2_countWrongPointersOf_81 (by decide) ?_
              exact ih (k + 1) _ (by omega) (by subst hx9; simp only [wF, c_8, eq_self, Bool.false_eq_true, ↓reduceIte]) ls (lv_sub hl [2, 3, 1, 0] rfl)
      exact LP 6 0 _ rfl (by simp only [wF, w1S, w2S, (eq_true c_1), c_2, ↓reduceIte] <;> decide) ls (lv_sub hl [2, 3, 1, 0] rfl)
  · refine lv_iinc (v := 1) (lv' := [(2, .int 1), (0, .ref (a 0)), (1, .int n)]) hx hb dX2_countWrongPointersOf_19 hl (k := 0) rfl (by decide) (by decide) rfl (fun ls hl => ?_)
    refine lv_aload_n hx hb dX2_countWrongPointersOf_22 rfl (lv_at hl 1 rfl) ?_
    refine va_get (D := G.1) (ci := 1) (v := .ref (a 4)) (C := RX2) (T := TX2) (N := 12) hx hb hts uX2 hown hK hP 0 rfl rfl 2 (by decide) (hts (.fieldLink RX2 22 "ChordOverlay" "predecessors" "LChordOverlay$Table;") (by decide +kernel)) (fun _ h9 => h9) rfl dX2_countWrongPointersOf_23 ?_
    refine lv_iload_n hx hb dX2_countWrongPointersOf_26 rfl (lv_at hl 2 rfl) ?_
    refine lv_iconst (v := 0) hx hb dX2_countWrongPointersOf_27 (by decide) ?_
    refine co_rV (As := [.int n, .int 0]) (rest := []) S (c_X1_at l G (a 4) (a 5) 1 (σ 2) n 0 (by decide)) (cwV 2 hts gX2_countWrongPointersOf_X1_at rfl rfl rfl (by decide +kernel) ⟨Nat.le_of_ble_eq_true rfl, Nat.le_of_ble_eq_true rfl⟩) hK (pG_perm hP [4, 5] rfl) (va_recv hK hP (ci := 0) (q0 := 4) rfl rfl) rfl hl.1 rfl (Nat.le_of_ble_eq_true rfl) dX2_countWrongPointersOf_28 ⟨Nat.zero_le _, Nat.zero_le _⟩ ?_
    refine lv_aload_n hx hb dX2_countWrongPointersOf_31 rfl (lv_at hl 1 rfl) ?_
    refine lv_iload_n hx hb dX2_countWrongPointersOf_32 rfl (lv_at hl 2 rfl) ?_
    refine lv_iconst (v := (-1)) hx hb dX2_countWrongPointersOf_33 (by decide) ?_
    refine co_rS (As := [.int n, .int (-1)]) (rest := [.ref (a 0), .int (tat 1 (σ 2) n 0)]) S (c_X0_onward l G n (-1)) (va_cwS 2 hts gX2_countWrongPointersOf_X0_onward rfl rfl rfl (by decide +kernel) ⟨Nat.le_of_ble_eq_true rfl, Nat.le_of_ble_eq_true rfl⟩) hK (pG_nil) rfl hl.1 rfl (Nat.le_of_ble_eq_true rfl) dX2_countWrongPointersOf_34 ⟨Nat.zero_le _, Nat.zero_le _⟩ ?_
    refine co_rV (As := [.int (onw n (-1))]) (rest := [.int (tat 1 (σ 2) n 0)]) S (c_X2_firstLivingDownFrom l G a σ ρ (onw n (-1))) (cwV 1 hts gX2_countWrongPointersOf_X2_firstLivingDownFrom rfl rfl rfl (by decide +kernel) ⟨Nat.le_of_ble_eq_true rfl, Nat.le_of_ble_eq_true rfl⟩) hK hP (va_recv hK hP (ci := 1) (q0 := 0) rfl rfl) rfl hl.1 rfl (Nat.le_of_ble_eq_true rfl) dX2_countWrongPointersOf_37 ⟨Nat.zero_le _, Nat.zero_le _⟩ ?_
    refine lv_icmp_eq (tgt := 46) hx hb dX2_countWrongPointersOf_40 (by decide) (fun c_9 => ?_) (fun c_9 => ?_)
    · refine lv_iconst (v := 0) hx hb dX2_countWrongPointersOf_46 (by decide) ?_
      refine lv_istore_n (lv' := [(3, .int 0), (2, .int 1), (0, .ref (a 0)), (1, .int n)]) hx hb dX2_countWrongPointersOf_47 rfl hl (by decide) rfl (fun ls hl => ?_)
      have LP : ∀ (d : Nat) (k : Nat) (x : Int32), k + d = 6 → x = wF (σ 0) (σ 3) n (w2S (σ 0) (σ 2) n (w1S (σ 0) (σ 1) n)) k → ∀ ls : Array Slot, lv_has ls 4 [(0, .ref (a 0)), (1, .int n), (2, .int x), (3, .int (nI k))] → W p l e rm_X2_countWrongPointersOf s m args below meth c s.heap [] 0 0 (QR below (wrg σ n) args s) (F0 m 48 ls []) := by
        intro d
        induction d with
        | zero =>
          intro k x hk hx9 ls hl
          refine lv_iload_n hx hb dX2_countWrongPointersOf_48 rfl (lv_at hl 3 rfl) ?_
          refine lv_bipush (v := 6) hx hb dX2_countWrongPointersOf_49 (by decide) ?_
          refine lv_icmp_ge (tgt := 84) hx hb dX2_countWrongPointersOf_51 (by decide) (fun c_10 => ?_) (fun c_10 => ?_)
          · refine lv_iload_n hx hb dX2_countWrongPointersOf_84 rfl (lv_at hl 2 rfl) ?_
            exact co_endR S hr hlocks dX2_countWrongPointersOf_85 (by rw [hx9, show k = 6 by omega]; rfl)
          · exact absurd (nI_le (a := 6) (b := k) (by omega) (by omega)) c_10
        | succ d ih =>
          intro k x hk hx9 ls hl
          refine lv_iload_n hx hb dX2_countWrongPointersOf_48 rfl (lv_at hl 3 rfl) ?_
          refine lv_bipush (v := 6) hx hb dX2_countWrongPointersOf_49 (by decide) ?_
          refine lv_icmp_ge (tgt := 84) hx hb dX2_countWrongPointersOf_51 (by decide) (fun c_11 => ?_) (fun c_11 => ?_)
          · exact absurd c_11 (nI_ge (a := k) (b := 6) (by omega) (by omega))
          · refine lv_aload_n hx hb dX2_countWrongPointersOf_54 rfl (lv_at hl 0 rfl) ?_
            refine va_get (D := G.1) (ci := 1) (v := .ref (a 6)) (C := RX2) (T := TX2) (N := 12) hx hb hts uX2 hown hK hP 0 rfl rfl 3 (by decide) (hts (.fieldLink RX2 25 "ChordOverlay" "fingers" "LChordOverlay$Table;") (by decide +kernel)) (fun _ h9 => h9) rfl dX2_countWrongPointersOf_55 ?_
            refine lv_iload_n hx hb dX2_countWrongPointersOf_58 rfl (lv_at hl 1 rfl) ?_
            refine lv_iload_n hx hb dX2_countWrongPointersOf_59 rfl (lv_at hl 3 rfl) ?_
            refine co_rV (As := [.int n, .int (nI k)]) (rest := []) S (c_X1_at l G (a 6) (a 7) 6 (σ 3) n (nI k) (by decide)) (cwV 2 hts gX2_countWrongPointersOf_X1_at rfl rfl rfl (by decide +kernel) ⟨Nat.le_of_ble_eq_true rfl, Nat.le_of_ble_eq_true rfl⟩) hK (pG_perm hP [6, 7] rfl) (va_recv hK hP (ci := 0) (q0 := 6) rfl rfl) rfl hl.1 rfl (Nat.le_of_ble_eq_true rfl) dX2_countWrongPointersOf_60 ⟨Nat.zero_le _, Nat.zero_le _⟩ ?_
            refine lv_aload_n hx hb dX2_countWrongPointersOf_63 rfl (lv_at hl 0 rfl) ?_
            refine lv_iload_n hx hb dX2_countWrongPointersOf_64 rfl (lv_at hl 1 rfl) ?_
            refine lv_iload_n hx hb dX2_countWrongPointersOf_65 rfl (lv_at hl 3 rfl) ?_
            refine co_rS (As := [.int n, .int (nI k)]) (rest := [.ref (a 0), .int (tat 6 (σ 3) n (nI k))]) S (c_X0_fingerStart l G n (nI k)) (va_cwS 2 hts gX2_countWrongPointersOf_X0_fingerStart rfl rfl rfl (by decide +kernel) ⟨Nat.le_of_ble_eq_true rfl, Nat.le_of_ble_eq_true rfl⟩) hK (pG_nil) rfl hl.1 rfl (Nat.le_of_ble_eq_true rfl) dX2_countWrongPointersOf_66 ⟨Nat.zero_le _, Nat.zero_le _⟩ ?_
            refine co_rV (As := [.int (fgs n (nI k))]) (rest := [.int (tat 6 (σ 3) n (nI k))]) S (c_X2_firstLivingUpFrom l G a σ ρ (fgs n (nI k))) (cwV 1 hts gX2_countWrongPointersOf_X2_firstLivingUpFrom rfl rfl rfl (by decide +kernel) ⟨Nat.le_of_ble_eq_true rfl, Nat.le_of_ble_eq_true rfl⟩) hK hP (va_recv hK hP (ci := 1) (q0 := 0) rfl rfl) rfl hl.1 rfl (Nat.le_of_ble_eq_true rfl) dX2_countWrongPointersOf_69 ⟨Nat.zero_le _, Nat.zero_le _⟩ ?_
            refine lv_icmp_eq (tgt := 78) hx hb dX2_countWrongPointersOf_72 (by decide) (fun c_12 => ?_) (fun c_12 => ?_)
            · refine lv_iinc (v := (nI (k + 1))) (lv' := [(3, .int (nI (k + 1))), (0, .ref (a 0)), (1, .int n), (2, .int x)]) hx hb dX2_countWrongPointersOf_78 hl (k := 3) rfl (nI_1 k) (by decide) rfl (fun ls hl => ?_)
              refine lv_goto (tgt := 48) hx hb dX2_countWrongPointersOf_81 (by decide) ?_
              exact ih (k + 1) _ (by omega) (by subst hx9; simp only [wF, (eq_true c_12), eq_self, Bool.false_eq_true, ↓reduceIte]) ls (lv_sub hl [1, 2, 3, 0] rfl)
            · refine lv_iinc (v := (x + 1)) (lv' := [(2, .int (x + 1)), (0, .ref (a 0)), (1, .int n), (3, .int (nI k))]) hx hb dX2_countWrongPointersOf_75 hl (k := 2) rfl rfl (by decide) rfl (fun ls hl => ?_)
              refine lv_iinc (v := (nI (k + 1))) (lv' := [(3, .int (nI (k + 1))), (2, .int (x + 1)), (0, .ref (a 0)), (1, .int n)]) hx hb dX2_countWrongPointersOf_78 hl (k := 3) rfl (nI_1 k) (by decide) rfl (fun ls hl => ?_)
              refine lv_goto (tgt := 48) hx hb dX2_countWrongPointersOf_81 (by decide) ?_
              exact ih (k + 1) _ (by omega) (by subst hx9; simp only [wF, c_12, eq_self, Bool.false_eq_true, ↓reduceIte]) ls (lv_sub hl [2, 3, 1, 0] rfl)
      exact LP 6 0 _ rfl (by simp only [wF, w1S, w2S, c_1, (eq_true c_9), ↓reduceIte] <;> decide) ls (lv_sub hl [2, 3, 1, 0] rfl)
    · refine lv_iinc (v := 2) (lv' := [(2, .int 2), (0, .ref (a 0)), (1, .int n)]) hx hb dX2_countWrongPointersOf_43 hl (k := 0) rfl (by decide) (by decide) rfl (fun ls hl => ?_)
      refine lv_iconst (v := 0) hx hb dX2_countWrongPointersOf_46 (by decide) ?_
      refine lv_istore_n (lv' := [(3, .int 0), (2, .int 2), (0, .ref (a 0)), (1, .int n)]) hx hb dX2_countWrongPointersOf_47 rfl hl (by decide) rfl (fun ls hl => ?_)
      have LP : ∀ (d : Nat) (k : Nat) (x : Int32), k + d = 6 → x = wF (σ 0) (σ 3) n (w2S (σ 0) (σ 2) n (w1S (σ 0) (σ 1) n)) k → ∀ ls : Array Slot, lv_has ls 4 [(0, .ref (a 0)), (1, .int n), (2, .int x), (3, .int (nI k))] → W p l e rm_X2_countWrongPointersOf s m args below meth c s.heap [] 0 0 (QR below (wrg σ n) args s) (F0 m 48 ls []) := by
        intro d
        induction d with
        | zero =>
          intro k x hk hx9 ls hl
          refine lv_iload_n hx hb dX2_countWrongPointersOf_48 rfl (lv_at hl 3 rfl) ?_
          refine lv_bipush (v := 6) hx hb dX2_countWrongPointersOf_49 (by decide) ?_
          refine lv_icmp_ge (tgt := 84) hx hb dX2_countWrongPointersOf_51 (by decide) (fun c_13 => ?_) (fun c_13 => ?_)
          · refine lv_iload_n hx hb dX2_countWrongPointersOf_84 rfl (lv_at hl 2 rfl) ?_
            exact co_endR S hr hlocks dX2_countWrongPointersOf_85 (by rw [hx9, show k = 6 by omega]; rfl)
          · exact absurd (nI_le (a := 6) (b := k) (by omega) (by omega)) c_13
        | succ d ih =>
          intro k x hk hx9 ls hl
          refine lv_iload_n hx hb dX2_countWrongPointersOf_48 rfl (lv_at hl 3 rfl) ?_
          refine lv_bipush (v := 6) hx hb dX2_countWrongPointersOf_49 (by decide) ?_
          refine lv_icmp_ge (tgt := 84) hx hb dX2_countWrongPointersOf_51 (by decide) (fun c_14 => ?_) (fun c_14 => ?_)
          · exact absurd c_14 (nI_ge (a := k) (b := 6) (by omega) (by omega))
          · refine lv_aload_n hx hb dX2_countWrongPointersOf_54 rfl (lv_at hl 0 rfl) ?_
            refine va_get (D := G.1) (ci := 1) (v := .ref (a 6)) (C := RX2) (T := TX2) (N := 12) hx hb hts uX2 hown hK hP 0 rfl rfl 3 (by decide) (hts (.fieldLink RX2 25 "ChordOverlay" "fingers" "LChordOverlay$Table;") (by decide +kernel)) (fun _ h9 => h9) rfl dX2_countWrongPointersOf_55 ?_
            refine lv_iload_n hx hb dX2_countWrongPointersOf_58 rfl (lv_at hl 1 rfl) ?_
            refine lv_iload_n hx hb dX2_countWrongPointersOf_59 rfl (lv_at hl 3 rfl) ?_
            refine co_rV (As := [.int n, .int (nI k)]) (rest := []) S (c_X1_at l G (a 6) (a 7) 6 (σ 3) n (nI k) (by decide)) (cwV 2 hts gX2_countWrongPointersOf_X1_at rfl rfl rfl (by decide +kernel) ⟨Nat.le_of_ble_eq_true rfl, Nat.le_of_ble_eq_true rfl⟩) hK (pG_perm hP [6, 7] rfl) (va_recv hK hP (ci := 0) (q0 := 6) rfl rfl) rfl hl.1 rfl (Nat.le_of_ble_eq_true rfl) dX2_countWrongPointersOf_60 ⟨Nat.zero_le _, Nat.zero_le _⟩ ?_
            refine lv_aload_n hx hb dX2_countWrongPointersOf_63 rfl (lv_at hl 0 rfl) ?_
            refine lv_iload_n hx hb dX2_countWrongPointersOf_64 rfl (lv_at hl 1 rfl) ?_
            refine lv_iload_n hx hb dX2_countWrongPointersOf_65 rfl (lv_at hl 3 rfl) ?_
            refine co_rS (As := [.int n, .int (nI k)]) (rest := [.ref (a 0), .int (tat 6 (σ 3) n (nI k))]) S (c_X0_fingerStart l G n (nI k)) (va_cwS 2 hts gX2_countWrongPointersOf_X0_fingerStart rfl rfl rfl (by decide +kernel) ⟨Nat.le_of_ble_eq_true rfl, Nat.le_of_ble_eq_true rfl⟩) hK (pG_nil) rfl hl.1 rfl (Nat.le_of_ble_eq_true rfl) dX2_countWrongPointersOf_66 ⟨Nat.zero_le _, Nat.zero_le _⟩ ?_
            refine co_rV (As := [.int (fgs n (nI k))]) (rest := [.int (tat 6 (σ 3) n (nI k))]) S (c_X2_firstLivingUpFrom l G a σ ρ (fgs n (nI k))) (cwV 1 hts gX2_countWrongPointersOf_X2_firstLivingUpFrom rfl rfl rfl (by decide +kernel) ⟨Nat.le_of_ble_eq_true rfl, Nat.le_of_ble_eq_true rfl⟩) hK hP (va_recv hK hP (ci := 1) (q0 := 0) rfl rfl) rfl hl.1 rfl (Nat.le_of_ble_eq_true rfl) dX2_countWrongPointersOf_69 ⟨Nat.zero_le _, Nat.zero_le _⟩ ?_
            refine lv_icmp_eq (tgt := 78) hx hb dX2_countWrongPointersOf_72 (by decide) (fun c_15 => ?_) (fun c_15 => ?_)
            · refine lv_iinc (v := (nI (k + 1))) (lv' := [(3, .int (nI (k + 1))), (0, .ref (a 0)), (1, .int n), (2, .int x)]) hx hb dX2_countWrongPointersOf_78 hl (k := 3) rfl (nI_1 k) (by decide) rfl (fun ls hl => ?_)
              refine lv_goto (tgt := 48) hx hb dX2_countWrongPointersOf_81 (by decide) ?_
              exact ih (k + 1) _ (by omega) (by subst hx9; simp only [wF, (eq_true c_15), eq_self, Bool.false_eq_true, ↓reduceIte]) ls (lv_sub hl [1, 2, 3, 0] rfl)
            · refine lv_iinc (v := (x + 1)) (lv' := [(2, .int (x + 1)), (0, .ref (a 0)), (1, .int n), (3, .int (nI k))]) hx hb dX2_countWrongPointersOf_75 hl (k := 2) rfl rfl (by decide) rfl (fun ls hl => ?_)
              refine lv_iinc (v := (nI (k + 1))) (lv' := [(3, .int (nI (k + 1))), (2, .int (x + 1)), (0, .ref (a 0)), (1, .int n)]) hx hb dX2_countWrongPointersOf_78 hl (k := 3) rfl (nI_1 k) (by decide) rfl (fun ls hl => ?_)
              refine lv_goto (tgt := 48) hx hb dX2_countWrongPointersOf_81 (by decide) ?_
              exact ih (k + 1) _ (by omega) (by subst hx9; simp only [wF, c_15, eq_self, Bool.false_eq_true, ↓reduceIte]) ls (lv_sub hl [2, 3, 1, 0] rfl)
      exact LP 6 0 _ rfl (by simp only [wF, w1S, w2S, c_1, c_9, ↓reduceIte] <;> decide) ls (lv_sub hl [2, 3, 1, 0] rfl)

abbrev rm_X2_countWrongPointers : Room := { frames := 3, cells := 0, slots := 0, locals := 69 }
set_option maxHeartbeats 4000000 in
set_option maxRecDepth 100000 in
theorem c_X2_countWrongPointers (l : Launch) (G : cG) (a : Nat → Nat) (σ ρ : cS) : MetR l yX2_countWrongPointers wsX2_countWrongPointers rm_X2_countWrongPointers G (wO G a σ ρ) [.ref (a 0)] (cwp σ 64) := by
  refine co_bodyR (cc := cX2_countWrongPointers) (maxL := 3) (ret := (some .int)) (by decide) rfl (Nat.le_of_ble_eq_true rfl) ?_
  intro p e s m args below meth c S hr hlocks hK hP ls hl
  have S : CallFix p m c cX2_countWrongPointers 3 s args wsX2_countWrongPointers RX2 := S
  obtain ⟨hx, hb, hml, hown, hts⟩ := id S
  have hl : lv_has ls 3 [(0, .ref (a 0))] := hl
  refine lv_iconst (v := 0) hx hb dX2_countWrongPointers_0 (by decide) ?_
  refine lv_istore_n (lv' := [(1, .int 0), (0, .ref (a 0))]) hx hb dX2_countWrongPointers_1 rfl hl (by decide) rfl (fun ls hl => ?_)
  refine lv_iconst (v := 0) hx hb dX2_countWrongPointers_2 (by decide) ?_
  refine lv_istore_n (lv' := [(2, .int 0), (1, .int 0), (0, .ref (a 0))]) hx hb dX2_countWrongPointers_3 rfl hl (by decide) rfl (fun ls hl => ?_)
  have LP : ∀ (d : Nat) (k : Nat) (x : Int32), k + d = 64 → x = cwp σ k → ∀ ls : Array Slot, lv_has ls 3 [(0, .ref (a 0)), (1, .int x), (2, .int (nI k))] → W p l e rm_X2_countWrongPointers s m args below meth c s.heap [] 0 0 (QR below (cwp σ 64) args s) (F0 m 4 ls []) := by
    intro d
    induction d with
    | zero =>
      intro k x hk hx9 ls hl
      refine lv_iload_n hx hb dX2_countWrongPointers_4 rfl (lv_at hl 2 rfl) ?_
      refine lv_bipush (v := 64) hx hb dX2_countWrongPointers_5 (by decide) ?_
      refine lv_icmp_ge (tgt := 32) hx hb dX2_countWrongPointers_7 (by decide) (fun c_1 => ?_) (fun c_1 => ?_)
      · refine lv_iload_n hx hb dX2_countWrongPointers_32 rfl (lv_at hl 1 rfl) ?_
        exact co_endR S hr hlocks dX2_countWrongPointers_33 (by rw [hx9, show k = 64 by omega])
      · exact absurd (nI_le (a := 64) (b := k) (by omega) (by omega)) c_1
    | succ d ih =>
      intro k x hk hx9 ls hl
      refine lv_iload_n hx hb dX2_countWrongPointers_4 rfl (lv_at hl 2 rfl) ?_
      refine lv_bipush (v := 64) hx hb dX2_countWrongPointers_5 (by decide) ?_
      refine lv_icmp_ge (tgt := 32) hx hb dX2_countWrongPointers_7 (by decide) (fun c_2 => ?_) (fun c_2 => ?_)
      · exact absurd c_2 (nI_ge (a := k) (b := 64) (by omega) (by omega))
      · refine lv_aload_n hx hb dX2_countWrongPointers_10 rfl (lv_at hl 0 rfl) ?_
        refine lv_iload_n hx hb dX2_countWrongPointers_11 rfl (lv_at hl 2 rfl) ?_
        refine co_rV (As := [.int (nI k)]) (rest := []) S (c_X2_isAlive l G a σ ρ (nI k)) (cwV 1 hts gX2_countWrongPointers_X2_isAlive rfl rfl rfl (by decide +kernel) ⟨Nat.le_of_ble_eq_true rfl, Nat.le_of_ble_eq_true rfl⟩) hK hP (va_recv hK hP (ci := 1) (q0 := 0) rfl rfl) rfl hl.1 rfl (Nat.le_of_ble_eq_true rfl) dX2_countWrongPointers_12 ⟨Nat.zero_le _, Nat.zero_le _⟩ ?_
        refine co_ifeq (tgt := 26) S dX2_countWrongPointers_15 (by decide) (fun c_3 => ?_) (fun c_3 => ?_)
        · refine lv_iinc (v := (nI (k + 1))) (lv' := [(2, .int (nI (k + 1))), (0, .ref (a 0)), (1, .int x)]) hx hb dX2_countWrongPointers_26 hl (k := 2) rfl (nI_1 k) (by decide) rfl (fun ls hl => ?_)
          refine lv_goto (tgt := 4) hx hb dX2_countWrongPointers_29 (by decide) ?_
          exact ih (k + 1) _ (by omega) (by subst hx9; simp only [cwp, c_3, eq_self, Bool.false_eq_true, ↓reduceIte]) ls (lv_sub hl [1, 2, 0] rfl)
        · refine lv_iload_n hx hb dX2_countWrongPointers_18 rfl (lv_at hl 1 rfl) ?_
          refine lv_aload_n hx hb dX2_countWrongPointers_19 rfl (lv_at hl 0 rfl) ?_
          refine lv_iload_n hx hb dX2_countWrongPointers_20 rfl (lv_at hl 2 rfl) ?_
          refine co_rV (As := [.int (nI k)]) (rest := [.int x]) S (c_X2_countWrongPointersOf l G a σ ρ (nI k)) (cwV 1 hts gX2_countWrongPointers_X2_countWrongPointersOf rfl rfl rfl (by decide +kernel) ⟨Nat.le_of_ble_eq_true rfl, Nat.le_of_ble_eq_true rfl⟩) hK hP (va_recv hK hP (ci := 1) (q0 := 0) rfl rfl) rfl hl.1 rfl (Nat.le_of_ble_eq_true rfl) dX2_countWrongPointers_21 ⟨Nat.zero_le _, Nat.zero_le _⟩ ?_
          refine lv_iadd hx hb dX2_countWrongPointers_24 ?_
          refine lv_istore_n (lv' := [(1, .int (x + (wrg σ (nI k)))), (0, .ref (a 0)), (2, .int (nI k))]) hx hb dX2_countWrongPointers_25 rfl hl (by decide) rfl (fun ls hl => ?_)
          refine lv_iinc (v := (nI (k + 1))) (lv' := [(2, .int (nI (k + 1))), (1, .int (x + (wrg σ (nI k)))), (0, .ref (a 0))]) hx hb dX2_countWrongPointers_26 hl (k := 2) rfl (nI_1 k) (by decide) rfl (fun ls hl => ?_)
          refine lv_goto (tgt := 4) hx hb dX2_countWrongPointers_29 (by decide) ?_
          exact ih (k + 1) _ (by omega) (by subst hx9; simp only [cwp, c_3, eq_self, Bool.false_eq_true, ↓reduceIte]) ls (lv_sub hl [2, 1, 0] rfl)
  exact LP 64 0 _ rfl rfl ls (lv_sub hl [2, 1, 0] rfl)
