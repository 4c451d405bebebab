theorem vin_of2 {x : Int32} {n : Nat} (h0 : ¬ x < 0) (h1 : x < nI n) (hn : n < 2 ^ 31) : vp_in x n := by
  obtain ⟨j, hj, rfl⟩ := nI_of h0
  exact vp_in_nI ((nI_ltI hj hn).mp h1) hn
theorem ha_le {h rh : Int32} {k : Nat} (h0 : ¬ h < 0) (h1 : ¬ rh < h) (e : rh = nI k) (hk : k < 64) : h.toNatClampNeg ≤ k := by
  obtain ⟨j, hj, rfl⟩ := nI_of h0
  subst e
  rw [nI_clamp hj]
  rcases Nat.lt_or_ge k j with q | q
  · exact absurd ((nI_ltI (by omega) hj).mpr q) h1
  · exact q
theorem ha_no {h rh : Int32} {k : Nat} (h0 : ¬ h < 0) (h1 : ¬ rh < h) (e : rh = nI k) (hk : k < 64) : h < nI 64 := by
  have h2 := ha_le h0 h1 e hk
  obtain ⟨j, hj, rfl⟩ := nI_of h0
  rw [nI_clamp hj] at h2
  exact (nI_ltI hj (by decide)).mpr (by omega)
theorem rt_k {σ : cS} {d k : Nat} (c : ¬ cwp σ 64 ≤ 0) : rtK (lrS false σ 64) d (k + 1) = rtK σ (d + 1) k := by
  show _ = if 0 < cwp σ 64 then rtK (lrS false σ 64) d (k + 1) else k
  rw [if_pos (Int32.not_le.mp c)]
theorem rt_s {σ : cS} {d : Nat} (c : ¬ cwp σ 64 ≤ 0) : rtS (lrS false σ 64) d = rtS σ (d + 1) := by
  show _ = if 0 < cwp σ 64 then rtS (lrS false σ 64) d else σ
  rw [if_pos (Int32.not_le.mp c)]
theorem rt_k0 {σ : cS} {d k : Nat} (c : cwp σ 64 ≤ 0) : rtK σ (d + 1) k = k := by
  show (if 0 < cwp σ 64 then rtK (lrS false σ 64) d (k + 1) else k) = k
  rw [if_neg (Int32.not_lt.mpr c)]
theorem rt_s0 {σ : cS} {d : Nat} (c : cwp σ 64 ≤ 0) : rtS σ (d + 1) = σ := by
  show (if 0 < cwp σ 64 then rtS (lrS false σ 64) d else σ) = σ
  rw [if_neg (Int32.not_lt.mpr c)]
theorem rt_r {k N K : Nat} {r : Int32} (hk : k < 2 ^ 31) (hN : N < 2 ^ 31) (e : K = k) (h : (¬ nI N < nI k ∧ r = nI k) ∨ (nI N < nI k ∧ r = -1)) : r = if K ≤ N then nI K else -1 := by
  subst e
  rcases h with ⟨h, rfl⟩ | ⟨h, rfl⟩
  · rw [if_pos]
    rcases Nat.lt_or_ge N K with q | q
    · exact absurd ((nI_ltI hN hk).mpr q) h
    · exact q
  · rw [if_neg]
    have := (nI_ltI hN hk).mp h
    omega
theorem rt_e {σ1 σ' τ : cS} {D : Nat} {d : Nat} (e1 : σ1 = tbS σ') (h9 : rtS σ' d = rtS τ D) (hs : rtS σ' d = σ') : σ1 = tbS (rtS τ D) := by
  rw [← h9, hs]; exact e1
set_option maxRecDepth 20000 in
theorem uX2_X2_keepers : ∀ w ∈ u_ws RX2 TX2 12, w ∈ wsX2_keepers := by decide +kernel
abbrev rm_X2_keepers : Room := { frames := 8, cells := 1, slots := 6, locals := 132 }
set_option maxHeartbeats 4000000 in
set_option maxRecDepth 100000 in
theorem c_X2_keepers (l : Launch) (hl9 : l.stackTraces = false) (G : cG) (sa : Nat → Nat) (a : Nat → Nat) (σ ρ : cS) (key : Int32) : MetXi l yX2_keepers wsX2_keepers rm_X2_keepers G sa (wO G a σ ρ) [.ref (a 0), .int key] (fun u : cS × cS => wO G a u.1 u.2) (fun r u => (cd1 key 0 63) = 0 ∧ r = (kpC σ key 64) ∧ u.1 = σ) (fun E u => exq (cd1 key 0 63) E ∧ u.1 = σ) 1 6 := by
  refine co_bodyXi (cc := cX2_keepers) (maxL := 4) (ret := (some .int)) (by decide) rfl (Nat.le_of_ble_eq_true rfl) ?_
  intro p e s m args below meth c S hr hlocks hno hK A hA hP hD hS hX ls hl
  have S : CallFix p m c cX2_keepers 4 s args wsX2_keepers RX2 := S
  obtain ⟨hx, hb, hml, hown, hts⟩ := id S
  have hl : lv_has ls 4 [(0, .ref (a 0)), (1, .int key)] := hl
  have uX2 := uX2_X2_keepers
  refine lv_iload_n hx hb dX2_keepers_0 rfl (lv_at hl 1 rfl) ?_
  refine co_xSv (As := [.int key]) (rest := []) S (c_X2_requireIdentifier l hl9 G sa a σ ρ key) (va_cwS 1 hts gX2_keepers_X2_requireIdentifier rfl rfl rfl (by decide +kernel) ⟨Nat.le_of_ble_eq_true rfl, Nat.le_of_ble_eq_true rfl⟩) hK hP hD hS hA hX rfl hl.1 rfl (Nat.le_of_ble_eq_true rfl) dX2_keepers_1 ⟨Nat.le_of_ble_eq_true rfl, Nat.le_of_ble_eq_true rfl⟩ (fun E9 ce9 q9 u9 H9 locs9 hp9 hP9 hD9 hS9 h19 h29 h39 => ?_) (fun u_1 H locs hu_1 hP hD hS => ?_)
  · exact co_out u9 hno hlocks hK hP9 hD9 hS9 (⟨exq_1 (by simp only [cd1, hp9.1, Bool.false_eq_true, ↓reduceIte]) hp9.2.1, by rw [hp9.2.2]⟩) h19 h29 h39 (Nat.le_of_ble_eq_true rfl) (Nat.le_of_ble_eq_true rfl)
  · obtain ⟨c9_1, hu_1⟩ := hu_1
    have c9_1 : okR key 0 63 = true := c9_1
    subst hu_1
    have hP : pG G (wO G a σ ρ) H := hP
    have hD : va_D A (wO G a σ ρ) := hD
    refine lv_iconst (v := 0) hx hb dX2_keepers_4 (by decide) ?_
    refine lv_istore_n (lv' := [(2, .int 0), (0, .ref (a 0)), (1, .int key)]) hx hb dX2_keepers_5 rfl hl (by decide) rfl (fun ls hl => ?_)
    refine lv_iconst (v := 0) hx hb dX2_keepers_6 (by decide) ?_
    refine lv_istore_n (lv' := [(3, .int 0), (2, .int 0), (0, .ref (a 0)), (1, .int key)]) hx hb dX2_keepers_7 rfl hl (by decide) rfl (fun ls hl => ?_)
    have LP : ∀ (d : Nat) (k : Nat) (x : Int32), k + d = 64 → x = kpC σ key k → ∀ (H : Heap) (locs : List Loc), pG G (wO G a σ ρ) H → va_D A (wO G a σ ρ) → va_S A s.heap H locs → ∀ ls : Array Slot, lv_has ls 4 [(0, .ref (a 0)), (1, .int key), (2, .int x), (3, .int (nI k))] → W p l e rm_X2_keepers s m args below meth c H locs 1 6 (QXi below G A (fun u : cS × cS => wO G a u.1 u.2) (fun r u => (cd1 key 0 63) = 0 ∧ r = (kpC σ key 64) ∧ u.1 = σ) (fun E u => exq (cd1 key 0 63) E ∧ u.1 = σ) 1 6 args s) (F0 m 8 ls []) := by
      intro d
      induction d with
      | zero =>
        intro k x hk hx9 H locs hP hD hS ls hl
        refine lv_iload_n hx hb dX2_keepers_8 rfl (lv_at hl 3 rfl) ?_
        refine lv_bipush (v := 64) hx hb dX2_keepers_9 (by decide) ?_
        refine lv_icmp_ge (tgt := 44) hx hb dX2_keepers_11 (by decide) (fun c_2 => ?_) (fun c_2 => ?_)
        · refine lv_iload_n hx hb dX2_keepers_44 rfl (lv_at hl 2 rfl) ?_
          exact co_endXi (σ, ρ) S hr hlocks dX2_keepers_45 hK hP hD hS (by exact ⟨by simp only [cd1, c9_1, ↓reduceIte], by rw [hx9, show k = 64 by omega], rfl⟩) (Nat.le_of_ble_eq_true rfl) (Nat.le_of_ble_eq_true rfl)
        · exact absurd (nI_le (a := 64) (b := k) (by omega) (by omega)) c_2
      | succ d ih =>
        intro k x hk hx9 H locs hP hD hS ls hl
        refine lv_iload_n hx hb dX2_keepers_8 rfl (lv_at hl 3 rfl) ?_
        refine lv_bipush (v := 64) hx hb dX2_keepers_9 (by decide) ?_
        refine lv_icmp_ge (tgt := 44) hx hb dX2_keepers_11 (by decide) (fun c_3 => ?_) (fun c_3 => ?_)
        · exact absurd c_3 (nI_ge (a := k) (b := 64) (by omega) (by omega))
        · refine lv_aload_n hx hb dX2_keepers_14 rfl (lv_at hl 0 rfl) ?_
          refine lv_iload_n hx hb dX2_keepers_15 rfl (lv_at hl 3 rfl) ?_
          refine co_rV (As := [.int (nI k)]) (rest := []) S (c_X2_isAlive l G a σ ρ (nI k)) (cwV 1 hts gX2_keepers_X2_isAlive rfl rfl rfl (by decide +kernel) ⟨Nat.le_of_ble_eq_true rfl, Nat.le_of_ble_eq_true rfl⟩) hK hP (va_recv hK hP (ci := 1) (q0 := 0) rfl rfl) rfl hl.1 rfl (Nat.le_of_ble_eq_true rfl) dX2_keepers_16 ⟨Nat.le_of_ble_eq_true rfl, Nat.le_of_ble_eq_true rfl⟩ ?_
          refine co_ifeq (tgt := 38) S dX2_keepers_19 (by decide) (fun c_4 => ?_) (fun c_4 => ?_)
          · refine lv_iinc (v := (nI (k + 1))) (lv' := [(3, .int (nI (k + 1))), (0, .ref (a 0)), (1, .int key), (2, .int x)]) hx hb dX2_keepers_38 hl (k := 3) rfl (nI_1 k) (by decide) rfl (fun ls hl => ?_)
            refine lv_goto (tgt := 8) hx hb dX2_keepers_41 (by decide) ?_
            exact ih (k + 1) _ (by omega) (by subst hx9; simp only [kpC, c_3, c_4, eq_self, Bool.false_eq_true, ↓reduceIte]) _ _ hP hD hS ls (lv_sub hl [1, 2, 3, 0] rfl)
          · refine lv_aload_n hx hb dX2_keepers_22 rfl (lv_at hl 0 rfl) ?_
            refine va_get (D := G.1) (ci := 1) (v := .ref (a 8)) (C := RX2) (T := TX2) (N := 12) hx hb hts uX2 hown hK hP 0 rfl rfl 4 (by decide) (hts (.fieldLink RX2 28 "ChordOverlay" "values" "LChordOverlay$Table;") (by decide +kernel)) (fun _ h9 => h9) rfl dX2_keepers_23 ?_
            refine lv_iload_n hx hb dX2_keepers_26 rfl (lv_at hl 3 rfl) ?_
            refine lv_iload_n hx hb dX2_keepers_27 rfl (lv_at hl 1 rfl) ?_
            refine co_rV (As := [.int (nI k), .int key]) (rest := []) S (c_X1_at l G (a 8) (a 9) 64 (σ 4) (nI k) key (by decide)) (cwV 2 hts gX2_keepers_X1_at rfl rfl rfl (by decide +kernel) ⟨Nat.le_of_ble_eq_true rfl, Nat.le_of_ble_eq_true rfl⟩) hK (pG_perm hP [8, 9] rfl) (va_recv hK hP (ci := 0) (q0 := 8) rfl rfl) rfl hl.1 rfl (Nat.le_of_ble_eq_true rfl) dX2_keepers_28 ⟨Nat.le_of_ble_eq_true rfl, Nat.le_of_ble_eq_true rfl⟩ ?_
            refine lv_iconst (v := (-1)) hx hb dX2_keepers_31 (by decide) ?_
            refine lv_icmp_eq (tgt := 38) hx hb dX2_keepers_32 (by decide) (fun c_5 => ?_) (fun c_5 => ?_)
            · refine lv_iinc (v := (nI (k + 1))) (lv' := [(3, .int (nI (k + 1))), (0, .ref (a 0)), (1, .int key), (2, .int x)]) hx hb dX2_keepers_38 hl (k := 3) rfl (nI_1 k) (by decide) rfl (fun ls hl => ?_)
              refine lv_goto (tgt := 8) hx hb dX2_keepers_41 (by decide) ?_
              exact ih (k + 1) _ (by omega) (by subst hx9; simp only [kpC, c_3, c_4, (eq_true c_5), eq_self, Bool.false_eq_true, ↓reduceIte]) _ _ hP hD hS ls (lv_sub hl [1, 2, 3, 0] rfl)
            · refine lv_iinc (v := (x + 1)) (lv' := [(2, .int (x + 1)), (0, .ref (a 0)), (1, .int key), (3, .int (nI k))]) hx hb dX2_keepers_35 hl (k := 2) rfl rfl (by decide) rfl (fun ls hl => ?_)
              refine lv_iinc (v := (nI (k + 1))) (lv' := [(3, .int (nI (k + 1))), (2, .int (x + 1)), (0, .ref (a 0)), (1, .int key)]) hx hb dX2_keepers_38 hl (k := 3) rfl (nI_1 k) (by decide) rfl (fun ls hl => ?_)
              refine lv_goto (tgt := 8) hx hb dX2_keepers_41 (by decide) ?_
              exact ih (k + 1) _ (by omega) (by subst hx9; simp only [kpC, c_3, c_4, c_5, eq_self, Bool.false_eq_true, ↓reduceIte]) _ _ hP hD hS ls (lv_sub hl [2, 3, 1, 0] rfl)
    exact LP 64 0 _ rfl rfl _ _ hP hD hS ls (lv_sub hl [2, 3, 1, 0] rfl)

abbrev rm_X2_goRounds : Room := { frames := 7, cells := 1, slots := 6, locals := 141 }
set_option maxHeartbeats 4000000 in
set_option maxRecDepth 100000 in
theorem c_X2_goRounds (l : Launch) (hl9 : l.stackTraces = false) (G : cG) (sa : Nat → Nat) (a : Nat → Nat) (σ ρ : cS) (x : Int32) : MetXi l yX2_goRounds wsX2_goRounds rm_X2_goRounds G sa (wO G a σ ρ) [.ref (a 0), .int x] (fun u : cS × cS => wO G a u.1 u.2) (fun r u => (cd1 x 1 20) = 0 ∧ r = (cwp (lrI true σ x.toNatClampNeg) 64) ∧ u.1 = (lrI true σ x.toNatClampNeg)) (fun E u => exq (cd1 x 1 20) E ∧ u.1 = σ) 1 6 := by
  refine co_bodyXi (cc := cX2_goRounds) (maxL := 3) (ret := (some .int)) (by decide) rfl (Nat.le_of_ble_eq_true rfl) ?_
  intro p e s m args below meth c S hr hlocks hno hK A hA hP hD hS hX ls hl
  have S : CallFix p m c cX2_goRounds 3 s args wsX2_goRounds RX2 := S
  obtain ⟨hx, hb, hml, hown, hts⟩ := id S
  have hl : lv_has ls 3 [(0, .ref (a 0)), (1, .int x)] := hl
  refine lv_iload_n hx hb dX2_goRounds_0 rfl (lv_at hl 1 rfl) ?_
  refine lv_iconst (v := 1) hx hb dX2_goRounds_1 (by decide) ?_
  refine lv_bipush (v := 20) hx hb dX2_goRounds_2 (by decide) ?_
  refine co_xSv (As := [.int x, .int 1, .int 20]) (rest := []) S (c_X2_requireRange l hl9 G sa a σ ρ x 1 20) (va_cwS 3 hts gX2_goRounds_X2_requireRange rfl rfl rfl (by decide +kernel) ⟨Nat.le_of_ble_eq_true rfl, Nat.le_of_ble_eq_true rfl⟩) hK hP hD hS hA hX rfl hl.1 rfl (Nat.le_of_ble_eq_true rfl) dX2_goRounds_4 ⟨Nat.le_of_ble_eq_true rfl, Nat.le_of_ble_eq_true rfl⟩ (fun E9 ce9 q9 u9 H9 locs9 hp9 hP9 hD9 hS9 h19 h29 h39 => ?_) (fun u_1 H locs hu_1 hP hD hS => ?_)
  · exact co_out u9 hno hlocks hK hP9 hD9 hS9 (⟨exq_1 (by simp only [cd1, hp9.1, Bool.false_eq_true, ↓reduceIte]) hp9.2.1, by rw [hp9.2.2]⟩) h19 h29 h39 (Nat.le_of_ble_eq_true rfl) (Nat.le_of_ble_eq_true rfl)
  · obtain ⟨c9_1, hu_1⟩ := hu_1
    have c9_1 : okR x 1 20 = true := c9_1
    subst hu_1
    have hP : pG G (wO G a σ ρ) H := hP
    have hD : va_D A (wO G a σ ρ) := hD
    obtain ⟨N, hN1, hN2, eN⟩ := okR_nI (M := 20) (by decide) c9_1
    refine lv_iconst (v := 0) hx hb dX2_goRounds_7 (by decide) ?_
    refine lv_istore_n (lv' := [(2, .int 0), (0, .ref (a 0)), (1, .int x)]) hx hb dX2_goRounds_8 rfl hl (by decide) rfl (fun ls hl => ?_)
    have LP : ∀ (d : Nat) (k : Nat) (σ' ρ' : cS), k + d = N → σ' = lrI true σ k → ∀ (H : Heap) (locs : List Loc), pG G (wO G a σ' ρ') H → va_D A (wO G a σ' ρ') → va_S A s.heap H locs → ∀ ls : Array Slot, lv_has ls 3 [(0, .ref (a 0)), (1, .int x), (2, .int (nI k))] → W p l e rm_X2_goRounds s m args below meth c H locs 1 6 (QXi below G A (fun u : cS × cS => wO G a u.1 u.2) (fun r u => (cd1 x 1 20) = 0 ∧ r = (cwp (lrI true σ x.toNatClampNeg) 64) ∧ u.1 = (lrI true σ x.toNatClampNeg)) (fun E u => exq (cd1 x 1 20) E ∧ u.1 = σ) 1 6 args s) (F0 m 9 ls []) := by
      intro d
      induction d with
      | zero =>
        intro k σ' ρ' hk h9 H locs hP hD hS ls hl
        refine lv_iload_n hx hb dX2_goRounds_9 rfl (lv_at hl 2 rfl) ?_
        refine lv_iload_n hx hb dX2_goRounds_10 rfl (lv_at hl 1 rfl) ?_
        refine lv_icmp_ge (tgt := 25) hx hb dX2_goRounds_11 (by decide) (fun c_2 => ?_) (fun c_2 => ?_)
        · refine lv_aload_n hx hb dX2_goRounds_25 rfl (lv_at hl 0 rfl) ?_
          refine co_rV (As := []) (rest := []) S (c_X2_countWrongPointers l G a σ' ρ' ) (cwV 0 hts gX2_goRounds_X2_countWrongPointers rfl rfl rfl (by decide +kernel) ⟨Nat.le_of_ble_eq_true rfl, Nat.le_of_ble_eq_true rfl⟩) hK hP (va_recv hK hP (ci := 1) (q0 := 0) rfl rfl) rfl hl.1 rfl (Nat.le_of_ble_eq_true rfl) dX2_goRounds_26 ⟨Nat.le_of_ble_eq_true rfl, Nat.le_of_ble_eq_true rfl⟩ ?_
          exact co_endXi (σ', ρ') S hr hlocks dX2_goRounds_29 hK hP hD hS (by have hxN : x.toNatClampNeg = N := (by rw [eN]; exact nI_clamp (by omega)); rw [hxN]; have hkN : k = N := (by omega); subst hkN; exact ⟨by simp only [cd1, c9_1, ↓reduceIte], by rw [h9], h9⟩) (Nat.le_of_ble_eq_true rfl) (Nat.le_of_ble_eq_true rfl)
        · exact absurd (show x ≤ nI k by rw [eN]; exact nI_le (a := N) (b := k) (by omega) (by omega)) c_2
      | succ d ih =>
        intro k σ' ρ' hk h9 H locs hP hD hS ls hl
        refine lv_iload_n hx hb dX2_goRounds_9 rfl (lv_at hl 2 rfl) ?_
        refine lv_iload_n hx hb dX2_goRounds_10 rfl (lv_at hl 1 rfl) ?_
        refine lv_icmp_ge (tgt := 25) hx hb dX2_goRounds_11 (by decide) (fun c_3 => ?_) (fun c_3 => ?_)
        · exact absurd (show nI N ≤ nI k by rw [← eN]; exact c_3) (nI_ge (a := k) (b := N) (by omega) (by omega))
        · refine lv_aload_n hx hb dX2_goRounds_14 rfl (lv_at hl 0 rfl) ?_
          refine lv_iconst (v := 1) hx hb dX2_goRounds_15 (by decide) ?_
          refine co_mVv (As := [.int 1]) (rest := []) S (c_X2_letRoundGoBy l G a σ' ρ' true) (cwV 1 hts gX2_goRounds_X2_letRoundGoBy rfl rfl rfl (by decide +kernel) ⟨Nat.le_of_ble_eq_true rfl, Nat.le_of_ble_eq_true rfl⟩) hK hP hD hS hA (va_recv hK hP (ci := 1) (q0 := 0) rfl rfl) rfl hl.1 rfl (Nat.le_of_ble_eq_true rfl) dX2_goRounds_16 ⟨Nat.le_of_ble_eq_true rfl, Nat.le_of_ble_eq_true rfl⟩ (fun u_4 H locs hu_4 hP hD hS => ?_)
          obtain ⟨σ_4, ρ_4⟩ := u_4
          have hu_4 : σ_4 = lrS true σ' 64 := hu_4
          have hP : pG G (wO G a σ_4 ρ_4) H := hP
          have hD : va_D A (wO G a σ_4 ρ_4) := hD
          refine lv_iinc (v := (nI (k + 1))) (lv' := [(2, .int (nI (k + 1))), (0, .ref (a 0)), (1, .int x)]) hx hb dX2_goRounds_19 hl (k := 2) rfl (nI_1 k) (by decide) rfl (fun ls hl => ?_)
          refine lv_goto (tgt := 9) hx hb dX2_goRounds_22 (by decide) ?_
          exact ih (k + 1) σ_4 ρ_4 (by omega) (by rw [hu_4, h9]; rfl) _ _ hP hD hS ls (lv_sub hl [1, 2, 0] rfl)
    exact LP N 0 _ _ (Nat.zero_add N) rfl _ _ hP hD hS ls (lv_sub hl [1, 2, 0] rfl)

set_option maxRecDepth 20000 in
theorem uX2_X2_hops : ∀ w ∈ u_ws RX2 TX2 12, w ∈ wsX2_hops := by decide +kernel
abbrev rm_X2_hops : Room := { frames := 8, cells := 3, slots := 18, locals := 132 }
set_option maxHeartbeats 4000000 in
set_option maxRecDepth 100000 in
theorem c_X2_hops (l : Launch) (hl9 : l.stackTraces = false) (G : cG) (sa : Nat → Nat) (a : Nat → Nat) (σ ρ : cS) (n : Int32) (key : Int32) : MetXi l yX2_hops wsX2_hops rm_X2_hops G sa (wO G a σ ρ) [.ref (a 0), .int n, .int key] (fun u : cS × cS => wO G a u.1 u.2) (fun r u => cdP σ n key 63 = 0 ∧ (hpc (σ 0) (σ 1) (σ 3) key 64 n < 64 → r = nI (hpc (σ 0) (σ 1) (σ 3) key 64 n)) ∧ u.1 = σ) (fun E u => exq (cdP σ n key 63) E ∧ u.1 = σ) 3 18 := by
  refine co_bodyXi (cc := cX2_hops) (maxL := 3) (ret := (some .int)) (by decide) rfl (Nat.le_of_ble_eq_true rfl) ?_
  intro p e s m args below meth c S hr hlocks hno hK A hA hP hD hS hX ls hl
  have S : CallFix p m c cX2_hops 3 s args wsX2_hops RX2 := S
  obtain ⟨hx, hb, hml, hown, hts⟩ := id S
  have hl : lv_has ls 3 [(0, .ref (a 0)), (1, .int n), (2, .int key)] := hl
  have uX2 := uX2_X2_hops
  refine lv_iload_n hx hb dX2_hops_0 rfl (lv_at hl 1 rfl) ?_
  refine co_xSv (As := [.int n]) (rest := []) S (c_X2_requireIdentifier l hl9 G sa a σ ρ n) (va_cwS 1 hts gX2_hops_X2_requireIdentifier rfl rfl rfl (by decide +kernel) ⟨Nat.le_of_ble_eq_true rfl, Nat.le_of_ble_eq_true rfl⟩) hK hP hD hS hA hX rfl hl.1 rfl (Nat.le_of_ble_eq_true rfl) dX2_hops_1 ⟨Nat.le_of_ble_eq_true rfl, Nat.le_of_ble_eq_true rfl⟩ (fun E9 ce9 q9 u9 H9 locs9 hp9 hP9 hD9 hS9 h19 h29 h39 => ?_) (fun u_1 H locs hu_1 hP hD hS => ?_)
  · exact co_out u9 hno hlocks hK hP9 hD9 hS9 (⟨exq_1 (by simp only [cdP, hp9.1, Bool.false_eq_true, ↓reduceIte]) hp9.2.1, by rw [hp9.2.2]⟩) h19 h29 h39 (Nat.le_of_ble_eq_true rfl) (Nat.le_of_ble_eq_true rfl)
  · obtain ⟨c9_1, hu_1⟩ := hu_1
    have c9_1 : okR n 0 63 = true := c9_1
    subst hu_1
    have hP : pG G (wO G a σ ρ) H := hP
    have hD : va_D A (wO G a σ ρ) := hD
    refine lv_iload_n hx hb dX2_hops_4 rfl (lv_at hl 2 rfl) ?_
    refine co_xSv (As := [.int key]) (rest := []) S (c_X2_requireIdentifier l hl9 G sa a σ ρ key) (va_cwS 1 hts gX2_hops_X2_requireIdentifier rfl rfl rfl (by decide +kernel) ⟨Nat.le_of_ble_eq_true rfl, Nat.le_of_ble_eq_true rfl⟩) hK hP hD hS hA hX rfl hl.1 rfl (Nat.le_of_ble_eq_true rfl) dX2_hops_5 ⟨Nat.le_of_ble_eq_true rfl, Nat.le_of_ble_eq_true rfl⟩ (fun E9 ce9 q9 u9 H9 locs9 hp9 hP9 hD9 hS9 h19 h29 h39 => ?_) (fun u_2 H locs hu_2 hP hD hS => ?_)
    · exact co_out u9 hno hlocks hK hP9 hD9 hS9 (⟨exq_1 (by simp only [cdP, c9_1, hp9.1, Bool.false_eq_true, ↓reduceIte]) hp9.2.1, by rw [hp9.2.2]⟩) h19 h29 h39 (Nat.le_of_ble_eq_true rfl) (Nat.le_of_ble_eq_true rfl)
    · obtain ⟨c9_2, hu_2⟩ := hu_2
      have c9_2 : okR key 0 63 = true := c9_2
      subst hu_2
      have hP : pG G (wO G a σ ρ) H := hP
      have hD : va_D A (wO G a σ ρ) := hD
      refine lv_aload_n hx hb dX2_hops_8 rfl (lv_at hl 0 rfl) ?_
      refine lv_iload_n hx hb dX2_hops_9 rfl (lv_at hl 1 rfl) ?_
      refine co_xVv (As := [.int n]) (rest := []) S (c_X2_requireAlive l hl9 G sa a σ ρ n) (cwV 1 hts gX2_hops_X2_requireAlive rfl rfl rfl (by decide +kernel) ⟨Nat.le_of_ble_eq_true rfl, Nat.le_of_ble_eq_true rfl⟩) hK hP hD hS hA hX (va_recv hK hP (ci := 1) (q0 := 0) rfl rfl) rfl hl.1 rfl (Nat.le_of_ble_eq_true rfl) dX2_hops_10 ⟨Nat.le_of_ble_eq_true rfl, Nat.le_of_ble_eq_true rfl⟩ (fun E9 ce9 q9 u9 H9 locs9 hp9 hP9 hD9 hS9 h19 h29 h39 => ?_) (fun u_3 H locs hu_3 hP hD hS => ?_)
      · exact co_out u9 hno hlocks hK hP9 hD9 hS9 (⟨exq_2 (by simp only [cdP, c9_1, c9_2, hp9.1, Bool.false_eq_true, ↓reduceIte]) hp9.2.1, by rw [hp9.2.2]⟩) h19 h29 h39 (Nat.le_of_ble_eq_true rfl) (Nat.le_of_ble_eq_true rfl)
      · obtain ⟨c9_3, hu_3⟩ := hu_3
        have c9_3 : alv (σ 0) n = true := c9_3
        subst hu_3
        have hP : pG G (wO G a σ ρ) H := hP
        have hD : va_D A (wO G a σ ρ) := hD
        refine lv_aload_n hx hb dX2_hops_13 rfl (lv_at hl 0 rfl) ?_
        refine lv_iload_n hx hb dX2_hops_14 rfl (lv_at hl 1 rfl) ?_
        refine lv_iload_n hx hb dX2_hops_15 rfl (lv_at hl 2 rfl) ?_
        refine co_mVi (As := [.int n, .int key]) (rest := []) S (c_X2_find l G a σ ρ n key) (cwV 2 hts gX2_hops_X2_find rfl rfl rfl (by decide +kernel) ⟨Nat.le_of_ble_eq_true rfl, Nat.le_of_ble_eq_true rfl⟩) hK hP hD hS hA (va_recv hK hP (ci := 1) (q0 := 0) rfl rfl) rfl hl.1 rfl (Nat.le_of_ble_eq_true rfl) dX2_hops_16 ⟨Nat.le_of_ble_eq_true rfl, Nat.le_of_ble_eq_true rfl⟩ (fun r_4 u_4 H locs hu_4 hP hD hS => ?_)
        obtain ⟨σ_4, ρ_4⟩ := u_4
        obtain ⟨hr_4, hu_4, hp_4⟩ := hu_4
        have hr_4 : r_4 = fnR σ n key := hr_4
        have hu_4 : σ_4 = σ := hu_4
        have hP : pG G (wO G a σ_4 ρ_4) H := hP
        have hD : va_D A (wO G a σ_4 ρ_4) := hD
        rw [hu_4] at hP hD
        refine lv_pop hx hb dX2_hops_19 rfl ?_
        refine lv_aload_n hx hb dX2_hops_20 rfl (lv_at hl 0 rfl) ?_
        refine va_get (D := G.1) (ci := 1) (v := .int (ρ_4 1 0)) (C := RX2) (T := TX2) (N := 12) hx hb hts uX2 hown hK hP 0 rfl rfl 8 (by decide) (hts (.fieldLink RX2 42 "ChordOverlay" "routeHops" "I") (by decide +kernel)) (fun _ h9 => h9) rfl dX2_hops_21 ?_
        exact co_endXi (σ, ρ_4) S hr hlocks dX2_hops_24 hK hP hD hS (by exact ⟨by simp only [cdP, c9_1, c9_2, c9_3, ↓reduceIte], fun h9 => (hp_4 h9).1, rfl⟩) (Nat.le_of_ble_eq_true rfl) (Nat.le_of_ble_eq_true rfl)

set_option maxRecDepth 20000 in
theorem uX2_X2_hopAt : ∀ w ∈ u_ws RX2 TX2 12, w ∈ wsX2_hopAt := by decide +kernel
abbrev rm_X2_hopAt : Room := { frames := 8, cells := 4, slots := 24, locals := 132 }
set_option maxHeartbeats 4000000 in
set_option maxRecDepth 100000 in
theorem c_X2_hopAt (l : Launch) (hl9 : l.stackTraces = false) (G : cG) (sa : Nat → Nat) (a : Nat → Nat) (σ ρ : cS) (n : Int32) (key : Int32) (h : Int32) : MetXi l yX2_hopAt wsX2_hopAt rm_X2_hopAt G sa (wO G a σ ρ) [.ref (a 0), .int n, .int key, .int h] (fun u : cS × cS => wO G a u.1 u.2) (fun r u => cdP σ n key 63 = 0 ∧ (hpc (σ 0) (σ 1) (σ 3) key 64 n < 64 → ¬ h < 0 ∧ ¬ nI (hpc (σ 0) (σ 1) (σ 3) key 64 n) < h ∧ r = pth (σ 0) (σ 1) (σ 3) key n h.toNatClampNeg) ∧ u.1 = σ) (fun E u => (exq (cdP σ n key 63) E ∨ (E = "java/lang/IndexOutOfBoundsException" ∧ cdP σ n key 63 = 0 ∧ (hpc (σ 0) (σ 1) (σ 3) key 64 n < 64 → h < 0 ∨ nI (hpc (σ 0) (σ 1) (σ 3) key 64 n) < h))) ∧ u.1 = σ) 4 24 := by
  refine co_bodyXi (cc := cX2_hopAt) (maxL := 4) (ret := (some .int)) (by decide) rfl (Nat.le_of_ble_eq_true rfl) ?_
  intro p e s m args below meth c S hr hlocks hno hK A hA hP hD hS hX ls hl
  have S : CallFix p m c cX2_hopAt 4 s args wsX2_hopAt RX2 := S
  obtain ⟨hx, hb, hml, hown, hts⟩ := id S
  have hl : lv_has ls 4 [(0, .ref (a 0)), (1, .int n), (2, .int key), (3, .int h)] := hl
  have uX2 := uX2_X2_hopAt
  refine lv_iload_n hx hb dX2_hopAt_0 rfl (lv_at hl 1 rfl) ?_
  refine co_xSv (As := [.int n]) (rest := []) S (c_X2_requireIdentifier l hl9 G sa a σ ρ n) (va_cwS 1 hts gX2_hopAt_X2_requireIdentifier rfl rfl rfl (by decide +kernel) ⟨Nat.le_of_ble_eq_true rfl, Nat.le_of_ble_eq_true rfl⟩) hK hP hD hS hA hX rfl hl.1 rfl (Nat.le_of_ble_eq_true rfl) dX2_hopAt_1 ⟨Nat.le_of_ble_eq_true rfl, Nat.le_of_ble_eq_true rfl⟩ (fun E9 ce9 q9 u9 H9 locs9 hp9 hP9 hD9 hS9 h19 h29 h39 => ?_) (fun u_1 H locs hu_1 hP hD hS => ?_)
  · exact co_out u9 hno hlocks hK hP9 hD9 hS9 (⟨Or.inl (exq_1 (by simp only [cdP, hp9.1, Bool.false_eq_true, ↓reduceIte]) hp9.2.1), by rw [hp9.2.2]⟩) h19 h29 h39 (Nat.le_of_ble_eq_true rfl) (Nat.le_of_ble_eq_true rfl)
  · obtain ⟨c9_1, hu_1⟩ := hu_1
    have c9_1 : okR n 0 63 = true := c9_1
    subst hu_1
    have hP : pG G (wO G a σ ρ) H := hP
    have hD : va_D A (wO G a σ ρ) := hD
    refine lv_iload_n hx hb dX2_hopAt_4 rfl (lv_at hl 2 rfl) ?_
    refine co_xSv (As := [.int key]) (rest := []) S (c_X2_requireIdentifier l hl9 G sa a σ ρ key) (va_cwS 1 hts gX2_hopAt_X2_requireIdentifier rfl rfl rfl (by decide +kernel) ⟨Nat.le_of_ble_eq_true rfl, Nat.le_of_ble_eq_true rfl⟩) hK hP hD hS hA hX rfl hl.1 rfl (Nat.le_of_ble_eq_true rfl) dX2_hopAt_5 ⟨Nat.le_of_ble_eq_true rfl, Nat.le_of_ble_eq_true rfl⟩ (fun E9 ce9 q9 u9 H9 locs9 hp9 hP9 hD9 hS9 h19 h29 h39 => ?_) (fun u_2 H locs hu_2 hP hD hS => ?_)
    · exact co_out u9 hno hlocks hK hP9 hD9 hS9 (⟨Or.inl (exq_1 (by simp only [cdP, c9_1, hp9.1, Bool.false_eq_true, ↓reduceIte]) hp9.2.1), by rw [hp9.2.2]⟩) h19 h29 h39 (Nat.le_of_ble_eq_true rfl) (Nat.le_of_ble_eq_true rfl)
    · obtain ⟨c9_2, hu_2⟩ := hu_2
      have c9_2 : okR key 0 63 = true := c9_2
      subst hu_2
      have hP : pG G (wO G a σ ρ) H := hP
      have hD : va_D A (wO G a σ ρ) := hD
      refine lv_aload_n hx hb dX2_hopAt_8 rfl (lv_at hl 0 rfl) ?_
      refine lv_iload_n hx hb dX2_hopAt_9 rfl (lv_at hl 1 rfl) ?_
      refine co_xVv (As := [.int n]) (rest := []) S (c_X2_requireAlive l hl9 G sa a σ ρ n) (cwV 1 hts gX2_hopAt_X2_requireAlive rfl rfl rfl (by decide +kernel) ⟨Nat.le_of_ble_eq_true rfl, Nat.le_of_ble_eq_true rfl⟩) hK hP hD hS hA hX (va_recv hK hP (ci := 1) (q0 := 0) rfl rfl) rfl hl.1 rfl (Nat.le_of_ble_eq_true rfl) dX2_hopAt_10 ⟨Nat.le_of_ble_eq_true rfl, Nat.le_of_ble_eq_true rfl⟩ (fun E9 ce9 q9 u9 H9 locs9 hp9 hP9 hD9 hS9 h19 h29 h39 => ?_) (fun u_3 H locs hu_3 hP hD hS => ?_)
      · exact co_out u9 hno hlocks hK hP9 hD9 hS9 (⟨Or.inl (exq_2 (by simp only [cdP, c9_1, c9_2, hp9.1, Bool.false_eq_true, ↓reduceIte]) hp9.2.1), by rw [hp9.2.2]⟩) h19 h29 h39 (Nat.le_of_ble_eq_true rfl) (Nat.le_of_ble_eq_true rfl)
      · obtain ⟨c9_3, hu_3⟩ := hu_3
        have c9_3 : alv (σ 0) n = true := c9_3
        subst hu_3
        have hP : pG G (wO G a σ ρ) H := hP
        have hD : va_D A (wO G a σ ρ) := hD
        refine lv_aload_n hx hb dX2_hopAt_13 rfl (lv_at hl 0 rfl) ?_
        refine lv_iload_n hx hb dX2_hopAt_14 rfl (lv_at hl 1 rfl) ?_
        refine lv_iload_n hx hb dX2_hopAt_15 rfl (lv_at hl 2 rfl) ?_
        refine co_mVi (As := [.int n, .int key]) (rest := []) S (c_X2_find l G a σ ρ n key) (cwV 2 hts gX2_hopAt_X2_find rfl rfl rfl (by decide +kernel) ⟨Nat.le_of_ble_eq_true rfl, Nat.le_of_ble_eq_true rfl⟩) hK hP hD hS hA (va_recv hK hP (ci := 1) (q0 := 0) rfl rfl) rfl hl.1 rfl (Nat.le_of_ble_eq_true rfl) dX2_hopAt_16 ⟨Nat.le_of_ble_eq_true rfl, Nat.le_of_ble_eq_true rfl⟩ (fun r_4 u_4 H locs hu_4 hP hD hS => ?_)
        obtain ⟨σ_4, ρ_4⟩ := u_4
        obtain ⟨hr_4, hu_4, hp_4⟩ := hu_4
        have hr_4 : r_4 = fnR σ n key := hr_4
        have hu_4 : σ_4 = σ := hu_4
        have hP : pG G (wO G a σ_4 ρ_4) H := hP
        have hD : va_D A (wO G a σ_4 ρ_4) := hD
        rw [hu_4] at hP hD
        refine lv_pop hx hb dX2_hopAt_19 rfl ?_
        refine lv_iload_n hx hb dX2_hopAt_20 rfl (lv_at hl 3 rfl) ?_
        refine lv_if_lt (tgt := 41) hx hb dX2_hopAt_21 (by decide) (fun c_5 => ?_) (fun c_5 => ?_)
        · exact vx_throwS hx hb hl9 hown (by decide +kernel) (by decide +kernel) (hts (.classLink RX2 122 "java/lang/IndexOutOfBoundsException") (by decide +kernel)) (hts (.initialized "java/lang/IndexOutOfBoundsException") (by decide +kernel)) hX.1.2.2.2.2 (xh_io hX hts (by decide +kernel)) xo_io hX.2.2.1 hX.2.2.2 hS (hl.1.trans hml.symm) dX2_hopAt_41 dX2_hopAt_44 dX2_hopAt_45 dX2_hopAt_47 dX2_hopAt_50 (fun x hx => (hno x hx).elim) (Nat.le_of_ble_eq_true rfl) (Nat.le_of_ble_eq_true rfl) (Nat.le_of_ble_eq_true rfl) (Nat.le_of_ble_eq_true rfl) hlocks (co_thrown (σ, ρ_4) hK hP hD hS (⟨Or.inr ⟨rfl, by simp only [cdP, c9_1, c9_2, c9_3, ↓reduceIte], fun h9 => Or.inl c_5⟩, rfl⟩)) hS.2.2 (Nat.le_of_ble_eq_true rfl) (Nat.le_of_ble_eq_true rfl)
        · refine lv_iload_n hx hb dX2_hopAt_24 rfl (lv_at hl 3 rfl) ?_
          refine lv_aload_n hx hb dX2_hopAt_25 rfl (lv_at hl 0 rfl) ?_
          refine va_get (D := G.1) (ci := 1) (v := .int (ρ_4 1 0)) (C := RX2) (T := TX2) (N := 12) hx hb hts uX2 hown hK hP 0 rfl rfl 8 (by decide) (hts (.fieldLink RX2 42 "ChordOverlay" "routeHops" "I") (by decide +kernel)) (fun _ h9 => h9) rfl dX2_hopAt_26 ?_
          refine lv_icmp_gt (tgt := 41) hx hb dX2_hopAt_29 (by decide) (fun c_6 => ?_) (fun c_6 => ?_)
          · exact vx_throwS hx hb hl9 hown (by decide +kernel) (by decide +kernel) (hts (.classLink RX2 122 "java/lang/IndexOutOfBoundsException") (by decide +kernel)) (hts (.initialized "java/lang/IndexOutOfBoundsException") (by decide +kernel)) hX.1.2.2.2.2 (xh_io hX hts (by decide +kernel)) xo_io hX.2.2.1 hX.2.2.2 hS (hl.1.trans hml.symm) dX2_hopAt_41 dX2_hopAt_44 dX2_hopAt_45 dX2_hopAt_47 dX2_hopAt_50 (fun x hx => (hno x hx).elim) (Nat.le_of_ble_eq_true rfl) (Nat.le_of_ble_eq_true rfl) (Nat.le_of_ble_eq_true rfl) (Nat.le_of_ble_eq_true rfl) hlocks (co_thrown (σ, ρ_4) hK hP hD hS (⟨Or.inr ⟨rfl, by simp only [cdP, c9_1, c9_2, c9_3, ↓reduceIte], fun h9 => Or.inr (by rw [← (hp_4 h9).1]; exact c_6)⟩, rfl⟩)) hS.2.2 (Nat.le_of_ble_eq_true rfl) (Nat.le_of_ble_eq_true rfl)
          · refine lv_iload_n hx hb dX2_hopAt_32 rfl (lv_at hl 3 rfl) ?_
            refine lv_aload_n hx hb dX2_hopAt_33 rfl (lv_at hl 0 rfl) ?_
            refine va_get (D := G.1) (ci := 1) (v := .ref (a 12)) (C := RX2) (T := TX2) (N := 12) hx hb hts uX2 hown hK hP 0 rfl rfl 7 (by decide) (hts (.fieldLink RX2 38 "ChordOverlay" "route" "[I") (by decide +kernel)) (fun _ h9 => h9) rfl dX2_hopAt_34 ?_
            refine va_alen (v := nI 64) hx hb hK hP 12 0 rfl rfl rfl dX2_hopAt_37 ?_
            refine lv_icmp_lt (tgt := 51) hx hb dX2_hopAt_38 (by decide) (fun c_7 => ?_) (fun c_7 => ?_)
            · refine lv_aload_n hx hb dX2_hopAt_51 rfl (lv_at hl 0 rfl) ?_
              refine va_get (D := G.1) (ci := 1) (v := .ref (a 12)) (C := RX2) (T := TX2) (N := 12) hx hb hts uX2 hown hK hP 0 rfl rfl 7 (by decide) (hts (.fieldLink RX2 38 "ChordOverlay" "route" "[I") (by decide +kernel)) (fun _ h9 => h9) rfl dX2_hopAt_52 ?_
              refine lv_iload_n hx hb dX2_hopAt_55 rfl (lv_at hl 3 rfl) ?_
              refine va_iald hx hb hK hP 12 0 rfl rfl (vin_of2 c_5 c_7 (by decide)) dX2_hopAt_56 ?_
              exact co_endXi (σ, ρ_4) S hr hlocks dX2_hopAt_57 hK hP hD hS (by exact ⟨by simp only [cdP, c9_1, c9_2, c9_3, ↓reduceIte], fun h9 => ⟨c_5, by rw [← (hp_4 h9).1]; exact c_6, (hp_4 h9).2 _ (ha_le c_5 c_6 (hp_4 h9).1 h9)⟩, rfl⟩) (Nat.le_of_ble_eq_true rfl) (Nat.le_of_ble_eq_true rfl)
            · exact vx_throwS hx hb hl9 hown (by decide +kernel) (by decide +kernel) (hts (.classLink RX2 122 "java/lang/IndexOutOfBoundsException") (by decide +kernel)) (hts (.initialized "java/lang/IndexOutOfBoundsException") (by decide +kernel)) hX.1.2.2.2.2 (xh_io hX hts (by decide +kernel)) xo_io hX.2.2.1 hX.2.2.2 hS (hl.1.trans hml.symm) dX2_hopAt_41 dX2_hopAt_44 dX2_hopAt_45 dX2_hopAt_47 dX2_hopAt_50 (fun x hx => (hno x hx).elim) (Nat.le_of_ble_eq_true rfl) (Nat.le_of_ble_eq_true rfl) (Nat.le_of_ble_eq_true rfl) (Nat.le_of_ble_eq_true rfl) hlocks (co_thrown (σ, ρ_4) hK hP hD hS (⟨Or.inr ⟨rfl, by simp only [cdP, c9_1, c9_2, c9_3, ↓reduceIte], fun h9 => absurd (ha_no c_5 c_6 (hp_4 h9).1 h9) c_7⟩, rfl⟩)) hS.2.2 (Nat.le_of_ble_eq_true rfl) (Nat.le_of_ble_eq_true rfl)
