set_option maxRecDepth 20000 in
theorem uX2_X2_find : ∀ w ∈ u_ws RX2 TX2 12, w ∈ wsX2_find := by decide +kernel
abbrev rm_X2_find : Room := { frames := 2, cells := 0, slots := 0, locals := 48 }
set_option maxHeartbeats 4000000 in
set_option maxRecDepth 100000 in
theorem c_X2_find (l : Launch) (G : cG) (a : Nat → Nat) (σ ρ : cS) (n : Int32) (key : Int32) : MetI l yX2_find wsX2_find rm_X2_find G (wO G a σ ρ) [.ref (a 0), .int n, .int key] (fun u : cS × cS => wO G a u.1 u.2) (fun r u => r = fnR σ n key ∧ u.1 = σ ∧ (hpc (σ 0) (σ 1) (σ 3) key 64 n < 64 → u.2 1 0 = nI (hpc (σ 0) (σ 1) (σ 3) key 64 n) ∧ ∀ j, j ≤ hpc (σ 0) (σ 1) (σ 3) key 64 n → u.2 0 j = pth (σ 0) (σ 1) (σ 3) key n j)) := by
  refine co_bodyI (cc := cX2_find) (maxL := 6) (ret := (some .int)) (by decide) rfl (Nat.le_of_ble_eq_true rfl) ?_
  intro p e s m args below meth c S hr hlocks hK A hA hP hD hS ls hl
  have S : CallFix p m c cX2_find 6 s args wsX2_find RX2 := S
  obtain ⟨hx, hb, hml, hown, hts⟩ := id S
  have hl : lv_has ls 6 [(0, .ref (a 0)), (1, .int n), (2, .int key)] := hl
  have uX2 := uX2_X2_find
  refine lv_iload_n hx hb dX2_find_0 rfl (lv_at hl 1 rfl) ?_
  refine lv_istore_n (lv' := [(3, .int n), (0, .ref (a 0)), (1, .int n), (2, .int key)]) hx hb dX2_find_1 rfl hl (by decide) rfl (fun ls hl => ?_)
  refine lv_iconst (v := 0) hx hb dX2_find_2 (by decide) ?_
  refine lv_istore (lv' := [(4, .int 0), (3, .int n), (0, .ref (a 0)), (1, .int n), (2, .int key)]) hx hb dX2_find_3 hl (by decide) rfl (fun ls hl => ?_)
  have LP : ∀ (d : Nat) (k : Nat) (x : Int32) (ρ' : cS), k + d = 64 → x = pth (σ 0) (σ 1) (σ 3) key n k → (∀ j, j < k → ρ' 0 j = pth (σ 0) (σ 1) (σ 3) key n j) → fnd (σ 0) (σ 1) (σ 3) key d x = fnd (σ 0) (σ 1) (σ 3) key 64 n → hpc (σ 0) (σ 1) (σ 3) key d x + k = hpc (σ 0) (σ 1) (σ 3) key 64 n → ∀ (H : Heap) (locs : List Loc), pG G (wO G a σ ρ') H → va_D A (wO G a σ ρ') → va_S A s.heap H locs → ∀ ls : Array Slot, lv_has ls 6 [(0, .ref (a 0)), (1, .int n), (2, .int key), (3, .int x), (4, .int (nI k))] → W p l e rm_X2_find s m args below meth c H locs 0 0 (QI below G A (fun u : cS × cS => wO G a u.1 u.2) (fun r u => r = fnR σ n key ∧ u.1 = σ ∧ (hpc (σ 0) (σ 1) (σ 3) key 64 n < 64 → u.2 1 0 = nI (hpc (σ 0) (σ 1) (σ 3) key 64 n) ∧ ∀ j, j ≤ hpc (σ 0) (σ 1) (σ 3) key 64 n → u.2 0 j = pth (σ 0) (σ 1) (σ 3) key n j)) args s) (F0 m 5 ls []) := by
    intro d
    induction d with
    | zero =>
      intro k x ρ' hk hx9 hr9 hf9 hh9 H locs hP hD hS ls hl
      refine lv_iload hx hb dX2_find_5 (lv_at hl 4 rfl) ?_
      refine lv_aload_n hx hb dX2_find_7 rfl (lv_at hl 0 rfl) ?_
      refine va_get (D := G.1) (ci := 1) (v := .ref (a 12)) (C := RX2) (T := TX2) (N := 12) hx hb hts uX2 hown hK hP 0 rfl rfl 7 (by decide) (hts (.fieldLink RX2 38 "ChordOverlay" "route" "[I") (by decide +kernel)) (fun _ h9 => h9) rfl dX2_find_8 ?_
      refine va_alen (v := nI 64) hx hb hK hP 12 0 rfl rfl rfl dX2_find_11 ?_
      refine lv_icmp_ge (tgt := 64) hx hb dX2_find_12 (by decide) (fun c_1 => ?_) (fun c_1 => ?_)
      · refine lv_iload_n hx hb dX2_find_64 rfl (lv_at hl 3 rfl) ?_
        exact co_endI (σ, ρ') S hr hlocks dX2_find_65 hK hP hD hS (by refine ⟨?_, rfl, fun h9 => absurd h9 ?_⟩; (show x = fnd (σ 0) (σ 1) (σ 3) key 64 n; rw [← hf9]; rfl); (rw [← hh9]; simp only [hpc]; omega))
      · exact absurd (nI_le (a := 64) (b := k) (by omega) (by omega)) c_1
    | succ d ih =>
      intro k x ρ' hk hx9 hr9 hf9 hh9 H locs hP hD hS ls hl
      refine lv_iload hx hb dX2_find_5 (lv_at hl 4 rfl) ?_
      refine lv_aload_n hx hb dX2_find_7 rfl (lv_at hl 0 rfl) ?_
      refine va_get (D := G.1) (ci := 1) (v := .ref (a 12)) (C := RX2) (T := TX2) (N := 12) hx hb hts uX2 hown hK hP 0 rfl rfl 7 (by decide) (hts (.fieldLink RX2 38 "ChordOverlay" "route" "[I") (by decide +kernel)) (fun _ h9 => h9) rfl dX2_find_8 ?_
      refine va_alen (v := nI 64) hx hb hK hP 12 0 rfl rfl rfl dX2_find_11 ?_
      refine lv_icmp_ge (tgt := 64) hx hb dX2_find_12 (by decide) (fun c_2 => ?_) (fun c_2 => ?_)
      · exact absurd c_2 (nI_ge (a := k) (b := 64) (by omega) (by omega))
      · refine lv_aload_n hx hb dX2_find_15 rfl (lv_at hl 0 rfl) ?_
        refine va_get (D := G.1) (ci := 1) (v := .ref (a 12)) (C := RX2) (T := TX2) (N := 12) hx hb hts uX2 hown hK hP 0 rfl rfl 7 (by decide) (hts (.fieldLink RX2 38 "ChordOverlay" "route" "[I") (by decide +kernel)) (fun _ h9 => h9) rfl dX2_find_16 ?_
        refine lv_iload hx hb dX2_find_19 (lv_at hl 4 rfl) ?_
        refine lv_iload_n hx hb dX2_find_21 rfl (lv_at hl 3 rfl) ?_
        refine va_iast hx hb hK hP hD hS 12 0 rfl rfl (vp_in_nI (by omega) (by omega)) dX2_find_22 (fun H locs hP hD hS => ?_)
        have hP : pG G (wO G a σ (va_up ρ' 0 (upd (ρ' 0) (nI k).toNatClampNeg x))) H := hP
        have hD : va_D A (wO G a σ (va_up ρ' 0 (upd (ρ' 0) (nI k).toNatClampNeg x))) := hD
        refine lv_aload_n hx hb dX2_find_23 rfl (lv_at hl 0 rfl) ?_
        refine lv_iload hx hb dX2_find_24 (lv_at hl 4 rfl) ?_
        refine va_put (D := G.1) (ci := 1) (v := .int (nI k)) (ty := .int) (C := RX2) (T := TX2) (N := 12) hx hb hts uX2 tyX2 tyX2_ok nmX2 hown hK hP hD hS 0 rfl rfl 8 (by decide) (hts (.fieldLink RX2 42 "ChordOverlay" "routeHops" "I") (by decide +kernel)) (fun _ h9 => h9) rfl (by decide +kernel) rfl rfl (Nat.le_of_ble_eq_true rfl) dX2_find_26 (fun H locs hP hD hS => ?_)
        have hP : pG G (wO G a σ (va_up (va_up ρ' 0 (upd (ρ' 0) (nI k).toNatClampNeg x)) 1 (fun _ => (nI k)))) H := hP
        have hD : va_D A (wO G a σ (va_up (va_up ρ' 0 (upd (ρ' 0) (nI k).toNatClampNeg x)) 1 (fun _ => (nI k)))) := hD
        refine lv_aload_n hx hb dX2_find_29 rfl (lv_at hl 0 rfl) ?_
        refine lv_iload_n hx hb dX2_find_30 rfl (lv_at hl 3 rfl) ?_
        refine co_rV (As := [.int x]) (rest := []) S (c_X2_firstLivingSuccessor l G a σ (va_up (va_up ρ' 0 (upd (ρ' 0) (nI k).toNatClampNeg x)) 1 (fun _ => (nI k))) x) (cwV 1 hts gX2_find_X2_firstLivingSuccessor rfl rfl rfl (by decide +kernel) ⟨Nat.le_of_ble_eq_true rfl, Nat.le_of_ble_eq_true rfl⟩) hK hP (va_recv hK hP (ci := 1) (q0 := 0) rfl rfl) rfl hl.1 rfl (Nat.le_of_ble_eq_true rfl) dX2_find_31 ⟨Nat.zero_le _, Nat.zero_le _⟩ ?_
        refine lv_istore (lv' := [(5, .int (lsF (σ 0) (σ 1) x)), (0, .ref (a 0)), (1, .int n), (2, .int key), (3, .int x), (4, .int (nI k))]) hx hb dX2_find_34 hl (by decide) rfl (fun ls hl => ?_)
        refine lv_iload_n hx hb dX2_find_36 rfl (lv_at hl 3 rfl) ?_
        refine lv_iload_n hx hb dX2_find_37 rfl (lv_at hl 4 rfl) ?_
        refine lv_iload hx hb dX2_find_38 (lv_at hl 0 rfl) ?_
        refine co_rS (As := [.int key, .int x, .int (lsF (σ 0) (σ 1) x)]) (rest := []) S (c_X0_isUpTo l G key x (lsF (σ 0) (σ 1) x)) (va_cwS 3 hts gX2_find_X0_isUpTo rfl rfl rfl (by decide +kernel) ⟨Nat.le_of_ble_eq_true rfl, Nat.le_of_ble_eq_true rfl⟩) hK (pG_nil) rfl hl.1 rfl (Nat.le_of_ble_eq_true rfl) dX2_find_40 ⟨Nat.zero_le _, Nat.zero_le _⟩ ?_
        refine co_ifeq (tgt := 49) S dX2_find_43 (by decide) (fun c_3 => ?_) (fun c_3 => ?_)
        · refine lv_aload_n hx hb dX2_find_49 rfl (lv_at hl 1 rfl) ?_
          refine lv_iload_n hx hb dX2_find_50 rfl (lv_at hl 3 rfl) ?_
          refine lv_iload_n hx hb dX2_find_51 rfl (lv_at hl 4 rfl) ?_
          refine lv_iload hx hb dX2_find_52 (lv_at hl 0 rfl) ?_
          refine co_rV (As := [.int key, .int x, .int (lsF (σ 0) (σ 1) x)]) (rest := []) S (c_X2_hopTowards l G a σ (va_up (va_up ρ' 0 (upd (ρ' 0) (nI k).toNatClampNeg x)) 1 (fun _ => (nI k))) key x (lsF (σ 0) (σ 1) x)) (cwV 3 hts gX2_find_X2_hopTowards rfl rfl rfl (by decide +kernel) ⟨Nat.le_of_ble_eq_true rfl, Nat.le_of_ble_eq_true rfl⟩) hK hP (va_recv hK hP (ci := 1) (q0 := 0) rfl rfl) rfl hl.1 rfl (Nat.le_of_ble_eq_true rfl) dX2_find_54 ⟨Nat.zero_le _, Nat.zero_le _⟩ ?_
          refine lv_istore_n (lv' := [(3, .int (hopT (σ 0) (σ 3) key x (lsF (σ 0) (σ 1) x) 6)), (5, .int (lsF (σ 0) (σ 1) x)), (0, .ref (a 0)), (1, .int n), (2, .int key), (4, .int (nI k))]) hx hb dX2_find_57 rfl hl (by decide) rfl (fun ls hl => ?_)
          refine lv_iinc (v := (nI (k + 1))) (lv' := [(4, .int (nI (k + 1))), (3, .int (hopT (σ 0) (σ 3) key x (lsF (σ 0) (σ 1) x) 6)), (5, .int (lsF (σ 0) (σ 1) x)), (0, .ref (a 0)), (1, .int n), (2, .int key)]) hx hb dX2_find_58 hl (k := 5) rfl (nI_1 k) (by decide) rfl (fun ls hl => ?_)
          refine lv_goto (tgt := 5) hx hb dX2_find_61 (by decide) ?_
          exact ih (k + 1) _ (va_up (va_up ρ' 0 (upd (ρ' 0) (nI k).toNatClampNeg x)) 1 (fun _ => (nI k))) (by omega) (by rw [hx9]; rfl) (fn_route (by omega) hx9 hr9) (by rw [← hf9]; simp only [fnd, nxF, c_3, Bool.false_eq_true, ↓reduceIte]) (by rw [← hh9]; simp only [hpc, nxF, c_3, Bool.false_eq_true, ↓reduceIte]; omega) _ _ hP hD hS ls (lv_sub hl [3, 4, 5, 1, 0] rfl)
        · refine lv_iload hx hb dX2_find_46 (lv_at hl 0 rfl) ?_
          exact co_endI (σ, (va_up (va_up ρ' 0 (upd (ρ' 0) (nI k).toNatClampNeg x)) 1 (fun _ => (nI k)))) S hr hlocks dX2_find_48 hK hP hD hS (by refine ⟨?_, rfl, fn_end hk hx9 hr9 hh9 c_3⟩; (show _ = fnd (σ 0) (σ 1) (σ 3) key 64 n; rw [← hf9]; simp only [fnd, c_3, ↓reduceIte]))
  exact LP 64 0 _ ρ rfl rfl (fun j h => absurd h (Nat.not_lt_zero j)) rfl rfl _ _ hP hD hS ls (lv_sub hl [2, 3, 4, 1, 0] rfl)

set_option maxRecDepth 20000 in
theorem uX2_X2_renewFingers : ∀ w ∈ u_ws RX2 TX2 12, w ∈ wsX2_renewFingers := by decide +kernel
abbrev rm_X2_renewFingers : Room := { frames := 3, cells := 0, slots := 0, locals := 73 }
set_option maxHeartbeats 4000000 in
set_option maxRecDepth 100000 in
theorem c_X2_renewFingers (l : Launch) (G : cG) (a : Nat → Nat) (σ ρ : cS) (n : Int32) : MetI l yX2_renewFingers wsX2_renewFingers rm_X2_renewFingers G (wO G a σ ρ) [.ref (a 0), .int n] (fun u : cS × cS => wO G a u.1 u.2) (fun r u => r = (rfC σ n 6) ∧ u.1 = (rfS σ n 6)) := by
  refine co_bodyI (cc := cX2_renewFingers) (maxL := 5) (ret := (some .int)) (by decide) rfl (Nat.le_of_ble_eq_true rfl) ?_
  intro p e s m args below meth c S hr hlocks hK A hA hP hD hS ls hl
  have S : CallFix p m c cX2_renewFingers 5 s args wsX2_renewFingers RX2 := S
  obtain ⟨hx, hb, hml, hown, hts⟩ := id S
  have hl : lv_has ls 5 [(0, .ref (a 0)), (1, .int n)] := hl
  have uX2 := uX2_X2_renewFingers
  refine lv_iconst (v := 0) hx hb dX2_renewFingers_0 (by decide) ?_
  refine lv_istore_n (lv' := [(2, .int 0), (0, .ref (a 0)), (1, .int n)]) hx hb dX2_renewFingers_1 rfl hl (by decide) rfl (fun ls hl => ?_)
  refine lv_iconst (v := 0) hx hb dX2_renewFingers_2 (by decide) ?_
  refine lv_istore_n (lv' := [(3, .int 0), (2, .int 0), (0, .ref (a 0)), (1, .int n)]) hx hb dX2_renewFingers_3 rfl hl (by decide) rfl (fun ls hl => ?_)
  have LP : ∀ (d : Nat) (k : Nat) (x : Int32) (σ' ρ' : cS), k + d = 6 → x = rfC σ n k → σ' = rfS σ n k → ∀ (H : Heap) (locs : List Loc), pG G (wO G a σ' ρ') H → va_D A (wO G a σ' ρ') → va_S A s.heap H locs → ∀ ls : Array Slot, lv_has ls 5 [(0, .ref (a 0)), (1, .int n), (2, .int x), (3, .int (nI k))] → W p l e rm_X2_renewFingers s m args below meth c H locs 0 0 (QI below G A (fun u : cS × cS => wO G a u.1 u.2) (fun r u => r = (rfC σ n 6) ∧ u.1 = (rfS σ n 6)) args s) (F0 m 4 ls []) := by
    intro d
    induction d with
    | zero =>
      intro k x σ' ρ' hk hx9 h9 H locs hP hD hS ls hl
      refine lv_iload_n hx hb dX2_renewFingers_4 rfl (lv_at hl 3 rfl) ?_
      refine lv_bipush (v := 6) hx hb dX2_renewFingers_5 (by decide) ?_
      refine lv_icmp_ge (tgt := 56) hx hb dX2_renewFingers_7 (by decide) (fun c_1 => ?_) (fun c_1 => ?_)
      · refine lv_iload_n hx hb dX2_renewFingers_56 rfl (lv_at hl 2 rfl) ?_
        exact co_endI (σ', ρ') S hr hlocks dX2_renewFingers_57 hK hP hD hS (by have hk6 : k = 6 := (by omega); subst hk6; exact ⟨hx9, h9⟩)
      · exact absurd (nI_le (a := 6) (b := k) (by omega) (by omega)) c_1
    | succ d ih =>
      intro k x σ' ρ' hk hx9 h9 H locs hP hD hS ls hl
      refine lv_iload_n hx hb dX2_renewFingers_4 rfl (lv_at hl 3 rfl) ?_
      refine lv_bipush (v := 6) hx hb dX2_renewFingers_5 (by decide) ?_
      refine lv_icmp_ge (tgt := 56) hx hb dX2_renewFingers_7 (by decide) (fun c_2 => ?_) (fun c_2 => ?_)
      · exact absurd c_2 (nI_ge (a := k) (b := 6) (by omega) (by omega))
      · refine lv_aload_n hx hb dX2_renewFingers_10 rfl (lv_at hl 0 rfl) ?_
        refine lv_iload_n hx hb dX2_renewFingers_11 rfl (lv_at hl 1 rfl) ?_
        refine lv_iload_n hx hb dX2_renewFingers_12 rfl (lv_at hl 1 rfl) ?_
        refine lv_iload_n hx hb dX2_renewFingers_13 rfl (lv_at hl 3 rfl) ?_
        refine co_rS (As := [.int n, .int (nI k)]) (rest := [.int n, .ref (a 0)]) S (c_X0_fingerStart l G n (nI k)) (va_cwS 2 hts gX2_renewFingers_X0_fingerStart rfl rfl rfl (by decide +kernel) ⟨Nat.le_of_ble_eq_true rfl, Nat.le_of_ble_eq_true rfl⟩) hK (pG_nil) rfl hl.1 rfl (Nat.le_of_ble_eq_true rfl) dX2_renewFingers_14 ⟨Nat.zero_le _, Nat.zero_le _⟩ ?_
        refine co_mVi (As := [.int n, .int (fgs n (nI k))]) (rest := []) S (c_X2_find l G a σ' ρ' n (fgs n (nI k))) (cwV 2 hts gX2_renewFingers_X2_find rfl rfl rfl (by decide +kernel) ⟨Nat.le_of_ble_eq_true rfl, Nat.le_of_ble_eq_true rfl⟩) hK hP hD hS hA (va_recv hK hP (ci := 1) (q0 := 0) rfl rfl) rfl hl.1 rfl (Nat.le_of_ble_eq_true rfl) dX2_renewFingers_17 ⟨Nat.zero_le _, Nat.zero_le _⟩ (fun r_3 u_3 H locs hu_3 hP hD hS => ?_)
        obtain ⟨σ_3, ρ_3⟩ := u_3
        obtain ⟨hr_3, hu_3, hp_3⟩ := hu_3
        have hr_3 : r_3 = fnR σ' n (fgs n (nI k)) := hr_3
        have hu_3 : σ_3 = σ' := hu_3
        have hP : pG G (wO G a σ_3 ρ_3) H := hP
        have hD : va_D A (wO G a σ_3 ρ_3) := hD
        rw [hu_3] at hP hD
        refine lv_istore (lv' := [(4, .int r_3), (0, .ref (a 0)), (1, .int n), (2, .int x), (3, .int (nI k))]) hx hb dX2_renewFingers_20 hl (by decide) rfl (fun ls hl => ?_)
        refine lv_iload hx hb dX2_renewFingers_22 (lv_at hl 0 rfl) ?_
        refine lv_aload_n hx hb dX2_renewFingers_24 rfl (lv_at hl 1 rfl) ?_
        refine va_get (D := G.1) (ci := 1) (v := .ref (a 6)) (C := RX2) (T := TX2) (N := 12) hx hb hts uX2 hown hK hP 0 rfl rfl 3 (by decide) (hts (.fieldLink RX2 25 "ChordOverlay" "fingers" "LChordOverlay$Table;") (by decide +kernel)) (fun _ h9 => h9) rfl dX2_renewFingers_25 ?_
        refine lv_iload_n hx hb dX2_renewFingers_28 rfl (lv_at hl 2 rfl) ?_
        refine lv_iload_n hx hb dX2_renewFingers_29 rfl (lv_at hl 4 rfl) ?_
        refine co_rV (As := [.int n, .int (nI k)]) (rest := [.int r_3]) S (c_X1_at l G (a 6) (a 7) 6 (σ' 3) n (nI k) (by decide)) (cwV 2 hts gX2_renewFingers_X1_at rfl rfl rfl (by decide +kernel) ⟨Nat.le_of_ble_eq_true rfl, Nat.le_of_ble_eq_true rfl⟩) hK (pG_perm hP [6, 7] rfl) (va_recv hK hP (ci := 0) (q0 := 6) rfl rfl) rfl hl.1 rfl (Nat.le_of_ble_eq_true rfl) dX2_renewFingers_30 ⟨Nat.zero_le _, Nat.zero_le _⟩ ?_
        refine lv_icmp_eq (tgt := 39) hx hb dX2_renewFingers_33 (by decide) (fun c_4 => ?_) (fun c_4 => ?_)
        · refine lv_aload_n hx hb dX2_renewFingers_39 rfl (lv_at hl 1 rfl) ?_
          refine va_get (D := G.1) (ci := 1) (v := .ref (a 6)) (C := RX2) (T := TX2) (N := 12) hx hb hts uX2 hown hK hP 0 rfl rfl 3 (by decide) (hts (.fieldLink RX2 25 "ChordOverlay" "fingers" "LChordOverlay$Table;") (by decide +kernel)) (fun _ h9 => h9) rfl dX2_renewFingers_40 ?_
          refine lv_iload_n hx hb dX2_renewFingers_43 rfl (lv_at hl 2 rfl) ?_
          refine lv_iload_n hx hb dX2_renewFingers_44 rfl (lv_at hl 4 rfl) ?_
          refine lv_iload hx hb dX2_renewFingers_45 (lv_at hl 0 rfl) ?_
          refine co_mVvS (As := [.int n, .int (nI k), .int r_3]) (rest := []) (wr := ([0, 1, 2, 3, 4, 5, 8, 9, 10, 11, 12, 13, 14, 15, 16, 17, 18].filterMap (fun i => (wO G a σ' ρ_3)[i]?))) (w' := (fun u => wO G a (va_up σ' 3 u) ρ_3)) [6, 7] [0, 1, 2, 3, 4, 5, 8, 9, 10, 11, 12, 13, 14, 15, 16, 17, 18] [0, 1, 2, 3, 4, 5, 17, 18, 6, 7, 8, 9, 10, 11, 12, 13, 14, 15, 16] S (c_X1_set l G (a 6) (a 7) 6 (σ' 3) n (nI k) r_3 (by decide)) (cwV 3 hts gX2_renewFingers_X1_set rfl rfl rfl (by decide +kernel) ⟨Nat.le_of_ble_eq_true rfl, Nat.le_of_ble_eq_true rfl⟩) hK hP hD hS hA rfl rfl (by decide) (by decide) (by decide) (by decide) (fun _ => rfl) (va_recv hK hP (ci := 0) (q0 := 6) rfl rfl) rfl hl.1 rfl (Nat.le_of_ble_eq_true rfl) dX2_renewFingers_47 ⟨Nat.zero_le _, Nat.zero_le _⟩ (fun u_5 H locs hu_5 hP hD hS => ?_)
          have hP : pG G (wO G a (va_up σ' 3 u_5) ρ_3) H := hP
          have hD : va_D A (wO G a (va_up σ' 3 u_5) ρ_3) := hD
          refine lv_iinc (v := (nI (k + 1))) (lv' := [(3, .int (nI (k + 1))), (4, .int r_3), (0, .ref (a 0)), (1, .int n), (2, .int x)]) hx hb dX2_renewFingers_50 hl (k := 4) rfl (nI_1 k) (by decide) rfl (fun ls hl => ?_)
          refine lv_goto (tgt := 4) hx hb dX2_renewFingers_53 (by decide) ?_
          exact ih (k + 1) _ (va_up σ' 3 u_5) ρ_3 (by omega) (by subst hu_5; subst hr_3; subst hx9; subst h9; simp only [rfC, (eq_true c_4), ↓reduceIte]) (by subst hu_5; subst hr_3; subst h9; rfl) _ _ hP hD hS ls (lv_sub hl [2, 3, 4, 0] rfl)
        · refine lv_iinc (v := (x + 1)) (lv' := [(2, .int (x + 1)), (4, .int r_3), (0, .ref (a 0)), (1, .int n), (3, .int (nI k))]) hx hb dX2_renewFingers_36 hl (k := 3) rfl rfl (by decide) rfl (fun ls hl => ?_)
          refine lv_aload_n hx hb dX2_renewFingers_39 rfl (lv_at hl 2 rfl) ?_
          refine va_get (D := G.1) (ci := 1) (v := .ref (a 6)) (C := RX2) (T := TX2) (N := 12) hx hb hts uX2 hown hK hP 0 rfl rfl 3 (by decide) (hts (.fieldLink RX2 25 "ChordOverlay" "fingers" "LChordOverlay$Table;") (by decide +kernel)) (fun _ h9 => h9) rfl dX2_renewFingers_40 ?_
          refine lv_iload_n hx hb dX2_renewFingers_43 rfl (lv_at hl 3 rfl) ?_
          refine lv_iload_n hx hb dX2_renewFingers_44 rfl (lv_at hl 4 rfl) ?_
          refine lv_iload hx hb dX2_renewFingers_45 (lv_at hl 1 rfl) ?_
          refine co_mVvS (As := [.int n, .int (nI k), .int r_3]) (rest := []) (wr := ([0, 1, 2, 3, 4, 5, 8, 9, 10, 11, 12, 13, 14, 15, 16, 17, 18].filterMap (fun i => (wO G a σ' ρ_3)[i]?))) (w' := (fun u => wO G a (va_up σ' 3 u) ρ_3)) [6, 7] [0, 1, 2, 3, 4, 5, 8, 9, 10, 11, 12, 13, 14, 15, 16, 17, 18] [0, 1, 2, 3, 4, 5, 17, 18, 6, 7, 8, 9, 10, 11, 12, 13, 14, 15, 16] S (c_X1_set l G (a 6) (a 7) 6 (σ' 3) n (nI k) r_3 (by decide)) (cwV 3 hts gX2_renewFingers_X1_set rfl rfl rfl (by decide +kernel) ⟨Nat.le_of_ble_eq_true rfl, Nat.le_of_ble_eq_true rfl⟩) hK hP hD hS hA rfl rfl (by decide) (by decide) (by decide) (by decide) (fun _ => rfl) (va_recv hK hP (ci := 0) (q0 := 6) rfl rfl) rfl hl.1 rfl (Nat.le_of_ble_eq_true rfl) dX2_renewFingers_47 ⟨Nat.zero_le _, Nat.zero_le _⟩ (fun u_6 H locs hu_6 hP hD hS => ?_)
          have hP : pG G (wO G a (va_up σ' 3 u_6) ρ_3) H := hP
          have hD : va_D A (wO G a (va_up σ' 3 u_6) ρ_3) := hD
          refine lv_iinc (v := (nI (k + 1))) (lv' := [(3, .int (nI (k + 1))), (2, .int (x + 1)), (4, .int r_3), (0, .ref (a 0)), (1, .int n)]) hx hb dX2_renewFingers_50 hl (k := 4) rfl (nI_1 k) (by decide) rfl (fun ls hl => ?_)
          refine lv_goto (tgt := 4) hx hb dX2_renewFingers_53 (by decide) ?_
          exact ih (k + 1) _ (va_up σ' 3 u_6) ρ_3 (by omega) (by subst hu_6; subst hr_3; subst hx9; subst h9; simp only [rfC, c_4, ↓reduceIte]) (by subst hu_6; subst hr_3; subst h9; rfl) _ _ hP hD hS ls (lv_sub hl [3, 4, 1, 0] rfl)
  exact LP 6 0 _ _ _ rfl rfl rfl _ _ hP hD hS ls (lv_sub hl [2, 3, 1, 0] rfl)

abbrev rm_X2_copyToHeirs : Room := { frames := 2, cells := 0, slots := 0, locals := 48 }
set_option maxHeartbeats 4000000 in
set_option maxRecDepth 100000 in
theorem c_X2_copyToHeirs (l : Launch) (G : cG) (a : Nat → Nat) (σ ρ : cS) (n : Int32) (k : Int32) : MetI l yX2_copyToHeirs wsX2_copyToHeirs rm_X2_copyToHeirs G (wO G a σ ρ) [.ref (a 0), .int n, .int k] (fun u : cS × cS => wO G a u.1 u.2) (fun r u => r = (chC σ n k) ∧ u.1 = (chS σ n k)) := by
  refine co_bodyI (cc := cX2_copyToHeirs) (maxL := 6) (ret := (some .int)) (by decide) rfl (Nat.le_of_ble_eq_true rfl) ?_
  intro p e s m args below meth c S hr hlocks hK A hA hP hD hS ls hl
  have S : CallFix p m c cX2_copyToHeirs 6 s args wsX2_copyToHeirs RX2 := S
  obtain ⟨hx, hb, hml, hown, hts⟩ := id S
  have hl : lv_has ls 6 [(0, .ref (a 0)), (1, .int n), (2, .int k)] := hl
  refine lv_aload_n hx hb dX2_copyToHeirs_0 rfl (lv_at hl 0 rfl) ?_
  refine lv_iload_n hx hb dX2_copyToHeirs_1 rfl (lv_at hl 1 rfl) ?_
  refine lv_iconst (v := (-1)) hx hb dX2_copyToHeirs_2 (by decide) ?_
  refine co_rV (As := [.int n, .int (-1)]) (rest := []) S (c_X2_firstHeir l G a σ ρ n (-1)) (cwV 2 hts gX2_copyToHeirs_X2_firstHeir rfl rfl rfl (by decide +kernel) ⟨Nat.le_of_ble_eq_true rfl, Nat.le_of_ble_eq_true rfl⟩) hK hP (va_recv hK hP (ci := 1) (q0 := 0) rfl rfl) rfl hl.1 rfl (Nat.le_of_ble_eq_true rfl) dX2_copyToHeirs_3 ⟨Nat.zero_le _, Nat.zero_le _⟩ ?_
  refine lv_istore_n (lv' := [(3, .int (heir (σ 0) (σ 1) n (-1))), (0, .ref (a 0)), (1, .int n), (2, .int k)]) hx hb dX2_copyToHeirs_6 rfl hl (by decide) rfl (fun ls hl => ?_)
  refine lv_aload_n hx hb dX2_copyToHeirs_7 rfl (lv_at hl 1 rfl) ?_
  refine lv_iload_n hx hb dX2_copyToHeirs_8 rfl (lv_at hl 2 rfl) ?_
  refine lv_iload_n hx hb dX2_copyToHeirs_9 rfl (lv_at hl 0 rfl) ?_
  refine co_rV (As := [.int n, .int (heir (σ 0) (σ 1) n (-1))]) (rest := []) S (c_X2_firstHeir l G a σ ρ n (heir (σ 0) (σ 1) n (-1))) (cwV 2 hts gX2_copyToHeirs_X2_firstHeir rfl rfl rfl (by decide +kernel) ⟨Nat.le_of_ble_eq_true rfl, Nat.le_of_ble_eq_true rfl⟩) hK hP (va_recv hK hP (ci := 1) (q0 := 0) rfl rfl) rfl hl.1 rfl (Nat.le_of_ble_eq_true rfl) dX2_copyToHeirs_10 ⟨Nat.zero_le _, Nat.zero_le _⟩ ?_
  refine lv_istore (lv' := [(4, .int (heir (σ 0) (σ 1) n (heir (σ 0) (σ 1) n (-1)))), (3, .int (heir (σ 0) (σ 1) n (-1))), (0, .ref (a 0)), (1, .int n), (2, .int k)]) hx hb dX2_copyToHeirs_13 hl (by decide) rfl (fun ls hl => ?_)
  refine lv_iconst (v := 0) hx hb dX2_copyToHeirs_15 (by decide) ?_
  refine lv_istore (lv' := [(5, .int 0), (4, .int (heir (σ 0) (σ 1) n (heir (σ 0) (σ 1) n (-1)))), (3, .int (heir (σ 0) (σ 1) n (-1))), (0, .ref (a 0)), (1, .int n), (2, .int k)]) hx hb dX2_copyToHeirs_16 hl (by decide) rfl (fun ls hl => ?_)
  refine lv_iload_n hx hb dX2_copyToHeirs_18 rfl (lv_at hl 2 rfl) ?_
  refine lv_iconst (v := (-1)) hx hb dX2_copyToHeirs_19 (by decide) ?_
  refine lv_icmp_eq (tgt := 35) hx hb dX2_copyToHeirs_20 (by decide) (fun c_1 => ?_) (fun c_1 => ?_)
  · refine lv_iload hx hb dX2_copyToHeirs_35 (lv_at hl 1 rfl) ?_
    refine lv_iconst (v := (-1)) hx hb dX2_copyToHeirs_37 (by decide) ?_
    refine lv_icmp_eq (tgt := 54) hx hb dX2_copyToHeirs_38 (by decide) (fun c_2 => ?_) (fun c_2 => ?_)
    · refine lv_iload hx hb dX2_copyToHeirs_54 (lv_at hl 0 rfl) ?_
      exact co_endI (σ, ρ) S hr hlocks dX2_copyToHeirs_56 hK hP hD hS (by refine ⟨?_, ?_⟩; (simp only [chC, ccA, chA, (eq_true c_1), (eq_true c_2), ↓reduceIte]); (show σ = (chS σ n k); simp only [chS, chA, (eq_true c_1), (eq_true c_2), ↓reduceIte]))
    · refine lv_iload hx hb dX2_copyToHeirs_41 (lv_at hl 0 rfl) ?_
      refine lv_aload_n hx hb dX2_copyToHeirs_43 rfl (lv_at hl 3 rfl) ?_
      refine lv_iload_n hx hb dX2_copyToHeirs_44 rfl (lv_at hl 4 rfl) ?_
      refine lv_iload hx hb dX2_copyToHeirs_45 (lv_at hl 1 rfl) ?_
      refine lv_iload_n hx hb dX2_copyToHeirs_47 rfl (lv_at hl 5 rfl) ?_
      refine co_mVi (As := [.int n, .int (heir (σ 0) (σ 1) n (heir (σ 0) (σ 1) n (-1))), .int k]) (rest := [.int 0]) S (c_X2_giveCopy l G a σ ρ n (heir (σ 0) (σ 1) n (heir (σ 0) (σ 1) n (-1))) k) (cwV 3 hts gX2_copyToHeirs_X2_giveCopy rfl rfl rfl (by decide +kernel) ⟨Nat.le_of_ble_eq_true rfl, Nat.le_of_ble_eq_true rfl⟩) hK hP hD hS hA (va_recv hK hP (ci := 1) (q0 := 0) rfl rfl) rfl hl.1 rfl (Nat.le_of_ble_eq_true rfl) dX2_copyToHeirs_48 ⟨Nat.zero_le _, Nat.zero_le _⟩ (fun r_3 u_3 H locs hu_3 hP hD hS => ?_)
      obtain ⟨σ_3, ρ_3⟩ := u_3
      obtain ⟨hr_3, hu_3⟩ := hu_3
      have hr_3 : r_3 = gcC σ n (heir (σ 0) (σ 1) n (heir (σ 0) (σ 1) n (-1))) k := hr_3
      have hu_3 : σ_3 = gcS σ n (heir (σ 0) (σ 1) n (heir (σ 0) (σ 1) n (-1))) k := hu_3
      have hP : pG G (wO G a σ_3 ρ_3) H := hP
      have hD : va_D A (wO G a σ_3 ρ_3) := hD
      refine lv_iadd hx hb dX2_copyToHeirs_51 ?_
      refine lv_istore (lv' := [(5, .int (0 + r_3)), (4, .int (heir (σ 0) (σ 1) n (heir (σ 0) (σ 1) n (-1)))), (3, .int (heir (σ 0) (σ 1) n (-1))), (0, .ref (a 0)), (1, .int n), (2, .int k)]) hx hb dX2_copyToHeirs_52 hl (by decide) rfl (fun ls hl => ?_)
      refine lv_iload hx hb dX2_copyToHeirs_54 (lv_at hl 0 rfl) ?_
      exact co_endI (σ_3, ρ_3) S hr hlocks dX2_copyToHeirs_56 hK hP hD hS (by refine ⟨?_, ?_⟩; (subst hu_3; subst hr_3; simp only [chC, ccA, chA, (eq_true c_1), c_2, ↓reduceIte]); (show σ_3 = (chS σ n k); subst hu_3; subst hr_3; simp only [chS, chA, (eq_true c_1), c_2, ↓reduceIte]))
  · refine lv_iload hx hb dX2_copyToHeirs_23 (lv_at hl 0 rfl) ?_
    refine lv_aload_n hx hb dX2_copyToHeirs_25 rfl (lv_at hl 3 rfl) ?_
    refine lv_iload_n hx hb dX2_copyToHeirs_26 rfl (lv_at hl 4 rfl) ?_
    refine lv_iload_n hx hb dX2_copyToHeirs_27 rfl (lv_at hl 2 rfl) ?_
    refine lv_iload_n hx hb dX2_copyToHeirs_28 rfl (lv_at hl 5 rfl) ?_
    refine co_mVi (As := [.int n, .int (heir (σ 0) (σ 1) n (-1)), .int k]) (rest := [.int 0]) S (c_X2_giveCopy l G a σ ρ n (heir (σ 0) (σ 1) n (-1)) k) (cwV 3 hts gX2_copyToHeirs_X2_giveCopy rfl rfl rfl (by decide +kernel) ⟨Nat.le_of_ble_eq_true rfl, Nat.le_of_ble_eq_true rfl⟩) hK hP hD hS hA (va_recv hK hP (ci := 1) (q0 := 0) rfl rfl) rfl hl.1 rfl (Nat.le_of_ble_eq_true rfl) dX2_copyToHeirs_29 ⟨Nat.zero_le _, Nat.zero_le _⟩ (fun r_4 u_4 H locs hu_4 hP hD hS => ?_)
    obtain ⟨σ_4, ρ_4⟩ := u_4
    obtain ⟨hr_4, hu_4⟩ := hu_4
    have hr_4 : r_4 = gcC σ n (heir (σ 0) (σ 1) n (-1)) k := hr_4
    have hu_4 : σ_4 = gcS σ n (heir (σ 0) (σ 1) n (-1)) k := hu_4
    have hP : pG G (wO G a σ_4 ρ_4) H := hP
    have hD : va_D A (wO G a σ_4 ρ_4) := hD
    refine lv_iadd hx hb dX2_copyToHeirs_32 ?_
    refine lv_istore (lv' := [(5, .int (0 + r_4)), (4, .int (heir (σ 0) (σ 1) n (heir (σ 0) (σ 1) n (-1)))), (3, .int (heir (σ 0) (σ 1) n (-1))), (0, .ref (a 0)), (1, .int n), (2, .int k)]) hx hb dX2_copyToHeirs_33 hl (by decide) rfl (fun ls hl => ?_)
    refine lv_iload hx hb dX2_copyToHeirs_35 (lv_at hl 1 rfl) ?_
    refine lv_iconst (v := (-1)) hx hb dX2_copyToHeirs_37 (by decide) ?_
    refine lv_icmp_eq (tgt := 54) hx hb dX2_copyToHeirs_38 (by decide) (fun c_5 => ?_) (fun c_5 => ?_)
    · refine lv_iload hx hb dX2_copyToHeirs_54 (lv_at hl 0 rfl) ?_
      exact co_endI (σ_4, ρ_4) S hr hlocks dX2_copyToHeirs_56 hK hP hD hS (by refine ⟨?_, ?_⟩; (subst hu_4; subst hr_4; simp only [chC, ccA, chA, c_1, (eq_true c_5), ↓reduceIte]); (show σ_4 = (chS σ n k); subst hu_4; subst hr_4; simp only [chS, chA, c_1, (eq_true c_5), ↓reduceIte]))
    · refine lv_iload hx hb dX2_copyToHeirs_41 (lv_at hl 0 rfl) ?_
      refine lv_aload_n hx hb dX2_copyToHeirs_43 rfl (lv_at hl 3 rfl) ?_
      refine lv_iload_n hx hb dX2_copyToHeirs_44 rfl (lv_at hl 4 rfl) ?_
      refine lv_iload hx hb dX2_copyToHeirs_45 (lv_at hl 1 rfl) ?_
      refine lv_iload_n hx hb dX2_copyToHeirs_47 rfl (lv_at hl 5 rfl) ?_
      refine co_mVi (As := [.int n, .int (heir (σ 0) (σ 1) n (heir (σ 0) (σ 1) n (-1))), .int k]) (rest := [.int (0 + r_4)]) S (c_X2_giveCopy l G a σ_4 ρ_4 n (heir (σ 0) (σ 1) n (heir (σ 0) (σ 1) n (-1))) k) (cwV 3 hts gX2_copyToHeirs_X2_giveCopy rfl rfl rfl (by decide +kernel) ⟨Nat.le_of_ble_eq_true rfl, Nat.le_of_ble_eq_true rfl⟩) hK hP hD hS hA (va_recv hK hP (ci := 1) (q0 := 0) rfl rfl) rfl hl.1 rfl (Nat.le_of_ble_eq_true rfl) dX2_copyToHeirs_48 ⟨Nat.zero_le _, Nat.zero_le _⟩ (fun r_6 u_6 H locs hu_6 hP hD hS => ?_)
      obtain ⟨σ_6, ρ_6⟩ := u_6
      obtain ⟨hr_6, hu_6⟩ := hu_6
      have hr_6 : r_6 = gcC σ_4 n (heir (σ 0) (σ 1) n (heir (σ 0) (σ 1) n (-1))) k := hr_6
      have hu_6 : σ_6 = gcS σ_4 n (heir (σ 0) (σ 1) n (heir (σ 0) (σ 1) n (-1))) k := hu_6
      have hP : pG G (wO G a σ_6 ρ_6) H := hP
      have hD : va_D A (wO G a σ_6 ρ_6) := hD
      refine lv_iadd hx hb dX2_copyToHeirs_51 ?_
      refine lv_istore (lv' := [(5, .int ((0 + r_4) + r_6)), (4, .int (heir (σ 0) (σ 1) n (heir (σ 0) (σ 1) n (-1)))), (3, .int (heir (σ 0) (σ 1) n (-1))), (0, .ref (a 0)), (1, .int n), (2, .int k)]) hx hb dX2_copyToHeirs_52 hl (by decide) rfl (fun ls hl => ?_)
      refine lv_iload hx hb dX2_copyToHeirs_54 (lv_at hl 0 rfl) ?_
      exact co_endI (σ_6, ρ_6) S hr hlocks dX2_copyToHeirs_56 hK hP hD hS (by refine ⟨?_, ?_⟩; (subst hu_6; subst hr_6; subst hu_4; subst hr_4; simp only [chC, ccA, chA, c_1, c_5, ↓reduceIte]); (show σ_6 = (chS σ n k); subst hu_6; subst hr_6; subst hu_4; subst hr_4; simp only [chS, chA, c_1, c_5, ↓reduceIte]))

set_option maxRecDepth 20000 in
theorem uX2_X2_spreadValue : ∀ w ∈ u_ws RX2 TX2 12, w ∈ wsX2_spreadValue := by decide +kernel
abbrev rm_X2_spreadValue : Room := { frames := 3, cells := 0, slots := 0, locals := 73 }
set_option maxHeartbeats 4000000 in
set_option maxRecDepth 100000 in
theorem c_X2_spreadValue (l : Launch) (G : cG) (a : Nat → Nat) (σ ρ : cS) (n : Int32) (k : Int32) : MetI l yX2_spreadValue wsX2_spreadValue rm_X2_spreadValue G (wO G a σ ρ) [.ref (a 0), .int n, .int k] (fun u : cS × cS => wO G a u.1 u.2) (fun r u => r = (spC σ n k) ∧ u.1 = (spS σ n k)) := by
  refine co_bodyI (cc := cX2_spreadValue) (maxL := 4) (ret := (some .int)) (by decide) rfl (Nat.le_of_ble_eq_true rfl) ?_
  intro p e s m args below meth c S hr hlocks hK A hA hP hD hS ls hl
  have S : CallFix p m c cX2_spreadValue 4 s args wsX2_spreadValue RX2 := S
  obtain ⟨hx, hb, hml, hown, hts⟩ := id S
  have hl : lv_has ls 4 [(0, .ref (a 0)), (1, .int n), (2, .int k)] := hl
  have uX2 := uX2_X2_spreadValue
  refine lv_aload_n hx hb dX2_spreadValue_0 rfl (lv_at hl 0 rfl) ?_
  refine va_get (D := G.1) (ci := 1) (v := .ref (a 4)) (C := RX2) (T := TX2) (N := 12) hx hb hts uX2 hown hK hP 0 rfl rfl 2 (by decide) (hts (.fieldLink RX2 22 "ChordOverlay" "predecessors" "LChordOverlay$Table;") (by decide +kernel)) (fun _ h9 => h9) rfl dX2_spreadValue_1 ?_
  refine lv_iload_n hx hb dX2_spreadValue_4 rfl (lv_at hl 1 rfl) ?_
  refine lv_iconst (v := 0) hx hb dX2_spreadValue_5 (by decide) ?_
  refine co_rV (As := [.int n, .int 0]) (rest := []) S (c_X1_at l G (a 4) (a 5) 1 (σ 2) n 0 (by decide)) (cwV 2 hts gX2_spreadValue_X1_at rfl rfl rfl (by decide +kernel) ⟨Nat.le_of_ble_eq_true rfl, Nat.le_of_ble_eq_true rfl⟩) hK (pG_perm hP [4, 5] rfl) (va_recv hK hP (ci := 0) (q0 := 4) rfl rfl) rfl hl.1 rfl (Nat.le_of_ble_eq_true rfl) dX2_spreadValue_6 ⟨Nat.zero_le _, Nat.zero_le _⟩ ?_
  refine lv_istore_n (lv' := [(3, .int (tat 1 (σ 2) n 0)), (0, .ref (a 0)), (1, .int n), (2, .int k)]) hx hb dX2_spreadValue_9 rfl hl (by decide) rfl (fun ls hl => ?_)
  refine lv_iload_n hx hb dX2_spreadValue_10 rfl (lv_at hl 0 rfl) ?_
  refine lv_iconst (v := (-1)) hx hb dX2_spreadValue_11 (by decide) ?_
  refine lv_icmp_eq (tgt := 37) hx hb dX2_spreadValue_12 (by decide) (fun c_1 => ?_) (fun c_1 => ?_)
  · refine lv_aload_n hx hb dX2_spreadValue_37 rfl (lv_at hl 1 rfl) ?_
    refine lv_iload_n hx hb dX2_spreadValue_38 rfl (lv_at hl 2 rfl) ?_
    refine lv_iload_n hx hb dX2_spreadValue_39 rfl (lv_at hl 3 rfl) ?_
    refine co_mVi (As := [.int n, .int k]) (rest := []) S (c_X2_copyToHeirs l G a σ ρ n k) (cwV 2 hts gX2_spreadValue_X2_copyToHeirs rfl rfl rfl (by decide +kernel) ⟨Nat.le_of_ble_eq_true rfl, Nat.le_of_ble_eq_true rfl⟩) hK hP hD hS hA (va_recv hK hP (ci := 1) (q0 := 0) rfl rfl) rfl hl.1 rfl (Nat.le_of_ble_eq_true rfl) dX2_spreadValue_40 ⟨Nat.zero_le _, Nat.zero_le _⟩ (fun r_2 u_2 H locs hu_2 hP hD hS => ?_)
    obtain ⟨σ_2, ρ_2⟩ := u_2
    obtain ⟨hr_2, hu_2⟩ := hu_2
    have hr_2 : r_2 = chC σ n k := hr_2
    have hu_2 : σ_2 = chS σ n k := hu_2
    have hP : pG G (wO G a σ_2 ρ_2) H := hP
    have hD : va_D A (wO G a σ_2 ρ_2) := hD
    exact co_endI (σ_2, ρ_2) S hr hlocks dX2_spreadValue_43 hK hP hD hS (by refine ⟨?_, ?_⟩; (subst hu_2; subst hr_2; simp only [spC, eq_self, Bool.false_eq_true, (eq_true c_1), ↓reduceIte]); (show σ_2 = (spS σ n k); subst hu_2; subst hr_2; simp only [spS, eq_self, Bool.false_eq_true, (eq_true c_1), ↓reduceIte]))
  · refine lv_iload_n hx hb dX2_spreadValue_15 rfl (lv_at hl 3 rfl) ?_
    refine lv_iload_n hx hb dX2_spreadValue_16 rfl (lv_at hl 0 rfl) ?_
    refine lv_iload_n hx hb dX2_spreadValue_17 rfl (lv_at hl 2 rfl) ?_
    refine co_rS (As := [.int k, .int (tat 1 (σ 2) n 0), .int n]) (rest := []) S (c_X0_isUpTo l G k (tat 1 (σ 2) n 0) n) (va_cwS 3 hts gX2_spreadValue_X0_isUpTo rfl rfl rfl (by decide +kernel) ⟨Nat.le_of_ble_eq_true rfl, Nat.le_of_ble_eq_true rfl⟩) hK (pG_nil) rfl hl.1 rfl (Nat.le_of_ble_eq_true rfl) dX2_spreadValue_18 ⟨Nat.zero_le _, Nat.zero_le _⟩ ?_
    refine co_ifne (tgt := 37) S dX2_spreadValue_21 (by decide) (fun c_3 => ?_) (fun c_3 => ?_)
    · refine lv_aload_n hx hb dX2_spreadValue_37 rfl (lv_at hl 1 rfl) ?_
      refine lv_iload_n hx hb dX2_spreadValue_38 rfl (lv_at hl 2 rfl) ?_
      refine lv_iload_n hx hb dX2_spreadValue_39 rfl (lv_at hl 3 rfl) ?_
      refine co_mVi (As := [.int n, .int k]) (rest := []) S (c_X2_copyToHeirs l G a σ ρ n k) (cwV 2 hts gX2_spreadValue_X2_copyToHeirs rfl rfl rfl (by decide +kernel) ⟨Nat.le_of_ble_eq_true rfl, Nat.le_of_ble_eq_true rfl⟩) hK hP hD hS hA (va_recv hK hP (ci := 1) (q0 := 0) rfl rfl) rfl hl.1 rfl (Nat.le_of_ble_eq_true rfl) dX2_spreadValue_40 ⟨Nat.zero_le _, Nat.zero_le _⟩ (fun r_4 u_4 H locs hu_4 hP hD hS => ?_)
      obtain ⟨σ_4, ρ_4⟩ := u_4
      obtain ⟨hr_4, hu_4⟩ := hu_4
      have hr_4 : r_4 = chC σ n k := hr_4
      have hu_4 : σ_4 = chS σ n k := hu_4
      have hP : pG G (wO G a σ_4 ρ_4) H := hP
      have hD : va_D A (wO G a σ_4 ρ_4) := hD
      exact co_endI (σ_4, ρ_4) S hr hlocks dX2_spreadValue_43 hK hP hD hS (by refine ⟨?_, ?_⟩; (subst hu_4; subst hr_4; simp only [spC, eq_self, Bool.false_eq_true, c_1, c_3, ↓reduceIte]); (show σ_4 = (spS σ n k); subst hu_4; subst hr_4; simp only [spS, eq_self, Bool.false_eq_true, c_1, c_3, ↓reduceIte]))
    · refine lv_aload_n hx hb dX2_spreadValue_24 rfl (lv_at hl 1 rfl) ?_
      refine lv_iload_n hx hb dX2_spreadValue_25 rfl (lv_at hl 2 rfl) ?_
      refine lv_aload_n hx hb dX2_spreadValue_26 rfl (lv_at hl 1 rfl) ?_
      refine lv_iload_n hx hb dX2_spreadValue_27 rfl (lv_at hl 2 rfl) ?_
      refine lv_iload_n hx hb dX2_spreadValue_28 rfl (lv_at hl 3 rfl) ?_
      refine co_mVi (As := [.int n, .int k]) (rest := [.int n, .ref (a 0)]) S (c_X2_find l G a σ ρ n k) (cwV 2 hts gX2_spreadValue_X2_find rfl rfl rfl (by decide +kernel) ⟨Nat.le_of_ble_eq_true rfl, Nat.le_of_ble_eq_true rfl⟩) hK hP hD hS hA (va_recv hK hP (ci := 1) (q0 := 0) rfl rfl) rfl hl.1 rfl (Nat.le_of_ble_eq_true rfl) dX2_spreadValue_29 ⟨Nat.zero_le _, Nat.zero_le _⟩ (fun r_5 u_5 H locs hu_5 hP hD hS => ?_)
      obtain ⟨σ_5, ρ_5⟩ := u_5
      obtain ⟨hr_5, hu_5, hp_5⟩ := hu_5
      have hr_5 : r_5 = fnR σ n k := hr_5
      have hu_5 : σ_5 = σ := hu_5
      have hP : pG G (wO G a σ_5 ρ_5) H := hP
      have hD : va_D A (wO G a σ_5 ρ_5) := hD
      rw [hu_5] at hP hD
      refine lv_iload_n hx hb dX2_spreadValue_32 rfl (lv_at hl 3 rfl) ?_
      refine co_mVi (As := [.int n, .int r_5, .int k]) (rest := []) S (c_X2_giveCopy l G a σ ρ_5 n r_5 k) (cwV 3 hts gX2_spreadValue_X2_giveCopy rfl rfl rfl (by decide +kernel) ⟨Nat.le_of_ble_eq_true rfl, Nat.le_of_ble_eq_true rfl⟩) hK hP hD hS hA (va_recv hK hP (ci := 1) (q0 := 0) rfl rfl) rfl hl.1 rfl (Nat.le_of_ble_eq_true rfl) dX2_spreadValue_33 ⟨Nat.zero_le _, Nat.zero_le _⟩ (fun r_6 u_6 H locs hu_6 hP hD hS => ?_)
      obtain ⟨σ_6, ρ_6⟩ := u_6
      obtain ⟨hr_6, hu_6⟩ := hu_6
      have hr_6 : r_6 = gcC σ n r_5 k := hr_6
      have hu_6 : σ_6 = gcS σ n r_5 k := hu_6
      have hP : pG G (wO G a σ_6 ρ_6) H := hP
      have hD : va_D A (wO G a σ_6 ρ_6) := hD
      exact co_endI (σ_6, ρ_6) S hr hlocks dX2_spreadValue_36 hK hP hD hS (by refine ⟨?_, ?_⟩; (subst hu_6; subst hr_6; subst hr_5; simp only [spC, eq_self, Bool.false_eq_true, c_1, c_3, ↓reduceIte]); (show σ_6 = (spS σ n k); subst hu_6; subst hr_6; subst hr_5; simp only [spS, eq_self, Bool.false_eq_true, c_1, c_3, ↓reduceIte]))

set_option maxRecDepth 20000 in
theorem uX2_X2_spreadValues : ∀ w ∈ u_ws RX2 TX2 12, w ∈ wsX2_spreadValues := by decide +kernel
abbrev rm_X2_spreadValues : Room := { frames := 4, cells := 0, slots := 0, locals := 96 }
set_option maxHeartbeats 4000000 in
set_option maxRecDepth 100000 in
theorem c_X2_spreadValues (l : Launch) (G : cG) (a : Nat → Nat) (σ ρ : cS) (n : Int32) : MetI l yX2_spreadValues wsX2_spreadValues rm_X2_spreadValues G (wO G a σ ρ) [.ref (a 0), .int n] (fun u : cS × cS => wO G a u.1 u.2) (fun r u => r = (svC σ n 64) ∧ u.1 = (svS σ n 64)) := by
  refine co_bodyI (cc := cX2_spreadValues) (maxL := 4) (ret := (some .int)) (by decide) rfl (Nat.le_of_ble_eq_true rfl) ?_
  intro p e s m args below meth c S hr hlocks hK A hA hP hD hS ls hl
  have S : CallFix p m c cX2_spreadValues 4 s args wsX2_spreadValues RX2 := S
  obtain ⟨hx, hb, hml, hown, hts⟩ := id S
  have hl : lv_has ls 4 [(0, .ref (a 0)), (1, .int n)] := hl
  have uX2 := uX2_X2_spreadValues
  refine lv_iconst (v := 0) hx hb dX2_spreadValues_0 (by decide) ?_
  refine lv_istore_n (lv' := [(2, .int 0), (0, .ref (a 0)), (1, .int n)]) hx hb dX2_spreadValues_1 rfl hl (by decide) rfl (fun ls hl => ?_)
  refine lv_iconst (v := 0) hx hb dX2_spreadValues_2 (by decide) ?_
  refine lv_istore_n (lv' := [(3, .int 0), (2, .int 0), (0, .ref (a 0)), (1, .int n)]) hx hb dX2_spreadValues_3 rfl hl (by decide) rfl (fun ls hl => ?_)
  have LP : ∀ (d : Nat) (k : Nat) (x : Int32) (σ' ρ' : cS), k + d = 64 → x = svC σ n k → σ' = svS σ n k → ∀ (H : Heap) (locs : List Loc), pG G (wO G a σ' ρ') H → va_D A (wO G a σ' ρ') → va_S A s.heap H locs → ∀ ls : Array Slot, lv_has ls 4 [(0, .ref (a 0)), (1, .int n), (2, .int x), (3, .int (nI k))] → W p l e rm_X2_spreadValues s m args below meth c H locs 0 0 (QI below G A (fun u : cS × cS => wO G a u.1 u.2) (fun r u => r = (svC σ n 64) ∧ u.1 = (svS σ n 64)) args s) (F0 m 4 ls []) := by
    intro d
    induction d with
    | zero =>
      intro k x σ' ρ' hk hx9 h9 H locs hP hD hS ls hl
      refine lv_iload_n hx hb dX2_spreadValues_4 rfl (lv_at hl 3 rfl) ?_
      refine lv_bipush (v := 64) hx hb dX2_spreadValues_5 (by decide) ?_
      refine lv_icmp_ge (tgt := 38) hx hb dX2_spreadValues_7 (by decide) (fun c_1 => ?_) (fun c_1 => ?_)
      · refine lv_iload_n hx hb dX2_spreadValues_38 rfl (lv_at hl 2 rfl) ?_
        exact co_endI (σ', ρ') S hr hlocks dX2_spreadValues_39 hK hP hD hS (by have hk6 : k = 64 := (by omega); subst hk6; exact ⟨hx9, h9⟩)
      · exact absurd (nI_le (a := 64) (b := k) (by omega) (by omega)) c_1
    | succ d ih =>
      intro k x σ' ρ' hk hx9 h9 H locs hP hD hS ls hl
      refine lv_iload_n hx hb dX2_spreadValues_4 rfl (lv_at hl 3 rfl) ?_
      refine lv_bipush (v := 64) hx hb dX2_spreadValues_5 (by decide) ?_
      refine lv_icmp_ge (tgt := 38) hx hb dX2_spreadValues_7 (by decide) (fun c_2 => ?_) (fun c_2 => ?_)
      · exact absurd c_2 (nI_ge (a := k) (b := 64) (by omega) (by omega))
      · refine lv_aload_n hx hb dX2_spreadValues_10 rfl (lv_at hl 0 rfl) ?_
        refine va_get (D := G.1) (ci := 1) (v := .ref (a 8)) (C := RX2) (T := TX2) (N := 12) hx hb hts uX2 hown hK hP 0 rfl rfl 4 (by decide) (hts (.fieldLink RX2 28 "ChordOverlay" "values" "LChordOverlay$Table;") (by decide +kernel)) (fun _ h9 => h9) rfl dX2_spreadValues_11 ?_
        refine lv_iload_n hx hb dX2_spreadValues_14 rfl (lv_at hl 1 rfl) ?_
        refine lv_iload_n hx hb dX2_spreadValues_15 rfl (lv_at hl 3 rfl) ?_
        refine co_rV (As := [.int n, .int (nI k)]) (rest := []) S (c_X1_at l G (a 8) (a 9) 64 (σ' 4) n (nI k) (by decide)) (cwV 2 hts gX2_spreadValues_X1_at rfl rfl rfl (by decide +kernel) ⟨Nat.le_of_ble_eq_true rfl, Nat.le_of_ble_eq_true rfl⟩) hK (pG_perm hP [8, 9] rfl) (va_recv hK hP (ci := 0) (q0 := 8) rfl rfl) rfl hl.1 rfl (Nat.le_of_ble_eq_true rfl) dX2_spreadValues_16 ⟨Nat.zero_le _, Nat.zero_le _⟩ ?_
        refine lv_iconst (v := (-1)) hx hb dX2_spreadValues_19 (by decide) ?_
        refine lv_icmp_eq (tgt := 32) hx hb dX2_spreadValues_20 (by decide) (fun c_3 => ?_) (fun c_3 => ?_)
        · refine lv_iinc (v := (nI (k + 1))) (lv' := [(3, .int (nI (k + 1))), (0, .ref (a 0)), (1, .int n), (2, .int x)]) hx hb dX2_spreadValues_32 hl (k := 3) rfl (nI_1 k) (by decide) rfl (fun ls hl => ?_)
          refine lv_goto (tgt := 4) hx hb dX2_spreadValues_35 (by decide) ?_
          exact ih (k + 1) _ σ' ρ' (by omega) (by subst hx9; subst h9; simp only [svC, (eq_true c_3), ↓reduceIte]) (by subst h9; simp only [svS, (eq_true c_3), ↓reduceIte]) _ _ hP hD hS ls (lv_sub hl [1, 2, 3, 0] rfl)
        · refine lv_iload_n hx hb dX2_spreadValues_23 rfl (lv_at hl 2 rfl) ?_
          refine lv_aload_n hx hb dX2_spreadValues_24 rfl (lv_at hl 0 rfl) ?_
          refine lv_iload_n hx hb dX2_spreadValues_25 rfl (lv_at hl 1 rfl) ?_
          refine lv_iload_n hx hb dX2_spreadValues_26 rfl (lv_at hl 3 rfl) ?_
          refine co_mVi (As := [.int n, .int (nI k)]) (rest := [.int x]) S (c_X2_spreadValue l G a σ' ρ' n (nI k)) (cwV 2 hts gX2_spreadValues_X2_spreadValue rfl rfl rfl (by decide +kernel) ⟨Nat.le_of_ble_eq_true rfl, Nat.le_of_ble_eq_true rfl⟩) hK hP hD hS hA (va_recv hK hP (ci := 1) (q0 := 0) rfl rfl) rfl hl.1 rfl (Nat.le_of_ble_eq_true rfl) dX2_spreadValues_27 ⟨Nat.zero_le _, Nat.zero_le _⟩ (fun r_4 u_4 H locs hu_4 hP hD hS => ?_)
          obtain ⟨σ_4, ρ_4⟩ := u_4
          obtain ⟨hr_4, hu_4⟩ := hu_4
          have hr_4 : r_4 = spC σ' n (nI k) := hr_4
          have hu_4 : σ_4 = spS σ' n (nI k) := hu_4
          have hP : pG G (wO G a σ_4 ρ_4) H := hP
          have hD : va_D A (wO G a σ_4 ρ_4) := hD
          refine lv_iadd hx hb dX2_spreadValues_30 ?_
          refine lv_istore_n (lv' := [(2, .int (x + r_4)), (0, .ref (a 0)), (1, .int n), (3, .int (nI k))]) hx hb dX2_spreadValues_31 rfl hl (by decide) rfl (fun ls hl => ?_)
          refine lv_iinc (v := (nI (k + 1))) (lv' := [(3, .int (nI (k + 1))), (2, .int (x + r_4)), (0, .ref (a 0)), (1, .int n)]) hx hb dX2_spreadValues_32 hl (k := 3) rfl (nI_1 k) (by decide) rfl (fun ls hl => ?_)
          refine lv_goto (tgt := 4) hx hb dX2_spreadValues_35 (by decide) ?_
          exact ih (k + 1) _ σ_4 ρ_4 (by omega) (by subst hu_4; subst hr_4; subst hx9; subst h9; simp only [svC, c_3, ↓reduceIte]) (by subst hu_4; subst hr_4; subst h9; simp only [svS, c_3, ↓reduceIte]) _ _ hP hD hS ls (lv_sub hl [2, 3, 1, 0] rfl)
  exact LP 64 0 _ _ _ rfl rfl rfl _ _ hP hD hS ls (lv_sub hl [2, 3, 1, 0] rfl)

abbrev rm_X2_letRoundGoBy : Room := { frames := 5, cells := 0, slots := 0, locals := 119 }
set_option maxHeartbeats 4000000 in
set_option maxRecDepth 100000 in
theorem c_X2_letRoundGoBy (l : Launch) (G : cG) (a : Nat → Nat) (σ ρ : cS) (b : Bool) : MetV l yX2_letRoundGoBy wsX2_letRoundGoBy rm_X2_letRoundGoBy G (wO G a σ ρ) [.ref (a 0), .int (bI b)] (fun u : cS × cS => wO G a u.1 u.2) (fun u => u.1 = (lrS b σ 64)) := by
  refine co_bodyV (cc := cX2_letRoundGoBy) (maxL := 3) (ret := none) (by decide) rfl (Nat.le_of_ble_eq_true rfl) ?_
  intro p e s m args below meth c S hr hlocks hK A hA hP hD hS ls hl
  have S : CallFix p m c cX2_letRoundGoBy 3 s args wsX2_letRoundGoBy RX2 := S
  obtain ⟨hx, hb, hml, hown, hts⟩ := id S
  have hl : lv_has ls 3 [(0, .ref (a 0)), (1, .int (bI b))] := hl
  refine lv_iconst (v := 0) hx hb dX2_letRoundGoBy_0 (by decide) ?_
  refine lv_istore_n (lv' := [(2, .int 0), (0, .ref (a 0)), (1, .int (bI b))]) hx hb dX2_letRoundGoBy_1 rfl hl (by decide) rfl (fun ls hl => ?_)
  have LP : ∀ (d : Nat) (k : Nat) (σ' ρ' : cS), k + d = 64 → σ' = lrS b σ k → ∀ (H : Heap) (locs : List Loc), pG G (wO G a σ' ρ') H → va_D A (wO G a σ' ρ') → va_S A s.heap H locs → ∀ ls : Array Slot, lv_has ls 3 [(0, .ref (a 0)), (1, .int (bI b)), (2, .int (nI k))] → W p l e rm_X2_letRoundGoBy s m args below meth c H locs 0 0 (QV below G A (fun u : cS × cS => wO G a u.1 u.2) (fun u => u.1 = (lrS b σ 64)) args s) (F0 m 2 ls []) := by
    intro d
    induction d with
    | zero =>
      intro k σ' ρ' hk h9 H locs hP hD hS ls hl
      refine lv_iload_n hx hb dX2_letRoundGoBy_2 rfl (lv_at hl 2 rfl) ?_
      refine lv_bipush (v := 64) hx hb dX2_letRoundGoBy_3 (by decide) ?_
      refine lv_icmp_ge (tgt := 48) hx hb dX2_letRoundGoBy_5 (by decide) (fun c_1 => ?_) (fun c_1 => ?_)
      · exact co_endV (σ', ρ') S hr hlocks dX2_letRoundGoBy_48 hK hP hD hS (by show σ' = lrS b σ 64; rw [h9, show k = 64 by omega])
      · exact absurd (nI_le (a := 64) (b := k) (by omega) (by omega)) c_1
    | succ d ih =>
      intro k σ' ρ' hk h9 H locs hP hD hS ls hl
      refine lv_iload_n hx hb dX2_letRoundGoBy_2 rfl (lv_at hl 2 rfl) ?_
      refine lv_bipush (v := 64) hx hb dX2_letRoundGoBy_3 (by decide) ?_
      refine lv_icmp_ge (tgt := 48) hx hb dX2_letRoundGoBy_5 (by decide) (fun c_2 => ?_) (fun c_2 => ?_)
      · exact absurd c_2 (nI_ge (a := k) (b := 64) (by omega) (by omega))
      · refine lv_aload_n hx hb dX2_letRoundGoBy_8 rfl (lv_at hl 0 rfl) ?_
        refine lv_iload_n hx hb dX2_letRoundGoBy_9 rfl (lv_at hl 2 rfl) ?_
        refine co_rV (As := [.int (nI k)]) (rest := []) S (c_X2_isAlive l G a σ' ρ' (nI k)) (cwV 1 hts gX2_letRoundGoBy_X2_isAlive rfl rfl rfl (by decide +kernel) ⟨Nat.le_of_ble_eq_true rfl, Nat.le_of_ble_eq_true rfl⟩) hK hP (va_recv hK hP (ci := 1) (q0 := 0) rfl rfl) rfl hl.1 rfl (Nat.le_of_ble_eq_true rfl) dX2_letRoundGoBy_10 ⟨Nat.zero_le _, Nat.zero_le _⟩ ?_
        refine co_ifeq (tgt := 42) S dX2_letRoundGoBy_13 (by decide) (fun c_3 => ?_) (fun c_3 => ?_)
        · refine lv_iinc (v := (nI (k + 1))) (lv' := [(2, .int (nI (k + 1))), (0, .ref (a 0)), (1, .int (bI b))]) hx hb dX2_letRoundGoBy_42 hl (k := 2) rfl (nI_1 k) (by decide) rfl (fun ls hl => ?_)
          refine lv_goto (tgt := 2) hx hb dX2_letRoundGoBy_45 (by decide) ?_
          exact ih (k + 1) σ' ρ' (by omega) (lr_no h9 c_3) _ _ hP hD hS ls (lv_sub hl [1, 2, 0] rfl)
        · refine lv_aload_n hx hb dX2_letRoundGoBy_16 rfl (lv_at hl 0 rfl) ?_
          refine lv_iload_n hx hb dX2_letRoundGoBy_17 rfl (lv_at hl 2 rfl) ?_
          refine co_mVv (As := [.int (nI k)]) (rest := []) S (c_X2_dropDeadPredecessor l G a σ' ρ' (nI k)) (cwV 1 hts gX2_letRoundGoBy_X2_dropDeadPredecessor rfl rfl rfl (by decide +kernel) ⟨Nat.le_of_ble_eq_true rfl, Nat.le_of_ble_eq_true rfl⟩) hK hP hD hS hA (va_recv hK hP (ci := 1) (q0 := 0) rfl rfl) rfl hl.1 rfl (Nat.le_of_ble_eq_true rfl) dX2_letRoundGoBy_18 ⟨Nat.zero_le _, Nat.zero_le _⟩ (fun u_4 H locs hu_4 hP hD hS => ?_)
          obtain ⟨σ_4, ρ_4⟩ := u_4
          have hu_4 : σ_4 = ddS σ' (nI k) := hu_4
          have hP : pG G (wO G a σ_4 ρ_4) H := hP
          have hD : va_D A (wO G a σ_4 ρ_4) := hD
          refine lv_aload_n hx hb dX2_letRoundGoBy_21 rfl (lv_at hl 0 rfl) ?_
          refine lv_iload_n hx hb dX2_letRoundGoBy_22 rfl (lv_at hl 2 rfl) ?_
          refine co_mVv (As := [.int (nI k)]) (rest := []) S (c_X2_mendSuccessors l G a σ_4 ρ_4 (nI k)) (cwV 1 hts gX2_letRoundGoBy_X2_mendSuccessors rfl rfl rfl (by decide +kernel) ⟨Nat.le_of_ble_eq_true rfl, Nat.le_of_ble_eq_true rfl⟩) hK hP hD hS hA (va_recv hK hP (ci := 1) (q0 := 0) rfl rfl) rfl hl.1 rfl (Nat.le_of_ble_eq_true rfl) dX2_letRoundGoBy_23 ⟨Nat.zero_le _, Nat.zero_le _⟩ (fun u_5 H locs hu_5 hP hD hS => ?_)
          obtain ⟨σ_5, ρ_5⟩ := u_5
          have hu_5 : σ_5 = msS σ_4 (nI k) := hu_5
          have hP : pG G (wO G a σ_5 ρ_5) H := hP
          have hD : va_D A (wO G a σ_5 ρ_5) := hD
          refine lv_aload_n hx hb dX2_letRoundGoBy_26 rfl (lv_at hl 0 rfl) ?_
          refine lv_iload_n hx hb dX2_letRoundGoBy_27 rfl (lv_at hl 2 rfl) ?_
          refine co_mVi (As := [.int (nI k)]) (rest := []) S (c_X2_renewFingers l G a σ_5 ρ_5 (nI k)) (cwV 1 hts gX2_letRoundGoBy_X2_renewFingers rfl rfl rfl (by decide +kernel) ⟨Nat.le_of_ble_eq_true rfl, Nat.le_of_ble_eq_true rfl⟩) hK hP hD hS hA (va_recv hK hP (ci := 1) (q0 := 0) rfl rfl) rfl hl.1 rfl (Nat.le_of_ble_eq_true rfl) dX2_letRoundGoBy_28 ⟨Nat.zero_le _, Nat.zero_le _⟩ (fun r_6 u_6 H locs hu_6 hP hD hS => ?_)
          obtain ⟨σ_6, ρ_6⟩ := u_6
          obtain ⟨hr_6, hu_6⟩ := hu_6
          have hr_6 : r_6 = rfC σ_5 (nI k) 6 := hr_6
          have hu_6 : σ_6 = rfS σ_5 (nI k) 6 := hu_6
          have hP : pG G (wO G a σ_6 ρ_6) H := hP
          have hD : va_D A (wO G a σ_6 ρ_6) := hD
          refine lv_pop hx hb dX2_letRoundGoBy_31 rfl ?_
          refine lv_iload_n hx hb dX2_letRoundGoBy_32 rfl (lv_at hl 1 rfl) ?_
          refine co_ifeq (tgt := 42) S dX2_letRoundGoBy_33 (by decide) (fun c_7 => ?_) (fun c_7 => ?_)
          · refine lv_iinc (v := (nI (k + 1))) (lv' := [(2, .int (nI (k + 1))), (0, .ref (a 0)), (1, .int (bI b))]) hx hb dX2_letRoundGoBy_42 hl (k := 2) rfl (nI_1 k) (by decide) rfl (fun ls hl => ?_)
            refine lv_goto (tgt := 2) hx hb dX2_letRoundGoBy_45 (by decide) ?_
            exact ih (k + 1) σ_6 ρ_6 (by omega) (lr_f h9 c_3 hu_4 hu_5 hu_6 c_7) _ _ hP hD hS ls (lv_sub hl [1, 2, 0] rfl)
          · refine lv_aload_n hx hb dX2_letRoundGoBy_36 rfl (lv_at hl 0 rfl) ?_
            refine lv_iload_n hx hb dX2_letRoundGoBy_37 rfl (lv_at hl 2 rfl) ?_
            refine co_mVi (As := [.int (nI k)]) (rest := []) S (c_X2_spreadValues l G a σ_6 ρ_6 (nI k)) (cwV 1 hts gX2_letRoundGoBy_X2_spreadValues rfl rfl rfl (by decide +kernel) ⟨Nat.le_of_ble_eq_true rfl, Nat.le_of_ble_eq_true rfl⟩) hK hP hD hS hA (va_recv hK hP (ci := 1) (q0 := 0) rfl rfl) rfl hl.1 rfl (Nat.le_of_ble_eq_true rfl) dX2_letRoundGoBy_38 ⟨Nat.zero_le _, Nat.zero_le _⟩ (fun r_8 u_8 H locs hu_8 hP hD hS => ?_)
            obtain ⟨σ_8, ρ_8⟩ := u_8
            obtain ⟨hr_8, hu_8⟩ := hu_8
            have hr_8 : r_8 = svC σ_6 (nI k) 64 := hr_8
            have hu_8 : σ_8 = svS σ_6 (nI k) 64 := hu_8
            have hP : pG G (wO G a σ_8 ρ_8) H := hP
            have hD : va_D A (wO G a σ_8 ρ_8) := hD
            refine lv_pop hx hb dX2_letRoundGoBy_41 rfl ?_
            refine lv_iinc (v := (nI (k + 1))) (lv' := [(2, .int (nI (k + 1))), (0, .ref (a 0)), (1, .int (bI b))]) hx hb dX2_letRoundGoBy_42 hl (k := 2) rfl (nI_1 k) (by decide) rfl (fun ls hl => ?_)
            refine lv_goto (tgt := 2) hx hb dX2_letRoundGoBy_45 (by decide) ?_
            exact ih (k + 1) σ_8 ρ_8 (by omega) (lr_t h9 c_3 hu_4 hu_5 hu_6 c_7 hu_8) _ _ hP hD hS ls (lv_sub hl [1, 2, 0] rfl)
  exact LP 64 0 _ _ rfl rfl _ _ hP hD hS ls (lv_sub hl [1, 2, 0] rfl)
