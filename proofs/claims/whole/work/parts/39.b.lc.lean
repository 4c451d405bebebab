set_option maxHeartbeats 4000000 in
set_option maxRecDepth 100000 in
theorem lc_finger {p : Program} {l : Launch} {e : Env} {s : State} {m : MethodId} {below : List Frame} {meth : Method} {c : Code} {Q : State → Prop} {b0 L i Z : Nat} {xs : Nat → Int32} {G : cG} {sa : Nat → Nat} {a b : Nat → Nat} {q : Nat} {cells slots : Nat} {σ ρ μ : cS} {o : Nat → Int64} {H : Heap} {locs : List Loc} {ls : Array Slot}
    (C9 : lwI p l s m c b0 L xs G sa i) (hR : Rl Z σ μ) (hZ : Z + 1 < 2 ^ 30) (hc4 : cells + 4 ≤ 601024) (hs4 : slots + 24 ≤ 7293034) (hP : pG G (wW G a b q (σ, ρ, o) μ) H) (hD : va_D (fun q => s.heap.size ≤ q) (wW G a b q (σ, ρ, o) μ)) (hS : va_S (fun q => s.heap.size ≤ q) s.heap H locs) (hl : lv_has ls 7 (lwL a b b0 q i))
    (kk : ∀ (σ' ρ' μ' : cS) (o' : Nat → Int64) (H' : Heap) (locs' : List Loc) (ls' : Array Slot), Rl (Z + 1) σ' μ' → pG G (wW G a b q (σ', ρ', o') μ') H' → va_D (fun q => s.heap.size ≤ q) (wW G a b q (σ', ρ', o') μ') → va_S (fun q => s.heap.size ≤ q) s.heap H' locs' → lv_has ls' 7 (lwL a b b0 q i) → W p l e room_1 s m #[Value.ref b0] below meth c H' locs' (cells + 4) (slots + 24) Q (F0 m 1612 ls' [])) :
    W p l e room_1 s m #[Value.ref b0] below meth c H locs cells slots Q (F0 m 644 ls []) := by
  obtain ⟨S, hl9, hXs, hbl, hK, hX, hN, hi4, hL⟩ := C9
  obtain ⟨hx, hb, hml, hown, hts⟩ := id S
  have hA : ∀ q : Nat, s.heap.size ≤ q → (fun q : Nat => s.heap.size ≤ q) q := fun _ h => h
  have hl : lv_has ls 7 [(0, .ref b0), (1, .ref (a 0)), (2, .ref (b 0)), (3, .ref q), (4, .int (nI i))] := hl
  refine lv_aload_n hx hb dL_law_644 rfl (lv_at hl 1 rfl) ?_
  refine lv_aload_n hx hb dL_law_645 rfl (lv_at hl 0 rfl) ?_
  refine lv_iload hx hb dL_law_646 (lv_at hl 4 rfl) ?_
  refine lv_iconst (v := 1) hx hb dL_law_648 (by decide) ?_
  refine lv_iadd hx hb dL_law_649 ?_
  refine co_sld (i := i + 1) hx hb hXs hbl hS (nI_add i 1) (by omega) hL dL_law_650 ?_
  refine lv_aload_n hx hb dL_law_651 rfl (lv_at hl 0 rfl) ?_
  refine lv_iload hx hb dL_law_652 (lv_at hl 4 rfl) ?_
  refine lv_iconst (v := 2) hx hb dL_law_654 (by decide) ?_
  refine lv_iadd hx hb dL_law_655 ?_
  refine co_sld (i := i + 2) hx hb hXs hbl hS (nI_add i 2) (by omega) hL dL_law_656 ?_
  refine lv_aload_n hx hb dL_law_657 rfl (lv_at hl 3 rfl) ?_
  refine co_lSiS (wr := wM G b μ) (w' := fun u : lS => wW G a b q u μ) (As := [.ref (a 0), .int (xs (i + 1)), .int (xs (i + 2)), .ref q]) (rest := []) [0, 1, 2, 3, 4, 5, 6, 7, 8, 9, 10, 11, 12, 13, 14, 15, 16, 17, 18, 30] [19, 20, 21, 22, 23, 24, 25, 26, 27, 28, 29] [11, 12, 13, 14, 15, 16, 17, 18, 19, 20, 21, 22, 23, 24, 25, 26, 27, 28, 29, 0, 1, 2, 3, 4, 5, 6, 7, 8, 9, 10, 30] S (c_L_finger l hl9 G sa a q σ ρ o (xs (i + 1)) (xs (i + 2))) (vx_cwSW 4 hts gL_law_L_finger rfl rfl rfl (by decide +kernel) ⟨(Nat.le_of_ble_eq_true rfl), (Nat.le_of_ble_eq_true rfl)⟩) hK hP hD hS hA hX hN rfl rfl (by decide) (by decide) (by decide) (by decide) (fun _ => rfl) rfl hl.1 rfl (Nat.le_of_ble_eq_true rfl) dL_law_658 ⟨hc4, hs4⟩ (fun r u H locs hp hP hD hS => ?_)
  refine lv_istore (lv' := [(5, .int r), (0, .ref b0), (1, .ref (a 0)), (2, .ref (b 0)), (3, .ref q), (4, .int (nI i))]) hx hb dL_law_661 hl (by decide) rfl (fun ls hl => ?_)
  refine lv_aload_n hx hb dL_law_663 rfl (lv_at hl 3 rfl) ?_
  refine lv_aload_n hx hb dL_law_664 rfl (lv_at hl 1 rfl) ?_
  refine lv_iload hx hb dL_law_665 (lv_at hl 5 rfl) ?_
  refine lv_iconst (v := 1) hx hb dL_law_667 (by decide) ?_
  refine lv_iadd hx hb dL_law_668 ?_
  refine co_sld (i := i + 1) hx hb hXs hbl hS (nI_add i 1) (by omega) hL dL_law_669 ?_
  refine lv_aload_n hx hb dL_law_670 rfl (lv_at hl 1 rfl) ?_
  refine lv_iload hx hb dL_law_671 (lv_at hl 5 rfl) ?_
  refine lv_iconst (v := 2) hx hb dL_law_673 (by decide) ?_
  refine lv_iadd hx hb dL_law_674 ?_
  refine co_sld (i := i + 2) hx hb hXs hbl hS (nI_add i 2) (by omega) hL dL_law_675 ?_
  refine co_mViS (wr := wL G a q u) (w' := fun v : cS => wW G a b q u v) (As := [.int (xs (i + 1)), .int (xs (i + 2))]) (rest := []) [19, 20, 21, 22, 23, 24, 25, 26, 27, 28, 29] [0, 1, 2, 3, 4, 5, 6, 7, 8, 9, 10, 11, 12, 13, 14, 15, 16, 17, 18, 30] [0, 1, 2, 3, 4, 5, 6, 7, 8, 9, 10, 11, 12, 13, 14, 15, 16, 17, 18, 20, 21, 22, 23, 24, 25, 26, 27, 28, 29, 30, 19] S (c_X3_finger l G Z b σ μ hR (xs (i + 1)) (xs (i + 2))) (cwV 2 hts gL_law_X3_finger rfl rfl rfl (by decide +kernel) ⟨(Nat.le_of_ble_eq_true rfl), (Nat.le_of_ble_eq_true rfl)⟩) hK hP hD hS hA rfl rfl (by decide) (by decide) (by decide) (by decide) (fun _ => rfl) (va_recv hK hP (ci := 2) (q0 := 19) rfl rfl) rfl hl.1 rfl (Nat.le_of_ble_eq_true rfl) dL_law_676 ⟨hc4, hs4⟩ (fun r2 v H locs hq hP hD hS => ?_)
  refine lv_istore (lv' := [(6, .int r2), (5, .int r), (0, .ref b0), (1, .ref (a 0)), (2, .ref (b 0)), (3, .ref q), (4, .int (nI i))]) hx hb dL_law_679 hl (by decide) rfl (fun ls hl => ?_)
  obtain ⟨hq1, hq2, hq3⟩ := hq
  obtain ⟨Zx, σx, hRx⟩ : ∃ (Z9 : Nat) (σ9 : cS), Rl Z9 σ9 v := lc_any hq2 hq3
  refine lv_aload_n hx hb dL_law_681 rfl (lv_at hl 4 rfl) ?_
  refine co_rV (As := []) (rest := []) S (c_X3_thrown l G Zx b σx v hRx) (cwV 0 hts gL_law_X3_thrown rfl rfl rfl (by decide +kernel) ⟨(Nat.le_of_ble_eq_true rfl), (Nat.le_of_ble_eq_true rfl)⟩) hK (pG_perm hP [19, 20, 21, 22, 23, 24, 25, 26, 27, 28, 29] rfl) (va_recv hK hP (ci := 2) (q0 := 19) rfl rfl) rfl hl.1 rfl (Nat.le_of_ble_eq_true rfl) dL_law_682 ⟨hc4, hs4⟩ ?_
  refine lv_iload hx hb dL_law_685 (lv_at hl 1 rfl) ?_
  refine lv_icmp_eq (tgt := 692) hx hb dL_law_687 (by decide) (fun c8 => ?_) (fun c8 => ?_)
  · refine lv_iload hx hb dL_law_692 (lv_at hl 1 rfl) ?_
    refine lv_if_ne (tgt := 709) hx hb dL_law_694 (by decide) (fun c9 => ?_) (fun c9 => ?_)
    · rcases hp with ⟨h1, -⟩ | ⟨-, -, h3, h4⟩
      · exact absurd h1 c9
      · refine lv_goto (tgt := 1612) hx hb dL_law_709 (by decide) ?_
        exact kk u.1 u.2.1 v u.2.2 H locs ls (by rw [h4]; exact (hq3 h3).up) hP hD hS (lv_sub hl [2, 3, 4, 5, 6] rfl)
    · rcases hp with ⟨-, h2, h3, h4⟩ | ⟨h1, -⟩
      · obtain ⟨e1, hRF⟩ := hq2 h2
        refine lv_aload_n hx hb dL_law_697 rfl (lv_at hl 5 rfl) ?_
        refine lv_iconst (v := 0) hx hb dL_law_698 (by decide) ?_
        refine va_lald hx hb hK hP 30 2 rfl rfl vin0 dL_law_699 ?_
        refine lv_iload hx hb dL_law_700 (lv_at hl 0 rfl) ?_
        refine lv_i2l (v := r2.toInt64) hx hb dL_law_702 rfl ?_
        refine co_lcmp0 hx hb ((congrArg u.2.2 lc_z0).trans (h3.trans (by rw [e1]))) dL_law_703 ?_
        refine lv_if_eq (tgt := 709) hx hb dL_law_704 (by decide) (fun _ => ?_) (fun c7 => absurd rfl c7)
        refine lv_goto (tgt := 1612) hx hb dL_law_709 (by decide) ?_
        exact kk u.1 u.2.1 v u.2.2 H locs ls (by rw [h4]; exact hRF.up) hP hD hS (lv_sub hl [2, 3, 4, 5, 6] rfl)
      · exact absurd c9 h1
  · exact absurd (hq1.trans (pL_thr hp)) c8

set_option maxHeartbeats 4000000 in
set_option maxRecDepth 100000 in
theorem lc_check {p : Program} {l : Launch} {e : Env} {s : State} {m : MethodId} {below : List Frame} {meth : Method} {c : Code} {Q : State → Prop} {b0 L i Z : Nat} {xs : Nat → Int32} {G : cG} {sa : Nat → Nat} {a b : Nat → Nat} {q : Nat} {cells slots : Nat} {σ ρ μ : cS} {o : Nat → Int64} {H : Heap} {locs : List Loc} {ls : Array Slot}
    (C9 : lwI p l s m c b0 L xs G sa i) (hR : Rl Z σ μ) (hZ : Z + 1 < 2 ^ 30) (hc4 : cells + 4 ≤ 601024) (hs4 : slots + 24 ≤ 7293034) (hP : pG G (wW G a b q (σ, ρ, o) μ) H) (hD : va_D (fun q => s.heap.size ≤ q) (wW G a b q (σ, ρ, o) μ)) (hS : va_S (fun q => s.heap.size ≤ q) s.heap H locs) (hl : lv_has ls 7 (lwL a b b0 q i))
    (kk : ∀ (σ' ρ' μ' : cS) (o' : Nat → Int64) (H' : Heap) (locs' : List Loc) (ls' : Array Slot), Rl (Z + 1) σ' μ' → pG G (wW G a b q (σ', ρ', o') μ') H' → va_D (fun q => s.heap.size ≤ q) (wW G a b q (σ', ρ', o') μ') → va_S (fun q => s.heap.size ≤ q) s.heap H' locs' → lv_has ls' 7 (lwL a b b0 q i) → W p l e room_1 s m #[Value.ref b0] below meth c H' locs' (cells + 4) (slots + 24) Q (F0 m 1612 ls' [])) :
    W p l e room_1 s m #[Value.ref b0] below meth c H locs cells slots Q (F0 m 712 ls []) := by
  obtain ⟨S, hl9, hXs, hbl, hK, hX, hN, hi4, hL⟩ := C9
  obtain ⟨hx, hb, hml, hown, hts⟩ := id S
  have hA : ∀ q : Nat, s.heap.size ≤ q → (fun q : Nat => s.heap.size ≤ q) q := fun _ h => h
  have hl : lv_has ls 7 [(0, .ref b0), (1, .ref (a 0)), (2, .ref (b 0)), (3, .ref q), (4, .int (nI i))] := hl
  refine lv_aload_n hx hb dL_law_712 rfl (lv_at hl 1 rfl) ?_
  refine lv_aload_n hx hb dL_law_713 rfl (lv_at hl 0 rfl) ?_
  refine lv_iload hx hb dL_law_714 (lv_at hl 4 rfl) ?_
  refine lv_iconst (v := 1) hx hb dL_law_716 (by decide) ?_
  refine lv_iadd hx hb dL_law_717 ?_
  refine co_sld (i := i + 1) hx hb hXs hbl hS (nI_add i 1) (by omega) hL dL_law_718 ?_
  refine lv_aload_n hx hb dL_law_719 rfl (lv_at hl 3 rfl) ?_
  refine co_lSiS (wr := wM G b μ) (w' := fun u : lS => wW G a b q u μ) (As := [.ref (a 0), .int (xs (i + 1)), .ref q]) (rest := []) [0, 1, 2, 3, 4, 5, 6, 7, 8, 9, 10, 11, 12, 13, 14, 15, 16, 17, 18, 30] [19, 20, 21, 22, 23, 24, 25, 26, 27, 28, 29] [11, 12, 13, 14, 15, 16, 17, 18, 19, 20, 21, 22, 23, 24, 25, 26, 27, 28, 29, 0, 1, 2, 3, 4, 5, 6, 7, 8, 9, 10, 30] S (c_L_check l hl9 G sa a q σ ρ o (xs (i + 1))) (vx_cwSW 3 hts gL_law_L_check rfl rfl rfl (by decide +kernel) ⟨(Nat.le_of_ble_eq_true rfl), (Nat.le_of_ble_eq_true rfl)⟩) hK hP hD hS hA hX hN rfl rfl (by decide) (by decide) (by decide) (by decide) (fun _ => rfl) rfl hl.1 rfl (Nat.le_of_ble_eq_true rfl) dL_law_720 ⟨hc4, hs4⟩ (fun r u H locs hp hP hD hS => ?_)
  refine lv_istore (lv' := [(5, .int r), (0, .ref b0), (1, .ref (a 0)), (2, .ref (b 0)), (3, .ref q), (4, .int (nI i))]) hx hb dL_law_723 hl (by decide) rfl (fun ls hl => ?_)
  refine lv_aload_n hx hb dL_law_725 rfl (lv_at hl 3 rfl) ?_
  refine lv_aload_n hx hb dL_law_726 rfl (lv_at hl 1 rfl) ?_
  refine lv_iload hx hb dL_law_727 (lv_at hl 5 rfl) ?_
  refine lv_iconst (v := 1) hx hb dL_law_729 (by decide) ?_
  refine lv_iadd hx hb dL_law_730 ?_
  refine co_sld (i := i + 1) hx hb hXs hbl hS (nI_add i 1) (by omega) hL dL_law_731 ?_
  refine co_mViS (wr := wL G a q u) (w' := fun v : cS => wW G a b q u v) (As := [.int (xs (i + 1))]) (rest := []) [19, 20, 21, 22, 23, 24, 25, 26, 27, 28, 29] [0, 1, 2, 3, 4, 5, 6, 7, 8, 9, 10, 11, 12, 13, 14, 15, 16, 17, 18, 30] [0, 1, 2, 3, 4, 5, 6, 7, 8, 9, 10, 11, 12, 13, 14, 15, 16, 17, 18, 20, 21, 22, 23, 24, 25, 26, 27, 28, 29, 30, 19] S (c_X3_check l G Z b σ μ hR (xs (i + 1))) (cwV 1 hts gL_law_X3_check rfl rfl rfl (by decide +kernel) ⟨(Nat.le_of_ble_eq_true rfl), (Nat.le_of_ble_eq_true rfl)⟩) hK hP hD hS hA rfl rfl (by decide) (by decide) (by decide) (by decide) (fun _ => rfl) (va_recv hK hP (ci := 2) (q0 := 19) rfl rfl) rfl hl.1 rfl (Nat.le_of_ble_eq_true rfl) dL_law_732 ⟨hc4, hs4⟩ (fun r2 v H locs hq hP hD hS => ?_)
  refine lv_istore (lv' := [(6, .int r2), (5, .int r), (0, .ref b0), (1, .ref (a 0)), (2, .ref (b 0)), (3, .ref q), (4, .int (nI i))]) hx hb dL_law_735 hl (by decide) rfl (fun ls hl => ?_)
  obtain ⟨hq1, hq2, hq3⟩ := hq
  obtain ⟨Zx, σx, hRx⟩ : ∃ (Z9 : Nat) (σ9 : cS), Rl Z9 σ9 v := lc_any hq2 hq3
  refine lv_aload_n hx hb dL_law_737 rfl (lv_at hl 4 rfl) ?_
  refine co_rV (As := []) (rest := []) S (c_X3_thrown l G Zx b σx v hRx) (cwV 0 hts gL_law_X3_thrown rfl rfl rfl (by decide +kernel) ⟨(Nat.le_of_ble_eq_true rfl), (Nat.le_of_ble_eq_true rfl)⟩) hK (pG_perm hP [19, 20, 21, 22, 23, 24, 25, 26, 27, 28, 29] rfl) (va_recv hK hP (ci := 2) (q0 := 19) rfl rfl) rfl hl.1 rfl (Nat.le_of_ble_eq_true rfl) dL_law_738 ⟨hc4, hs4⟩ ?_
  refine lv_iload hx hb dL_law_741 (lv_at hl 1 rfl) ?_
  refine lv_icmp_eq (tgt := 748) hx hb dL_law_743 (by decide) (fun c8 => ?_) (fun c8 => ?_)
  · refine lv_iload hx hb dL_law_748 (lv_at hl 1 rfl) ?_
    refine lv_if_ne (tgt := 772) hx hb dL_law_750 (by decide) (fun c9 => ?_) (fun c9 => ?_)
    · rcases hp with ⟨h1, -⟩ | ⟨-, -, h3, h4⟩
      · exact absurd h1 c9
      · refine lv_goto (tgt := 1612) hx hb dL_law_772 (by decide) ?_
        exact kk u.1 u.2.1 v u.2.2 H locs ls (by rw [h4]; exact (hq3 h3).up) hP hD hS (lv_sub hl [2, 3, 4, 5, 6] rfl)
    · rcases hp with ⟨-, h2, h3, h4⟩ | ⟨h1, -⟩
      · obtain ⟨e1, hRF⟩ := hq2 h2
        refine lv_aload_n hx hb dL_law_753 rfl (lv_at hl 5 rfl) ?_
        refine lv_iconst (v := 0) hx hb dL_law_754 (by decide) ?_
        refine va_lald hx hb hK hP 30 2 rfl rfl vin0 dL_law_755 ?_
        refine lv_iload hx hb dL_law_756 (lv_at hl 0 rfl) ?_
        subst e1
        refine co_ifeq (tgt := 765) S dL_law_758 (by decide) (fun c7 => ?_) (fun c7 => ?_)
        · refine lv_lconst (v := 0) hx hb dL_law_765 (by decide) ?_
          refine co_lcmp0 hx hb ((congrArg u.2.2 lc_z0).trans (h3.trans (by rw [c7]; rfl))) dL_law_766 ?_
          refine lv_if_eq (tgt := 772) hx hb dL_law_767 (by decide) (fun _ => ?_) (fun c7 => absurd rfl c7)
          refine lv_goto (tgt := 1612) hx hb dL_law_772 (by decide) ?_
          exact kk u.1 u.2.1 v u.2.2 H locs ls (by rw [h4]; exact hRF.up) hP hD hS (lv_sub hl [2, 3, 4, 5, 6] rfl)
        · refine lv_lconst (v := 1) hx hb dL_law_761 (by decide) ?_
          refine lv_goto (tgt := 766) hx hb dL_law_762 (by decide) ?_
          refine co_lcmp0 hx hb ((congrArg u.2.2 lc_z0).trans (h3.trans (by rw [c7]; rfl))) dL_law_766 ?_
          refine lv_if_eq (tgt := 772) hx hb dL_law_767 (by decide) (fun _ => ?_) (fun c7 => absurd rfl c7)
          refine lv_goto (tgt := 1612) hx hb dL_law_772 (by decide) ?_
          exact kk u.1 u.2.1 v u.2.2 H locs ls (by rw [h4]; exact hRF.up) hP hD hS (lv_sub hl [2, 3, 4, 5, 6] rfl)
      · exact absurd c9 h1
  · exact absurd (hq1.trans (pL_thr hp)) c8

set_option maxHeartbeats 4000000 in
set_option maxRecDepth 100000 in
theorem lc_stabilize {p : Program} {l : Launch} {e : Env} {s : State} {m : MethodId} {below : List Frame} {meth : Method} {c : Code} {Q : State → Prop} {b0 L i Z : Nat} {xs : Nat → Int32} {G : cG} {sa : Nat → Nat} {a b : Nat → Nat} {q : Nat} {cells slots : Nat} {σ ρ μ : cS} {o : Nat → Int64} {H : Heap} {locs : List Loc} {ls : Array Slot}
    (C9 : lwI p l s m c b0 L xs G sa i) (hR : Rl Z σ μ) (hZ : Z + 1 < 2 ^ 30) (hc4 : cells + 4 ≤ 601024) (hs4 : slots + 24 ≤ 7293034) (hP : pG G (wW G a b q (σ, ρ, o) μ) H) (hD : va_D (fun q => s.heap.size ≤ q) (wW G a b q (σ, ρ, o) μ)) (hS : va_S (fun q => s.heap.size ≤ q) s.heap H locs) (hl : lv_has ls 7 (lwL a b b0 q i))
    (kk : ∀ (σ' ρ' μ' : cS) (o' : Nat → Int64) (H' : Heap) (locs' : List Loc) (ls' : Array Slot), Rl (Z + 1) σ' μ' → pG G (wW G a b q (σ', ρ', o') μ') H' → va_D (fun q => s.heap.size ≤ q) (wW G a b q (σ', ρ', o') μ') → va_S (fun q => s.heap.size ≤ q) s.heap H' locs' → lv_has ls' 7 (lwL a b b0 q i) → W p l e room_1 s m #[Value.ref b0] below meth c H' locs' (cells + 4) (slots + 24) Q (F0 m 1612 ls' [])) :
    W p l e room_1 s m #[Value.ref b0] below meth c H locs cells slots Q (F0 m 775 ls []) := by
  obtain ⟨S, hl9, hXs, hbl, hK, hX, hN, hi4, hL⟩ := C9
  obtain ⟨hx, hb, hml, hown, hts⟩ := id S
  have hA : ∀ q : Nat, s.heap.size ≤ q → (fun q : Nat => s.heap.size ≤ q) q := fun _ h => h
  have hl : lv_has ls 7 [(0, .ref b0), (1, .ref (a 0)), (2, .ref (b 0)), (3, .ref q), (4, .int (nI i))] := hl
  refine lv_aload_n hx hb dL_law_775 rfl (lv_at hl 1 rfl) ?_
  refine lv_aload_n hx hb dL_law_776 rfl (lv_at hl 0 rfl) ?_
  refine lv_iload hx hb dL_law_777 (lv_at hl 4 rfl) ?_
  refine lv_iconst (v := 1) hx hb dL_law_779 (by decide) ?_
  refine lv_iadd hx hb dL_law_780 ?_
  refine co_sld (i := i + 1) hx hb hXs hbl hS (nI_add i 1) (by omega) hL dL_law_781 ?_
  refine lv_aload_n hx hb dL_law_782 rfl (lv_at hl 3 rfl) ?_
  refine co_lSiS (wr := wM G b μ) (w' := fun u : lS => wW G a b q u μ) (As := [.ref (a 0), .int (xs (i + 1)), .ref q]) (rest := []) [0, 1, 2, 3, 4, 5, 6, 7, 8, 9, 10, 11, 12, 13, 14, 15, 16, 17, 18, 30] [19, 20, 21, 22, 23, 24, 25, 26, 27, 28, 29] [11, 12, 13, 14, 15, 16, 17, 18, 19, 20, 21, 22, 23, 24, 25, 26, 27, 28, 29, 0, 1, 2, 3, 4, 5, 6, 7, 8, 9, 10, 30] S (c_L_stabilize l hl9 G sa a q σ ρ o (xs (i + 1))) (vx_cwSW 3 hts gL_law_L_stabilize rfl rfl rfl (by decide +kernel) ⟨(Nat.le_of_ble_eq_true rfl), (Nat.le_of_ble_eq_true rfl)⟩) hK hP hD hS hA hX hN rfl rfl (by decide) (by decide) (by decide) (by decide) (fun _ => rfl) rfl hl.1 rfl (Nat.le_of_ble_eq_true rfl) dL_law_783 ⟨hc4, hs4⟩ (fun r u H locs hp hP hD hS => ?_)
  refine lv_istore (lv' := [(5, .int r), (0, .ref b0), (1, .ref (a 0)), (2, .ref (b 0)), (3, .ref q), (4, .int (nI i))]) hx hb dL_law_786 hl (by decide) rfl (fun ls hl => ?_)
  refine lv_aload_n hx hb dL_law_788 rfl (lv_at hl 3 rfl) ?_
  refine lv_aload_n hx hb dL_law_789 rfl (lv_at hl 1 rfl) ?_
  refine lv_iload hx hb dL_law_790 (lv_at hl 5 rfl) ?_
  refine lv_iconst (v := 1) hx hb dL_law_792 (by decide) ?_
  refine lv_iadd hx hb dL_law_793 ?_
  refine co_sld (i := i + 1) hx hb hXs hbl hS (nI_add i 1) (by omega) hL dL_law_794 ?_
  refine co_mViS (wr := wL G a q u) (w' := fun v : cS => wW G a b q u v) (As := [.int (xs (i + 1))]) (rest := []) [19, 20, 21, 22, 23, 24, 25, 26, 27, 28, 29] [0, 1, 2, 3, 4, 5, 6, 7, 8, 9, 10, 11, 12, 13, 14, 15, 16, 17, 18, 30] [0, 1, 2, 3, 4, 5, 6, 7, 8, 9, 10, 11, 12, 13, 14, 15, 16, 17, 18, 20, 21, 22, 23, 24, 25, 26, 27, 28, 29, 30, 19] S (c_X3_stabilize l G Z b σ μ hR (xs (i + 1))) (cwV 1 hts gL_law_X3_stabilize rfl rfl rfl (by decide +kernel) ⟨(Nat.le_of_ble_eq_true rfl), (Nat.le_of_ble_eq_true rfl)⟩) hK hP hD hS hA rfl rfl (by decide) (by decide) (by decide) (by decide) (fun _ => rfl) (va_recv hK hP (ci := 2) (q0 := 19) rfl rfl) rfl hl.1 rfl (Nat.le_of_ble_eq_true rfl) dL_law_795 ⟨hc4, hs4⟩ (fun r2 v H locs hq hP hD hS => ?_)
  refine lv_istore (lv' := [(6, .int r2), (5, .int r), (0, .ref b0), (1, .ref (a 0)), (2, .ref (b 0)), (3, .ref q), (4, .int (nI i))]) hx hb dL_law_798 hl (by decide) rfl (fun ls hl => ?_)
  obtain ⟨hq1, hq2, hq3⟩ := hq
  obtain ⟨Zx, σx, hRx⟩ : ∃ (Z9 : Nat) (σ9 : cS), Rl Z9 σ9 v := lc_any hq2 hq3
  refine lv_aload_n hx hb dL_law_800 rfl (lv_at hl 4 rfl) ?_
  refine co_rV (As := []) (rest := []) S (c_X3_thrown l G Zx b σx v hRx) (cwV 0 hts gL_law_X3_thrown rfl rfl rfl (by decide +kernel) ⟨(Nat.le_of_ble_eq_true rfl), (Nat.le_of_ble_eq_true rfl)⟩) hK (pG_perm hP [19, 20, 21, 22, 23, 24, 25, 26, 27, 28, 29] rfl) (va_recv hK hP (ci := 2) (q0 := 19) rfl rfl) rfl hl.1 rfl (Nat.le_of_ble_eq_true rfl) dL_law_801 ⟨hc4, hs4⟩ ?_
  refine lv_iload hx hb dL_law_804 (lv_at hl 1 rfl) ?_
  refine lv_icmp_eq (tgt := 811) hx hb dL_law_806 (by decide) (fun c8 => ?_) (fun c8 => ?_)
  · refine lv_iload hx hb dL_law_811 (lv_at hl 1 rfl) ?_
    refine lv_if_ne (tgt := 828) hx hb dL_law_813 (by decide) (fun c9 => ?_) (fun c9 => ?_)
    · rcases hp with ⟨h1, -⟩ | ⟨-, -, h3, h4⟩
      · exact absurd h1 c9
      · refine lv_goto (tgt := 1612) hx hb dL_law_828 (by decide) ?_
        exact kk u.1 u.2.1 v u.2.2 H locs ls (by rw [h4]; exact (hq3 h3).up) hP hD hS (lv_sub hl [2, 3, 4, 5, 6] rfl)
    · rcases hp with ⟨-, h2, h3, h4⟩ | ⟨h1, -⟩
      · obtain ⟨e1, hRF⟩ := hq2 h2
        refine lv_aload_n hx hb dL_law_816 rfl (lv_at hl 5 rfl) ?_
        refine lv_iconst (v := 0) hx hb dL_law_817 (by decide) ?_
        refine va_lald hx hb hK hP 30 2 rfl rfl vin0 dL_law_818 ?_
        refine lv_iload hx hb dL_law_819 (lv_at hl 0 rfl) ?_
        refine lv_i2l (v := r2.toInt64) hx hb dL_law_821 rfl ?_
        refine co_lcmp0 hx hb ((congrArg u.2.2 lc_z0).trans (h3.trans (by rw [e1]))) dL_law_822 ?_
        refine lv_if_eq (tgt := 828) hx hb dL_law_823 (by decide) (fun _ => ?_) (fun c7 => absurd rfl c7)
        refine lv_goto (tgt := 1612) hx hb dL_law_828 (by decide) ?_
        exact kk u.1 u.2.1 v u.2.2 H locs ls (by rw [h4]; exact hRF.up) hP hD hS (lv_sub hl [2, 3, 4, 5, 6] rfl)
      · exact absurd c9 h1
  · exact absurd (hq1.trans (pL_thr hp)) c8

set_option maxHeartbeats 4000000 in
set_option maxRecDepth 100000 in
theorem lc_fix {p : Program} {l : Launch} {e : Env} {s : State} {m : MethodId} {below : List Frame} {meth : Method} {c : Code} {Q : State → Prop} {b0 L i Z : Nat} {xs : Nat → Int32} {G : cG} {sa : Nat → Nat} {a b : Nat → Nat} {q : Nat} {cells slots : Nat} {σ ρ μ : cS} {o : Nat → Int64} {H : Heap} {locs : List Loc} {ls : Array Slot}
    (C9 : lwI p l s m c b0 L xs G sa i) (hR : Rl Z σ μ) (hZ : Z + 1 < 2 ^ 30) (hc4 : cells + 4 ≤ 601024) (hs4 : slots + 24 ≤ 7293034) (hP : pG G (wW G a b q (σ, ρ, o) μ) H) (hD : va_D (fun q => s.heap.size ≤ q) (wW G a b q (σ, ρ, o) μ)) (hS : va_S (fun q => s.heap.size ≤ q) s.heap H locs) (hl : lv_has ls 7 (lwL a b b0 q i))
    (kk : ∀ (σ' ρ' μ' : cS) (o' : Nat → Int64) (H' : Heap) (locs' : List Loc) (ls' : Array Slot), Rl (Z + 1) σ' μ' → pG G (wW G a b q (σ', ρ', o') μ') H' → va_D (fun q => s.heap.size ≤ q) (wW G a b q (σ', ρ', o') μ') → va_S (fun q => s.heap.size ≤ q) s.heap H' locs' → lv_has ls' 7 (lwL a b b0 q i) → W p l e room_1 s m #[Value.ref b0] below meth c H' locs' (cells + 4) (slots + 24) Q (F0 m 1612 ls' [])) :
    W p l e room_1 s m #[Value.ref b0] below meth c H locs cells slots Q (F0 m 831 ls []) := by
  obtain ⟨S, hl9, hXs, hbl, hK, hX, hN, hi4, hL⟩ := C9
  obtain ⟨hx, hb, hml, hown, hts⟩ := id S
  have hA : ∀ q : Nat, s.heap.size ≤ q → (fun q : Nat => s.heap.size ≤ q) q := fun _ h => h
  have hl : lv_has ls 7 [(0, .ref b0), (1, .ref (a 0)), (2, .ref (b 0)), (3, .ref q), (4, .int (nI i))] := hl
  refine lv_aload_n hx hb dL_law_831 rfl (lv_at hl 1 rfl) ?_
  refine lv_aload_n hx hb dL_law_832 rfl (lv_at hl 0 rfl) ?_
  refine lv_iload hx hb dL_law_833 (lv_at hl 4 rfl) ?_
  refine lv_iconst (v := 1) hx hb dL_law_835 (by decide) ?_
  refine lv_iadd hx hb dL_law_836 ?_
  refine co_sld (i := i + 1) hx hb hXs hbl hS (nI_add i 1) (by omega) hL dL_law_837 ?_
  refine lv_aload_n hx hb dL_law_838 rfl (lv_at hl 3 rfl) ?_
  refine co_lSiS (wr := wM G b μ) (w' := fun u : lS => wW G a b q u μ) (As := [.ref (a 0), .int (xs (i + 1)), .ref q]) (rest := []) [0, 1, 2, 3, 4, 5, 6, 7, 8, 9, 10, 11, 12, 13, 14, 15, 16, 17, 18, 30] [19, 20, 21, 22, 23, 24, 25, 26, 27, 28, 29] [11, 12, 13, 14, 15, 16, 17, 18, 19, 20, 21, 22, 23, 24, 25, 26, 27, 28, 29, 0, 1, 2, 3, 4, 5, 6, 7, 8, 9, 10, 30] S (c_L_fix l hl9 G sa a q σ ρ o (xs (i + 1))) (vx_cwSW 3 hts gL_law_L_fix rfl rfl rfl (by decide +kernel) ⟨(Nat.le_of_ble_eq_true rfl), (Nat.le_of_ble_eq_true rfl)⟩) hK hP hD hS hA hX hN rfl rfl (by decide) (by decide) (by decide) (by decide) (fun _ => rfl) rfl hl.1 rfl (Nat.le_of_ble_eq_true rfl) dL_law_839 ⟨hc4, hs4⟩ (fun r u H locs hp hP hD hS => ?_)
  refine lv_istore (lv' := [(5, .int r), (0, .ref b0), (1, .ref (a 0)), (2, .ref (b 0)), (3, .ref q), (4, .int (nI i))]) hx hb dL_law_842 hl (by decide) rfl (fun ls hl => ?_)
  refine lv_aload_n hx hb dL_law_844 rfl (lv_at hl 3 rfl) ?_
  refine lv_aload_n hx hb dL_law_845 rfl (lv_at hl 1 rfl) ?_
  refine lv_iload hx hb dL_law_846 (lv_at hl 5 rfl) ?_
  refine lv_iconst (v := 1) hx hb dL_law_848 (by decide) ?_
  refine lv_iadd hx hb dL_law_849 ?_
  refine co_sld (i := i + 1) hx hb hXs hbl hS (nI_add i 1) (by omega) hL dL_law_850 ?_
  refine co_mViS (wr := wL G a q u) (w' := fun v : cS => wW G a b q u v) (As := [.int (xs (i + 1))]) (rest := []) [19, 20, 21, 22, 23, 24, 25, 26, 27, 28, 29] [0, 1, 2, 3, 4, 5, 6, 7, 8, 9, 10, 11, 12, 13, 14, 15, 16, 17, 18, 30] [0, 1, 2, 3, 4, 5, 6, 7, 8, 9, 10, 11, 12, 13, 14, 15, 16, 17, 18, 20, 21, 22, 23, 24, 25, 26, 27, 28, 29, 30, 19] S (c_X3_fix l G Z b σ μ hR (xs (i + 1))) (cwV 1 hts gL_law_X3_fix rfl rfl rfl (by decide +kernel) ⟨(Nat.le_of_ble_eq_true rfl), (Nat.le_of_ble_eq_true rfl)⟩) hK hP hD hS hA rfl rfl (by decide) (by decide) (by decide) (by decide) (fun _ => rfl) (va_recv hK hP (ci := 2) (q0 := 19) rfl rfl) rfl hl.1 rfl (Nat.le_of_ble_eq_true rfl) dL_law_851 ⟨hc4, hs4⟩ (fun r2 v H locs hq hP hD hS => ?_)
  refine lv_istore (lv' := [(6, .int r2), (5, .int r), (0, .ref b0), (1, .ref (a 0)), (2, .ref (b 0)), (3, .ref q), (4, .int (nI i))]) hx hb dL_law_854 hl (by decide) rfl (fun ls hl => ?_)
  obtain ⟨hq1, hq2, hq3⟩ := hq
  obtain ⟨Zx, σx, hRx⟩ : ∃ (Z9 : Nat) (σ9 : cS), Rl Z9 σ9 v := lc_any hq2 hq3
  refine lv_aload_n hx hb dL_law_856 rfl (lv_at hl 4 rfl) ?_
  refine co_rV (As := []) (rest := []) S (c_X3_thrown l G Zx b σx v hRx) (cwV 0 hts gL_law_X3_thrown rfl rfl rfl (by decide +kernel) ⟨(Nat.le_of_ble_eq_true rfl), (Nat.le_of_ble_eq_true rfl)⟩) hK (pG_perm hP [19, 20, 21, 22, 23, 24, 25, 26, 27, 28, 29] rfl) (va_recv hK hP (ci := 2) (q0 := 19) rfl rfl) rfl hl.1 rfl (Nat.le_of_ble_eq_true rfl) dL_law_857 ⟨hc4, hs4⟩ ?_
  refine lv_iload hx hb dL_law_860 (lv_at hl 1 rfl) ?_
  refine lv_icmp_eq (tgt := 867) hx hb dL_law_862 (by decide) (fun c8 => ?_) (fun c8 => ?_)
  · refine lv_iload hx hb dL_law_867 (lv_at hl 1 rfl) ?_
    refine lv_if_ne (tgt := 884) hx hb dL_law_869 (by decide) (fun c9 => ?_) (fun c9 => ?_)
    · rcases hp with ⟨h1, -⟩ | ⟨-, -, h3, h4⟩
      · exact absurd h1 c9
      · refine lv_goto (tgt := 1612) hx hb dL_law_884 (by decide) ?_
        exact kk u.1 u.2.1 v u.2.2 H locs ls (by rw [h4]; exact (hq3 h3).up) hP hD hS (lv_sub hl [2, 3, 4, 5, 6] rfl)
    · rcases hp with ⟨-, h2, h3, h4⟩ | ⟨h1, -⟩
      · obtain ⟨e1, hRF⟩ := hq2 h2
        refine lv_aload_n hx hb dL_law_872 rfl (lv_at hl 5 rfl) ?_
        refine lv_iconst (v := 0) hx hb dL_law_873 (by decide) ?_
        refine va_lald hx hb hK hP 30 2 rfl rfl vin0 dL_law_874 ?_
        refine lv_iload hx hb dL_law_875 (lv_at hl 0 rfl) ?_
        refine lv_i2l (v := r2.toInt64) hx hb dL_law_877 rfl ?_
        refine co_lcmp0 hx hb ((congrArg u.2.2 lc_z0).trans (h3.trans (by rw [e1]))) dL_law_878 ?_
        refine lv_if_eq (tgt := 884) hx hb dL_law_879 (by decide) (fun _ => ?_) (fun c7 => absurd rfl c7)
        refine lv_goto (tgt := 1612) hx hb dL_law_884 (by decide) ?_
        exact kk u.1 u.2.1 v u.2.2 H locs ls (by rw [h4]; exact hRF.up) hP hD hS (lv_sub hl [2, 3, 4, 5, 6] rfl)
      · exact absurd c9 h1
  · exact absurd (hq1.trans (pL_thr hp)) c8

set_option maxHeartbeats 4000000 in
set_option maxRecDepth 100000 in
theorem lc_replicate {p : Program} {l : Launch} {e : Env} {s : State} {m : MethodId} {below : List Frame} {meth : Method} {c : Code} {Q : State → Prop} {b0 L i Z : Nat} {xs : Nat → Int32} {G : cG} {sa : Nat → Nat} {a b : Nat → Nat} {q : Nat} {cells slots : Nat} {σ ρ μ : cS} {o : Nat → Int64} {H : Heap} {locs : List Loc} {ls : Array Slot}
    (C9 : lwI p l s m c b0 L xs G sa i) (hR : Rl Z σ μ) (hZ : Z + 1 < 2 ^ 30) (hc4 : cells + 4 ≤ 601024) (hs4 : slots + 24 ≤ 7293034) (hP : pG G (wW G a b q (σ, ρ, o) μ) H) (hD : va_D (fun q => s.heap.size ≤ q) (wW G a b q (σ, ρ, o) μ)) (hS : va_S (fun q => s.heap.size ≤ q) s.heap H locs) (hl : lv_has ls 7 (lwL a b b0 q i))
    (kk : ∀ (σ' ρ' μ' : cS) (o' : Nat → Int64) (H' : Heap) (locs' : List Loc) (ls' : Array Slot), Rl (Z + 1) σ' μ' → pG G (wW G a b q (σ', ρ', o') μ') H' → va_D (fun q => s.heap.size ≤ q) (wW G a b q (σ', ρ', o') μ') → va_S (fun q => s.heap.size ≤ q) s.heap H' locs' → lv_has ls' 7 (lwL a b b0 q i) → W p l e room_1 s m #[Value.ref b0] below meth c H' locs' (cells + 4) (slots + 24) Q (F0 m 1612 ls' [])) :
    W p l e room_1 s m #[Value.ref b0] below meth c H locs cells slots Q (F0 m 887 ls []) := by
  obtain ⟨S, hl9, hXs, hbl, hK, hX, hN, hi4, hL⟩ := C9
  obtain ⟨hx, hb, hml, hown, hts⟩ := id S
  have hA : ∀ q : Nat, s.heap.size ≤ q → (fun q : Nat => s.heap.size ≤ q) q := fun _ h => h
  have hl : lv_has ls 7 [(0, .ref b0), (1, .ref (a 0)), (2, .ref (b 0)), (3, .ref q), (4, .int (nI i))] := hl
  refine lv_aload_n hx hb dL_law_887 rfl (lv_at hl 1 rfl) ?_
  refine lv_aload_n hx hb dL_law_888 rfl (lv_at hl 0 rfl) ?_
  refine lv_iload hx hb dL_law_889 (lv_at hl 4 rfl) ?_
  refine lv_iconst (v := 1) hx hb dL_law_891 (by decide) ?_
  refine lv_iadd hx hb dL_law_892 ?_
  refine co_sld (i := i + 1) hx hb hXs hbl hS (nI_add i 1) (by omega) hL dL_law_893 ?_
  refine lv_aload_n hx hb dL_law_894 rfl (lv_at hl 3 rfl) ?_
  refine co_lSiS (wr := wM G b μ) (w' := fun u : lS => wW G a b q u μ) (As := [.ref (a 0), .int (xs (i + 1)), .ref q]) (rest := []) [0, 1, 2, 3, 4, 5, 6, 7, 8, 9, 10, 11, 12, 13, 14, 15, 16, 17, 18, 30] [19, 20, 21, 22, 23, 24, 25, 26, 27, 28, 29] [11, 12, 13, 14, 15, 16, 17, 18, 19, 20, 21, 22, 23, 24, 25, 26, 27, 28, 29, 0, 1, 2, 3, 4, 5, 6, 7, 8, 9, 10, 30] S (c_L_replicate l hl9 G sa a q σ ρ o (xs (i + 1))) (vx_cwSW 3 hts gL_law_L_replicate rfl rfl rfl (by decide +kernel) ⟨(Nat.le_of_ble_eq_true rfl), (Nat.le_of_ble_eq_true rfl)⟩) hK hP hD hS hA hX hN rfl rfl (by decide) (by decide) (by decide) (by decide) (fun _ => rfl) rfl hl.1 rfl (Nat.le_of_ble_eq_true rfl) dL_law_895 ⟨hc4, hs4⟩ (fun r u H locs hp hP hD hS => ?_)
  refine lv_istore (lv' := [(5, .int r), (0, .ref b0), (1, .ref (a 0)), (2, .ref (b 0)), (3, .ref q), (4, .int (nI i))]) hx hb dL_law_898 hl (by decide) rfl (fun ls hl => ?_)
  refine lv_aload_n hx hb dL_law_900 rfl (lv_at hl 3 rfl) ?_
  refine lv_aload_n hx hb dL_law_901 rfl (lv_at hl 1 rfl) ?_
  refine lv_iload hx hb dL_law_902 (lv_at hl 5 rfl) ?_
  refine lv_iconst (v := 1) hx hb dL_law_904 (by decide) ?_
  refine lv_iadd hx hb dL_law_905 ?_
  refine co_sld (i := i + 1) hx hb hXs hbl hS (nI_add i 1) (by omega) hL dL_law_906 ?_
  refine co_mViS (wr := wL G a q u) (w' := fun v : cS => wW G a b q u v) (As := [.int (xs (i + 1))]) (rest := []) [19, 20, 21, 22, 23, 24, 25, 26, 27, 28, 29] [0, 1, 2, 3, 4, 5, 6, 7, 8, 9, 10, 11, 12, 13, 14, 15, 16, 17, 18, 30] [0, 1, 2, 3, 4, 5, 6, 7, 8, 9, 10, 11, 12, 13, 14, 15, 16, 17, 18, 20, 21, 22, 23, 24, 25, 26, 27, 28, 29, 30, 19] S (c_X3_replicate l G Z b σ μ hR (xs (i + 1))) (cwV 1 hts gL_law_X3_replicate rfl rfl rfl (by decide +kernel) ⟨(Nat.le_of_ble_eq_true rfl), (Nat.le_of_ble_eq_true rfl)⟩) hK hP hD hS hA rfl rfl (by decide) (by decide) (by decide) (by decide) (fun _ => rfl) (va_recv hK hP (ci := 2) (q0 := 19) rfl rfl) rfl hl.1 rfl (Nat.le_of_ble_eq_true rfl) dL_law_907 ⟨hc4, hs4⟩ (fun r2 v H locs hq hP hD hS => ?_)
  refine lv_istore (lv' := [(6, .int r2), (5, .int r), (0, .ref b0), (1, .ref (a 0)), (2, .ref (b 0)), (3, .ref q), (4, .int (nI i))]) hx hb dL_law_910 hl (by decide) rfl (fun ls hl => ?_)
  obtain ⟨hq1, hq2, hq3⟩ := hq
  obtain ⟨Zx, σx, hRx⟩ : ∃ (Z9 : Nat) (σ9 : cS), Rl Z9 σ9 v := lc_any hq2 hq3
  refine lv_aload_n hx hb dL_law_912 rfl (lv_at hl 4 rfl) ?_
  refine co_rV (As := []) (rest := []) S (c_X3_thrown l G Zx b σx v hRx) (cwV 0 hts gL_law_X3_thrown rfl rfl rfl (by decide +kernel) ⟨(Nat.le_of_ble_eq_true rfl), (Nat.le_of_ble_eq_true rfl)⟩) hK (pG_perm hP [19, 20, 21, 22, 23, 24, 25, 26, 27, 28, 29] rfl) (va_recv hK hP (ci := 2) (q0 := 19) rfl rfl) rfl hl.1 rfl (Nat.le_of_ble_eq_true rfl) dL_law_913 ⟨hc4, hs4⟩ ?_
  refine lv_iload hx hb dL_law_916 (lv_at hl 1 rfl) ?_
  refine lv_icmp_eq (tgt := 923) hx hb dL_law_918 (by decide) (fun c8 => ?_) (fun c8 => ?_)
  · refine lv_iload hx hb dL_law_923 (lv_at hl 1 rfl) ?_
    refine lv_if_ne (tgt := 940) hx hb dL_law_925 (by decide) (fun c9 => ?_) (fun c9 => ?_)
    · rcases hp with ⟨h1, -⟩ | ⟨-, -, h3, h4⟩
      · exact absurd h1 c9
      · refine lv_goto (tgt := 1612) hx hb dL_law_940 (by decide) ?_
        exact kk u.1 u.2.1 v u.2.2 H locs ls (by rw [h4]; exact (hq3 h3).up) hP hD hS (lv_sub hl [2, 3, 4, 5, 6] rfl)
    · rcases hp with ⟨-, h2, h3, h4⟩ | ⟨h1, -⟩
      · obtain ⟨e1, hRF⟩ := hq2 h2
        refine lv_aload_n hx hb dL_law_928 rfl (lv_at hl 5 rfl) ?_
        refine lv_iconst (v := 0) hx hb dL_law_929 (by decide) ?_
        refine va_lald hx hb hK hP 30 2 rfl rfl vin0 dL_law_930 ?_
        refine lv_iload hx hb dL_law_931 (lv_at hl 0 rfl) ?_
        refine lv_i2l (v := r2.toInt64) hx hb dL_law_933 rfl ?_
        refine co_lcmp0 hx hb ((congrArg u.2.2 lc_z0).trans (h3.trans (by rw [e1]))) dL_law_934 ?_
        refine lv_if_eq (tgt := 940) hx hb dL_law_935 (by decide) (fun _ => ?_) (fun c7 => absurd rfl c7)
        refine lv_goto (tgt := 1612) hx hb dL_law_940 (by decide) ?_
        exact kk u.1 u.2.1 v u.2.2 H locs ls (by rw [h4]; exact hRF.up) hP hD hS (lv_sub hl [2, 3, 4, 5, 6] rfl)
      · exact absurd c9 h1
  · exact absurd (hq1.trans (pL_thr hp)) c8

set_option maxHeartbeats 4000000 in
set_option maxRecDepth 100000 in
theorem lc_goRounds {p : Program} {l : Launch} {e : Env} {s : State} {m : MethodId} {below : List Frame} {meth : Method} {c : Code} {Q : State → Prop} {b0 L i Z : Nat} {xs : Nat → Int32} {G : cG} {sa : Nat → Nat} {a b : Nat → Nat} {q : Nat} {cells slots : Nat} {σ ρ μ : cS} {o : Nat → Int64} {H : Heap} {locs : List Loc} {ls : Array Slot}
    (C9 : lwI p l s m c b0 L xs G sa i) (hR : Rl Z σ μ) (hZ : Z + 1 < 2 ^ 30) (hc4 : cells + 4 ≤ 601024) (hs4 : slots + 24 ≤ 7293034) (hP : pG G (wW G a b q (σ, ρ, o) μ) H) (hD : va_D (fun q => s.heap.size ≤ q) (wW G a b q (σ, ρ, o) μ)) (hS : va_S (fun q => s.heap.size ≤ q) s.heap H locs) (hl : lv_has ls 7 (lwL a b b0 q i))
    (kk : ∀ (σ' ρ' μ' : cS) (o' : Nat → Int64) (H' : Heap) (locs' : List Loc) (ls' : Array Slot), Rl (Z + 1) σ' μ' → pG G (wW G a b q (σ', ρ', o') μ') H' → va_D (fun q => s.heap.size ≤ q) (wW G a b q (σ', ρ', o') μ') → va_S (fun q => s.heap.size ≤ q) s.heap H' locs' → lv_has ls' 7 (lwL a b b0 q i) → W p l e room_1 s m #[Value.ref b0] below meth c H' locs' (cells + 4) (slots + 24) Q (F0 m 1612 ls' [])) :
    W p l e room_1 s m #[Value.ref b0] below meth c H locs cells slots Q (F0 m 943 ls []) := by
  obtain ⟨S, hl9, hXs, hbl, hK, hX, hN, hi4, hL⟩ := C9
  obtain ⟨hx, hb, hml, hown, hts⟩ := id S
  have hA : ∀ q : Nat, s.heap.size ≤ q → (fun q : Nat => s.heap.size ≤ q) q := fun _ h => h
  have hl : lv_has ls 7 [(0, .ref b0), (1, .ref (a 0)), (2, .ref (b 0)), (3, .ref q), (4, .int (nI i))] := hl
  refine lv_aload_n hx hb dL_law_943 rfl (lv_at hl 1 rfl) ?_
  refine lv_aload_n hx hb dL_law_944 rfl (lv_at hl 0 rfl) ?_
  refine lv_iload hx hb dL_law_945 (lv_at hl 4 rfl) ?_
  refine lv_iconst (v := 1) hx hb dL_law_947 (by decide) ?_
  refine lv_iadd hx hb dL_law_948 ?_
  refine co_sld (i := i + 1) hx hb hXs hbl hS (nI_add i 1) (by omega) hL dL_law_949 ?_
  refine lv_aload_n hx hb dL_law_950 rfl (lv_at hl 3 rfl) ?_
  refine co_lSiS (wr := wM G b μ) (w' := fun u : lS => wW G a b q u μ) (As := [.ref (a 0), .int (xs (i + 1)), .ref q]) (rest := []) [0, 1, 2, 3, 4, 5, 6, 7, 8, 9, 10, 11, 12, 13, 14, 15, 16, 17, 18, 30] [19, 20, 21, 22, 23, 24, 25, 26, 27, 28, 29] [11, 12, 13, 14, 15, 16, 17, 18, 19, 20, 21, 22, 23, 24, 25, 26, 27, 28, 29, 0, 1, 2, 3, 4, 5, 6, 7, 8, 9, 10, 30] S (c_L_goRounds l hl9 G sa a q σ ρ o (xs (i + 1))) (vx_cwSW 3 hts gL_law_L_goRounds rfl rfl rfl (by decide +kernel) ⟨(Nat.le_of_ble_eq_true rfl), (Nat.le_of_ble_eq_true rfl)⟩) hK hP hD hS hA hX hN rfl rfl (by decide) (by decide) (by decide) (by decide) (fun _ => rfl) rfl hl.1 rfl (Nat.le_of_ble_eq_true rfl) dL_law_951 ⟨hc4, hs4⟩ (fun r u H locs hp hP hD hS => ?_)
  refine lv_istore (lv' := [(5, .int r), (0, .ref b0), (1, .ref (a 0)), (2, .ref (b 0)), (3, .ref q), (4, .int (nI i))]) hx hb dL_law_954 hl (by decide) rfl (fun ls hl => ?_)
  refine lv_aload_n hx hb dL_law_956 rfl (lv_at hl 3 rfl) ?_
  refine lv_aload_n hx hb dL_law_957 rfl (lv_at hl 1 rfl) ?_
  refine lv_iload hx hb dL_law_958 (lv_at hl 5 rfl) ?_
  refine lv_iconst (v := 1) hx hb dL_law_960 (by decide) ?_
  refine lv_iadd hx hb dL_law_961 ?_
  refine co_sld (i := i + 1) hx hb hXs hbl hS (nI_add i 1) (by omega) hL dL_law_962 ?_
  refine co_mViS (wr := wL G a q u) (w' := fun v : cS => wW G a b q u v) (As := [.int (xs (i + 1))]) (rest := []) [19, 20, 21, 22, 23, 24, 25, 26, 27, 28, 29] [0, 1, 2, 3, 4, 5, 6, 7, 8, 9, 10, 11, 12, 13, 14, 15, 16, 17, 18, 30] [0, 1, 2, 3, 4, 5, 6, 7, 8, 9, 10, 11, 12, 13, 14, 15, 16, 17, 18, 20, 21, 22, 23, 24, 25, 26, 27, 28, 29, 30, 19] S (c_X3_goRounds l G Z b σ μ hR (xs (i + 1))) (cwV 1 hts gL_law_X3_goRounds rfl rfl rfl (by decide +kernel) ⟨(Nat.le_of_ble_eq_true rfl), (Nat.le_of_ble_eq_true rfl)⟩) hK hP hD hS hA rfl rfl (by decide) (by decide) (by decide) (by decide) (fun _ => rfl) (va_recv hK hP (ci := 2) (q0 := 19) rfl rfl) rfl hl.1 rfl (Nat.le_of_ble_eq_true rfl) dL_law_963 ⟨hc4, hs4⟩ (fun r2 v H locs hq hP hD hS => ?_)
  refine lv_istore (lv' := [(6, .int r2), (5, .int r), (0, .ref b0), (1, .ref (a 0)), (2, .ref (b 0)), (3, .ref q), (4, .int (nI i))]) hx hb dL_law_966 hl (by decide) rfl (fun ls hl => ?_)
  obtain ⟨hq1, hq2, hq3⟩ := hq
  obtain ⟨Zx, σx, hRx⟩ : ∃ (Z9 : Nat) (σ9 : cS), Rl Z9 σ9 v := lc_any hq2 hq3
  refine lv_aload_n hx hb dL_law_968 rfl (lv_at hl 4 rfl) ?_
  refine co_rV (As := []) (rest := []) S (c_X3_thrown l G Zx b σx v hRx) (cwV 0 hts gL_law_X3_thrown rfl rfl rfl (by decide +kernel) ⟨(Nat.le_of_ble_eq_true rfl), (Nat.le_of_ble_eq_true rfl)⟩) hK (pG_perm hP [19, 20, 21, 22, 23, 24, 25, 26, 27, 28, 29] rfl) (va_recv hK hP (ci := 2) (q0 := 19) rfl rfl) rfl hl.1 rfl (Nat.le_of_ble_eq_true rfl) dL_law_969 ⟨hc4, hs4⟩ ?_
  refine lv_iload hx hb dL_law_972 (lv_at hl 1 rfl) ?_
  refine lv_icmp_eq (tgt := 979) hx hb dL_law_974 (by decide) (fun c8 => ?_) (fun c8 => ?_)
  · refine lv_iload hx hb dL_law_979 (lv_at hl 1 rfl) ?_
    refine lv_if_ne (tgt := 996) hx hb dL_law_981 (by decide) (fun c9 => ?_) (fun c9 => ?_)
    · rcases hp with ⟨h1, -⟩ | ⟨-, -, h3, h4⟩
      · exact absurd h1 c9
      · refine lv_goto (tgt := 1612) hx hb dL_law_996 (by decide) ?_
        exact kk u.1 u.2.1 v u.2.2 H locs ls (by rw [h4]; exact (hq3 h3).up) hP hD hS (lv_sub hl [2, 3, 4, 5, 6] rfl)
    · rcases hp with ⟨-, h2, h3, h4⟩ | ⟨h1, -⟩
      · obtain ⟨e1, hRF⟩ := hq2 h2
        refine lv_aload_n hx hb dL_law_984 rfl (lv_at hl 5 rfl) ?_
        refine lv_iconst (v := 0) hx hb dL_law_985 (by decide) ?_
        refine va_lald hx hb hK hP 30 2 rfl rfl vin0 dL_law_986 ?_
        refine lv_iload hx hb dL_law_987 (lv_at hl 0 rfl) ?_
        refine lv_i2l (v := r2.toInt64) hx hb dL_law_989 rfl ?_
        refine co_lcmp0 hx hb ((congrArg u.2.2 lc_z0).trans (h3.trans (by rw [e1]))) dL_law_990 ?_
        refine lv_if_eq (tgt := 996) hx hb dL_law_991 (by decide) (fun _ => ?_) (fun c7 => absurd rfl c7)
        refine lv_goto (tgt := 1612) hx hb dL_law_996 (by decide) ?_
        exact kk u.1 u.2.1 v u.2.2 H locs ls (by rw [h4]; exact hRF.up) hP hD hS (lv_sub hl [2, 3, 4, 5, 6] rfl)
      · exact absurd c9 h1
  · exact absurd (hq1.trans (pL_thr hp)) c8

set_option maxHeartbeats 4000000 in
set_option maxRecDepth 100000 in
theorem lc_lookup {p : Program} {l : Launch} {e : Env} {s : State} {m : MethodId} {below : List Frame} {meth : Method} {c : Code} {Q : State → Prop} {b0 L i Z : Nat} {xs : Nat → Int32} {G : cG} {sa : Nat → Nat} {a b : Nat → Nat} {q : Nat} {cells slots : Nat} {σ ρ μ : cS} {o : Nat → Int64} {H : Heap} {locs : List Loc} {ls : Array Slot}
    (C9 : lwI p l s m c b0 L xs G sa i) (hR : Rl Z σ μ) (hZ : Z + 1 < 2 ^ 30) (hc4 : cells + 4 ≤ 601024) (hs4 : slots + 24 ≤ 7293034) (hP : pG G (wW G a b q (σ, ρ, o) μ) H) (hD : va_D (fun q => s.heap.size ≤ q) (wW G a b q (σ, ρ, o) μ)) (hS : va_S (fun q => s.heap.size ≤ q) s.heap H locs) (hl : lv_has ls 7 (lwL a b b0 q i))
    (kk : ∀ (σ' ρ' μ' : cS) (o' : Nat → Int64) (H' : Heap) (locs' : List Loc) (ls' : Array Slot), Rl (Z + 1) σ' μ' → pG G (wW G a b q (σ', ρ', o') μ') H' → va_D (fun q => s.heap.size ≤ q) (wW G a b q (σ', ρ', o') μ') → va_S (fun q => s.heap.size ≤ q) s.heap H' locs' → lv_has ls' 7 (lwL a b b0 q i) → W p l e room_1 s m #[Value.ref b0] below meth c H' locs' (cells + 4) (slots + 24) Q (F0 m 1612 ls' [])) :
    W p l e room_1 s m #[Value.ref b0] below meth c H locs cells slots Q (F0 m 999 ls []) := by
  obtain ⟨S, hl9, hXs, hbl, hK, hX, hN, hi4, hL⟩ := C9
  obtain ⟨hx, hb, hml, hown, hts⟩ := id S
  have hA : ∀ q : Nat, s.heap.size ≤ q → (fun q : Nat => s.heap.size ≤ q) q := fun _ h => h
  have hl : lv_has ls 7 [(0, .ref b0), (1, .ref (a 0)), (2, .ref (b 0)), (3, .ref q), (4, .int (nI i))] := hl
  refine lv_aload_n hx hb dL_law_999 rfl (lv_at hl 1 rfl) ?_
  refine lv_aload_n hx hb dL_law_1000 rfl (lv_at hl 0 rfl) ?_
  refine lv_iload hx hb dL_law_1001 (lv_at hl 4 rfl) ?_
  refine lv_iconst (v := 1) hx hb dL_law_1003 (by decide) ?_
  refine lv_iadd hx hb dL_law_1004 ?_
  refine co_sld (i := i + 1) hx hb hXs hbl hS (nI_add i 1) (by omega) hL dL_law_1005 ?_
  refine lv_aload_n hx hb dL_law_1006 rfl (lv_at hl 0 rfl) ?_
  refine lv_iload hx hb dL_law_1007 (lv_at hl 4 rfl) ?_
  refine lv_iconst (v := 2) hx hb dL_law_1009 (by decide) ?_
  refine lv_iadd hx hb dL_law_1010 ?_
  refine co_sld (i := i + 2) hx hb hXs hbl hS (nI_add i 2) (by omega) hL dL_law_1011 ?_
  refine lv_aload_n hx hb dL_law_1012 rfl (lv_at hl 3 rfl) ?_
  refine co_lSiS (wr := wM G b μ) (w' := fun u : lS => wW G a b q u μ) (As := [.ref (a 0), .int (xs (i + 1)), .int (xs (i + 2)), .ref q]) (rest := []) [0, 1, 2, 3, 4, 5, 6, 7, 8, 9, 10, 11, 12, 13, 14, 15, 16, 17, 18, 30] [19, 20, 21, 22, 23, 24, 25, 26, 27, 28, 29] [11, 12, 13, 14, 15, 16, 17, 18, 19, 20, 21, 22, 23, 24, 25, 26, 27, 28, 29, 0, 1, 2, 3, 4, 5, 6, 7, 8, 9, 10, 30] S (c_L_lookup l hl9 G sa a q σ ρ o (xs (i + 1)) (xs (i + 2))) (vx_cwSW 4 hts gL_law_L_lookup rfl rfl rfl (by decide +kernel) ⟨(Nat.le_of_ble_eq_true rfl), (Nat.le_of_ble_eq_true rfl)⟩) hK hP hD hS hA hX hN rfl rfl (by decide) (by decide) (by decide) (by decide) (fun _ => rfl) rfl hl.1 rfl (Nat.le_of_ble_eq_true rfl) dL_law_1013 ⟨hc4, hs4⟩ (fun r u H locs hp hP hD hS => ?_)
  refine lv_istore (lv' := [(5, .int r), (0, .ref b0), (1, .ref (a 0)), (2, .ref (b 0)), (3, .ref q), (4, .int (nI i))]) hx hb dL_law_1016 hl (by decide) rfl (fun ls hl => ?_)
  refine lv_aload_n hx hb dL_law_1018 rfl (lv_at hl 3 rfl) ?_
  refine lv_aload_n hx hb dL_law_1019 rfl (lv_at hl 1 rfl) ?_
  refine lv_iload hx hb dL_law_1020 (lv_at hl 5 rfl) ?_
  refine lv_iconst (v := 1) hx hb dL_law_1022 (by decide) ?_
  refine lv_iadd hx hb dL_law_1023 ?_
  refine co_sld (i := i + 1) hx hb hXs hbl hS (nI_add i 1) (by omega) hL dL_law_1024 ?_
  refine lv_aload_n hx hb dL_law_1025 rfl (lv_at hl 1 rfl) ?_
  refine lv_iload hx hb dL_law_1026 (lv_at hl 5 rfl) ?_
  refine lv_iconst (v := 2) hx hb dL_law_1028 (by decide) ?_
  refine lv_iadd hx hb dL_law_1029 ?_
  refine co_sld (i := i + 2) hx hb hXs hbl hS (nI_add i 2) (by omega) hL dL_law_1030 ?_
  refine co_mViS (wr := wL G a q u) (w' := fun v : cS => wW G a b q u v) (As := [.int (xs (i + 1)), .int (xs (i + 2))]) (rest := []) [19, 20, 21, 22, 23, 24, 25, 26, 27, 28, 29] [0, 1, 2, 3, 4, 5, 6, 7, 8, 9, 10, 11, 12, 13, 14, 15, 16, 17, 18, 30] [0, 1, 2, 3, 4, 5, 6, 7, 8, 9, 10, 11, 12, 13, 14, 15, 16, 17, 18, 20, 21, 22, 23, 24, 25, 26, 27, 28, 29, 30, 19] S (c_X3_lookup l G Z b σ μ hR (xs (i + 1)) (xs (i + 2))) (cwV 2 hts gL_law_X3_lookup rfl rfl rfl (by decide +kernel) ⟨(Nat.le_of_ble_eq_true rfl), (Nat.le_of_ble_eq_true rfl)⟩) hK hP hD hS hA rfl rfl (by decide) (by decide) (by decide) (by decide) (fun _ => rfl) (va_recv hK hP (ci := 2) (q0 := 19) rfl rfl) rfl hl.1 rfl (Nat.le_of_ble_eq_true rfl) dL_law_1031 ⟨hc4, hs4⟩ (fun r2 v H locs hq hP hD hS => ?_)
  refine lv_istore (lv' := [(6, .int r2), (5, .int r), (0, .ref b0), (1, .ref (a 0)), (2, .ref (b 0)), (3, .ref q), (4, .int (nI i))]) hx hb dL_law_1034 hl (by decide) rfl (fun ls hl => ?_)
  obtain ⟨hq1, hq2, hq3⟩ := hq
  obtain ⟨Zx, σx, hRx⟩ : ∃ (Z9 : Nat) (σ9 : cS), Rl Z9 σ9 v := lc_any hq2 hq3
  refine lv_aload_n hx hb dL_law_1036 rfl (lv_at hl 4 rfl) ?_
  refine co_rV (As := []) (rest := []) S (c_X3_thrown l G Zx b σx v hRx) (cwV 0 hts gL_law_X3_thrown rfl rfl rfl (by decide +kernel) ⟨(Nat.le_of_ble_eq_true rfl), (Nat.le_of_ble_eq_true rfl)⟩) hK (pG_perm hP [19, 20, 21, 22, 23, 24, 25, 26, 27, 28, 29] rfl) (va_recv hK hP (ci := 2) (q0 := 19) rfl rfl) rfl hl.1 rfl (Nat.le_of_ble_eq_true rfl) dL_law_1037 ⟨hc4, hs4⟩ ?_
  refine lv_iload hx hb dL_law_1040 (lv_at hl 1 rfl) ?_
  refine lv_icmp_eq (tgt := 1047) hx hb dL_law_1042 (by decide) (fun c8 => ?_) (fun c8 => ?_)
  · refine lv_iload hx hb dL_law_1047 (lv_at hl 1 rfl) ?_
    refine lv_if_ne (tgt := 1064) hx hb dL_law_1049 (by decide) (fun c9 => ?_) (fun c9 => ?_)
    · rcases hp with ⟨h1, -⟩ | ⟨-, -, h3, h4⟩
      · exact absurd h1 c9
      · refine lv_goto (tgt := 1612) hx hb dL_law_1064 (by decide) ?_
        exact kk u.1 u.2.1 v u.2.2 H locs ls (by rw [h4]; exact (hq3 h3).up) hP hD hS (lv_sub hl [2, 3, 4, 5, 6] rfl)
    · rcases hp with ⟨-, h2, h3, h4⟩ | ⟨h1, -⟩
      · obtain ⟨e1, hRF⟩ := hq2 h2
        refine lv_aload_n hx hb dL_law_1052 rfl (lv_at hl 5 rfl) ?_
        refine lv_iconst (v := 0) hx hb dL_law_1053 (by decide) ?_
        refine va_lald hx hb hK hP 30 2 rfl rfl vin0 dL_law_1054 ?_
        refine lv_iload hx hb dL_law_1055 (lv_at hl 0 rfl) ?_
        refine lv_i2l (v := r2.toInt64) hx hb dL_law_1057 rfl ?_
        refine co_lcmp0 hx hb ((congrArg u.2.2 lc_z0).trans (h3.trans (by rw [e1]))) dL_law_1058 ?_
        refine lv_if_eq (tgt := 1064) hx hb dL_law_1059 (by decide) (fun _ => ?_) (fun c7 => absurd rfl c7)
        refine lv_goto (tgt := 1612) hx hb dL_law_1064 (by decide) ?_
        exact kk u.1 u.2.1 v u.2.2 H locs ls (by rw [h4]; exact hRF.up) hP hD hS (lv_sub hl [2, 3, 4, 5, 6] rfl)
      · exact absurd c9 h1
  · exact absurd (hq1.trans (pL_thr hp)) c8

set_option maxHeartbeats 4000000 in
set_option maxRecDepth 100000 in
theorem lc_hops {p : Program} {l : Launch} {e : Env} {s : State} {m : MethodId} {below : List Frame} {meth : Method} {c : Code} {Q : State → Prop} {b0 L i Z : Nat} {xs : Nat → Int32} {G : cG} {sa : Nat → Nat} {a b : Nat → Nat} {q : Nat} {cells slots : Nat} {σ ρ μ : cS} {o : Nat → Int64} {H : Heap} {locs : List Loc} {ls : Array Slot}
    (C9 : lwI p l s m c b0 L xs G sa i) (hR : Rl Z σ μ) (hZ : Z + 1 < 2 ^ 30) (hc4 : cells + 4 ≤ 601024) (hs4 : slots + 24 ≤ 7293034) (hP : pG G (wW G a b q (σ, ρ, o) μ) H) (hD : va_D (fun q => s.heap.size ≤ q) (wW G a b q (σ, ρ, o) μ)) (hS : va_S (fun q => s.heap.size ≤ q) s.heap H locs) (hl : lv_has ls 7 (lwL a b b0 q i))
    (kk : ∀ (σ' ρ' μ' : cS) (o' : Nat → Int64) (H' : Heap) (locs' : List Loc) (ls' : Array Slot), Rl (Z + 1) σ' μ' → pG G (wW G a b q (σ', ρ', o') μ') H' → va_D (fun q => s.heap.size ≤ q) (wW G a b q (σ', ρ', o') μ') → va_S (fun q => s.heap.size ≤ q) s.heap H' locs' → lv_has ls' 7 (lwL a b b0 q i) → W p l e room_1 s m #[Value.ref b0] below meth c H' locs' (cells + 4) (slots + 24) Q (F0 m 1612 ls' [])) :
    W p l e room_1 s m #[Value.ref b0] below meth c H locs cells slots Q (F0 m 1067 ls []) := by
  obtain ⟨S, hl9, hXs, hbl, hK, hX, hN, hi4, hL⟩ := C9
  obtain ⟨hx, hb, hml, hown, hts⟩ := id S
  have hA : ∀ q : Nat, s.heap.size ≤ q → (fun q : Nat => s.heap.size ≤ q) q := fun _ h => h
  have hl : lv_has ls 7 [(0, .ref b0), (1, .ref (a 0)), (2, .ref (b 0)), (3, .ref q), (4, .int (nI i))] := hl
  refine lv_aload_n hx hb dL_law_1067 rfl (lv_at hl 1 rfl) ?_
  refine lv_aload_n hx hb dL_law_1068 rfl (lv_at hl 0 rfl) ?_
  refine lv_iload hx hb dL_law_1069 (lv_at hl 4 rfl) ?_
  refine lv_iconst (v := 1) hx hb dL_law_1071 (by decide) ?_
  refine lv_iadd hx hb dL_law_1072 ?_
  refine co_sld (i := i + 1) hx hb hXs hbl hS (nI_add i 1) (by omega) hL dL_law_1073 ?_
  refine lv_aload_n hx hb dL_law_1074 rfl (lv_at hl 0 rfl) ?_
  refine lv_iload hx hb dL_law_1075 (lv_at hl 4 rfl) ?_
  refine lv_iconst (v := 2) hx hb dL_law_1077 (by decide) ?_
  refine lv_iadd hx hb dL_law_1078 ?_
  refine co_sld (i := i + 2) hx hb hXs hbl hS (nI_add i 2) (by omega) hL dL_law_1079 ?_
  refine lv_aload_n hx hb dL_law_1080 rfl (lv_at hl 3 rfl) ?_
  refine co_lSiS (wr := wM G b μ) (w' := fun u : lS => wW G a b q u μ) (As := [.ref (a 0), .int (xs (i + 1)), .int (xs (i + 2)), .ref q]) (rest := []) [0, 1, 2, 3, 4, 5, 6, 7, 8, 9, 10, 11, 12, 13, 14, 15, 16, 17, 18, 30] [19, 20, 21, 22, 23, 24, 25, 26, 27, 28, 29] [11, 12, 13, 14, 15, 16, 17, 18, 19, 20, 21, 22, 23, 24, 25, 26, 27, 28, 29, 0, 1, 2, 3, 4, 5, 6, 7, 8, 9, 10, 30] S (c_L_hops l hl9 G sa a q σ ρ o (xs (i + 1)) (xs (i + 2)) (fun h9 => hp_of hR h9)) (vx_cwSW 4 hts gL_law_L_hops rfl rfl rfl (by decide +kernel) ⟨(Nat.le_of_ble_eq_true rfl), (Nat.le_of_ble_eq_true rfl)⟩) hK hP hD hS hA hX hN rfl rfl (by decide) (by decide) (by decide) (by decide) (fun _ => rfl) rfl hl.1 rfl (Nat.le_of_ble_eq_true rfl) dL_law_1081 ⟨hc4, hs4⟩ (fun r u H locs hp hP hD hS => ?_)
  refine lv_istore (lv' := [(5, .int r), (0, .ref b0), (1, .ref (a 0)), (2, .ref (b 0)), (3, .ref q), (4, .int (nI i))]) hx hb dL_law_1084 hl (by decide) rfl (fun ls hl => ?_)
  refine lv_aload_n hx hb dL_law_1086 rfl (lv_at hl 3 rfl) ?_
  refine lv_aload_n hx hb dL_law_1087 rfl (lv_at hl 1 rfl) ?_
  refine lv_iload hx hb dL_law_1088 (lv_at hl 5 rfl) ?_
  refine lv_iconst (v := 1) hx hb dL_law_1090 (by decide) ?_
  refine lv_iadd hx hb dL_law_1091 ?_
  refine co_sld (i := i + 1) hx hb hXs hbl hS (nI_add i 1) (by omega) hL dL_law_1092 ?_
  refine lv_aload_n hx hb dL_law_1093 rfl (lv_at hl 1 rfl) ?_
  refine lv_iload hx hb dL_law_1094 (lv_at hl 5 rfl) ?_
  refine lv_iconst (v := 2) hx hb dL_law_1096 (by decide) ?_
  refine lv_iadd hx hb dL_law_1097 ?_
  refine co_sld (i := i + 2) hx hb hXs hbl hS (nI_add i 2) (by omega) hL dL_law_1098 ?_
  refine co_mViS (wr := wL G a q u) (w' := fun v : cS => wW G a b q u v) (As := [.int (xs (i + 1)), .int (xs (i + 2))]) (rest := []) [19, 20, 21, 22, 23, 24, 25, 26, 27, 28, 29] [0, 1, 2, 3, 4, 5, 6, 7, 8, 9, 10, 11, 12, 13, 14, 15, 16, 17, 18, 30] [0, 1, 2, 3, 4, 5, 6, 7, 8, 9, 10, 11, 12, 13, 14, 15, 16, 17, 18, 20, 21, 22, 23, 24, 25, 26, 27, 28, 29, 30, 19] S (c_X3_hops l G Z b σ μ hR (xs (i + 1)) (xs (i + 2))) (cwV 2 hts gL_law_X3_hops rfl rfl rfl (by decide +kernel) ⟨(Nat.le_of_ble_eq_true rfl), (Nat.le_of_ble_eq_true rfl)⟩) hK hP hD hS hA rfl rfl (by decide) (by decide) (by decide) (by decide) (fun _ => rfl) (va_recv hK hP (ci := 2) (q0 := 19) rfl rfl) rfl hl.1 rfl (Nat.le_of_ble_eq_true rfl) dL_law_1099 ⟨hc4, hs4⟩ (fun r2 v H locs hq hP hD hS => ?_)
  refine lv_istore (lv' := [(6, .int r2), (5, .int r), (0, .ref b0), (1, .ref (a 0)), (2, .ref (b 0)), (3, .ref q), (4, .int (nI i))]) hx hb dL_law_1102 hl (by decide) rfl (fun ls hl => ?_)
  obtain ⟨hq1, hq2, hq3⟩ := hq
  obtain ⟨Zx, σx, hRx⟩ : ∃ (Z9 : Nat) (σ9 : cS), Rl Z9 σ9 v := lc_any hq2 hq3
  refine lv_aload_n hx hb dL_law_1104 rfl (lv_at hl 4 rfl) ?_
  refine co_rV (As := []) (rest := []) S (c_X3_thrown l G Zx b σx v hRx) (cwV 0 hts gL_law_X3_thrown rfl rfl rfl (by decide +kernel) ⟨(Nat.le_of_ble_eq_true rfl), (Nat.le_of_ble_eq_true rfl)⟩) hK (pG_perm hP [19, 20, 21, 22, 23, 24, 25, 26, 27, 28, 29] rfl) (va_recv hK hP (ci := 2) (q0 := 19) rfl rfl) rfl hl.1 rfl (Nat.le_of_ble_eq_true rfl) dL_law_1105 ⟨hc4, hs4⟩ ?_
  refine lv_iload hx hb dL_law_1108 (lv_at hl 1 rfl) ?_
  refine lv_icmp_eq (tgt := 1115) hx hb dL_law_1110 (by decide) (fun c8 => ?_) (fun c8 => ?_)
  · refine lv_iload hx hb dL_law_1115 (lv_at hl 1 rfl) ?_
    refine lv_if_ne (tgt := 1132) hx hb dL_law_1117 (by decide) (fun c9 => ?_) (fun c9 => ?_)
    · rcases hp with ⟨h1, -⟩ | ⟨-, -, h3, h4⟩
      · exact absurd h1 c9
      · refine lv_goto (tgt := 1612) hx hb dL_law_1132 (by decide) ?_
        exact kk u.1 u.2.1 v u.2.2 H locs ls (by rw [h4]; exact (hq3 h3).up) hP hD hS (lv_sub hl [2, 3, 4, 5, 6] rfl)
    · rcases hp with ⟨-, h2, h3, h4⟩ | ⟨h1, -⟩
      · obtain ⟨e1, hRF⟩ := hq2 h2
        refine lv_aload_n hx hb dL_law_1120 rfl (lv_at hl 5 rfl) ?_
        refine lv_iconst (v := 0) hx hb dL_law_1121 (by decide) ?_
        refine va_lald hx hb hK hP 30 2 rfl rfl vin0 dL_law_1122 ?_
        refine lv_iload hx hb dL_law_1123 (lv_at hl 0 rfl) ?_
        refine lv_i2l (v := r2.toInt64) hx hb dL_law_1125 rfl ?_
        refine co_lcmp0 hx hb ((congrArg u.2.2 lc_z0).trans (h3.trans (by rw [e1]))) dL_law_1126 ?_
        refine lv_if_eq (tgt := 1132) hx hb dL_law_1127 (by decide) (fun _ => ?_) (fun c7 => absurd rfl c7)
        refine lv_goto (tgt := 1612) hx hb dL_law_1132 (by decide) ?_
        exact kk u.1 u.2.1 v u.2.2 H locs ls (by rw [h4]; exact hRF.up) hP hD hS (lv_sub hl [2, 3, 4, 5, 6] rfl)
      · exact absurd c9 h1
  · exact absurd (hq1.trans (pL_thr hp)) c8
