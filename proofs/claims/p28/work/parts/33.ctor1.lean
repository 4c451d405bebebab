def wFl (G : cG) (q N : Nat) (f : Nat → Int32) : va_W := [(q, .inl (G.2.1, N, .inl f))]

abbrev rm_J7_fill_53178 : Room := { frames := 0, cells := 0, slots := 0, locals := 0 }
set_option maxHeartbeats 4000000 in
set_option maxRecDepth 100000 in
theorem c_J7_fill (l : Launch) (G : cG) (q0 N : Nat) (f : Nat → Int32) (x : Int32) (hN : N < 2 ^ 31) : MetV l yJ7_fill_53178 wsJ7_fill_53178 rm_J7_fill_53178 G (wFl G q0 N f) [.ref q0, .int x] (fun u : Nat → Int32 => wFl G q0 N u) (fun _ => True) := by
  refine co_bodyV (cc := cJ7_fill_53178) (maxL := 4) (ret := none) (by decide) rfl (Nat.le_of_ble_eq_true rfl) ?_
  intro p e s m args below meth c S hr hlocks hK A hA hP hD hS ls hl
  have S : CallFix p m c cJ7_fill_53178 4 s args wsJ7_fill_53178 RJ7 := S
  obtain ⟨hx, hb, hml, hown, hts⟩ := id S
  have hl : lv_has ls 4 [(0, .ref q0), (1, .int x)] := hl
  refine lv_iconst (v := 0) hx hb dJ7_fill_53178_0 (by decide) ?_
  refine lv_istore_n (lv' := [(2, .int 0), (0, .ref q0), (1, .int x)]) hx hb dJ7_fill_53178_1 rfl hl (by decide) rfl (fun ls hl => ?_)
  refine lv_aload_n hx hb dJ7_fill_53178_2 rfl (lv_at hl 1 rfl) ?_
  refine va_alen (v := nI N) hx hb hK hP 0 0 rfl rfl rfl dJ7_fill_53178_3 ?_
  refine lv_istore_n (lv' := [(3, .int (nI N)), (2, .int 0), (0, .ref q0), (1, .int x)]) hx hb dJ7_fill_53178_4 rfl hl (by decide) rfl (fun ls hl => ?_)
  have LP : ∀ (d : Nat) (k : Nat) (g' : Nat → Int32), k + d = N → ∀ (H : Heap) (locs : List Loc), pG G (wFl G q0 N g') H → va_D A (wFl G q0 N g') → va_S A s.heap H locs → ∀ ls : Array Slot, lv_has ls 4 [(0, .ref q0), (1, .int x), (2, .int (nI k)), (3, .int (nI N))] → W p l e rm_J7_fill_53178 s m args below meth c H locs 0 0 (QV below G A (fun u : Nat → Int32 => wFl G q0 N u) (fun _ => True) args s) (F0 m 5 ls []) := by
    intro d
    induction d with
    | zero =>
      intro k g' hk H locs hP hD hS ls hl
      refine lv_iload_n hx hb dJ7_fill_53178_5 rfl (lv_at hl 2 rfl) ?_
      refine lv_iload_n hx hb dJ7_fill_53178_6 rfl (lv_at hl 3 rfl) ?_
      refine lv_icmp_ge (tgt := 20) hx hb dJ7_fill_53178_7 (by decide) (fun c_1 => ?_) (fun c_1 => ?_)
      · exact co_endV g' S hr hlocks dJ7_fill_53178_20 hK hP hD hS (by trivial)
      · exact absurd (nI_le (a := N) (b := k) (by omega) (by omega)) c_1
    | succ d ih =>
      intro k g' hk H locs hP hD hS ls hl
      refine lv_iload_n hx hb dJ7_fill_53178_5 rfl (lv_at hl 2 rfl) ?_
      refine lv_iload_n hx hb dJ7_fill_53178_6 rfl (lv_at hl 3 rfl) ?_
      refine lv_icmp_ge (tgt := 20) hx hb dJ7_fill_53178_7 (by decide) (fun c_2 => ?_) (fun c_2 => ?_)
      · exact absurd c_2 (nI_ge (a := k) (b := N) (by omega) (by omega))
      · refine lv_aload_n hx hb dJ7_fill_53178_10 rfl (lv_at hl 0 rfl) ?_
        refine lv_iload_n hx hb dJ7_fill_53178_11 rfl (lv_at hl 2 rfl) ?_
        refine lv_iload_n hx hb dJ7_fill_53178_12 rfl (lv_at hl 1 rfl) ?_
        refine va_iast hx hb hK hP hD hS 0 0 rfl rfl (vp_in_nI (by omega) (by omega)) dJ7_fill_53178_13 (fun H locs hP hD hS => ?_)
        obtain ⟨f_3, ef_3⟩ : ∃ z9, z9 = (upd g' (nI k).toNatClampNeg x) := ⟨_, rfl⟩
        rw [← ef_3] at hP hD
        have hP : pG G (wFl G q0 N f_3) H := hP
        have hD : va_D A (wFl G q0 N f_3) := hD
        refine lv_iinc (v := (nI (k + 1))) (lv' := [(2, .int (nI (k + 1))), (0, .ref q0), (1, .int x), (3, .int (nI N))]) hx hb dJ7_fill_53178_14 hl (k := 2) rfl (nI_1 k) (by decide) rfl (fun ls hl => ?_)
        refine lv_goto (tgt := 5) hx hb dJ7_fill_53178_17 (by decide) ?_
        exact ih (k + 1) f_3 (by omega) _ _ hP hD hS ls (lv_sub hl [1, 2, 0, 3] rfl)
  exact LP N 0 f (Nat.zero_add N) _ _ hP hD hS ls (lv_sub hl [2, 3, 1, 0] rfl)

set_option maxRecDepth 20000 in
theorem uX1_X1_init : ∀ w ∈ u_ws RX1 TX1 2, w ∈ wsX1_init := by decide +kernel
abbrev rm_X1_init : Room := { frames := 2, cells := 1, slots := 4096, locals := 60 }
theorem ti_w {w : Nat} (h1 : 1 ≤ w) (h2 : w ≤ 64) : (if (1 : Int32) < (if (64 : Int32) < nI w then 64 else nI w) then (if (64 : Int32) < nI w then 64 else nI w) else 1) = nI w := by
  rw [if_neg (show ¬ (64 : Int32) < nI w from nI_nlt (a := 64) h2 (by decide))]
  split
  · rfl
  · rename_i h
    have : ¬ 1 < w := fun q => h (nI_lt (a := 1) q (by omega))
    rw [show w = 1 by omega]; rfl
set_option maxHeartbeats 4000000 in
set_option maxRecDepth 100000 in
theorem c_X1_init (l : Launch) (G : cG) (t w : Nat) (h1 : 1 ≤ w) (h2 : w ≤ 64) : MetC l yX1_init wsX1_init rm_X1_init G [(t, .inr (0, [.int 0, .null]))] [.ref t, .int (nI w)] (fun u : Nat × (Nat → Int32) => wT G t u.1 w u.2) (fun _ => True) 1 4096 := by
  refine co_bodyC (cc := cX1_init) (maxL := 2) (ret := none) (by decide) rfl (Nat.le_of_ble_eq_true rfl) ?_
  intro p e s m args below meth c S hr hlocks hin hK A hA hP hD hS ls hl
  have S : CallFix p m c cX1_init 2 s args wsX1_init RX1 := S
  obtain ⟨hx, hb, hml, hown, hts⟩ := id S
  have hl : lv_has ls 2 [(0, .ref t), (1, .int (nI w))] := hl
  have uX1 := uX1_X1_init
  refine lv_aload_n hx hb dX1_init_0 rfl (lv_at hl 0 rfl) ?_
  refine W.objInit hx hb hown (hts (.methodLink RX1 3 objectInit) (by decide +kernel)) (hts (.instanceMethod objectInit) (by decide +kernel)) (hts (.code objectInit ⟨#[0xb1]⟩ 1 none) (List.mem_cons_of_mem _ (List.mem_append_left _ (List.mem_of_getElem? (i := 2) rfl)))) rfl (by rw [hml]; exact hl.1) rfl dX1_init_1 (Nat.le_of_ble_eq_true rfl) (Nat.le_of_ble_eq_true rfl) ?_
  refine W.eq (g2 := F0 m 4 ls []) rfl ?_
  refine lv_aload_n hx hb dX1_init_4 rfl (lv_at hl 0 rfl) ?_
  refine lv_iconst (v := 1) hx hb dX1_init_5 (by decide) ?_
  refine lv_iload_n hx hb dX1_init_6 rfl (lv_at hl 1 rfl) ?_
  refine lv_bipush (v := 64) hx hb dX1_init_7 (by decide) ?_
  refine va_mmin hx hb (hml.trans hl.1.symm) hown (hts (.methodLink RX1 9 Lib.Math.min.name) (by decide +kernel)) (hts (.static Lib.Math.min.name) (by decide +kernel)) (hts (.initialized "java/lang/Math") (by decide +kernel)) (hts (.code Lib.Math.min.name Lib.Math.min.code 2 (some .int)) (by decide +kernel)) (Nat.le_of_ble_eq_true rfl) (Nat.le_of_ble_eq_true rfl) (Nat.zero_le _) (Nat.zero_le _) dX1_init_9 ?_
  refine va_mmax hx hb (hml.trans hl.1.symm) hown (hts (.methodLink RX1 15 Lib.Math.max.name) (by decide +kernel)) (hts (.static Lib.Math.max.name) (by decide +kernel)) (hts (.initialized "java/lang/Math") (by decide +kernel)) (hts (.code Lib.Math.max.name Lib.Math.max.code 2 (some .int)) (by decide +kernel)) (Nat.le_of_ble_eq_true rfl) (Nat.le_of_ble_eq_true rfl) (Nat.zero_le _) (Nat.zero_le _) dX1_init_12 ?_
  refine co_eq (ti_w h1 h2) ?_
  refine va_putF (D := G.1) (ci := 0) (v := .int (nI w)) (ty := .int) (C := RX1) (T := TX1) (N := 2) hx hb hts uX1 tyX1 tyX1_ok nmX1 hown hK hP hD hS 0 rfl rfl 0 (by decide) (hts (.fieldLink RX1 18 "ChordOverlay$Table" "width" "I") (by decide +kernel)) (fun _ h9 => h9) rfl hin rfl (by decide +kernel) rfl rfl (Nat.le_of_ble_eq_true rfl) dX1_init_15 (fun H locs hP hD hS => ?_)
  have hP : pG G ([(t, .inr (0, [.int (nI w), .null]))]) H := hP
  have hD : va_D A ([(t, .inr (0, [.int (nI w), .null]))]) := hD
  refine lv_aload_n hx hb dX1_init_18 rfl (lv_at hl 0 rfl) ?_
  refine lv_bipush (v := 64) hx hb dX1_init_19 (by decide) ?_
  refine lv_aload_n hx hb dX1_init_21 rfl (lv_at hl 0 rfl) ?_
  refine va_get (D := G.1) (ci := 0) (v := .int (nI w)) (C := RX1) (T := TX1) (N := 2) hx hb hts uX1 hown hK hP 0 rfl rfl 0 (by decide) (hts (.fieldLink RX1 18 "ChordOverlay$Table" "width" "I") (by decide +kernel)) (fun _ h9 => h9) rfl dX1_init_22 ?_
  refine lv_imul hx hb dX1_init_25 ?_
  refine co_eq (show (64 : Int32) * nI w = nI (64 * w) from pk_mul 64 w) ?_
  refine co_newI S (hts (.arrayClass .int) (by decide +kernel)) hK hP hD hS hA (N := 64 * w) (nI_pos (by omega)) (nI_clamp (by omega)) (by omega) (Nat.le_of_ble_eq_true rfl) (show 0 + 64 * w ≤ 4096 by omega) dX1_init_26 (fun q H hP hD hS => ?_)
  have hP : pG G ([(t, .inr (0, [.int (nI w), .null])), (q, .inl (G.2.1, 64 * w, .inl (fun _ => 0)))]) H := hP
  have hD : va_D A ([(t, .inr (0, [.int (nI w), .null])), (q, .inl (G.2.1, 64 * w, .inl (fun _ => 0)))]) := hD
  refine W.widen (k := 1) (n := 4096) (Nat.le_refl _) (show 0 + 64 * w ≤ 4096 by omega) ?_
  refine va_putF (D := G.1) (ci := 0) (v := .ref q) (ty := .array .int) (C := RX1) (T := TX1) (N := 2) hx hb hts uX1 tyX1 tyX1_ok nmX1 hown hK hP hD hS 0 rfl rfl 1 (by decide) (hts (.fieldLink RX1 24 "ChordOverlay$Table" "cells" "[I") (by decide +kernel)) (fun _ h9 => h9) rfl hin rfl (by decide +kernel) rfl rfl (Nat.le_of_ble_eq_true rfl) dX1_init_28 (fun H locs hP hD hS => ?_)
  have hP : pG G ([(t, .inr (0, [.int (nI w), .ref q])), (q, .inl (G.2.1, 64 * w, .inl (fun _ => 0)))]) H := hP
  have hD : va_D A ([(t, .inr (0, [.int (nI w), .ref q])), (q, .inl (G.2.1, 64 * w, .inl (fun _ => 0)))]) := hD
  refine lv_aload_n hx hb dX1_init_31 rfl (lv_at hl 0 rfl) ?_
  refine va_get (D := G.1) (ci := 0) (v := .ref q) (C := RX1) (T := TX1) (N := 2) hx hb hts uX1 hown hK hP 0 rfl rfl 1 (by decide) (hts (.fieldLink RX1 24 "ChordOverlay$Table" "cells" "[I") (by decide +kernel)) (fun _ h9 => h9) rfl dX1_init_32 ?_
  refine lv_iconst (v := (-1)) hx hb dX1_init_35 (by decide) ?_
  refine co_mSvS (As := [.ref q, .int (-1)]) (rest := []) (wr := [(t, .inr (0, [.int (nI w), .ref q]))]) (w' := (fun f => wT G t q w f)) [1] [0] [0, 1] S (c_J7_fill l G q (64 * w) (fun _ => 0) (-1) (by omega)) (va_cwS 2 hts gX1_init_J7_fill_53178 rfl rfl rfl (by decide +kernel) ⟨(Nat.le_of_ble_eq_true rfl), (Nat.le_of_ble_eq_true rfl)⟩) hK hP hD hS hA rfl rfl (by decide) (by decide) (by decide) (by decide) (fun _ => rfl) rfl hl.1 rfl (Nat.le_of_ble_eq_true rfl) dX1_init_36 ⟨(Nat.le_of_ble_eq_true rfl), (Nat.le_of_ble_eq_true rfl)⟩ (fun f H locs _ hP hD hS => ?_)
  have hP : pG G (wT G t q w f) H := hP
  have hD : va_D A (wT G t q w f) := hD
  exact co_endC (q, f) S hr hlocks dX1_init_39 hK hP hD hS trivial (Nat.le_of_ble_eq_true rfl) (Nat.le_of_ble_eq_true rfl)
