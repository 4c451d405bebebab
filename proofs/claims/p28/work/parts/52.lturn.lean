set_option maxHeartbeats 8000000 in
set_option maxRecDepth 100000 in
theorem lt_first {p : Program} {l : Launch} {e : Env} {s : State} {m : MethodId} {below : List Frame} {meth : Method} {c : Code} {b0 L : Nat} {xs : Nat → Int32} {G : cG} {sa a q : Nat → Nat} (C9 : lwT p l s m c b0 L xs G sa) {Z : Nat} {ν δ κ : Nat → Nat} {σ ρ τ : cS} (hR : Rq Z ν δ κ σ τ) {n o c₀ A t : Nat} (hn0 : n < 64) (hdn : δ n < 10) (ho0 : o < 64) (hc0 : c₀ < 6) (hZ9 : Z + 1 < 1000) (hcn : cnt (σ 0) 64 = 0) {H : Heap} {locs : List Loc} {cells slots : Nat} (hc9 : cells + 20 ≤ 600130) (hs9 : slots + 120 ≤ 7301080) (hP : pG G (wW G a q σ ρ τ) H) (hD : va_D (AW s) (wW G a q σ ρ τ)) (hS : va_S (AW s) s.heap H locs) {ls : Array Slot} (hl : lv_has ls 20 [(0, .ref b0), (1, .ref (a 0)), (2, .ref (q 0)), (3, .ref (q 1)), (4, .ref (q 2)), (5, .ref (q 3)), (6, .ref (q 4)), (8, .int (nI t)), (10, .int (nI A)), (11, .int (nI n)), (12, .int (nI o)), (13, .int (nI c₀)), (14, .int (bI (alv (σ 0) (nI n)))), (15, .int (-3)), (16, .int 0)])
    (kk : ∀ (σ' ρ' τ' : cS) (Z' : Nat) (v : Int32) (cc sc : Nat) (H : Heap) (locs : List Loc) (ls : Array Slot), Rq Z' ν δ κ σ' τ' → Z' ≤ Z + 1 → cc ≤ cells + 20 → sc ≤ slots + 120 → pG G (wW G a q σ' ρ' τ') H → va_D (AW s) (wW G a q σ' ρ' τ') → va_S (AW s) s.heap H locs → lv_has ls 20 [(0, .ref b0), (1, .ref (a 0)), (2, .ref (q 0)), (3, .ref (q 1)), (4, .ref (q 2)), (5, .ref (q 3)), (6, .ref (q 4)), (8, .int (nI t)), (15, .int v), (16, .int v)] → W p l e room_1 s m #[Value.ref b0] below meth c H locs cc sc (lw_Z below #[Value.ref b0] s) (F0 m 859 ls [])) : W p l e room_1 s m #[Value.ref b0] below meth c H locs cells slots (lw_Z below #[Value.ref b0] s) (F0 m 297 ls []) := by
  obtain ⟨S, hl9, hXs, hbl, hK, hX, hL9⟩ := C9
  obtain ⟨hx, hb, hml, hown, hts⟩ := id S
  have hA : ∀ q : Nat, s.heap.size ≤ q → AW s q := fun _ h => h
  have tk9 : κ c₀ < 64 := Rq.ka hR hc0
  refine lv_iload hx hb dL_law_297 (lv_at hl 9 rfl) ?_
  refine lv_iload hx hb dL_law_299 (lv_at hl 9 rfl) ?_
  refine lv_iload hx hb dL_law_301 (lv_at hl 9 rfl) ?_
  refine lv_iload hx hb dL_law_303 (lv_at hl 9 rfl) ?_
  refine lv_aload_n hx hb dL_law_305 rfl (lv_at hl 2 rfl) ?_
  refine lv_aload_n hx hb dL_law_306 rfl (lv_at hl 3 rfl) ?_
  refine lv_aload hx hb dL_law_307 (lv_at hl 4 rfl) ?_
  refine lv_aload hx hb dL_law_309 (lv_at hl 5 rfl) ?_
  refine lv_aload hx hb dL_law_311 (lv_at hl 6 rfl) ?_
  refine co_mSvS (As := [.int (nI n), .int (nI n), .int (nI n), .int (nI n), .ref (q 0), .ref (q 1), .ref (q 2), .ref (q 3), .ref (q 4)]) (rest := []) (wr := wO G a σ ρ) (w' := (fun u : cS => wW G a q σ ρ u)) [19, 20, 21, 22, 23] [0, 1, 2, 3, 4, 5, 6, 7, 8, 9, 10, 11, 12, 13, 14, 15, 16, 17, 18] [0, 1, 2, 3, 4, 5, 6, 7, 8, 9, 10, 11, 12, 13, 14, 15, 16, 17, 18, 19, 20, 21, 22, 23] S (c_L_begin l G Z q ν δ κ σ τ hR n n n n hn0 hdn hn0 hn0 hn0) (va_cwS 9 hts gL_law_L_begin rfl rfl rfl (by decide +kernel) ⟨Nat.le_of_ble_eq_true rfl, Nat.le_of_ble_eq_true rfl⟩) hK hP hD hS hA rfl rfl (by decide) (by decide) (by decide) (by decide) (fun _ => rfl) rfl hl.1 rfl (Nat.le_of_ble_eq_true rfl) dL_law_313 ⟨by show cells + 0 ≤ 600130; omega, by show slots + 0 ≤ 7301080; omega⟩ (fun u_1 H locs hu_1 hP hD hS => ?_)
  have hq_1 := hu_1
  obtain ⟨σ_1, eσ_1⟩ : ∃ z9, z9 = (blS σ (nI n) (nI n) (nI n) (nI n)) := ⟨_, rfl⟩
  have hq_1 : Rq Z ν δ κ σ_1 u_1 := (by rw [eσ_1]; exact hq_1)
  have hP : pG G (wW G a q σ ρ u_1) H := hP
  have hD : va_D (AW s) (wW G a q σ ρ u_1) := hD
  refine lv_iconst (v := 1) hx hb dL_law_316 (by decide) ?_
  refine lv_istore (lv' := [(15, .int 1), (0, .ref b0), (1, .ref (a 0)), (2, .ref (q 0)), (3, .ref (q 1)), (4, .ref (q 2)), (5, .ref (q 3)), (6, .ref (q 4)), (8, .int (nI t)), (10, .int (nI A)), (11, .int (nI n)), (12, .int (nI o)), (13, .int (nI c₀)), (14, .int (bI (alv (σ 0) (nI n)))), (16, .int 0)]) hx hb dL_law_317 hl (by decide) rfl (fun ls hl => ?_)
  refine lv_aload_n hx hb dL_law_319 rfl (lv_at hl 2 rfl) ?_
  refine lv_iconst (v := 0) hx hb dL_law_320 (by decide) ?_
  refine lv_iload hx hb dL_law_321 (lv_at hl 10 rfl) ?_
  refine lv_iconst (v := 0) hx hb dL_law_323 (by decide) ?_
  refine lv_iconst (v := 0) hx hb dL_law_324 (by decide) ?_
  refine co_nSWS (wr := wQ G q u_1) (w' := fun u : cS × cS => wW G a q u.1 u.2 u_1) (As := [.ref (a 0), .int 0, .int (nI n), .int 0, .int 0]) (rest := []) [0, 1, 2, 3, 4, 5, 6, 7, 8, 9, 10, 11, 12, 13, 14, 15, 16, 17, 18] [19, 20, 21, 22, 23] [5, 6, 7, 8, 9, 10, 11, 12, 13, 14, 15, 16, 17, 18, 19, 20, 21, 22, 23, 0, 1, 2, 3, 4] S (c_L_calls0 l hl9 G sa a σ ρ (nI n) 0 0 (fun z => absurd (z.symm.trans (cdC0 hn0 hcn)) (by decide))) (vx_cwSW 5 hts gL_law_L_calls rfl rfl rfl (by decide +kernel) ⟨(Nat.le_of_ble_eq_true rfl), (Nat.le_of_ble_eq_true rfl)⟩) hK hP hD hS hA hX rfl rfl (by decide) (by decide) (by decide) (by decide) (fun _ => rfl) rfl hl.1 rfl (Nat.le_of_ble_eq_true rfl) dL_law_325 ⟨by show cells + 4 ≤ 600130; omega, by show slots + 24 ≤ 7301080; omega⟩ (fun r_w_2 u_w_2 H locs hp_w_2 hP hD hS => ?_)
  obtain ⟨e1_w_2, e2_w_2⟩ := pC_0 hp_w_2 (cdC0 hn0 hcn)
  have e3_w_2 : u_w_2.1 = σ_1 := e2_w_2.trans (eσ_1.symm)
  have hP : pG G (wW G a q σ_1 u_w_2.2 u_1) H := (by rw [← e3_w_2]; exact hP)
  have hD : va_D (AW s) (wW G a q σ_1 u_w_2.2 u_1) := (by rw [← e3_w_2]; exact hD)
  refine co_eq (e1_w_2.trans (cr_1 hn0 (by rw [hcn]; decide))) ?_
  refine lv_istore (lv' := [(16, .int 1), (15, .int 1), (0, .ref b0), (1, .ref (a 0)), (2, .ref (q 0)), (3, .ref (q 1)), (4, .ref (q 2)), (5, .ref (q 3)), (6, .ref (q 4)), (8, .int (nI t)), (10, .int (nI A)), (11, .int (nI n)), (12, .int (nI o)), (13, .int (nI c₀)), (14, .int (bI (alv (σ 0) (nI n))))]) hx hb dL_law_328 hl (by decide) rfl (fun ls hl => ?_)
  refine lv_goto (tgt := 859) hx hb dL_law_330 (by decide) ?_
  exact kk σ_1 u_w_2.2 u_1 Z _ _ _ H locs ls hq_1 (by omega) (by omega) (by omega) hP hD hS (lv_sub hl [2, 3, 4, 5, 6, 7, 8, 9, 1, 0] rfl)

set_option maxHeartbeats 8000000 in
set_option maxRecDepth 100000 in
theorem lt_join {p : Program} {l : Launch} {e : Env} {s : State} {m : MethodId} {below : List Frame} {meth : Method} {c : Code} {b0 L : Nat} {xs : Nat → Int32} {G : cG} {sa a q : Nat → Nat} (C9 : lwT p l s m c b0 L xs G sa) {Z : Nat} {ν δ κ : Nat → Nat} {σ ρ τ : cS} (hR : Rq Z ν δ κ σ τ) {n o c₀ A t : Nat} (hn0 : n < 64) (hdn : δ n < 10) (ho0 : o < 64) (hc0 : c₀ < 6) (hZ9 : Z + 1 < 1000) {H : Heap} {locs : List Loc} {cells slots : Nat} (hc9 : cells + 20 ≤ 600130) (hs9 : slots + 120 ≤ 7301080) (hP : pG G (wW G a q σ ρ τ) H) (hD : va_D (AW s) (wW G a q σ ρ τ)) (hS : va_S (AW s) s.heap H locs) {ls : Array Slot} (hl : lv_has ls 20 [(0, .ref b0), (1, .ref (a 0)), (2, .ref (q 0)), (3, .ref (q 1)), (4, .ref (q 2)), (5, .ref (q 3)), (6, .ref (q 4)), (8, .int (nI t)), (10, .int (nI A)), (11, .int (nI n)), (12, .int (nI o)), (13, .int (nI c₀)), (14, .int (bI (alv (σ 0) (nI n)))), (15, .int (-3)), (16, .int 0)])
    (kk : ∀ (σ' ρ' τ' : cS) (Z' : Nat) (v : Int32) (cc sc : Nat) (H : Heap) (locs : List Loc) (ls : Array Slot), Rq Z' ν δ κ σ' τ' → Z' ≤ Z + 1 → cc ≤ cells + 20 → sc ≤ slots + 120 → pG G (wW G a q σ' ρ' τ') H → va_D (AW s) (wW G a q σ' ρ' τ') → va_S (AW s) s.heap H locs → lv_has ls 20 [(0, .ref b0), (1, .ref (a 0)), (2, .ref (q 0)), (3, .ref (q 1)), (4, .ref (q 2)), (5, .ref (q 3)), (6, .ref (q 4)), (8, .int (nI t)), (15, .int v), (16, .int v)] → W p l e room_1 s m #[Value.ref b0] below meth c H locs cc sc (lw_Z below #[Value.ref b0] s) (F0 m 859 ls [])) : W p l e room_1 s m #[Value.ref b0] below meth c H locs cells slots (lw_Z below #[Value.ref b0] s) (F0 m 340 ls []) := by
  obtain ⟨S, hl9, hXs, hbl, hK, hX, hL9⟩ := C9
  obtain ⟨hx, hb, hml, hown, hts⟩ := id S
  have hA : ∀ q : Nat, s.heap.size ≤ q → AW s q := fun _ h => h
  have tk9 : κ c₀ < 64 := Rq.ka hR hc0
  refine lv_iload hx hb dL_law_340 (lv_at hl 12 rfl) ?_
  refine co_ifne (tgt := 355) S dL_law_342 (by decide) (fun c_1 => ?_) (fun c_1 => ?_)
  · refine lv_iconst (v := (-1)) hx hb dL_law_355 (by decide) ?_
    refine lv_goto (tgt := 372) hx hb dL_law_356 (by decide) ?_
    refine lv_istore (lv' := [(17, .int (-1)), (0, .ref b0), (1, .ref (a 0)), (2, .ref (q 0)), (3, .ref (q 1)), (4, .ref (q 2)), (5, .ref (q 3)), (6, .ref (q 4)), (8, .int (nI t)), (10, .int (nI A)), (11, .int (nI n)), (12, .int (nI o)), (13, .int (nI c₀)), (14, .int (bI (alv (σ 0) (nI n)))), (15, .int (-3)), (16, .int 0)]) hx hb dL_law_372 hl (by decide) rfl (fun ls hl => ?_)
    refine lv_iload hx hb dL_law_374 (lv_at hl 0 rfl) ?_
    refine lv_if_ge (tgt := 384) hx hb dL_law_376 (by decide) (fun c_2 => ?_) (fun c_2 => ?_)
    · exact absurd c_2 (by decide)
    · refine lv_bipush (v := (-3)) hx hb dL_law_379 (by decide) ?_
      refine lv_goto (tgt := 386) hx hb dL_law_381 (by decide) ?_
      refine lv_istore (lv' := [(15, .int (-3)), (17, .int (-1)), (0, .ref b0), (1, .ref (a 0)), (2, .ref (q 0)), (3, .ref (q 1)), (4, .ref (q 2)), (5, .ref (q 3)), (6, .ref (q 4)), (8, .int (nI t)), (10, .int (nI A)), (11, .int (nI n)), (12, .int (nI o)), (13, .int (nI c₀)), (14, .int (bI (alv (σ 0) (nI n)))), (16, .int 0)]) hx hb dL_law_386 hl (by decide) rfl (fun ls hl => ?_)
      refine lv_iload hx hb dL_law_388 (lv_at hl 1 rfl) ?_
      refine lv_if_lt (tgt := 428) hx hb dL_law_390 (by decide) (fun c_3 => ?_) (fun c_3 => ?_)
      · refine lv_aload_n hx hb dL_law_428 rfl (lv_at hl 3 rfl) ?_
        refine lv_iconst (v := 1) hx hb dL_law_429 (by decide) ?_
        refine lv_iload hx hb dL_law_430 (lv_at hl 11 rfl) ?_
        refine lv_iload hx hb dL_law_432 (lv_at hl 12 rfl) ?_
        refine lv_iconst (v := 0) hx hb dL_law_434 (by decide) ?_
        refine co_nSWS (wr := wQ G q τ) (w' := fun u : cS × cS => wW G a q u.1 u.2 τ) (As := [.ref (a 0), .int 1, .int (nI n), .int (nI o), .int 0]) (rest := []) [0, 1, 2, 3, 4, 5, 6, 7, 8, 9, 10, 11, 12, 13, 14, 15, 16, 17, 18] [19, 20, 21, 22, 23] [5, 6, 7, 8, 9, 10, 11, 12, 13, 14, 15, 16, 17, 18, 19, 20, 21, 22, 23, 0, 1, 2, 3, 4] S (c_L_calls1 l hl9 G sa a σ ρ (nI n) (nI o) 0 (fun z => absurd (z.symm.trans (cdJ2a hn0 ho0 c_1)) (by decide))) (vx_cwSW 5 hts gL_law_L_calls rfl rfl rfl (by decide +kernel) ⟨(Nat.le_of_ble_eq_true rfl), (Nat.le_of_ble_eq_true rfl)⟩) hK hP hD hS hA hX rfl rfl (by decide) (by decide) (by decide) (by decide) (fun _ => rfl) rfl hl.1 rfl (Nat.le_of_ble_eq_true rfl) dL_law_435 ⟨by show cells + 4 ≤ 600130; omega, by show slots + 24 ≤ 7301080; omega⟩ (fun r_w_4 u_w_4 H locs hp_w_4 hP hD hS => ?_)
        obtain ⟨e1_w_4, e2_w_4⟩ := pC_2 hp_w_4 (cdJ2a hn0 ho0 c_1)
        have e3_w_4 : u_w_4.1 = σ := e2_w_4
        have hP : pG G (wW G a q σ u_w_4.2 τ) H := (by rw [← e3_w_4]; exact hP)
        have hD : va_D (AW s) (wW G a q σ u_w_4.2 τ) := (by rw [← e3_w_4]; exact hD)
        refine co_eq (e1_w_4) ?_
        refine lv_istore (lv' := [(16, .int (-3)), (15, .int (-3)), (17, .int (-1)), (0, .ref b0), (1, .ref (a 0)), (2, .ref (q 0)), (3, .ref (q 1)), (4, .ref (q 2)), (5, .ref (q 3)), (6, .ref (q 4)), (8, .int (nI t)), (10, .int (nI A)), (11, .int (nI n)), (12, .int (nI o)), (13, .int (nI c₀)), (14, .int (bI (alv (σ 0) (nI n))))]) hx hb dL_law_438 hl (by decide) rfl (fun ls hl => ?_)
        refine lv_goto (tgt := 859) hx hb dL_law_440 (by decide) ?_
        exact kk σ u_w_4.2 τ Z _ _ _ H locs ls hR (by omega) (by omega) (by omega) hP hD hS (lv_sub hl [3, 4, 5, 6, 7, 8, 9, 10, 1, 0] rfl)
      · exact absurd (by decide) c_3
  · refine lv_iload hx hb dL_law_345 (lv_at hl 10 rfl) ?_
    refine lv_aload_n hx hb dL_law_347 rfl (lv_at hl 2 rfl) ?_
    refine lv_aload_n hx hb dL_law_348 rfl (lv_at hl 3 rfl) ?_
    refine co_rS (As := [.int (nI o), .ref (q 0), .ref (q 1)]) (rest := []) S (c_L_lives l G Z q ν δ κ σ τ hR o ho0) (va_cwS 3 hts gL_law_L_lives rfl rfl rfl (by decide +kernel) ⟨Nat.le_of_ble_eq_true rfl, Nat.le_of_ble_eq_true rfl⟩) hK (pG_perm hP [19, 20, 21, 22, 23] rfl) rfl hl.1 rfl (Nat.le_of_ble_eq_true rfl) dL_law_349 ⟨by show cells + 0 ≤ 600130; omega, by show slots + 0 ≤ 7301080; omega⟩ ?_
    refine co_ifne (tgt := 359) S dL_law_352 (by decide) (fun c_5 => ?_) (fun c_5 => ?_)
    · refine lv_iload hx hb dL_law_359 (lv_at hl 10 rfl) ?_
      refine lv_iload hx hb dL_law_361 (lv_at hl 9 rfl) ?_
      refine lv_aload_n hx hb dL_law_363 rfl (lv_at hl 2 rfl) ?_
      refine lv_aload_n hx hb dL_law_364 rfl (lv_at hl 3 rfl) ?_
      refine lv_aload hx hb dL_law_365 (lv_at hl 4 rfl) ?_
      refine lv_aload hx hb dL_law_367 (lv_at hl 5 rfl) ?_
      obtain ⟨j_6, ej_6, lj_6⟩ := Rq.fn hR ⟨ho0, c_5⟩ hn0
      have tj_6 : j_6 < 64 := lj_6.1
      refine co_rS (As := [.int (nI o), .int (nI n), .ref (q 0), .ref (q 1), .ref (q 2), .ref (q 3)]) (rest := []) S (c_L_found l G Z q ν δ κ σ τ hR o n ⟨ho0, c_5⟩ hn0) (va_cwS 6 hts gL_law_L_found rfl rfl rfl (by decide +kernel) ⟨Nat.le_of_ble_eq_true rfl, Nat.le_of_ble_eq_true rfl⟩) hK (pG_perm hP [19, 20, 21, 22, 23] rfl) rfl hl.1 rfl (Nat.le_of_ble_eq_true rfl) dL_law_369 ⟨by show cells + 0 ≤ 600130; omega, by show slots + 0 ≤ 7301080; omega⟩ ?_
      refine co_eq ej_6 ?_
      refine lv_istore (lv' := [(17, .int (nI j_6)), (0, .ref b0), (1, .ref (a 0)), (2, .ref (q 0)), (3, .ref (q 1)), (4, .ref (q 2)), (5, .ref (q 3)), (6, .ref (q 4)), (8, .int (nI t)), (10, .int (nI A)), (11, .int (nI n)), (12, .int (nI o)), (13, .int (nI c₀)), (14, .int (bI (alv (σ 0) (nI n)))), (15, .int (-3)), (16, .int 0)]) hx hb dL_law_372 hl (by decide) rfl (fun ls hl => ?_)
      refine lv_iload hx hb dL_law_374 (lv_at hl 0 rfl) ?_
      refine lv_if_ge (tgt := 384) hx hb dL_law_376 (by decide) (fun c_7 => ?_) (fun c_7 => ?_)
      · refine lv_iload hx hb dL_law_384 (lv_at hl 0 rfl) ?_
        refine lv_istore (lv' := [(15, .int (nI j_6)), (17, .int (nI j_6)), (0, .ref b0), (1, .ref (a 0)), (2, .ref (q 0)), (3, .ref (q 1)), (4, .ref (q 2)), (5, .ref (q 3)), (6, .ref (q 4)), (8, .int (nI t)), (10, .int (nI A)), (11, .int (nI n)), (12, .int (nI o)), (13, .int (nI c₀)), (14, .int (bI (alv (σ 0) (nI n)))), (16, .int 0)]) hx hb dL_law_386 hl (by decide) rfl (fun ls hl => ?_)
        refine lv_iload hx hb dL_law_388 (lv_at hl 1 rfl) ?_
        refine lv_if_lt (tgt := 428) hx hb dL_law_390 (by decide) (fun c_8 => ?_) (fun c_8 => ?_)
        · exact absurd c_8 (nI_pos (by omega))
        · refine lv_iload hx hb dL_law_393 (lv_at hl 11 rfl) ?_
          refine lv_iload hx hb dL_law_395 (lv_at hl 1 rfl) ?_
          refine lv_aload hx hb dL_law_397 (lv_at hl 6 rfl) ?_
          refine lv_iconst (v := 4) hx hb dL_law_399 (by decide) ?_
          refine lv_aload_n hx hb dL_law_400 rfl (lv_at hl 4 rfl) ?_
          refine lv_iload hx hb dL_law_401 (lv_at hl 1 rfl) ?_
          refine va_iald hx hb hK hP 19 0 rfl rfl (vp_in_nI (n := j_6) (N := 64) (by omega) (by decide)) dL_law_403 ?_
          have d9n_9 : δ j_6 < 10 := Rq.d9 hR lj_6
          refine co_eq (rq_d hR tj_6 d9n_9) ?_
          refine lv_imul hx hb dL_law_404 ?_
          refine co_eq (show (4 : Int32) * (nI (δ j_6)) = (nI (4 * (δ j_6))) from pk_mul 4 (δ j_6)) ?_
          refine va_iald hx hb hK hP 21 0 rfl rfl (vp_in_nI (n := (4 * (δ j_6))) (N := 40) (by omega) (by decide)) dL_law_405 ?_
          obtain ⟨j_10, hj_10, ej_10, mj_10⟩ := rq_s hR lj_6 rfl 0 (by decide) (i := 4 * (δ j_6)) (by omega)
          have ej_10 : tat 3 (σ 1) (nI j_6) 0 = nI j_10 := ej_10
          refine co_eq mj_10 ?_
          refine lv_aload hx hb dL_law_406 (lv_at hl 6 rfl) ?_
          refine lv_iconst (v := 4) hx hb dL_law_408 (by decide) ?_
          refine lv_aload_n hx hb dL_law_409 rfl (lv_at hl 4 rfl) ?_
          refine lv_iload hx hb dL_law_410 (lv_at hl 1 rfl) ?_
          refine va_iald hx hb hK hP 19 0 rfl rfl (vp_in_nI (n := j_6) (N := 64) (by omega) (by decide)) dL_law_412 ?_
          refine co_eq (rq_d hR tj_6 d9n_9) ?_
          refine lv_imul hx hb dL_law_413 ?_
          refine co_eq (show (4 : Int32) * (nI (δ j_6)) = (nI (4 * (δ j_6))) from pk_mul 4 (δ j_6)) ?_
          refine lv_iconst (v := 1) hx hb dL_law_414 (by decide) ?_
          refine lv_iadd hx hb dL_law_415 ?_
          refine co_eq (show (nI (4 * (δ j_6))) + (1 : Int32) = (nI ((4 * (δ j_6)) + 1)) from nI_add (4 * (δ j_6)) 1) ?_
          refine va_iald hx hb hK hP 21 0 rfl rfl (vp_in_nI (n := ((4 * (δ j_6)) + 1)) (N := 40) (by omega) (by decide)) dL_law_416 ?_
          obtain ⟨j_11, hj_11, ej_11, mj_11⟩ := rq_s hR lj_6 rfl 1 (by decide) (i := (4 * (δ j_6)) + 1) (by omega)
          have ej_11 : tat 3 (σ 1) (nI j_6) 1 = nI j_11 := ej_11
          refine co_eq mj_11 ?_
          refine lv_aload_n hx hb dL_law_417 rfl (lv_at hl 4 rfl) ?_
          refine lv_aload_n hx hb dL_law_418 rfl (lv_at hl 5 rfl) ?_
          refine lv_aload hx hb dL_law_419 (lv_at hl 6 rfl) ?_
          refine lv_aload hx hb dL_law_421 (lv_at hl 7 rfl) ?_
          refine lv_aload hx hb dL_law_423 (lv_at hl 8 rfl) ?_
          refine co_mSvS (As := [.int (nI n), .int (nI j_6), .int (nI j_10), .int (nI j_11), .ref (q 0), .ref (q 1), .ref (q 2), .ref (q 3), .ref (q 4)]) (rest := []) (wr := wO G a σ ρ) (w' := (fun u : cS => wW G a q σ ρ u)) [19, 20, 21, 22, 23] [0, 1, 2, 3, 4, 5, 6, 7, 8, 9, 10, 11, 12, 13, 14, 15, 16, 17, 18] [0, 1, 2, 3, 4, 5, 6, 7, 8, 9, 10, 11, 12, 13, 14, 15, 16, 17, 18, 19, 20, 21, 22, 23] S (c_L_begin l G Z q ν δ κ σ τ hR n j_6 j_10 j_11 hn0 hdn tj_6 hj_10 hj_11) (va_cwS 9 hts gL_law_L_begin rfl rfl rfl (by decide +kernel) ⟨Nat.le_of_ble_eq_true rfl, Nat.le_of_ble_eq_true rfl⟩) hK hP hD hS hA rfl rfl (by decide) (by decide) (by decide) (by decide) (fun _ => rfl) rfl hl.1 rfl (Nat.le_of_ble_eq_true rfl) dL_law_425 ⟨by show cells + 0 ≤ 600130; omega, by show slots + 0 ≤ 7301080; omega⟩ (fun u_12 H locs hu_12 hP hD hS => ?_)
          have hq_12 := hu_12
          obtain ⟨σ_12, eσ_12⟩ : ∃ z9, z9 = (blS σ (nI n) (nI j_6) (nI j_10) (nI j_11)) := ⟨_, rfl⟩
          have hq_12 : Rq Z ν δ κ σ_12 u_12 := (by rw [eσ_12]; exact hq_12)
          have hP : pG G (wW G a q σ ρ u_12) H := hP
          have hD : va_D (AW s) (wW G a q σ ρ u_12) := hD
          refine lv_aload_n hx hb dL_law_428 rfl (lv_at hl 3 rfl) ?_
          refine lv_iconst (v := 1) hx hb dL_law_429 (by decide) ?_
          refine lv_iload hx hb dL_law_430 (lv_at hl 11 rfl) ?_
          refine lv_iload hx hb dL_law_432 (lv_at hl 12 rfl) ?_
          refine lv_iconst (v := 0) hx hb dL_law_434 (by decide) ?_
          refine co_nSWS (wr := wQ G q u_12) (w' := fun u : cS × cS => wW G a q u.1 u.2 u_12) (As := [.ref (a 0), .int 1, .int (nI n), .int (nI o), .int 0]) (rest := []) [0, 1, 2, 3, 4, 5, 6, 7, 8, 9, 10, 11, 12, 13, 14, 15, 16, 17, 18] [19, 20, 21, 22, 23] [5, 6, 7, 8, 9, 10, 11, 12, 13, 14, 15, 16, 17, 18, 19, 20, 21, 22, 23, 0, 1, 2, 3, 4] S (c_L_calls1 l hl9 G sa a σ ρ (nI n) (nI o) 0 (fun z => absurd (z.symm.trans (cdJ0 hn0 c_1 ⟨ho0, c_5⟩)) (by decide))) (vx_cwSW 5 hts gL_law_L_calls rfl rfl rfl (by decide +kernel) ⟨(Nat.le_of_ble_eq_true rfl), (Nat.le_of_ble_eq_true rfl)⟩) hK hP hD hS hA hX rfl rfl (by decide) (by decide) (by decide) (by decide) (fun _ => rfl) rfl hl.1 rfl (Nat.le_of_ble_eq_true rfl) dL_law_435 ⟨by show cells + 4 ≤ 600130; omega, by show slots + 24 ≤ 7301080; omega⟩ (fun r_w_13 u_w_13 H locs hp_w_13 hP hD hS => ?_)
          obtain ⟨e1_w_13, e2_w_13⟩ := pC_0 hp_w_13 (cdJ0 hn0 c_1 ⟨ho0, c_5⟩)
          have e3_w_13 : u_w_13.1 = σ_12 := e2_w_13.trans (by rw [eσ_12, jnS, ej_6, ej_10, ej_11])
          have hP : pG G (wW G a q σ_12 u_w_13.2 u_12) H := (by rw [← e3_w_13]; exact hP)
          have hD : va_D (AW s) (wW G a q σ_12 u_w_13.2 u_12) := (by rw [← e3_w_13]; exact hD)
          refine co_eq (e1_w_13.trans (ej_6)) ?_
          refine lv_istore (lv' := [(16, .int (nI j_6)), (15, .int (nI j_6)), (17, .int (nI j_6)), (0, .ref b0), (1, .ref (a 0)), (2, .ref (q 0)), (3, .ref (q 1)), (4, .ref (q 2)), (5, .ref (q 3)), (6, .ref (q 4)), (8, .int (nI t)), (10, .int (nI A)), (11, .int (nI n)), (12, .int (nI o)), (13, .int (nI c₀)), (14, .int (bI (alv (σ 0) (nI n))))]) hx hb dL_law_438 hl (by decide) rfl (fun ls hl => ?_)
          refine lv_goto (tgt := 859) hx hb dL_law_440 (by decide) ?_
          exact kk σ_12 u_w_13.2 u_12 Z _ _ _ H locs ls hq_12 (by omega) (by omega) (by omega) hP hD hS (lv_sub hl [3, 4, 5, 6, 7, 8, 9, 10, 1, 0] rfl)
      · exact absurd (nI_pos' (by omega)) c_7
    · refine lv_iconst (v := (-1)) hx hb dL_law_355 (by decide) ?_
      refine lv_goto (tgt := 372) hx hb dL_law_356 (by decide) ?_
      refine lv_istore (lv' := [(17, .int (-1)), (0, .ref b0), (1, .ref (a 0)), (2, .ref (q 0)), (3, .ref (q 1)), (4, .ref (q 2)), (5, .ref (q 3)), (6, .ref (q 4)), (8, .int (nI t)), (10, .int (nI A)), (11, .int (nI n)), (12, .int (nI o)), (13, .int (nI c₀)), (14, .int (bI (alv (σ 0) (nI n)))), (15, .int (-3)), (16, .int 0)]) hx hb dL_law_372 hl (by decide) rfl (fun ls hl => ?_)
      refine lv_iload hx hb dL_law_374 (lv_at hl 0 rfl) ?_
      refine lv_if_ge (tgt := 384) hx hb dL_law_376 (by decide) (fun c_14 => ?_) (fun c_14 => ?_)
      · exact absurd c_14 (by decide)
      · refine lv_bipush (v := (-3)) hx hb dL_law_379 (by decide) ?_
        refine lv_goto (tgt := 386) hx hb dL_law_381 (by decide) ?_
        refine lv_istore (lv' := [(15, .int (-3)), (17, .int (-1)), (0, .ref b0), (1, .ref (a 0)), (2, .ref (q 0)), (3, .ref (q 1)), (4, .ref (q 2)), (5, .ref (q 3)), (6, .ref (q 4)), (8, .int (nI t)), (10, .int (nI A)), (11, .int (nI n)), (12, .int (nI o)), (13, .int (nI c₀)), (14, .int (bI (alv (σ 0) (nI n)))), (16, .int 0)]) hx hb dL_law_386 hl (by decide) rfl (fun ls hl => ?_)
        refine lv_iload hx hb dL_law_388 (lv_at hl 1 rfl) ?_
        refine lv_if_lt (tgt := 428) hx hb dL_law_390 (by decide) (fun c_15 => ?_) (fun c_15 => ?_)
        · refine lv_aload_n hx hb dL_law_428 rfl (lv_at hl 3 rfl) ?_
          refine lv_iconst (v := 1) hx hb dL_law_429 (by decide) ?_
          refine lv_iload hx hb dL_law_430 (lv_at hl 11 rfl) ?_
          refine lv_iload hx hb dL_law_432 (lv_at hl 12 rfl) ?_
          refine lv_iconst (v := 0) hx hb dL_law_434 (by decide) ?_
          refine co_nSWS (wr := wQ G q τ) (w' := fun u : cS × cS => wW G a q u.1 u.2 τ) (As := [.ref (a 0), .int 1, .int (nI n), .int (nI o), .int 0]) (rest := []) [0, 1, 2, 3, 4, 5, 6, 7, 8, 9, 10, 11, 12, 13, 14, 15, 16, 17, 18] [19, 20, 21, 22, 23] [5, 6, 7, 8, 9, 10, 11, 12, 13, 14, 15, 16, 17, 18, 19, 20, 21, 22, 23, 0, 1, 2, 3, 4] S (c_L_calls1 l hl9 G sa a σ ρ (nI n) (nI o) 0 (fun z => absurd (z.symm.trans (cdJ2b hn0 ho0 c_1 c_5)) (by decide))) (vx_cwSW 5 hts gL_law_L_calls rfl rfl rfl (by decide +kernel) ⟨(Nat.le_of_ble_eq_true rfl), (Nat.le_of_ble_eq_true rfl)⟩) hK hP hD hS hA hX rfl rfl (by decide) (by decide) (by decide) (by decide) (fun _ => rfl) rfl hl.1 rfl (Nat.le_of_ble_eq_true rfl) dL_law_435 ⟨by show cells + 4 ≤ 600130; omega, by show slots + 24 ≤ 7301080; omega⟩ (fun r_w_16 u_w_16 H locs hp_w_16 hP hD hS => ?_)
          obtain ⟨e1_w_16, e2_w_16⟩ := pC_2 hp_w_16 (cdJ2b hn0 ho0 c_1 c_5)
          have e3_w_16 : u_w_16.1 = σ := e2_w_16
          have hP : pG G (wW G a q σ u_w_16.2 τ) H := (by rw [← e3_w_16]; exact hP)
          have hD : va_D (AW s) (wW G a q σ u_w_16.2 τ) := (by rw [← e3_w_16]; exact hD)
          refine co_eq (e1_w_16) ?_
          refine lv_istore (lv' := [(16, .int (-3)), (15, .int (-3)), (17, .int (-1)), (0, .ref b0), (1, .ref (a 0)), (2, .ref (q 0)), (3, .ref (q 1)), (4, .ref (q 2)), (5, .ref (q 3)), (6, .ref (q 4)), (8, .int (nI t)), (10, .int (nI A)), (11, .int (nI n)), (12, .int (nI o)), (13, .int (nI c₀)), (14, .int (bI (alv (σ 0) (nI n))))]) hx hb dL_law_438 hl (by decide) rfl (fun ls hl => ?_)
          refine lv_goto (tgt := 859) hx hb dL_law_440 (by decide) ?_
          exact kk σ u_w_16.2 τ Z _ _ _ H locs ls hR (by omega) (by omega) (by omega) hP hD hS (lv_sub hl [3, 4, 5, 6, 7, 8, 9, 10, 1, 0] rfl)
        · exact absurd (by decide) c_15

set_option maxHeartbeats 8000000 in
set_option maxRecDepth 100000 in
theorem lt_fail {p : Program} {l : Launch} {e : Env} {s : State} {m : MethodId} {below : List Frame} {meth : Method} {c : Code} {b0 L : Nat} {xs : Nat → Int32} {G : cG} {sa a q : Nat → Nat} (C9 : lwT p l s m c b0 L xs G sa) {Z : Nat} {ν δ κ : Nat → Nat} {σ ρ τ : cS} (hR : Rq Z ν δ κ σ τ) {n o c₀ A t : Nat} (hn0 : n < 64) (hdn : δ n < 10) (ho0 : o < 64) (hc0 : c₀ < 6) (hZ9 : Z + 1 < 1000) {H : Heap} {locs : List Loc} {cells slots : Nat} (hc9 : cells + 20 ≤ 600130) (hs9 : slots + 120 ≤ 7301080) (hP : pG G (wW G a q σ ρ τ) H) (hD : va_D (AW s) (wW G a q σ ρ τ)) (hS : va_S (AW s) s.heap H locs) {ls : Array Slot} (hl : lv_has ls 20 [(0, .ref b0), (1, .ref (a 0)), (2, .ref (q 0)), (3, .ref (q 1)), (4, .ref (q 2)), (5, .ref (q 3)), (6, .ref (q 4)), (8, .int (nI t)), (10, .int (nI A)), (11, .int (nI n)), (12, .int (nI o)), (13, .int (nI c₀)), (14, .int (bI (alv (σ 0) (nI n)))), (15, .int (-3)), (16, .int 0)])
    (kk : ∀ (σ' ρ' τ' : cS) (Z' : Nat) (v : Int32) (cc sc : Nat) (H : Heap) (locs : List Loc) (ls : Array Slot), Rq Z' ν δ κ σ' τ' → Z' ≤ Z + 1 → cc ≤ cells + 20 → sc ≤ slots + 120 → pG G (wW G a q σ' ρ' τ') H → va_D (AW s) (wW G a q σ' ρ' τ') → va_S (AW s) s.heap H locs → lv_has ls 20 [(0, .ref b0), (1, .ref (a 0)), (2, .ref (q 0)), (3, .ref (q 1)), (4, .ref (q 2)), (5, .ref (q 3)), (6, .ref (q 4)), (8, .int (nI t)), (15, .int v), (16, .int v)] → W p l e room_1 s m #[Value.ref b0] below meth c H locs cc sc (lw_Z below #[Value.ref b0] s) (F0 m 859 ls [])) : W p l e room_1 s m #[Value.ref b0] below meth c H locs cells slots (lw_Z below #[Value.ref b0] s) (F0 m 450 ls []) := by
  obtain ⟨S, hl9, hXs, hbl, hK, hX, hL9⟩ := C9
  obtain ⟨hx, hb, hml, hown, hts⟩ := id S
  have hA : ∀ q : Nat, s.heap.size ≤ q → AW s q := fun _ h => h
  have tk9 : κ c₀ < 64 := Rq.ka hR hc0
  refine lv_aload_n hx hb dL_law_450 rfl (lv_at hl 3 rfl) ?_
  refine lv_bipush (v := 10) hx hb dL_law_451 (by decide) ?_
  refine lv_aload_n hx hb dL_law_453 rfl (lv_at hl 2 rfl) ?_
  refine lv_iload hx hb dL_law_454 (lv_at hl 9 rfl) ?_
  refine va_iald hx hb hK hP 19 0 rfl rfl (vp_in_nI (n := n) (N := 64) (by omega) (by decide)) dL_law_456 ?_
  refine co_eq (rq_d hR hn0 hdn) ?_
  refine lv_iadd hx hb dL_law_457 ?_
  refine co_eq (show (10 : Int32) + (nI (δ n)) = (nI (10 + (δ n))) from nI_add 10 (δ n)) ?_
  refine lv_iconst (v := 0) hx hb dL_law_458 (by decide) ?_
  refine va_iast hx hb hK hP hD hS 20 0 (f := (τ 1)) rfl rfl (vp_in_nI (n := (10 + (δ n))) (N := 27) (by omega) (by decide)) dL_law_459 (fun H locs hP hD hS => ?_)
  obtain ⟨f_1, ef_1⟩ : ∃ z9, z9 = (upd (τ 1) (nI (10 + (δ n))).toNatClampNeg 0) := ⟨_, rfl⟩
  rw [← ef_1] at hP hD
  have hP : pG G (wW G a q σ ρ (va_up τ 1 f_1)) H := hP
  have hD : va_D (AW s) (wW G a q σ ρ (va_up τ 1 f_1)) := hD
  refine lv_iload hx hb dL_law_460 (lv_at hl 12 rfl) ?_
  refine co_ifeq (tgt := 472) S dL_law_462 (by decide) (fun c_2 => ?_) (fun c_2 => ?_)
  · have hRd : Rq Z ν δ κ σ (va_up τ 1 f_1) := (by rw [ef_1, va_upr ((rq_ln hR hn0 hdn).trans (by rw [c_2]; rfl))]; exact hR)
    refine lv_bipush (v := (-3)) hx hb dL_law_472 (by decide) ?_
    refine lv_istore (lv' := [(15, .int (-3)), (0, .ref b0), (1, .ref (a 0)), (2, .ref (q 0)), (3, .ref (q 1)), (4, .ref (q 2)), (5, .ref (q 3)), (6, .ref (q 4)), (8, .int (nI t)), (10, .int (nI A)), (11, .int (nI n)), (12, .int (nI o)), (13, .int (nI c₀)), (14, .int (bI (alv (σ 0) (nI n)))), (16, .int 0)]) hx hb dL_law_474 hl (by decide) rfl (fun ls hl => ?_)
    refine lv_aload_n hx hb dL_law_476 rfl (lv_at hl 2 rfl) ?_
    refine lv_iconst (v := 2) hx hb dL_law_477 (by decide) ?_
    refine lv_iload hx hb dL_law_478 (lv_at hl 10 rfl) ?_
    refine lv_iconst (v := 0) hx hb dL_law_480 (by decide) ?_
    refine lv_iconst (v := 0) hx hb dL_law_481 (by decide) ?_
    refine co_nSWS (wr := wQ G q (va_up τ 1 f_1)) (w' := fun u : cS × cS => wW G a q u.1 u.2 (va_up τ 1 f_1)) (As := [.ref (a 0), .int 2, .int (nI n), .int 0, .int 0]) (rest := []) [0, 1, 2, 3, 4, 5, 6, 7, 8, 9, 10, 11, 12, 13, 14, 15, 16, 17, 18] [19, 20, 21, 22, 23] [5, 6, 7, 8, 9, 10, 11, 12, 13, 14, 15, 16, 17, 18, 19, 20, 21, 22, 23, 0, 1, 2, 3, 4] S (c_L_calls2 l hl9 G sa a σ ρ (nI n) 0 0 (fun z => absurd (z.symm.trans (cdA2 hn0 c_2)) (by decide))) (vx_cwSW 5 hts gL_law_L_calls rfl rfl rfl (by decide +kernel) ⟨(Nat.le_of_ble_eq_true rfl), (Nat.le_of_ble_eq_true rfl)⟩) hK hP hD hS hA hX rfl rfl (by decide) (by decide) (by decide) (by decide) (fun _ => rfl) rfl hl.1 rfl (Nat.le_of_ble_eq_true rfl) dL_law_482 ⟨by show cells + 4 ≤ 600130; omega, by show slots + 24 ≤ 7301080; omega⟩ (fun r_w_3 u_w_3 H locs hp_w_3 hP hD hS => ?_)
    obtain ⟨e1_w_3, e2_w_3⟩ := pC_2 hp_w_3 (cdA2 hn0 c_2)
    have e3_w_3 : u_w_3.1 = σ := e2_w_3
    have hP : pG G (wW G a q σ u_w_3.2 (va_up τ 1 f_1)) H := (by rw [← e3_w_3]; exact hP)
    have hD : va_D (AW s) (wW G a q σ u_w_3.2 (va_up τ 1 f_1)) := (by rw [← e3_w_3]; exact hD)
    refine co_eq (e1_w_3) ?_
    refine lv_istore (lv' := [(16, .int (-3)), (15, .int (-3)), (0, .ref b0), (1, .ref (a 0)), (2, .ref (q 0)), (3, .ref (q 1)), (4, .ref (q 2)), (5, .ref (q 3)), (6, .ref (q 4)), (8, .int (nI t)), (10, .int (nI A)), (11, .int (nI n)), (12, .int (nI o)), (13, .int (nI c₀)), (14, .int (bI (alv (σ 0) (nI n))))]) hx hb dL_law_485 hl (by decide) rfl (fun ls hl => ?_)
    refine lv_goto (tgt := 859) hx hb dL_law_487 (by decide) ?_
    exact kk σ u_w_3.2 (va_up τ 1 f_1) Z _ _ _ H locs ls hRd (by omega) (by omega) (by omega) hP hD hS (lv_sub hl [2, 3, 4, 5, 6, 7, 8, 9, 1, 0] rfl)
  · obtain ⟨σd, ed⟩ : ∃ z9, z9 = saS σ (nI n) 0 := ⟨_, rfl⟩
    have hRd : Rq Z ν δ κ σd (va_up τ 1 f_1) := (by rw [ed, ef_1]; exact rq_die hR hn0 hdn rfl)
    refine lv_aload_n hx hb dL_law_465 rfl (lv_at hl 3 rfl) ?_
    refine co_rS (As := [.ref (q 1)]) (rest := []) S (c_L_count l G Z q ν δ κ σd (va_up τ 1 f_1) hRd) (va_cwS 1 hts gL_law_L_count rfl rfl rfl (by decide +kernel) ⟨Nat.le_of_ble_eq_true rfl, Nat.le_of_ble_eq_true rfl⟩) hK (pG_perm hP [19, 20, 21, 22, 23] rfl) rfl hl.1 rfl (Nat.le_of_ble_eq_true rfl) dL_law_466 ⟨by show cells + 0 ≤ 600130; omega, by show slots + 0 ≤ 7301080; omega⟩ ?_
    refine lv_goto (tgt := 474) hx hb dL_law_469 (by decide) ?_
    refine lv_istore (lv' := [(15, .int (cnt (σd 0) 64)), (0, .ref b0), (1, .ref (a 0)), (2, .ref (q 0)), (3, .ref (q 1)), (4, .ref (q 2)), (5, .ref (q 3)), (6, .ref (q 4)), (8, .int (nI t)), (10, .int (nI A)), (11, .int (nI n)), (12, .int (nI o)), (13, .int (nI c₀)), (14, .int (bI (alv (σ 0) (nI n)))), (16, .int 0)]) hx hb dL_law_474 hl (by decide) rfl (fun ls hl => ?_)
    refine lv_aload_n hx hb dL_law_476 rfl (lv_at hl 2 rfl) ?_
    refine lv_iconst (v := 2) hx hb dL_law_477 (by decide) ?_
    refine lv_iload hx hb dL_law_478 (lv_at hl 10 rfl) ?_
    refine lv_iconst (v := 0) hx hb dL_law_480 (by decide) ?_
    refine lv_iconst (v := 0) hx hb dL_law_481 (by decide) ?_
    refine co_nSWS (wr := wQ G q (va_up τ 1 f_1)) (w' := fun u : cS × cS => wW G a q u.1 u.2 (va_up τ 1 f_1)) (As := [.ref (a 0), .int 2, .int (nI n), .int 0, .int 0]) (rest := []) [0, 1, 2, 3, 4, 5, 6, 7, 8, 9, 10, 11, 12, 13, 14, 15, 16, 17, 18] [19, 20, 21, 22, 23] [5, 6, 7, 8, 9, 10, 11, 12, 13, 14, 15, 16, 17, 18, 19, 20, 21, 22, 23, 0, 1, 2, 3, 4] S (c_L_calls2 l hl9 G sa a σ ρ (nI n) 0 0 (fun z => absurd (z.symm.trans (cdA0 (⟨hn0, c_2⟩ : Lv σ n))) (by decide))) (vx_cwSW 5 hts gL_law_L_calls rfl rfl rfl (by decide +kernel) ⟨(Nat.le_of_ble_eq_true rfl), (Nat.le_of_ble_eq_true rfl)⟩) hK hP hD hS hA hX rfl rfl (by decide) (by decide) (by decide) (by decide) (fun _ => rfl) rfl hl.1 rfl (Nat.le_of_ble_eq_true rfl) dL_law_482 ⟨by show cells + 4 ≤ 600130; omega, by show slots + 24 ≤ 7301080; omega⟩ (fun r_w_4 u_w_4 H locs hp_w_4 hP hD hS => ?_)
    obtain ⟨e1_w_4, e2_w_4⟩ := pC_0 hp_w_4 (cdA0 (⟨hn0, c_2⟩ : Lv σ n))
    have e3_w_4 : u_w_4.1 = σd := e2_w_4.trans (ed.symm)
    have hP : pG G (wW G a q σd u_w_4.2 (va_up τ 1 f_1)) H := (by rw [← e3_w_4]; exact hP)
    have hD : va_D (AW s) (wW G a q σd u_w_4.2 (va_up τ 1 f_1)) := (by rw [← e3_w_4]; exact hD)
    refine co_eq (e1_w_4.trans (show cnt (saS σ (nI n) 0 0) 64 = cnt (σd 0) 64 by rw [ed])) ?_
    refine lv_istore (lv' := [(16, .int (cnt (σd 0) 64)), (15, .int (cnt (σd 0) 64)), (0, .ref b0), (1, .ref (a 0)), (2, .ref (q 0)), (3, .ref (q 1)), (4, .ref (q 2)), (5, .ref (q 3)), (6, .ref (q 4)), (8, .int (nI t)), (10, .int (nI A)), (11, .int (nI n)), (12, .int (nI o)), (13, .int (nI c₀)), (14, .int (bI (alv (σ 0) (nI n))))]) hx hb dL_law_485 hl (by decide) rfl (fun ls hl => ?_)
    refine lv_goto (tgt := 859) hx hb dL_law_487 (by decide) ?_
    exact kk σd u_w_4.2 (va_up τ 1 f_1) Z _ _ _ H locs ls hRd (by omega) (by omega) (by omega) hP hD hS (lv_sub hl [2, 3, 4, 5, 6, 7, 8, 9, 1, 0] rfl)

set_option maxHeartbeats 8000000 in
set_option maxRecDepth 100000 in
theorem lt_leave {p : Program} {l : Launch} {e : Env} {s : State} {m : MethodId} {below : List Frame} {meth : Method} {c : Code} {b0 L : Nat} {xs : Nat → Int32} {G : cG} {sa a q : Nat → Nat} (C9 : lwT p l s m c b0 L xs G sa) {Z : Nat} {ν δ κ : Nat → Nat} {σ ρ τ : cS} (hR : Rq Z ν δ κ σ τ) {n o c₀ A t : Nat} (hn0 : n < 64) (hdn : δ n < 10) (ho0 : o < 64) (hc0 : c₀ < 6) (hZ9 : Z + 1 < 1000) {H : Heap} {locs : List Loc} {cells slots : Nat} (hc9 : cells + 20 ≤ 600130) (hs9 : slots + 120 ≤ 7301080) (hP : pG G (wW G a q σ ρ τ) H) (hD : va_D (AW s) (wW G a q σ ρ τ)) (hS : va_S (AW s) s.heap H locs) {ls : Array Slot} (hl : lv_has ls 20 [(0, .ref b0), (1, .ref (a 0)), (2, .ref (q 0)), (3, .ref (q 1)), (4, .ref (q 2)), (5, .ref (q 3)), (6, .ref (q 4)), (8, .int (nI t)), (10, .int (nI A)), (11, .int (nI n)), (12, .int (nI o)), (13, .int (nI c₀)), (14, .int (bI (alv (σ 0) (nI n)))), (15, .int (-3)), (16, .int 0)])
    (kk : ∀ (σ' ρ' τ' : cS) (Z' : Nat) (v : Int32) (cc sc : Nat) (H : Heap) (locs : List Loc) (ls : Array Slot), Rq Z' ν δ κ σ' τ' → Z' ≤ Z + 1 → cc ≤ cells + 20 → sc ≤ slots + 120 → pG G (wW G a q σ' ρ' τ') H → va_D (AW s) (wW G a q σ' ρ' τ') → va_S (AW s) s.heap H locs → lv_has ls 20 [(0, .ref b0), (1, .ref (a 0)), (2, .ref (q 0)), (3, .ref (q 1)), (4, .ref (q 2)), (5, .ref (q 3)), (6, .ref (q 4)), (8, .int (nI t)), (15, .int v), (16, .int v)] → W p l e room_1 s m #[Value.ref b0] below meth c H locs cc sc (lw_Z below #[Value.ref b0] s) (F0 m 859 ls [])) : W p l e room_1 s m #[Value.ref b0] below meth c H locs cells slots (lw_Z below #[Value.ref b0] s) (F0 m 497 ls []) := by
  obtain ⟨S, hl9, hXs, hbl, hK, hX, hL9⟩ := C9
  obtain ⟨hx, hb, hml, hown, hts⟩ := id S
  have hA : ∀ q : Nat, s.heap.size ≤ q → AW s q := fun _ h => h
  have tk9 : κ c₀ < 64 := Rq.ka hR hc0
  refine lv_iload hx hb dL_law_497 (lv_at hl 12 rfl) ?_
  refine co_ifeq (tgt := 516) S dL_law_499 (by decide) (fun c_1 => ?_) (fun c_1 => ?_)
  · refine lv_bipush (v := (-3)) hx hb dL_law_516 (by decide) ?_
    refine lv_istore (lv' := [(15, .int (-3)), (0, .ref b0), (1, .ref (a 0)), (2, .ref (q 0)), (3, .ref (q 1)), (4, .ref (q 2)), (5, .ref (q 3)), (6, .ref (q 4)), (8, .int (nI t)), (10, .int (nI A)), (11, .int (nI n)), (12, .int (nI o)), (13, .int (nI c₀)), (14, .int (bI (alv (σ 0) (nI n)))), (16, .int 0)]) hx hb dL_law_518 hl (by decide) rfl (fun ls hl => ?_)
    refine lv_aload_n hx hb dL_law_520 rfl (lv_at hl 2 rfl) ?_
    refine lv_iconst (v := 3) hx hb dL_law_521 (by decide) ?_
    refine lv_iload hx hb dL_law_522 (lv_at hl 10 rfl) ?_
    refine lv_iconst (v := 0) hx hb dL_law_524 (by decide) ?_
    refine lv_iconst (v := 0) hx hb dL_law_525 (by decide) ?_
    refine co_nSWS (wr := wQ G q τ) (w' := fun u : cS × cS => wW G a q u.1 u.2 τ) (As := [.ref (a 0), .int 3, .int (nI n), .int 0, .int 0]) (rest := []) [0, 1, 2, 3, 4, 5, 6, 7, 8, 9, 10, 11, 12, 13, 14, 15, 16, 17, 18] [19, 20, 21, 22, 23] [5, 6, 7, 8, 9, 10, 11, 12, 13, 14, 15, 16, 17, 18, 19, 20, 21, 22, 23, 0, 1, 2, 3, 4] S (c_L_calls3 l hl9 G sa a σ ρ (nI n) 0 0 (fun z => absurd (z.symm.trans (cdA2 hn0 c_1)) (by decide))) (vx_cwSW 5 hts gL_law_L_calls rfl rfl rfl (by decide +kernel) ⟨(Nat.le_of_ble_eq_true rfl), (Nat.le_of_ble_eq_true rfl)⟩) hK hP hD hS hA hX rfl rfl (by decide) (by decide) (by decide) (by decide) (fun _ => rfl) rfl hl.1 rfl (Nat.le_of_ble_eq_true rfl) dL_law_526 ⟨by show cells + 4 ≤ 600130; omega, by show slots + 24 ≤ 7301080; omega⟩ (fun r_w_2 u_w_2 H locs hp_w_2 hP hD hS => ?_)
    obtain ⟨e1_w_2, e2_w_2⟩ := pC_2 hp_w_2 (cdA2 hn0 c_1)
    have e3_w_2 : u_w_2.1 = σ := e2_w_2
    have hP : pG G (wW G a q σ u_w_2.2 τ) H := (by rw [← e3_w_2]; exact hP)
    have hD : va_D (AW s) (wW G a q σ u_w_2.2 τ) := (by rw [← e3_w_2]; exact hD)
    refine co_eq (e1_w_2) ?_
    refine lv_istore (lv' := [(16, .int (-3)), (15, .int (-3)), (0, .ref b0), (1, .ref (a 0)), (2, .ref (q 0)), (3, .ref (q 1)), (4, .ref (q 2)), (5, .ref (q 3)), (6, .ref (q 4)), (8, .int (nI t)), (10, .int (nI A)), (11, .int (nI n)), (12, .int (nI o)), (13, .int (nI c₀)), (14, .int (bI (alv (σ 0) (nI n))))]) hx hb dL_law_529 hl (by decide) rfl (fun ls hl => ?_)
    refine lv_goto (tgt := 859) hx hb dL_law_531 (by decide) ?_
    exact kk σ u_w_2.2 τ Z _ _ _ H locs ls hR (by omega) (by omega) (by omega) hP hD hS (lv_sub hl [2, 3, 4, 5, 6, 7, 8, 9, 1, 0] rfl)
  · refine lv_iload hx hb dL_law_502 (lv_at hl 9 rfl) ?_
    refine lv_aload_n hx hb dL_law_504 rfl (lv_at hl 2 rfl) ?_
    refine lv_aload_n hx hb dL_law_505 rfl (lv_at hl 3 rfl) ?_
    refine lv_aload hx hb dL_law_506 (lv_at hl 4 rfl) ?_
    refine lv_aload hx hb dL_law_508 (lv_at hl 6 rfl) ?_
    refine co_mSiS (As := [.int (nI n), .ref (q 0), .ref (q 1), .ref (q 2), .ref (q 4)]) (rest := []) (wr := wO G a σ ρ) (w' := (fun u : cS => wW G a q σ ρ u)) [19, 20, 21, 22, 23] [0, 1, 2, 3, 4, 5, 6, 7, 8, 9, 10, 11, 12, 13, 14, 15, 16, 17, 18] [0, 1, 2, 3, 4, 5, 6, 7, 8, 9, 10, 11, 12, 13, 14, 15, 16, 17, 18, 19, 20, 21, 22, 23] S (c_L_leaves l G Z q ν δ κ σ τ hR n ⟨hn0, c_1⟩) (va_cwS 5 hts gL_law_L_leaves rfl rfl rfl (by decide +kernel) ⟨Nat.le_of_ble_eq_true rfl, Nat.le_of_ble_eq_true rfl⟩) hK hP hD hS hA rfl rfl (by decide) (by decide) (by decide) (by decide) (fun _ => rfl) rfl hl.1 rfl (Nat.le_of_ble_eq_true rfl) dL_law_510 ⟨by show cells + 0 ≤ 600130; omega, by show slots + 0 ≤ 7301080; omega⟩ (fun r_3 u_3 H locs hu_3 hP hD hS => ?_)
    obtain ⟨hr_3, hq_3⟩ := hu_3
    have hr_3 : r_3 = (cnt (lvS σ (nI n) 0) 64) := hr_3
    obtain ⟨σ_3, eσ_3⟩ : ∃ z9, z9 = (lvS σ (nI n)) := ⟨_, rfl⟩
    have hq_3 : Rq Z ν δ κ σ_3 u_3 := (by rw [eσ_3]; exact hq_3)
    have hP : pG G (wW G a q σ ρ u_3) H := hP
    have hD : va_D (AW s) (wW G a q σ ρ u_3) := hD
    refine lv_goto (tgt := 518) hx hb dL_law_513 (by decide) ?_
    refine lv_istore (lv' := [(15, .int r_3), (0, .ref b0), (1, .ref (a 0)), (2, .ref (q 0)), (3, .ref (q 1)), (4, .ref (q 2)), (5, .ref (q 3)), (6, .ref (q 4)), (8, .int (nI t)), (10, .int (nI A)), (11, .int (nI n)), (12, .int (nI o)), (13, .int (nI c₀)), (14, .int (bI (alv (σ 0) (nI n)))), (16, .int 0)]) hx hb dL_law_518 hl (by decide) rfl (fun ls hl => ?_)
    refine lv_aload_n hx hb dL_law_520 rfl (lv_at hl 2 rfl) ?_
    refine lv_iconst (v := 3) hx hb dL_law_521 (by decide) ?_
    refine lv_iload hx hb dL_law_522 (lv_at hl 10 rfl) ?_
    refine lv_iconst (v := 0) hx hb dL_law_524 (by decide) ?_
    refine lv_iconst (v := 0) hx hb dL_law_525 (by decide) ?_
    refine co_nSWS (wr := wQ G q u_3) (w' := fun u : cS × cS => wW G a q u.1 u.2 u_3) (As := [.ref (a 0), .int 3, .int (nI n), .int 0, .int 0]) (rest := []) [0, 1, 2, 3, 4, 5, 6, 7, 8, 9, 10, 11, 12, 13, 14, 15, 16, 17, 18] [19, 20, 21, 22, 23] [5, 6, 7, 8, 9, 10, 11, 12, 13, 14, 15, 16, 17, 18, 19, 20, 21, 22, 23, 0, 1, 2, 3, 4] S (c_L_calls3 l hl9 G sa a σ ρ (nI n) 0 0 (fun z => absurd (z.symm.trans (cdA0 (⟨hn0, c_1⟩ : Lv σ n))) (by decide))) (vx_cwSW 5 hts gL_law_L_calls rfl rfl rfl (by decide +kernel) ⟨(Nat.le_of_ble_eq_true rfl), (Nat.le_of_ble_eq_true rfl)⟩) hK hP hD hS hA hX rfl rfl (by decide) (by decide) (by decide) (by decide) (fun _ => rfl) rfl hl.1 rfl (Nat.le_of_ble_eq_true rfl) dL_law_526 ⟨by show cells + 4 ≤ 600130; omega, by show slots + 24 ≤ 7301080; omega⟩ (fun r_w_4 u_w_4 H locs hp_w_4 hP hD hS => ?_)
    obtain ⟨e1_w_4, e2_w_4⟩ := pC_0 hp_w_4 (cdA0 (⟨hn0, c_1⟩ : Lv σ n))
    have e3_w_4 : u_w_4.1 = σ_3 := e2_w_4.trans (eσ_3.symm)
    have hP : pG G (wW G a q σ_3 u_w_4.2 u_3) H := (by rw [← e3_w_4]; exact hP)
    have hD : va_D (AW s) (wW G a q σ_3 u_w_4.2 u_3) := (by rw [← e3_w_4]; exact hD)
    refine co_eq (e1_w_4.trans (hr_3.symm)) ?_
    refine lv_istore (lv' := [(16, .int r_3), (15, .int r_3), (0, .ref b0), (1, .ref (a 0)), (2, .ref (q 0)), (3, .ref (q 1)), (4, .ref (q 2)), (5, .ref (q 3)), (6, .ref (q 4)), (8, .int (nI t)), (10, .int (nI A)), (11, .int (nI n)), (12, .int (nI o)), (13, .int (nI c₀)), (14, .int (bI (alv (σ 0) (nI n))))]) hx hb dL_law_529 hl (by decide) rfl (fun ls hl => ?_)
    refine lv_goto (tgt := 859) hx hb dL_law_531 (by decide) ?_
    exact kk σ_3 u_w_4.2 u_3 Z _ _ _ H locs ls hq_3 (by omega) (by omega) (by omega) hP hD hS (lv_sub hl [2, 3, 4, 5, 6, 7, 8, 9, 1, 0] rfl)

set_option maxHeartbeats 8000000 in
set_option maxRecDepth 100000 in
theorem lt_step4 {p : Program} {l : Launch} {e : Env} {s : State} {m : MethodId} {below : List Frame} {meth : Method} {c : Code} {b0 L : Nat} {xs : Nat → Int32} {G : cG} {sa a q : Nat → Nat} (C9 : lwT p l s m c b0 L xs G sa) {Z : Nat} {ν δ κ : Nat → Nat} {σ ρ τ : cS} (hR : Rq Z ν δ κ σ τ) {n o c₀ A t : Nat} (hn0 : n < 64) (hdn : δ n < 10) (ho0 : o < 64) (hc0 : c₀ < 6) (hZ9 : Z + 1 < 1000) {H : Heap} {locs : List Loc} {cells slots : Nat} (hc9 : cells + 20 ≤ 600130) (hs9 : slots + 120 ≤ 7301080) (hP : pG G (wW G a q σ ρ τ) H) (hD : va_D (AW s) (wW G a q σ ρ τ)) (hS : va_S (AW s) s.heap H locs) {ls : Array Slot} (hl : lv_has ls 20 [(0, .ref b0), (1, .ref (a 0)), (2, .ref (q 0)), (3, .ref (q 1)), (4, .ref (q 2)), (5, .ref (q 3)), (6, .ref (q 4)), (8, .int (nI t)), (10, .int 9), (11, .int (nI n)), (12, .int (nI o)), (13, .int (nI c₀)), (14, .int (bI (alv (σ 0) (nI n)))), (15, .int (-3)), (16, .int 0)])
    (kk : ∀ (σ' ρ' τ' : cS) (Z' : Nat) (v : Int32) (cc sc : Nat) (H : Heap) (locs : List Loc) (ls : Array Slot), Rq Z' ν δ κ σ' τ' → Z' ≤ Z + 1 → cc ≤ cells + 20 → sc ≤ slots + 120 → pG G (wW G a q σ' ρ' τ') H → va_D (AW s) (wW G a q σ' ρ' τ') → va_S (AW s) s.heap H locs → lv_has ls 20 [(0, .ref b0), (1, .ref (a 0)), (2, .ref (q 0)), (3, .ref (q 1)), (4, .ref (q 2)), (5, .ref (q 3)), (6, .ref (q 4)), (8, .int (nI t)), (15, .int v), (16, .int v)] → W p l e room_1 s m #[Value.ref b0] below meth c H locs cc sc (lw_Z below #[Value.ref b0] s) (F0 m 859 ls [])) : W p l e room_1 s m #[Value.ref b0] below meth c H locs cells slots (lw_Z below #[Value.ref b0] s) (F0 m 541 ls []) := by
  obtain ⟨S, hl9, hXs, hbl, hK, hX, hL9⟩ := C9
  obtain ⟨hx, hb, hml, hown, hts⟩ := id S
  have hA : ∀ q : Nat, s.heap.size ≤ q → AW s q := fun _ h => h
  have tk9 : κ c₀ < 64 := Rq.ka hR hc0
  refine lv_iload hx hb dL_law_541 (lv_at hl 12 rfl) ?_
  refine co_ifeq (tgt := 566) S dL_law_543 (by decide) (fun c_1 => ?_) (fun c_1 => ?_)
  · refine lv_bipush (v := (-3)) hx hb dL_law_566 (by decide) ?_
    refine lv_istore (lv' := [(15, .int (-3)), (0, .ref b0), (1, .ref (a 0)), (2, .ref (q 0)), (3, .ref (q 1)), (4, .ref (q 2)), (5, .ref (q 3)), (6, .ref (q 4)), (8, .int (nI t)), (10, .int 9), (11, .int (nI n)), (12, .int (nI o)), (13, .int (nI c₀)), (14, .int (bI (alv (σ 0) (nI n)))), (16, .int 0)]) hx hb dL_law_568 hl (by decide) rfl (fun ls hl => ?_)
    refine lv_aload_n hx hb dL_law_570 rfl (lv_at hl 2 rfl) ?_
    refine lv_iload hx hb dL_law_571 (lv_at hl 9 rfl) ?_
    refine lv_iconst (v := 5) hx hb dL_law_573 (by decide) ?_
    refine lv_isub hx hb dL_law_574 ?_
    refine co_eq (show (9 : Int32) - 5 = 4 by decide) ?_
    refine lv_iload hx hb dL_law_575 (lv_at hl 10 rfl) ?_
    refine lv_iconst (v := 0) hx hb dL_law_577 (by decide) ?_
    refine lv_iconst (v := 0) hx hb dL_law_578 (by decide) ?_
    refine co_nSWS (wr := wQ G q τ) (w' := fun u : cS × cS => wW G a q u.1 u.2 τ) (As := [.ref (a 0), .int 4, .int (nI n), .int 0, .int 0]) (rest := []) [0, 1, 2, 3, 4, 5, 6, 7, 8, 9, 10, 11, 12, 13, 14, 15, 16, 17, 18] [19, 20, 21, 22, 23] [5, 6, 7, 8, 9, 10, 11, 12, 13, 14, 15, 16, 17, 18, 19, 20, 21, 22, 23, 0, 1, 2, 3, 4] S (c_L_calls4 l hl9 G sa a σ ρ (nI n) 0 0 (fun z => absurd (z.symm.trans (cdA2 hn0 c_1)) (by decide))) (vx_cwSW 5 hts gL_law_L_calls rfl rfl rfl (by decide +kernel) ⟨(Nat.le_of_ble_eq_true rfl), (Nat.le_of_ble_eq_true rfl)⟩) hK hP hD hS hA hX rfl rfl (by decide) (by decide) (by decide) (by decide) (fun _ => rfl) rfl hl.1 rfl (Nat.le_of_ble_eq_true rfl) dL_law_579 ⟨by show cells + 4 ≤ 600130; omega, by show slots + 24 ≤ 7301080; omega⟩ (fun r_w_2 u_w_2 H locs hp_w_2 hP hD hS => ?_)
    obtain ⟨e1_w_2, e2_w_2⟩ := pC_2 hp_w_2 (cdA2 hn0 c_1)
    have e3_w_2 : u_w_2.1 = σ := e2_w_2
    have hP : pG G (wW G a q σ u_w_2.2 τ) H := (by rw [← e3_w_2]; exact hP)
    have hD : va_D (AW s) (wW G a q σ u_w_2.2 τ) := (by rw [← e3_w_2]; exact hD)
    refine co_eq (e1_w_2) ?_
    refine lv_istore (lv' := [(16, .int (-3)), (15, .int (-3)), (0, .ref b0), (1, .ref (a 0)), (2, .ref (q 0)), (3, .ref (q 1)), (4, .ref (q 2)), (5, .ref (q 3)), (6, .ref (q 4)), (8, .int (nI t)), (10, .int 9), (11, .int (nI n)), (12, .int (nI o)), (13, .int (nI c₀)), (14, .int (bI (alv (σ 0) (nI n))))]) hx hb dL_law_582 hl (by decide) rfl (fun ls hl => ?_)
    refine lv_goto (tgt := 859) hx hb dL_law_584 (by decide) ?_
    exact kk σ u_w_2.2 τ Z _ _ _ H locs ls hR (by omega) (by omega) (by omega) hP hD hS (lv_sub hl [2, 3, 4, 5, 6, 7, 8, 9, 1, 0] rfl)
  · refine lv_iload hx hb dL_law_546 (lv_at hl 8 rfl) ?_
    refine lv_iconst (v := 5) hx hb dL_law_548 (by decide) ?_
    refine lv_isub hx hb dL_law_549 ?_
    refine co_eq (show (9 : Int32) - 5 = 4 by decide) ?_
    refine lv_iload hx hb dL_law_550 (lv_at hl 9 rfl) ?_
    refine lv_aload_n hx hb dL_law_552 rfl (lv_at hl 2 rfl) ?_
    refine lv_aload_n hx hb dL_law_553 rfl (lv_at hl 3 rfl) ?_
    refine lv_aload hx hb dL_law_554 (lv_at hl 4 rfl) ?_
    refine lv_aload hx hb dL_law_556 (lv_at hl 5 rfl) ?_
    refine lv_aload hx hb dL_law_558 (lv_at hl 6 rfl) ?_
    refine co_mSiS (As := [.int 4, .int (nI n), .ref (q 0), .ref (q 1), .ref (q 2), .ref (q 3), .ref (q 4)]) (rest := []) (wr := wO G a σ ρ) (w' := (fun u : cS => wW G a q σ ρ u)) [19, 20, 21, 22, 23] [0, 1, 2, 3, 4, 5, 6, 7, 8, 9, 10, 11, 12, 13, 14, 15, 16, 17, 18] [0, 1, 2, 3, 4, 5, 6, 7, 8, 9, 10, 11, 12, 13, 14, 15, 16, 17, 18, 19, 20, 21, 22, 23] S (c_L_step4 l G Z q ν δ κ σ τ hR n ⟨hn0, c_1⟩) (va_cwS 7 hts gL_law_L_step rfl rfl rfl (by decide +kernel) ⟨Nat.le_of_ble_eq_true rfl, Nat.le_of_ble_eq_true rfl⟩) hK hP hD hS hA rfl rfl (by decide) (by decide) (by decide) (by decide) (fun _ => rfl) rfl hl.1 rfl (Nat.le_of_ble_eq_true rfl) dL_law_560 ⟨by show cells + 0 ≤ 600130; omega, by show slots + 0 ≤ 7301080; omega⟩ (fun r_3 u_3 H locs hu_3 hP hD hS => ?_)
    obtain ⟨hr_3, hq_3⟩ := hu_3
    have hr_3 : r_3 = (bI (chB σ (nI n))) := hr_3
    obtain ⟨σ_3, eσ_3⟩ : ∃ z9, z9 = (ddS σ (nI n)) := ⟨_, rfl⟩
    have hq_3 : Rq Z ν δ κ σ_3 u_3 := (by rw [eσ_3]; exact hq_3)
    have hc0_3 : σ_3 0 = (σ 0) := (by rw [eσ_3]; exact ddS_0)
    have hP : pG G (wW G a q σ ρ u_3) H := hP
    have hD : va_D (AW s) (wW G a q σ ρ u_3) := hD
    refine lv_goto (tgt := 568) hx hb dL_law_563 (by decide) ?_
    refine lv_istore (lv' := [(15, .int r_3), (0, .ref b0), (1, .ref (a 0)), (2, .ref (q 0)), (3, .ref (q 1)), (4, .ref (q 2)), (5, .ref (q 3)), (6, .ref (q 4)), (8, .int (nI t)), (10, .int 9), (11, .int (nI n)), (12, .int (nI o)), (13, .int (nI c₀)), (14, .int (bI (alv (σ 0) (nI n)))), (16, .int 0)]) hx hb dL_law_568 hl (by decide) rfl (fun ls hl => ?_)
    refine lv_aload_n hx hb dL_law_570 rfl (lv_at hl 2 rfl) ?_
    refine lv_iload hx hb dL_law_571 (lv_at hl 9 rfl) ?_
    refine lv_iconst (v := 5) hx hb dL_law_573 (by decide) ?_
    refine lv_isub hx hb dL_law_574 ?_
    refine co_eq (show (9 : Int32) - 5 = 4 by decide) ?_
    refine lv_iload hx hb dL_law_575 (lv_at hl 10 rfl) ?_
    refine lv_iconst (v := 0) hx hb dL_law_577 (by decide) ?_
    refine lv_iconst (v := 0) hx hb dL_law_578 (by decide) ?_
    refine co_nSWS (wr := wQ G q u_3) (w' := fun u : cS × cS => wW G a q u.1 u.2 u_3) (As := [.ref (a 0), .int 4, .int (nI n), .int 0, .int 0]) (rest := []) [0, 1, 2, 3, 4, 5, 6, 7, 8, 9, 10, 11, 12, 13, 14, 15, 16, 17, 18] [19, 20, 21, 22, 23] [5, 6, 7, 8, 9, 10, 11, 12, 13, 14, 15, 16, 17, 18, 19, 20, 21, 22, 23, 0, 1, 2, 3, 4] S (c_L_calls4 l hl9 G sa a σ ρ (nI n) 0 0 (fun z => absurd (z.symm.trans (cdA0 (⟨hn0, c_1⟩ : Lv σ n))) (by decide))) (vx_cwSW 5 hts gL_law_L_calls rfl rfl rfl (by decide +kernel) ⟨(Nat.le_of_ble_eq_true rfl), (Nat.le_of_ble_eq_true rfl)⟩) hK hP hD hS hA hX rfl rfl (by decide) (by decide) (by decide) (by decide) (fun _ => rfl) rfl hl.1 rfl (Nat.le_of_ble_eq_true rfl) dL_law_579 ⟨by show cells + 4 ≤ 600130; omega, by show slots + 24 ≤ 7301080; omega⟩ (fun r_w_4 u_w_4 H locs hp_w_4 hP hD hS => ?_)
    obtain ⟨e1_w_4, e2_w_4⟩ := pC_0 hp_w_4 (cdA0 (⟨hn0, c_1⟩ : Lv σ n))
    have e3_w_4 : u_w_4.1 = σ_3 := e2_w_4.trans (eσ_3.symm)
    have hP : pG G (wW G a q σ_3 u_w_4.2 u_3) H := (by rw [← e3_w_4]; exact hP)
    have hD : va_D (AW s) (wW G a q σ_3 u_w_4.2 u_3) := (by rw [← e3_w_4]; exact hD)
    refine co_eq (e1_w_4.trans (hr_3.symm)) ?_
    refine lv_istore (lv' := [(16, .int r_3), (15, .int r_3), (0, .ref b0), (1, .ref (a 0)), (2, .ref (q 0)), (3, .ref (q 1)), (4, .ref (q 2)), (5, .ref (q 3)), (6, .ref (q 4)), (8, .int (nI t)), (10, .int 9), (11, .int (nI n)), (12, .int (nI o)), (13, .int (nI c₀)), (14, .int (bI (alv (σ 0) (nI n))))]) hx hb dL_law_582 hl (by decide) rfl (fun ls hl => ?_)
    refine lv_goto (tgt := 859) hx hb dL_law_584 (by decide) ?_
    exact kk σ_3 u_w_4.2 u_3 Z _ _ _ H locs ls hq_3 (by omega) (by omega) (by omega) hP hD hS (lv_sub hl [2, 3, 4, 5, 6, 7, 8, 9, 1, 0] rfl)

set_option maxHeartbeats 8000000 in
set_option maxRecDepth 100000 in
theorem lt_step5 {p : Program} {l : Launch} {e : Env} {s : State} {m : MethodId} {below : List Frame} {meth : Method} {c : Code} {b0 L : Nat} {xs : Nat → Int32} {G : cG} {sa a q : Nat → Nat} (C9 : lwT p l s m c b0 L xs G sa) {Z : Nat} {ν δ κ : Nat → Nat} {σ ρ τ : cS} (hR : Rq Z ν δ κ σ τ) {n o c₀ A t : Nat} (hn0 : n < 64) (hdn : δ n < 10) (ho0 : o < 64) (hc0 : c₀ < 6) (hZ9 : Z + 1 < 1000) {H : Heap} {locs : List Loc} {cells slots : Nat} (hc9 : cells + 20 ≤ 600130) (hs9 : slots + 120 ≤ 7301080) (hP : pG G (wW G a q σ ρ τ) H) (hD : va_D (AW s) (wW G a q σ ρ τ)) (hS : va_S (AW s) s.heap H locs) {ls : Array Slot} (hl : lv_has ls 20 [(0, .ref b0), (1, .ref (a 0)), (2, .ref (q 0)), (3, .ref (q 1)), (4, .ref (q 2)), (5, .ref (q 3)), (6, .ref (q 4)), (8, .int (nI t)), (10, .int 10), (11, .int (nI n)), (12, .int (nI o)), (13, .int (nI c₀)), (14, .int (bI (alv (σ 0) (nI n)))), (15, .int (-3)), (16, .int 0)])
    (kk : ∀ (σ' ρ' τ' : cS) (Z' : Nat) (v : Int32) (cc sc : Nat) (H : Heap) (locs : List Loc) (ls : Array Slot), Rq Z' ν δ κ σ' τ' → Z' ≤ Z + 1 → cc ≤ cells + 20 → sc ≤ slots + 120 → pG G (wW G a q σ' ρ' τ') H → va_D (AW s) (wW G a q σ' ρ' τ') → va_S (AW s) s.heap H locs → lv_has ls 20 [(0, .ref b0), (1, .ref (a 0)), (2, .ref (q 0)), (3, .ref (q 1)), (4, .ref (q 2)), (5, .ref (q 3)), (6, .ref (q 4)), (8, .int (nI t)), (15, .int v), (16, .int v)] → W p l e room_1 s m #[Value.ref b0] below meth c H locs cc sc (lw_Z below #[Value.ref b0] s) (F0 m 859 ls [])) : W p l e room_1 s m #[Value.ref b0] below meth c H locs cells slots (lw_Z below #[Value.ref b0] s) (F0 m 541 ls []) := by
  obtain ⟨S, hl9, hXs, hbl, hK, hX, hL9⟩ := C9
  obtain ⟨hx, hb, hml, hown, hts⟩ := id S
  have hA : ∀ q : Nat, s.heap.size ≤ q → AW s q := fun _ h => h
  have tk9 : κ c₀ < 64 := Rq.ka hR hc0
  refine lv_iload hx hb dL_law_541 (lv_at hl 12 rfl) ?_
  refine co_ifeq (tgt := 566) S dL_law_543 (by decide) (fun c_1 => ?_) (fun c_1 => ?_)
  · refine lv_bipush (v := (-3)) hx hb dL_law_566 (by decide) ?_
    refine lv_istore (lv' := [(15, .int (-3)), (0, .ref b0), (1, .ref (a 0)), (2, .ref (q 0)), (3, .ref (q 1)), (4, .ref (q 2)), (5, .ref (q 3)), (6, .ref (q 4)), (8, .int (nI t)), (10, .int 10), (11, .int (nI n)), (12, .int (nI o)), (13, .int (nI c₀)), (14, .int (bI (alv (σ 0) (nI n)))), (16, .int 0)]) hx hb dL_law_568 hl (by decide) rfl (fun ls hl => ?_)
    refine lv_aload_n hx hb dL_law_570 rfl (lv_at hl 2 rfl) ?_
    refine lv_iload hx hb dL_law_571 (lv_at hl 9 rfl) ?_
    refine lv_iconst (v := 5) hx hb dL_law_573 (by decide) ?_
    refine lv_isub hx hb dL_law_574 ?_
    refine co_eq (show (10 : Int32) - 5 = 5 by decide) ?_
    refine lv_iload hx hb dL_law_575 (lv_at hl 10 rfl) ?_
    refine lv_iconst (v := 0) hx hb dL_law_577 (by decide) ?_
    refine lv_iconst (v := 0) hx hb dL_law_578 (by decide) ?_
    refine co_nSWS (wr := wQ G q τ) (w' := fun u : cS × cS => wW G a q u.1 u.2 τ) (As := [.ref (a 0), .int 5, .int (nI n), .int 0, .int 0]) (rest := []) [0, 1, 2, 3, 4, 5, 6, 7, 8, 9, 10, 11, 12, 13, 14, 15, 16, 17, 18] [19, 20, 21, 22, 23] [5, 6, 7, 8, 9, 10, 11, 12, 13, 14, 15, 16, 17, 18, 19, 20, 21, 22, 23, 0, 1, 2, 3, 4] S (c_L_calls5 l hl9 G sa a σ ρ (nI n) 0 0 (fun z => absurd (z.symm.trans (cdA2 hn0 c_1)) (by decide))) (vx_cwSW 5 hts gL_law_L_calls rfl rfl rfl (by decide +kernel) ⟨(Nat.le_of_ble_eq_true rfl), (Nat.le_of_ble_eq_true rfl)⟩) hK hP hD hS hA hX rfl rfl (by decide) (by decide) (by decide) (by decide) (fun _ => rfl) rfl hl.1 rfl (Nat.le_of_ble_eq_true rfl) dL_law_579 ⟨by show cells + 4 ≤ 600130; omega, by show slots + 24 ≤ 7301080; omega⟩ (fun r_w_2 u_w_2 H locs hp_w_2 hP hD hS => ?_)
    obtain ⟨e1_w_2, e2_w_2⟩ := pC_2 hp_w_2 (cdA2 hn0 c_1)
    have e3_w_2 : u_w_2.1 = σ := e2_w_2
    have hP : pG G (wW G a q σ u_w_2.2 τ) H := (by rw [← e3_w_2]; exact hP)
    have hD : va_D (AW s) (wW G a q σ u_w_2.2 τ) := (by rw [← e3_w_2]; exact hD)
    refine co_eq (e1_w_2) ?_
    refine lv_istore (lv' := [(16, .int (-3)), (15, .int (-3)), (0, .ref b0), (1, .ref (a 0)), (2, .ref (q 0)), (3, .ref (q 1)), (4, .ref (q 2)), (5, .ref (q 3)), (6, .ref (q 4)), (8, .int (nI t)), (10, .int 10), (11, .int (nI n)), (12, .int (nI o)), (13, .int (nI c₀)), (14, .int (bI (alv (σ 0) (nI n))))]) hx hb dL_law_582 hl (by decide) rfl (fun ls hl => ?_)
    refine lv_goto (tgt := 859) hx hb dL_law_584 (by decide) ?_
    exact kk σ u_w_2.2 τ Z _ _ _ H locs ls hR (by omega) (by omega) (by omega) hP hD hS (lv_sub hl [2, 3, 4, 5, 6, 7, 8, 9, 1, 0] rfl)
  · refine lv_iload hx hb dL_law_546 (lv_at hl 8 rfl) ?_
    refine lv_iconst (v := 5) hx hb dL_law_548 (by decide) ?_
    refine lv_isub hx hb dL_law_549 ?_
    refine co_eq (show (10 : Int32) - 5 = 5 by decide) ?_
    refine lv_iload hx hb dL_law_550 (lv_at hl 9 rfl) ?_
    refine lv_aload_n hx hb dL_law_552 rfl (lv_at hl 2 rfl) ?_
    refine lv_aload_n hx hb dL_law_553 rfl (lv_at hl 3 rfl) ?_
    refine lv_aload hx hb dL_law_554 (lv_at hl 4 rfl) ?_
    refine lv_aload hx hb dL_law_556 (lv_at hl 5 rfl) ?_
    refine lv_aload hx hb dL_law_558 (lv_at hl 6 rfl) ?_
    refine co_mSiS (As := [.int 5, .int (nI n), .ref (q 0), .ref (q 1), .ref (q 2), .ref (q 3), .ref (q 4)]) (rest := []) (wr := wO G a σ ρ) (w' := (fun u : cS => wW G a q σ ρ u)) [19, 20, 21, 22, 23] [0, 1, 2, 3, 4, 5, 6, 7, 8, 9, 10, 11, 12, 13, 14, 15, 16, 17, 18] [0, 1, 2, 3, 4, 5, 6, 7, 8, 9, 10, 11, 12, 13, 14, 15, 16, 17, 18, 19, 20, 21, 22, 23] S (c_L_step5 l G Z q ν δ κ σ τ hR n ⟨hn0, c_1⟩) (va_cwS 7 hts gL_law_L_step rfl rfl rfl (by decide +kernel) ⟨Nat.le_of_ble_eq_true rfl, Nat.le_of_ble_eq_true rfl⟩) hK hP hD hS hA rfl rfl (by decide) (by decide) (by decide) (by decide) (fun _ => rfl) rfl hl.1 rfl (Nat.le_of_ble_eq_true rfl) dL_law_560 ⟨by show cells + 0 ≤ 600130; omega, by show slots + 0 ≤ 7301080; omega⟩ (fun r_3 u_3 H locs hu_3 hP hD hS => ?_)
    obtain ⟨hr_3, hq_3⟩ := hu_3
    have hr_3 : r_3 = (tat 3 (msS σ (nI n) 1) (nI n) 0) := hr_3
    obtain ⟨σ_3, eσ_3⟩ : ∃ z9, z9 = (msS σ (nI n)) := ⟨_, rfl⟩
    have hq_3 : Rq Z ν δ κ σ_3 u_3 := (by rw [eσ_3]; exact hq_3)
    have hc0_3 : σ_3 0 = (σ 0) := (by rw [eσ_3]; exact msS_0)
    have hP : pG G (wW G a q σ ρ u_3) H := hP
    have hD : va_D (AW s) (wW G a q σ ρ u_3) := hD
    refine lv_goto (tgt := 568) hx hb dL_law_563 (by decide) ?_
    refine lv_istore (lv' := [(15, .int r_3), (0, .ref b0), (1, .ref (a 0)), (2, .ref (q 0)), (3, .ref (q 1)), (4, .ref (q 2)), (5, .ref (q 3)), (6, .ref (q 4)), (8, .int (nI t)), (10, .int 10), (11, .int (nI n)), (12, .int (nI o)), (13, .int (nI c₀)), (14, .int (bI (alv (σ 0) (nI n)))), (16, .int 0)]) hx hb dL_law_568 hl (by decide) rfl (fun ls hl => ?_)
    refine lv_aload_n hx hb dL_law_570 rfl (lv_at hl 2 rfl) ?_
    refine lv_iload hx hb dL_law_571 (lv_at hl 9 rfl) ?_
    refine lv_iconst (v := 5) hx hb dL_law_573 (by decide) ?_
    refine lv_isub hx hb dL_law_574 ?_
    refine co_eq (show (10 : Int32) - 5 = 5 by decide) ?_
    refine lv_iload hx hb dL_law_575 (lv_at hl 10 rfl) ?_
    refine lv_iconst (v := 0) hx hb dL_law_577 (by decide) ?_
    refine lv_iconst (v := 0) hx hb dL_law_578 (by decide) ?_
    refine co_nSWS (wr := wQ G q u_3) (w' := fun u : cS × cS => wW G a q u.1 u.2 u_3) (As := [.ref (a 0), .int 5, .int (nI n), .int 0, .int 0]) (rest := []) [0, 1, 2, 3, 4, 5, 6, 7, 8, 9, 10, 11, 12, 13, 14, 15, 16, 17, 18] [19, 20, 21, 22, 23] [5, 6, 7, 8, 9, 10, 11, 12, 13, 14, 15, 16, 17, 18, 19, 20, 21, 22, 23, 0, 1, 2, 3, 4] S (c_L_calls5 l hl9 G sa a σ ρ (nI n) 0 0 (fun z => absurd (z.symm.trans (cdA0 (⟨hn0, c_1⟩ : Lv σ n))) (by decide))) (vx_cwSW 5 hts gL_law_L_calls rfl rfl rfl (by decide +kernel) ⟨(Nat.le_of_ble_eq_true rfl), (Nat.le_of_ble_eq_true rfl)⟩) hK hP hD hS hA hX rfl rfl (by decide) (by decide) (by decide) (by decide) (fun _ => rfl) rfl hl.1 rfl (Nat.le_of_ble_eq_true rfl) dL_law_579 ⟨by show cells + 4 ≤ 600130; omega, by show slots + 24 ≤ 7301080; omega⟩ (fun r_w_4 u_w_4 H locs hp_w_4 hP hD hS => ?_)
    obtain ⟨e1_w_4, e2_w_4⟩ := pC_0 hp_w_4 (cdA0 (⟨hn0, c_1⟩ : Lv σ n))
    have e3_w_4 : u_w_4.1 = σ_3 := e2_w_4.trans (eσ_3.symm)
    have hP : pG G (wW G a q σ_3 u_w_4.2 u_3) H := (by rw [← e3_w_4]; exact hP)
    have hD : va_D (AW s) (wW G a q σ_3 u_w_4.2 u_3) := (by rw [← e3_w_4]; exact hD)
    refine co_eq (e1_w_4.trans (hr_3.symm)) ?_
    refine lv_istore (lv' := [(16, .int r_3), (15, .int r_3), (0, .ref b0), (1, .ref (a 0)), (2, .ref (q 0)), (3, .ref (q 1)), (4, .ref (q 2)), (5, .ref (q 3)), (6, .ref (q 4)), (8, .int (nI t)), (10, .int 10), (11, .int (nI n)), (12, .int (nI o)), (13, .int (nI c₀)), (14, .int (bI (alv (σ 0) (nI n))))]) hx hb dL_law_582 hl (by decide) rfl (fun ls hl => ?_)
    refine lv_goto (tgt := 859) hx hb dL_law_584 (by decide) ?_
    exact kk σ_3 u_w_4.2 u_3 Z _ _ _ H locs ls hq_3 (by omega) (by omega) (by omega) hP hD hS (lv_sub hl [2, 3, 4, 5, 6, 7, 8, 9, 1, 0] rfl)

set_option maxHeartbeats 8000000 in
set_option maxRecDepth 100000 in
theorem lt_step6 {p : Program} {l : Launch} {e : Env} {s : State} {m : MethodId} {below : List Frame} {meth : Method} {c : Code} {b0 L : Nat} {xs : Nat → Int32} {G : cG} {sa a q : Nat → Nat} (C9 : lwT p l s m c b0 L xs G sa) {Z : Nat} {ν δ κ : Nat → Nat} {σ ρ τ : cS} (hR : Rq Z ν δ κ σ τ) {n o c₀ A t : Nat} (hn0 : n < 64) (hdn : δ n < 10) (ho0 : o < 64) (hc0 : c₀ < 6) (hZ9 : Z + 1 < 1000) {H : Heap} {locs : List Loc} {cells slots : Nat} (hc9 : cells + 20 ≤ 600130) (hs9 : slots + 120 ≤ 7301080) (hP : pG G (wW G a q σ ρ τ) H) (hD : va_D (AW s) (wW G a q σ ρ τ)) (hS : va_S (AW s) s.heap H locs) {ls : Array Slot} (hl : lv_has ls 20 [(0, .ref b0), (1, .ref (a 0)), (2, .ref (q 0)), (3, .ref (q 1)), (4, .ref (q 2)), (5, .ref (q 3)), (6, .ref (q 4)), (8, .int (nI t)), (10, .int 11), (11, .int (nI n)), (12, .int (nI o)), (13, .int (nI c₀)), (14, .int (bI (alv (σ 0) (nI n)))), (15, .int (-3)), (16, .int 0)])
    (kk : ∀ (σ' ρ' τ' : cS) (Z' : Nat) (v : Int32) (cc sc : Nat) (H : Heap) (locs : List Loc) (ls : Array Slot), Rq Z' ν δ κ σ' τ' → Z' ≤ Z + 1 → cc ≤ cells + 20 → sc ≤ slots + 120 → pG G (wW G a q σ' ρ' τ') H → va_D (AW s) (wW G a q σ' ρ' τ') → va_S (AW s) s.heap H locs → lv_has ls 20 [(0, .ref b0), (1, .ref (a 0)), (2, .ref (q 0)), (3, .ref (q 1)), (4, .ref (q 2)), (5, .ref (q 3)), (6, .ref (q 4)), (8, .int (nI t)), (15, .int v), (16, .int v)] → W p l e room_1 s m #[Value.ref b0] below meth c H locs cc sc (lw_Z below #[Value.ref b0] s) (F0 m 859 ls [])) : W p l e room_1 s m #[Value.ref b0] below meth c H locs cells slots (lw_Z below #[Value.ref b0] s) (F0 m 541 ls []) := by
  obtain ⟨S, hl9, hXs, hbl, hK, hX, hL9⟩ := C9
  obtain ⟨hx, hb, hml, hown, hts⟩ := id S
  have hA : ∀ q : Nat, s.heap.size ≤ q → AW s q := fun _ h => h
  have tk9 : κ c₀ < 64 := Rq.ka hR hc0
  refine lv_iload hx hb dL_law_541 (lv_at hl 12 rfl) ?_
  refine co_ifeq (tgt := 566) S dL_law_543 (by decide) (fun c_1 => ?_) (fun c_1 => ?_)
  · refine lv_bipush (v := (-3)) hx hb dL_law_566 (by decide) ?_
    refine lv_istore (lv' := [(15, .int (-3)), (0, .ref b0), (1, .ref (a 0)), (2, .ref (q 0)), (3, .ref (q 1)), (4, .ref (q 2)), (5, .ref (q 3)), (6, .ref (q 4)), (8, .int (nI t)), (10, .int 11), (11, .int (nI n)), (12, .int (nI o)), (13, .int (nI c₀)), (14, .int (bI (alv (σ 0) (nI n)))), (16, .int 0)]) hx hb dL_law_568 hl (by decide) rfl (fun ls hl => ?_)
    refine lv_aload_n hx hb dL_law_570 rfl (lv_at hl 2 rfl) ?_
    refine lv_iload hx hb dL_law_571 (lv_at hl 9 rfl) ?_
    refine lv_iconst (v := 5) hx hb dL_law_573 (by decide) ?_
    refine lv_isub hx hb dL_law_574 ?_
    refine co_eq (show (11 : Int32) - 5 = 6 by decide) ?_
    refine lv_iload hx hb dL_law_575 (lv_at hl 10 rfl) ?_
    refine lv_iconst (v := 0) hx hb dL_law_577 (by decide) ?_
    refine lv_iconst (v := 0) hx hb dL_law_578 (by decide) ?_
    refine co_nSWS (wr := wQ G q τ) (w' := fun u : cS × cS => wW G a q u.1 u.2 τ) (As := [.ref (a 0), .int 6, .int (nI n), .int 0, .int 0]) (rest := []) [0, 1, 2, 3, 4, 5, 6, 7, 8, 9, 10, 11, 12, 13, 14, 15, 16, 17, 18] [19, 20, 21, 22, 23] [5, 6, 7, 8, 9, 10, 11, 12, 13, 14, 15, 16, 17, 18, 19, 20, 21, 22, 23, 0, 1, 2, 3, 4] S (c_L_calls6 l hl9 G sa a σ ρ (nI n) 0 0 (fun z => absurd (z.symm.trans (cdA2 hn0 c_1)) (by decide))) (vx_cwSW 5 hts gL_law_L_calls rfl rfl rfl (by decide +kernel) ⟨(Nat.le_of_ble_eq_true rfl), (Nat.le_of_ble_eq_true rfl)⟩) hK hP hD hS hA hX rfl rfl (by decide) (by decide) (by decide) (by decide) (fun _ => rfl) rfl hl.1 rfl (Nat.le_of_ble_eq_true rfl) dL_law_579 ⟨by show cells + 4 ≤ 600130; omega, by show slots + 24 ≤ 7301080; omega⟩ (fun r_w_2 u_w_2 H locs hp_w_2 hP hD hS => ?_)
    obtain ⟨e1_w_2, e2_w_2⟩ := pC_2 hp_w_2 (cdA2 hn0 c_1)
    have e3_w_2 : u_w_2.1 = σ := e2_w_2
    have hP : pG G (wW G a q σ u_w_2.2 τ) H := (by rw [← e3_w_2]; exact hP)
    have hD : va_D (AW s) (wW G a q σ u_w_2.2 τ) := (by rw [← e3_w_2]; exact hD)
    refine co_eq (e1_w_2) ?_
    refine lv_istore (lv' := [(16, .int (-3)), (15, .int (-3)), (0, .ref b0), (1, .ref (a 0)), (2, .ref (q 0)), (3, .ref (q 1)), (4, .ref (q 2)), (5, .ref (q 3)), (6, .ref (q 4)), (8, .int (nI t)), (10, .int 11), (11, .int (nI n)), (12, .int (nI o)), (13, .int (nI c₀)), (14, .int (bI (alv (σ 0) (nI n))))]) hx hb dL_law_582 hl (by decide) rfl (fun ls hl => ?_)
    refine lv_goto (tgt := 859) hx hb dL_law_584 (by decide) ?_
    exact kk σ u_w_2.2 τ Z _ _ _ H locs ls hR (by omega) (by omega) (by omega) hP hD hS (lv_sub hl [2, 3, 4, 5, 6, 7, 8, 9, 1, 0] rfl)
  · refine lv_iload hx hb dL_law_546 (lv_at hl 8 rfl) ?_
    refine lv_iconst (v := 5) hx hb dL_law_548 (by decide) ?_
    refine lv_isub hx hb dL_law_549 ?_
    refine co_eq (show (11 : Int32) - 5 = 6 by decide) ?_
    refine lv_iload hx hb dL_law_550 (lv_at hl 9 rfl) ?_
    refine lv_aload_n hx hb dL_law_552 rfl (lv_at hl 2 rfl) ?_
    refine lv_aload_n hx hb dL_law_553 rfl (lv_at hl 3 rfl) ?_
    refine lv_aload hx hb dL_law_554 (lv_at hl 4 rfl) ?_
    refine lv_aload hx hb dL_law_556 (lv_at hl 5 rfl) ?_
    refine lv_aload hx hb dL_law_558 (lv_at hl 6 rfl) ?_
    refine co_mSiS (As := [.int 6, .int (nI n), .ref (q 0), .ref (q 1), .ref (q 2), .ref (q 3), .ref (q 4)]) (rest := []) (wr := wO G a σ ρ) (w' := (fun u : cS => wW G a q σ ρ u)) [19, 20, 21, 22, 23] [0, 1, 2, 3, 4, 5, 6, 7, 8, 9, 10, 11, 12, 13, 14, 15, 16, 17, 18] [0, 1, 2, 3, 4, 5, 6, 7, 8, 9, 10, 11, 12, 13, 14, 15, 16, 17, 18, 19, 20, 21, 22, 23] S (c_L_step6 l G Z q ν δ κ σ τ hR n ⟨hn0, c_1⟩) (va_cwS 7 hts gL_law_L_step rfl rfl rfl (by decide +kernel) ⟨Nat.le_of_ble_eq_true rfl, Nat.le_of_ble_eq_true rfl⟩) hK hP hD hS hA rfl rfl (by decide) (by decide) (by decide) (by decide) (fun _ => rfl) rfl hl.1 rfl (Nat.le_of_ble_eq_true rfl) dL_law_560 ⟨by show cells + 0 ≤ 600130; omega, by show slots + 0 ≤ 7301080; omega⟩ (fun r_3 u_3 H locs hu_3 hP hD hS => ?_)
    obtain ⟨hr_3, hq_3⟩ := hu_3
    have hr_3 : r_3 = (rfC σ (nI n) 6) := hr_3
    obtain ⟨σ_3, eσ_3⟩ : ∃ z9, z9 = (rfS σ (nI n) 6) := ⟨_, rfl⟩
    have hq_3 : Rq Z ν δ κ σ_3 u_3 := (by rw [eσ_3]; exact hq_3)
    have hc0_3 : σ_3 0 = (σ 0) := (by rw [eσ_3]; exact (rfS_0 6))
    have hP : pG G (wW G a q σ ρ u_3) H := hP
    have hD : va_D (AW s) (wW G a q σ ρ u_3) := hD
    refine lv_goto (tgt := 568) hx hb dL_law_563 (by decide) ?_
    refine lv_istore (lv' := [(15, .int r_3), (0, .ref b0), (1, .ref (a 0)), (2, .ref (q 0)), (3, .ref (q 1)), (4, .ref (q 2)), (5, .ref (q 3)), (6, .ref (q 4)), (8, .int (nI t)), (10, .int 11), (11, .int (nI n)), (12, .int (nI o)), (13, .int (nI c₀)), (14, .int (bI (alv (σ 0) (nI n)))), (16, .int 0)]) hx hb dL_law_568 hl (by decide) rfl (fun ls hl => ?_)
    refine lv_aload_n hx hb dL_law_570 rfl (lv_at hl 2 rfl) ?_
    refine lv_iload hx hb dL_law_571 (lv_at hl 9 rfl) ?_
    refine lv_iconst (v := 5) hx hb dL_law_573 (by decide) ?_
    refine lv_isub hx hb dL_law_574 ?_
    refine co_eq (show (11 : Int32) - 5 = 6 by decide) ?_
    refine lv_iload hx hb dL_law_575 (lv_at hl 10 rfl) ?_
    refine lv_iconst (v := 0) hx hb dL_law_577 (by decide) ?_
    refine lv_iconst (v := 0) hx hb dL_law_578 (by decide) ?_
    refine co_nSWS (wr := wQ G q u_3) (w' := fun u : cS × cS => wW G a q u.1 u.2 u_3) (As := [.ref (a 0), .int 6, .int (nI n), .int 0, .int 0]) (rest := []) [0, 1, 2, 3, 4, 5, 6, 7, 8, 9, 10, 11, 12, 13, 14, 15, 16, 17, 18] [19, 20, 21, 22, 23] [5, 6, 7, 8, 9, 10, 11, 12, 13, 14, 15, 16, 17, 18, 19, 20, 21, 22, 23, 0, 1, 2, 3, 4] S (c_L_calls6 l hl9 G sa a σ ρ (nI n) 0 0 (fun z => absurd (z.symm.trans (cdA0 (⟨hn0, c_1⟩ : Lv σ n))) (by decide))) (vx_cwSW 5 hts gL_law_L_calls rfl rfl rfl (by decide +kernel) ⟨(Nat.le_of_ble_eq_true rfl), (Nat.le_of_ble_eq_true rfl)⟩) hK hP hD hS hA hX rfl rfl (by decide) (by decide) (by decide) (by decide) (fun _ => rfl) rfl hl.1 rfl (Nat.le_of_ble_eq_true rfl) dL_law_579 ⟨by show cells + 4 ≤ 600130; omega, by show slots + 24 ≤ 7301080; omega⟩ (fun r_w_4 u_w_4 H locs hp_w_4 hP hD hS => ?_)
    obtain ⟨e1_w_4, e2_w_4⟩ := pC_0 hp_w_4 (cdA0 (⟨hn0, c_1⟩ : Lv σ n))
    have e3_w_4 : u_w_4.1 = σ_3 := e2_w_4.trans (eσ_3.symm)
    have hP : pG G (wW G a q σ_3 u_w_4.2 u_3) H := (by rw [← e3_w_4]; exact hP)
    have hD : va_D (AW s) (wW G a q σ_3 u_w_4.2 u_3) := (by rw [← e3_w_4]; exact hD)
    refine co_eq (e1_w_4.trans (hr_3.symm)) ?_
    refine lv_istore (lv' := [(16, .int r_3), (15, .int r_3), (0, .ref b0), (1, .ref (a 0)), (2, .ref (q 0)), (3, .ref (q 1)), (4, .ref (q 2)), (5, .ref (q 3)), (6, .ref (q 4)), (8, .int (nI t)), (10, .int 11), (11, .int (nI n)), (12, .int (nI o)), (13, .int (nI c₀)), (14, .int (bI (alv (σ 0) (nI n))))]) hx hb dL_law_582 hl (by decide) rfl (fun ls hl => ?_)
    refine lv_goto (tgt := 859) hx hb dL_law_584 (by decide) ?_
    exact kk σ_3 u_w_4.2 u_3 Z _ _ _ H locs ls hq_3 (by omega) (by omega) (by omega) hP hD hS (lv_sub hl [2, 3, 4, 5, 6, 7, 8, 9, 1, 0] rfl)

set_option maxHeartbeats 8000000 in
set_option maxRecDepth 100000 in
theorem lt_step7 {p : Program} {l : Launch} {e : Env} {s : State} {m : MethodId} {below : List Frame} {meth : Method} {c : Code} {b0 L : Nat} {xs : Nat → Int32} {G : cG} {sa a q : Nat → Nat} (C9 : lwT p l s m c b0 L xs G sa) {Z : Nat} {ν δ κ : Nat → Nat} {σ ρ τ : cS} (hR : Rq Z ν δ κ σ τ) {n o c₀ A t : Nat} (hn0 : n < 64) (hdn : δ n < 10) (ho0 : o < 64) (hc0 : c₀ < 6) (hZ9 : Z + 1 < 1000) {H : Heap} {locs : List Loc} {cells slots : Nat} (hc9 : cells + 20 ≤ 600130) (hs9 : slots + 120 ≤ 7301080) (hP : pG G (wW G a q σ ρ τ) H) (hD : va_D (AW s) (wW G a q σ ρ τ)) (hS : va_S (AW s) s.heap H locs) {ls : Array Slot} (hl : lv_has ls 20 [(0, .ref b0), (1, .ref (a 0)), (2, .ref (q 0)), (3, .ref (q 1)), (4, .ref (q 2)), (5, .ref (q 3)), (6, .ref (q 4)), (8, .int (nI t)), (10, .int 12), (11, .int (nI n)), (12, .int (nI o)), (13, .int (nI c₀)), (14, .int (bI (alv (σ 0) (nI n)))), (15, .int (-3)), (16, .int 0)])
    (kk : ∀ (σ' ρ' τ' : cS) (Z' : Nat) (v : Int32) (cc sc : Nat) (H : Heap) (locs : List Loc) (ls : Array Slot), Rq Z' ν δ κ σ' τ' → Z' ≤ Z + 1 → cc ≤ cells + 20 → sc ≤ slots + 120 → pG G (wW G a q σ' ρ' τ') H → va_D (AW s) (wW G a q σ' ρ' τ') → va_S (AW s) s.heap H locs → lv_has ls 20 [(0, .ref b0), (1, .ref (a 0)), (2, .ref (q 0)), (3, .ref (q 1)), (4, .ref (q 2)), (5, .ref (q 3)), (6, .ref (q 4)), (8, .int (nI t)), (15, .int v), (16, .int v)] → W p l e room_1 s m #[Value.ref b0] below meth c H locs cc sc (lw_Z below #[Value.ref b0] s) (F0 m 859 ls [])) : W p l e room_1 s m #[Value.ref b0] below meth c H locs cells slots (lw_Z below #[Value.ref b0] s) (F0 m 541 ls []) := by
  obtain ⟨S, hl9, hXs, hbl, hK, hX, hL9⟩ := C9
  obtain ⟨hx, hb, hml, hown, hts⟩ := id S
  have hA : ∀ q : Nat, s.heap.size ≤ q → AW s q := fun _ h => h
  have tk9 : κ c₀ < 64 := Rq.ka hR hc0
  refine lv_iload hx hb dL_law_541 (lv_at hl 12 rfl) ?_
  refine co_ifeq (tgt := 566) S dL_law_543 (by decide) (fun c_1 => ?_) (fun c_1 => ?_)
  · refine lv_bipush (v := (-3)) hx hb dL_law_566 (by decide) ?_
    refine lv_istore (lv' := [(15, .int (-3)), (0, .ref b0), (1, .ref (a 0)), (2, .ref (q 0)), (3, .ref (q 1)), (4, .ref (q 2)), (5, .ref (q 3)), (6, .ref (q 4)), (8, .int (nI t)), (10, .int 12), (11, .int (nI n)), (12, .int (nI o)), (13, .int (nI c₀)), (14, .int (bI (alv (σ 0) (nI n)))), (16, .int 0)]) hx hb dL_law_568 hl (by decide) rfl (fun ls hl => ?_)
    refine lv_aload_n hx hb dL_law_570 rfl (lv_at hl 2 rfl) ?_
    refine lv_iload hx hb dL_law_571 (lv_at hl 9 rfl) ?_
    refine lv_iconst (v := 5) hx hb dL_law_573 (by decide) ?_
    refine lv_isub hx hb dL_law_574 ?_
    refine co_eq (show (12 : Int32) - 5 = 7 by decide) ?_
    refine lv_iload hx hb dL_law_575 (lv_at hl 10 rfl) ?_
    refine lv_iconst (v := 0) hx hb dL_law_577 (by decide) ?_
    refine lv_iconst (v := 0) hx hb dL_law_578 (by decide) ?_
    refine co_nSWS (wr := wQ G q τ) (w' := fun u : cS × cS => wW G a q u.1 u.2 τ) (As := [.ref (a 0), .int 7, .int (nI n), .int 0, .int 0]) (rest := []) [0, 1, 2, 3, 4, 5, 6, 7, 8, 9, 10, 11, 12, 13, 14, 15, 16, 17, 18] [19, 20, 21, 22, 23] [5, 6, 7, 8, 9, 10, 11, 12, 13, 14, 15, 16, 17, 18, 19, 20, 21, 22, 23, 0, 1, 2, 3, 4] S (c_L_calls7 l hl9 G sa a σ ρ (nI n) 0 0 (fun z => absurd (z.symm.trans (cdA2 hn0 c_1)) (by decide))) (vx_cwSW 5 hts gL_law_L_calls rfl rfl rfl (by decide +kernel) ⟨(Nat.le_of_ble_eq_true rfl), (Nat.le_of_ble_eq_true rfl)⟩) hK hP hD hS hA hX rfl rfl (by decide) (by decide) (by decide) (by decide) (fun _ => rfl) rfl hl.1 rfl (Nat.le_of_ble_eq_true rfl) dL_law_579 ⟨by show cells + 4 ≤ 600130; omega, by show slots + 24 ≤ 7301080; omega⟩ (fun r_w_2 u_w_2 H locs hp_w_2 hP hD hS => ?_)
    obtain ⟨e1_w_2, e2_w_2⟩ := pC_2 hp_w_2 (cdA2 hn0 c_1)
    have e3_w_2 : u_w_2.1 = σ := e2_w_2
    have hP : pG G (wW G a q σ u_w_2.2 τ) H := (by rw [← e3_w_2]; exact hP)
    have hD : va_D (AW s) (wW G a q σ u_w_2.2 τ) := (by rw [← e3_w_2]; exact hD)
    refine co_eq (e1_w_2) ?_
    refine lv_istore (lv' := [(16, .int (-3)), (15, .int (-3)), (0, .ref b0), (1, .ref (a 0)), (2, .ref (q 0)), (3, .ref (q 1)), (4, .ref (q 2)), (5, .ref (q 3)), (6, .ref (q 4)), (8, .int (nI t)), (10, .int 12), (11, .int (nI n)), (12, .int (nI o)), (13, .int (nI c₀)), (14, .int (bI (alv (σ 0) (nI n))))]) hx hb dL_law_582 hl (by decide) rfl (fun ls hl => ?_)
    refine lv_goto (tgt := 859) hx hb dL_law_584 (by decide) ?_
    exact kk σ u_w_2.2 τ Z _ _ _ H locs ls hR (by omega) (by omega) (by omega) hP hD hS (lv_sub hl [2, 3, 4, 5, 6, 7, 8, 9, 1, 0] rfl)
  · refine lv_iload hx hb dL_law_546 (lv_at hl 8 rfl) ?_
    refine lv_iconst (v := 5) hx hb dL_law_548 (by decide) ?_
    refine lv_isub hx hb dL_law_549 ?_
    refine co_eq (show (12 : Int32) - 5 = 7 by decide) ?_
    refine lv_iload hx hb dL_law_550 (lv_at hl 9 rfl) ?_
    refine lv_aload_n hx hb dL_law_552 rfl (lv_at hl 2 rfl) ?_
    refine lv_aload_n hx hb dL_law_553 rfl (lv_at hl 3 rfl) ?_
    refine lv_aload hx hb dL_law_554 (lv_at hl 4 rfl) ?_
    refine lv_aload hx hb dL_law_556 (lv_at hl 5 rfl) ?_
    refine lv_aload hx hb dL_law_558 (lv_at hl 6 rfl) ?_
    refine co_mSiS (As := [.int 7, .int (nI n), .ref (q 0), .ref (q 1), .ref (q 2), .ref (q 3), .ref (q 4)]) (rest := []) (wr := wO G a σ ρ) (w' := (fun u : cS => wW G a q σ ρ u)) [19, 20, 21, 22, 23] [0, 1, 2, 3, 4, 5, 6, 7, 8, 9, 10, 11, 12, 13, 14, 15, 16, 17, 18] [0, 1, 2, 3, 4, 5, 6, 7, 8, 9, 10, 11, 12, 13, 14, 15, 16, 17, 18, 19, 20, 21, 22, 23] S (c_L_step7 l G Z q ν δ κ σ τ hR n ⟨hn0, c_1⟩) (va_cwS 7 hts gL_law_L_step rfl rfl rfl (by decide +kernel) ⟨Nat.le_of_ble_eq_true rfl, Nat.le_of_ble_eq_true rfl⟩) hK hP hD hS hA rfl rfl (by decide) (by decide) (by decide) (by decide) (fun _ => rfl) rfl hl.1 rfl (Nat.le_of_ble_eq_true rfl) dL_law_560 ⟨by show cells + 0 ≤ 600130; omega, by show slots + 0 ≤ 7301080; omega⟩ (fun r_3 u_3 H locs hu_3 hP hD hS => ?_)
    obtain ⟨hr_3, hq_3⟩ := hu_3
    have hr_3 : r_3 = (svC σ (nI n) 64) := hr_3
    obtain ⟨σ_3, eσ_3⟩ : ∃ z9, z9 = (svS σ (nI n) 64) := ⟨_, rfl⟩
    have hq_3 : Rq Z ν δ κ σ_3 u_3 := (by rw [eσ_3]; exact hq_3)
    have hc0_3 : σ_3 0 = (σ 0) := (by rw [eσ_3]; exact (svS_0 64))
    have hP : pG G (wW G a q σ ρ u_3) H := hP
    have hD : va_D (AW s) (wW G a q σ ρ u_3) := hD
    refine lv_goto (tgt := 568) hx hb dL_law_563 (by decide) ?_
    refine lv_istore (lv' := [(15, .int r_3), (0, .ref b0), (1, .ref (a 0)), (2, .ref (q 0)), (3, .ref (q 1)), (4, .ref (q 2)), (5, .ref (q 3)), (6, .ref (q 4)), (8, .int (nI t)), (10, .int 12), (11, .int (nI n)), (12, .int (nI o)), (13, .int (nI c₀)), (14, .int (bI (alv (σ 0) (nI n)))), (16, .int 0)]) hx hb dL_law_568 hl (by decide) rfl (fun ls hl => ?_)
    refine lv_aload_n hx hb dL_law_570 rfl (lv_at hl 2 rfl) ?_
    refine lv_iload hx hb dL_law_571 (lv_at hl 9 rfl) ?_
    refine lv_iconst (v := 5) hx hb dL_law_573 (by decide) ?_
    refine lv_isub hx hb dL_law_574 ?_
    refine co_eq (show (12 : Int32) - 5 = 7 by decide) ?_
    refine lv_iload hx hb dL_law_575 (lv_at hl 10 rfl) ?_
    refine lv_iconst (v := 0) hx hb dL_law_577 (by decide) ?_
    refine lv_iconst (v := 0) hx hb dL_law_578 (by decide) ?_
    refine co_nSWS (wr := wQ G q u_3) (w' := fun u : cS × cS => wW G a q u.1 u.2 u_3) (As := [.ref (a 0), .int 7, .int (nI n), .int 0, .int 0]) (rest := []) [0, 1, 2, 3, 4, 5, 6, 7, 8, 9, 10, 11, 12, 13, 14, 15, 16, 17, 18] [19, 20, 21, 22, 23] [5, 6, 7, 8, 9, 10, 11, 12, 13, 14, 15, 16, 17, 18, 19, 20, 21, 22, 23, 0, 1, 2, 3, 4] S (c_L_calls7 l hl9 G sa a σ ρ (nI n) 0 0 (fun z => absurd (z.symm.trans (cdA0 (⟨hn0, c_1⟩ : Lv σ n))) (by decide))) (vx_cwSW 5 hts gL_law_L_calls rfl rfl rfl (by decide +kernel) ⟨(Nat.le_of_ble_eq_true rfl), (Nat.le_of_ble_eq_true rfl)⟩) hK hP hD hS hA hX rfl rfl (by decide) (by decide) (by decide) (by decide) (fun _ => rfl) rfl hl.1 rfl (Nat.le_of_ble_eq_true rfl) dL_law_579 ⟨by show cells + 4 ≤ 600130; omega, by show slots + 24 ≤ 7301080; omega⟩ (fun r_w_4 u_w_4 H locs hp_w_4 hP hD hS => ?_)
    obtain ⟨e1_w_4, e2_w_4⟩ := pC_0 hp_w_4 (cdA0 (⟨hn0, c_1⟩ : Lv σ n))
    have e3_w_4 : u_w_4.1 = σ_3 := e2_w_4.trans (eσ_3.symm)
    have hP : pG G (wW G a q σ_3 u_w_4.2 u_3) H := (by rw [← e3_w_4]; exact hP)
    have hD : va_D (AW s) (wW G a q σ_3 u_w_4.2 u_3) := (by rw [← e3_w_4]; exact hD)
    refine co_eq (e1_w_4.trans (hr_3.symm)) ?_
    refine lv_istore (lv' := [(16, .int r_3), (15, .int r_3), (0, .ref b0), (1, .ref (a 0)), (2, .ref (q 0)), (3, .ref (q 1)), (4, .ref (q 2)), (5, .ref (q 3)), (6, .ref (q 4)), (8, .int (nI t)), (10, .int 12), (11, .int (nI n)), (12, .int (nI o)), (13, .int (nI c₀)), (14, .int (bI (alv (σ 0) (nI n))))]) hx hb dL_law_582 hl (by decide) rfl (fun ls hl => ?_)
    refine lv_goto (tgt := 859) hx hb dL_law_584 (by decide) ?_
    exact kk σ_3 u_w_4.2 u_3 Z _ _ _ H locs ls hq_3 (by omega) (by omega) (by omega) hP hD hS (lv_sub hl [2, 3, 4, 5, 6, 7, 8, 9, 1, 0] rfl)

set_option maxHeartbeats 8000000 in
set_option maxRecDepth 100000 in
theorem lt_put {p : Program} {l : Launch} {e : Env} {s : State} {m : MethodId} {below : List Frame} {meth : Method} {c : Code} {b0 L : Nat} {xs : Nat → Int32} {G : cG} {sa a q : Nat → Nat} (C9 : lwT p l s m c b0 L xs G sa) {Z : Nat} {ν δ κ : Nat → Nat} {σ ρ τ : cS} (hR : Rq Z ν δ κ σ τ) {n o c₀ A t : Nat} (hn0 : n < 64) (hdn : δ n < 10) (ho0 : o < 64) (hc0 : c₀ < 6) (hZ9 : Z + 1 < 1000) {H : Heap} {locs : List Loc} {cells slots : Nat} (hc9 : cells + 20 ≤ 600130) (hs9 : slots + 120 ≤ 7301080) (hP : pG G (wW G a q σ ρ τ) H) (hD : va_D (AW s) (wW G a q σ ρ τ)) (hS : va_S (AW s) s.heap H locs) {ls : Array Slot} (hl : lv_has ls 20 [(0, .ref b0), (1, .ref (a 0)), (2, .ref (q 0)), (3, .ref (q 1)), (4, .ref (q 2)), (5, .ref (q 3)), (6, .ref (q 4)), (8, .int (nI t)), (10, .int (nI A)), (11, .int (nI n)), (12, .int (nI o)), (13, .int (nI c₀)), (14, .int (bI (alv (σ 0) (nI n)))), (15, .int (-3)), (16, .int 0)])
    (kk : ∀ (σ' ρ' τ' : cS) (Z' : Nat) (v : Int32) (cc sc : Nat) (H : Heap) (locs : List Loc) (ls : Array Slot), Rq Z' ν δ κ σ' τ' → Z' ≤ Z + 1 → cc ≤ cells + 20 → sc ≤ slots + 120 → pG G (wW G a q σ' ρ' τ') H → va_D (AW s) (wW G a q σ' ρ' τ') → va_S (AW s) s.heap H locs → lv_has ls 20 [(0, .ref b0), (1, .ref (a 0)), (2, .ref (q 0)), (3, .ref (q 1)), (4, .ref (q 2)), (5, .ref (q 3)), (6, .ref (q 4)), (8, .int (nI t)), (15, .int v), (16, .int v)] → W p l e room_1 s m #[Value.ref b0] below meth c H locs cc sc (lw_Z below #[Value.ref b0] s) (F0 m 859 ls [])) : W p l e room_1 s m #[Value.ref b0] below meth c H locs cells slots (lw_Z below #[Value.ref b0] s) (F0 m 594 ls []) := by
  obtain ⟨S, hl9, hXs, hbl, hK, hX, hL9⟩ := C9
  obtain ⟨hx, hb, hml, hown, hts⟩ := id S
  have hA : ∀ q : Nat, s.heap.size ≤ q → AW s q := fun _ h => h
  have tk9 : κ c₀ < 64 := Rq.ka hR hc0
  obtain ⟨z, hz, ez, wz⟩ := rq_26 hR
  refine lv_iload hx hb dL_law_594 (lv_at hl 12 rfl) ?_
  refine co_ifeq (tgt := 620) S dL_law_596 (by decide) (fun c_1 => ?_) (fun c_1 => ?_)
  · refine lv_iconst (v := (-1)) hx hb dL_law_620 (by decide) ?_
    refine lv_istore (lv' := [(17, .int (-1)), (0, .ref b0), (1, .ref (a 0)), (2, .ref (q 0)), (3, .ref (q 1)), (4, .ref (q 2)), (5, .ref (q 3)), (6, .ref (q 4)), (8, .int (nI t)), (10, .int (nI A)), (11, .int (nI n)), (12, .int (nI o)), (13, .int (nI c₀)), (14, .int (bI (alv (σ 0) (nI n)))), (15, .int (-3)), (16, .int 0)]) hx hb dL_law_621 hl (by decide) rfl (fun ls hl => ?_)
    refine lv_iload hx hb dL_law_623 (lv_at hl 0 rfl) ?_
    refine lv_if_ge (tgt := 633) hx hb dL_law_625 (by decide) (fun c_2 => ?_) (fun c_2 => ?_)
    · exact absurd c_2 (by decide)
    · refine lv_bipush (v := (-3)) hx hb dL_law_628 (by decide) ?_
      refine lv_goto (tgt := 635) hx hb dL_law_630 (by decide) ?_
      refine lv_istore (lv' := [(15, .int (-3)), (17, .int (-1)), (0, .ref b0), (1, .ref (a 0)), (2, .ref (q 0)), (3, .ref (q 1)), (4, .ref (q 2)), (5, .ref (q 3)), (6, .ref (q 4)), (8, .int (nI t)), (10, .int (nI A)), (11, .int (nI n)), (12, .int (nI o)), (13, .int (nI c₀)), (14, .int (bI (alv (σ 0) (nI n)))), (16, .int 0)]) hx hb dL_law_635 hl (by decide) rfl (fun ls hl => ?_)
      refine lv_iload hx hb dL_law_637 (lv_at hl 1 rfl) ?_
      refine lv_if_lt (tgt := 682) hx hb dL_law_639 (by decide) (fun c_3 => ?_) (fun c_3 => ?_)
      · refine lv_aload_n hx hb dL_law_682 rfl (lv_at hl 3 rfl) ?_
        refine lv_bipush (v := 8) hx hb dL_law_683 (by decide) ?_
        refine lv_iload hx hb dL_law_685 (lv_at hl 11 rfl) ?_
        refine lv_aload_n hx hb dL_law_687 rfl (lv_at hl 5 rfl) ?_
        refine lv_bipush (v := 20) hx hb dL_law_688 (by decide) ?_
        refine lv_iload hx hb dL_law_690 (lv_at hl 13 rfl) ?_
        refine lv_iadd hx hb dL_law_692 ?_
        refine co_eq (show (20 : Int32) + (nI c₀) = (nI (20 + c₀)) from nI_add 20 c₀) ?_
        refine va_iald hx hb hK hP 20 0 rfl rfl (vp_in_nI (n := (20 + c₀)) (N := 27) (by omega) (by decide)) dL_law_693 ?_
        refine co_eq (rq_k hR hc0) ?_
        refine lv_iload hx hb dL_law_694 (lv_at hl 1 rfl) ?_
        refine lv_if_lt (tgt := 706) hx hb dL_law_696 (by decide) (fun c_4 => ?_) (fun c_4 => ?_)
        · refine lv_iconst (v := 0) hx hb dL_law_706 (by decide) ?_
          refine co_nSWS (wr := wQ G q τ) (w' := fun u : cS × cS => wW G a q u.1 u.2 τ) (As := [.ref (a 0), .int 8, .int (nI n), .int (nI (κ c₀)), .int 0]) (rest := []) [0, 1, 2, 3, 4, 5, 6, 7, 8, 9, 10, 11, 12, 13, 14, 15, 16, 17, 18] [19, 20, 21, 22, 23] [5, 6, 7, 8, 9, 10, 11, 12, 13, 14, 15, 16, 17, 18, 19, 20, 21, 22, 23, 0, 1, 2, 3, 4] S (c_L_calls8 l hl9 G sa a σ ρ (nI n) (nI (κ c₀)) 0 (fun z => absurd (z.symm.trans (cdW2 hn0 tk9 (v := 0) (by decide) c_1)) (by decide))) (vx_cwSW 5 hts gL_law_L_calls rfl rfl rfl (by decide +kernel) ⟨(Nat.le_of_ble_eq_true rfl), (Nat.le_of_ble_eq_true rfl)⟩) hK hP hD hS hA hX rfl rfl (by decide) (by decide) (by decide) (by decide) (fun _ => rfl) rfl hl.1 rfl (Nat.le_of_ble_eq_true rfl) dL_law_707 ⟨by show cells + 4 ≤ 600130; omega, by show slots + 24 ≤ 7301080; omega⟩ (fun r_w_5 u_w_5 H locs hp_w_5 hP hD hS => ?_)
          obtain ⟨e1_w_5, e2_w_5⟩ := pC_2 hp_w_5 (cdW2 hn0 tk9 (v := 0) (by decide) c_1)
          have e3_w_5 : u_w_5.1 = σ := e2_w_5
          have hP : pG G (wW G a q σ u_w_5.2 τ) H := (by rw [← e3_w_5]; exact hP)
          have hD : va_D (AW s) (wW G a q σ u_w_5.2 τ) := (by rw [← e3_w_5]; exact hD)
          refine co_eq (e1_w_5) ?_
          refine lv_istore (lv' := [(16, .int (-3)), (15, .int (-3)), (17, .int (-1)), (0, .ref b0), (1, .ref (a 0)), (2, .ref (q 0)), (3, .ref (q 1)), (4, .ref (q 2)), (5, .ref (q 3)), (6, .ref (q 4)), (8, .int (nI t)), (10, .int (nI A)), (11, .int (nI n)), (12, .int (nI o)), (13, .int (nI c₀)), (14, .int (bI (alv (σ 0) (nI n))))]) hx hb dL_law_710 hl (by decide) rfl (fun ls hl => ?_)
          refine lv_goto (tgt := 859) hx hb dL_law_712 (by decide) ?_
          exact kk σ u_w_5.2 τ Z _ _ _ H locs ls hR (by omega) (by omega) (by omega) hP hD hS (lv_sub hl [3, 4, 5, 6, 7, 8, 9, 10, 1, 0] rfl)
        · exact absurd (by decide) c_4
      · exact absurd (by decide) c_3
  · refine lv_iload hx hb dL_law_599 (lv_at hl 9 rfl) ?_
    refine lv_aload_n hx hb dL_law_601 rfl (lv_at hl 3 rfl) ?_
    refine lv_bipush (v := 20) hx hb dL_law_602 (by decide) ?_
    refine lv_iload hx hb dL_law_604 (lv_at hl 11 rfl) ?_
    refine lv_iadd hx hb dL_law_606 ?_
    refine co_eq (show (20 : Int32) + (nI c₀) = (nI (20 + c₀)) from nI_add 20 c₀) ?_
    refine va_iald hx hb hK hP 20 0 rfl rfl (vp_in_nI (n := (20 + c₀)) (N := 27) (by omega) (by decide)) dL_law_607 ?_
    refine co_eq (rq_k hR hc0) ?_
    refine lv_aload_n hx hb dL_law_608 rfl (lv_at hl 2 rfl) ?_
    refine lv_aload_n hx hb dL_law_609 rfl (lv_at hl 3 rfl) ?_
    refine lv_aload hx hb dL_law_610 (lv_at hl 4 rfl) ?_
    refine lv_aload hx hb dL_law_612 (lv_at hl 5 rfl) ?_
    obtain ⟨j_6, ej_6, lj_6⟩ := Rq.fn hR ⟨hn0, c_1⟩ tk9
    have tj_6 : j_6 < 64 := lj_6.1
    refine co_rS (As := [.int (nI n), .int (nI (κ c₀)), .ref (q 0), .ref (q 1), .ref (q 2), .ref (q 3)]) (rest := []) S (c_L_found l G Z q ν δ κ σ τ hR n (κ c₀) ⟨hn0, c_1⟩ tk9) (va_cwS 6 hts gL_law_L_found rfl rfl rfl (by decide +kernel) ⟨Nat.le_of_ble_eq_true rfl, Nat.le_of_ble_eq_true rfl⟩) hK (pG_perm hP [19, 20, 21, 22, 23] rfl) rfl hl.1 rfl (Nat.le_of_ble_eq_true rfl) dL_law_614 ⟨by show cells + 0 ≤ 600130; omega, by show slots + 0 ≤ 7301080; omega⟩ ?_
    refine co_eq ej_6 ?_
    refine lv_goto (tgt := 621) hx hb dL_law_617 (by decide) ?_
    refine lv_istore (lv' := [(17, .int (nI j_6)), (0, .ref b0), (1, .ref (a 0)), (2, .ref (q 0)), (3, .ref (q 1)), (4, .ref (q 2)), (5, .ref (q 3)), (6, .ref (q 4)), (8, .int (nI t)), (10, .int (nI A)), (11, .int (nI n)), (12, .int (nI o)), (13, .int (nI c₀)), (14, .int (bI (alv (σ 0) (nI n)))), (15, .int (-3)), (16, .int 0)]) hx hb dL_law_621 hl (by decide) rfl (fun ls hl => ?_)
    refine lv_iload hx hb dL_law_623 (lv_at hl 0 rfl) ?_
    refine lv_if_ge (tgt := 633) hx hb dL_law_625 (by decide) (fun c_7 => ?_) (fun c_7 => ?_)
    · refine lv_iload hx hb dL_law_633 (lv_at hl 0 rfl) ?_
      refine lv_istore (lv' := [(15, .int (nI j_6)), (17, .int (nI j_6)), (0, .ref b0), (1, .ref (a 0)), (2, .ref (q 0)), (3, .ref (q 1)), (4, .ref (q 2)), (5, .ref (q 3)), (6, .ref (q 4)), (8, .int (nI t)), (10, .int (nI A)), (11, .int (nI n)), (12, .int (nI o)), (13, .int (nI c₀)), (14, .int (bI (alv (σ 0) (nI n)))), (16, .int 0)]) hx hb dL_law_635 hl (by decide) rfl (fun ls hl => ?_)
      refine lv_iload hx hb dL_law_637 (lv_at hl 1 rfl) ?_
      refine lv_if_lt (tgt := 682) hx hb dL_law_639 (by decide) (fun c_8 => ?_) (fun c_8 => ?_)
      · exact absurd c_8 (nI_pos (by omega))
      · refine lv_aload_n hx hb dL_law_642 rfl (lv_at hl 5 rfl) ?_
        refine lv_bipush (v := 26) hx hb dL_law_643 (by decide) ?_
        refine lv_dup2_11 hx hb dL_law_645 rfl rfl ?_
        refine va_iald hx hb hK hP 20 0 rfl rfl (vp_in_nI (n := 26) (N := 27) (by omega) (by decide)) dL_law_646 ?_
        refine co_eq (show τ 1 (26 : Int32).toNatClampNeg = nI z by rw [cl26]; exact wz) ?_
        refine lv_iconst (v := 1) hx hb dL_law_647 (by decide) ?_
        refine lv_iadd hx hb dL_law_648 ?_
        refine co_eq (show (nI z) + (1 : Int32) = (nI (z + 1)) from nI_add z 1) ?_
        refine va_iast hx hb hK hP hD hS 20 0 (f := (τ 1)) rfl rfl (vp_in_nI (n := 26) (N := 27) (by omega) (by decide)) dL_law_649 (fun H locs hP hD hS => ?_)
        obtain ⟨f_9, ef_9⟩ : ∃ z9, z9 = (upd (τ 1) (26 : Int32).toNatClampNeg (nI (z + 1))) := ⟨_, rfl⟩
        rw [← ef_9] at hP hD
        have hP : pG G (wW G a q σ ρ (va_up τ 1 f_9)) H := hP
        have hD : va_D (AW s) (wW G a q σ ρ (va_up τ 1 f_9)) := hD
        refine lv_aload hx hb dL_law_650 (lv_at hl 8 rfl) ?_
        refine lv_bipush (v := 6) hx hb dL_law_652 (by decide) ?_
        refine lv_aload_n hx hb dL_law_654 rfl (lv_at hl 4 rfl) ?_
        refine lv_iload hx hb dL_law_655 (lv_at hl 1 rfl) ?_
        refine va_iald hx hb hK hP 19 0 rfl rfl (vp_in_nI (n := j_6) (N := 64) (by omega) (by decide)) dL_law_657 ?_
        have d9n_10 : δ j_6 < 10 := Rq.d9 hR lj_6
        refine co_eq (show (τ 0) (nI j_6).toNatClampNeg = (nI (δ j_6)) from (rq_d hR tj_6 d9n_10)) ?_
        refine lv_imul hx hb dL_law_658 ?_
        refine co_eq (show (6 : Int32) * (nI (δ j_6)) = (nI (6 * (δ j_6))) from pk_mul 6 (δ j_6)) ?_
        refine lv_iload hx hb dL_law_659 (lv_at hl 13 rfl) ?_
        refine lv_iadd hx hb dL_law_661 ?_
        refine co_eq (show (nI (6 * (δ j_6))) + (nI c₀) = (nI ((6 * (δ j_6)) + c₀)) from nI_add (6 * (δ j_6)) c₀) ?_
        refine lv_aload_n hx hb dL_law_662 rfl (lv_at hl 5 rfl) ?_
        refine lv_bipush (v := 26) hx hb dL_law_663 (by decide) ?_
        refine va_iald hx hb hK hP 20 0 rfl rfl (vp_in_nI (n := 26) (N := 27) (by omega) (by decide)) dL_law_665 ?_
        refine co_eq (show f_9 (26 : Int32).toNatClampNeg = nI (z + 1) by rw [ef_9]; exact pk_us) ?_
        refine va_iast hx hb hK hP hD hS 23 0 (f := (τ 4)) rfl rfl (vp_in_nI (n := ((6 * (δ j_6)) + c₀)) (N := 60) (by omega) (by decide)) dL_law_666 (fun H locs hP hD hS => ?_)
        obtain ⟨f_11, ef_11⟩ : ∃ z9, z9 = (upd (τ 4) (nI ((6 * (δ j_6)) + c₀)).toNatClampNeg (nI (z + 1))) := ⟨_, rfl⟩
        rw [← ef_11] at hP hD
        have hP : pG G (wW G a q σ ρ (va_up (va_up τ 1 f_9) 4 f_11)) H := hP
        have hD : va_D (AW s) (wW G a q σ ρ (va_up (va_up τ 1 f_9) 4 f_11)) := hD
        obtain ⟨σp, ep⟩ : ∃ z9, z9 = puA σ (nI j_6) (nI (κ c₀)) (nI (z + 1)) := ⟨_, rfl⟩
        have hRp : Rq (Z + 1) ν δ κ σp (va_up (va_up τ 1 f_9) 4 f_11) := (by rw [ep, ef_11, ef_9, cl26]; exact rq_put hR lj_6 hc0 hz hZ9 ez rfl)
        have kp0 : σp 0 = σ 0 := (by rw [ep]; rfl)
        refine lv_iload hx hb dL_law_667 (lv_at hl 1 rfl) ?_
        refine lv_iload hx hb dL_law_669 (lv_at hl 13 rfl) ?_
        refine lv_aload_n hx hb dL_law_671 rfl (lv_at hl 4 rfl) ?_
        refine lv_aload_n hx hb dL_law_672 rfl (lv_at hl 5 rfl) ?_
        refine lv_aload hx hb dL_law_673 (lv_at hl 6 rfl) ?_
        refine lv_aload hx hb dL_law_675 (lv_at hl 8 rfl) ?_
        refine co_mSiS (As := [.int (nI j_6), .int (nI c₀), .ref (q 0), .ref (q 1), .ref (q 2), .ref (q 4)]) (rest := []) (wr := wO G a σ ρ) (w' := (fun u : cS => wW G a q σ ρ u)) [19, 20, 21, 22, 23] [0, 1, 2, 3, 4, 5, 6, 7, 8, 9, 10, 11, 12, 13, 14, 15, 16, 17, 18] [0, 1, 2, 3, 4, 5, 6, 7, 8, 9, 10, 11, 12, 13, 14, 15, 16, 17, 18, 19, 20, 21, 22, 23] S (c_L_spread l G (Z + 1) q ν δ κ σp (va_up (va_up τ 1 f_9) 4 f_11) hRp j_6 c₀ (Lv.tr kp0 lj_6) hc0) (va_cwS 6 hts gL_law_L_spread rfl rfl rfl (by decide +kernel) ⟨Nat.le_of_ble_eq_true rfl, Nat.le_of_ble_eq_true rfl⟩) hK hP hD hS hA rfl rfl (by decide) (by decide) (by decide) (by decide) (fun _ => rfl) rfl hl.1 rfl (Nat.le_of_ble_eq_true rfl) dL_law_677 ⟨by show cells + 0 ≤ 600130; omega, by show slots + 0 ≤ 7301080; omega⟩ (fun r_12 u_12 H locs hu_12 hP hD hS => ?_)
        obtain ⟨hr_12, hq_12⟩ := hu_12
        have hr_12 : r_12 = (chC σp (nI j_6) (nI (κ c₀))) := hr_12
        obtain ⟨σ_12, eσ_12⟩ : ∃ z9, z9 = (chS σp (nI j_6) (nI (κ c₀))) := ⟨_, rfl⟩
        have hq_12 : Rq (Z + 1) ν δ κ σ_12 u_12 := (by rw [eσ_12]; exact hq_12)
        have hc0_12 : σ_12 0 = (σ 0) := (by rw [eσ_12]; exact (chS_0).trans kp0)
        have hP : pG G (wW G a q σ ρ u_12) H := hP
        have hD : va_D (AW s) (wW G a q σ ρ u_12) := hD
        refine lv_istore (lv' := [(18, .int r_12), (15, .int (nI j_6)), (17, .int (nI j_6)), (0, .ref b0), (1, .ref (a 0)), (2, .ref (q 0)), (3, .ref (q 1)), (4, .ref (q 2)), (5, .ref (q 3)), (6, .ref (q 4)), (8, .int (nI t)), (10, .int (nI A)), (11, .int (nI n)), (12, .int (nI o)), (13, .int (nI c₀)), (14, .int (bI (alv (σ 0) (nI n)))), (16, .int 0)]) hx hb dL_law_680 hl (by decide) rfl (fun ls hl => ?_)
        refine lv_aload_n hx hb dL_law_682 rfl (lv_at hl 4 rfl) ?_
        refine lv_bipush (v := 8) hx hb dL_law_683 (by decide) ?_
        refine lv_iload hx hb dL_law_685 (lv_at hl 12 rfl) ?_
        refine lv_aload_n hx hb dL_law_687 rfl (lv_at hl 6 rfl) ?_
        refine lv_bipush (v := 20) hx hb dL_law_688 (by decide) ?_
        refine lv_iload hx hb dL_law_690 (lv_at hl 14 rfl) ?_
        refine lv_iadd hx hb dL_law_692 ?_
        refine co_eq (show (20 : Int32) + (nI c₀) = (nI (20 + c₀)) from nI_add 20 c₀) ?_
        refine va_iald hx hb hK hP 20 0 rfl rfl (vp_in_nI (n := (20 + c₀)) (N := 27) (by omega) (by decide)) dL_law_693 ?_
        refine co_eq (rq_k hq_12 hc0) ?_
        refine lv_iload hx hb dL_law_694 (lv_at hl 2 rfl) ?_
        refine lv_if_lt (tgt := 706) hx hb dL_law_696 (by decide) (fun c_13 => ?_) (fun c_13 => ?_)
        · exact absurd c_13 (nI_pos (by omega))
        · refine lv_aload_n hx hb dL_law_699 rfl (lv_at hl 6 rfl) ?_
          refine lv_bipush (v := 26) hx hb dL_law_700 (by decide) ?_
          refine va_iald hx hb hK hP 20 0 rfl rfl (vp_in_nI (n := 26) (N := 27) (by omega) (by decide)) dL_law_702 ?_
          refine co_eq (pu_26 hq_12 ep eσ_12 ez) ?_
          refine lv_goto (tgt := 707) hx hb dL_law_703 (by decide) ?_
          refine co_nSWS (wr := wQ G q u_12) (w' := fun u : cS × cS => wW G a q u.1 u.2 u_12) (As := [.ref (a 0), .int 8, .int (nI n), .int (nI (κ c₀)), .int (nI (z + 1))]) (rest := []) [0, 1, 2, 3, 4, 5, 6, 7, 8, 9, 10, 11, 12, 13, 14, 15, 16, 17, 18] [19, 20, 21, 22, 23] [5, 6, 7, 8, 9, 10, 11, 12, 13, 14, 15, 16, 17, 18, 19, 20, 21, 22, 23, 0, 1, 2, 3, 4] S (c_L_calls8 l hl9 G sa a σ ρ (nI n) (nI (κ c₀)) (nI (z + 1)) (fun z => absurd (z.symm.trans (cdW0 (⟨hn0, c_1⟩ : Lv σ n) tk9 (by omega))) (by decide))) (vx_cwSW 5 hts gL_law_L_calls rfl rfl rfl (by decide +kernel) ⟨(Nat.le_of_ble_eq_true rfl), (Nat.le_of_ble_eq_true rfl)⟩) hK hP hD hS hA hX rfl rfl (by decide) (by decide) (by decide) (by decide) (fun _ => rfl) rfl hl.1 rfl (Nat.le_of_ble_eq_true rfl) dL_law_707 ⟨by show cells + 4 ≤ 600130; omega, by show slots + 24 ≤ 7301080; omega⟩ (fun r_w_14 u_w_14 H locs hp_w_14 hP hD hS => ?_)
          obtain ⟨e1_w_14, e2_w_14⟩ := pC_0 hp_w_14 (cdW0 (⟨hn0, c_1⟩ : Lv σ n) tk9 (by omega))
          have e3_w_14 : u_w_14.1 = σ_12 := e2_w_14.trans (by rw [eσ_12, ep, puS, ej_6])
          have hP : pG G (wW G a q σ_12 u_w_14.2 u_12) H := (by rw [← e3_w_14]; exact hP)
          have hD : va_D (AW s) (wW G a q σ_12 u_w_14.2 u_12) := (by rw [← e3_w_14]; exact hD)
          refine co_eq (e1_w_14.trans (ej_6)) ?_
          refine lv_istore (lv' := [(16, .int (nI j_6)), (18, .int r_12), (15, .int (nI j_6)), (17, .int (nI j_6)), (0, .ref b0), (1, .ref (a 0)), (2, .ref (q 0)), (3, .ref (q 1)), (4, .ref (q 2)), (5, .ref (q 3)), (6, .ref (q 4)), (8, .int (nI t)), (10, .int (nI A)), (11, .int (nI n)), (12, .int (nI o)), (13, .int (nI c₀)), (14, .int (bI (alv (σ 0) (nI n))))]) hx hb dL_law_710 hl (by decide) rfl (fun ls hl => ?_)
          refine lv_goto (tgt := 859) hx hb dL_law_712 (by decide) ?_
          exact kk σ_12 u_w_14.2 u_12 (Z + 1) _ _ _ H locs ls hq_12 (by omega) (by omega) (by omega) hP hD hS (lv_sub hl [4, 5, 6, 7, 8, 9, 10, 11, 2, 0] rfl)
    · exact absurd (nI_pos' (by omega)) c_7

set_option maxHeartbeats 8000000 in
set_option maxRecDepth 100000 in
theorem lt_look {p : Program} {l : Launch} {e : Env} {s : State} {m : MethodId} {below : List Frame} {meth : Method} {c : Code} {b0 L : Nat} {xs : Nat → Int32} {G : cG} {sa a q : Nat → Nat} (C9 : lwT p l s m c b0 L xs G sa) {Z : Nat} {ν δ κ : Nat → Nat} {σ ρ τ : cS} (hR : Rq Z ν δ κ σ τ) {n o c₀ A t : Nat} (hn0 : n < 64) (hdn : δ n < 10) (ho0 : o < 64) (hc0 : c₀ < 6) (hZ9 : Z + 1 < 1000) {H : Heap} {locs : List Loc} {cells slots : Nat} (hc9 : cells + 20 ≤ 600130) (hs9 : slots + 120 ≤ 7301080) (hP : pG G (wW G a q σ ρ τ) H) (hD : va_D (AW s) (wW G a q σ ρ τ)) (hS : va_S (AW s) s.heap H locs) {ls : Array Slot} (hl : lv_has ls 20 [(0, .ref b0), (1, .ref (a 0)), (2, .ref (q 0)), (3, .ref (q 1)), (4, .ref (q 2)), (5, .ref (q 3)), (6, .ref (q 4)), (8, .int (nI t)), (10, .int (nI A)), (11, .int (nI n)), (12, .int (nI o)), (13, .int (nI c₀)), (14, .int (bI (alv (σ 0) (nI n)))), (15, .int (-3)), (16, .int 0)])
    (kk : ∀ (σ' ρ' τ' : cS) (Z' : Nat) (v : Int32) (cc sc : Nat) (H : Heap) (locs : List Loc) (ls : Array Slot), Rq Z' ν δ κ σ' τ' → Z' ≤ Z + 1 → cc ≤ cells + 20 → sc ≤ slots + 120 → pG G (wW G a q σ' ρ' τ') H → va_D (AW s) (wW G a q σ' ρ' τ') → va_S (AW s) s.heap H locs → lv_has ls 20 [(0, .ref b0), (1, .ref (a 0)), (2, .ref (q 0)), (3, .ref (q 1)), (4, .ref (q 2)), (5, .ref (q 3)), (6, .ref (q 4)), (8, .int (nI t)), (15, .int v), (16, .int v)] → W p l e room_1 s m #[Value.ref b0] below meth c H locs cc sc (lw_Z below #[Value.ref b0] s) (F0 m 859 ls [])) : W p l e room_1 s m #[Value.ref b0] below meth c H locs cells slots (lw_Z below #[Value.ref b0] s) (F0 m 802 ls []) := by
  obtain ⟨S, hl9, hXs, hbl, hK, hX, hL9⟩ := C9
  obtain ⟨hx, hb, hml, hown, hts⟩ := id S
  have hA : ∀ q : Nat, s.heap.size ≤ q → AW s q := fun _ h => h
  have tk9 : κ c₀ < 64 := Rq.ka hR hc0
  refine lv_iload hx hb dL_law_802 (lv_at hl 12 rfl) ?_
  refine co_ifeq (tgt := 811) S dL_law_804 (by decide) (fun c_1 => ?_) (fun c_1 => ?_)
  · refine lv_bipush (v := (-3)) hx hb dL_law_811 (by decide) ?_
    refine lv_istore (lv' := [(15, .int (-3)), (0, .ref b0), (1, .ref (a 0)), (2, .ref (q 0)), (3, .ref (q 1)), (4, .ref (q 2)), (5, .ref (q 3)), (6, .ref (q 4)), (8, .int (nI t)), (10, .int (nI A)), (11, .int (nI n)), (12, .int (nI o)), (13, .int (nI c₀)), (14, .int (bI (alv (σ 0) (nI n)))), (16, .int 0)]) hx hb dL_law_813 hl (by decide) rfl (fun ls hl => ?_)
    refine lv_iload hx hb dL_law_815 (lv_at hl 13 rfl) ?_
    refine co_ifne (tgt := 833) S dL_law_817 (by decide) (fun c_2 => ?_) (fun c_2 => ?_)
    · exact absurd (c_2.symm.trans c_1) (by decide)
    · refine lv_aload_n hx hb dL_law_820 rfl (lv_at hl 2 rfl) ?_
      refine lv_bipush (v := 8) hx hb dL_law_821 (by decide) ?_
      refine lv_iload hx hb dL_law_823 (lv_at hl 10 rfl) ?_
      refine lv_iconst (v := 0) hx hb dL_law_825 (by decide) ?_
      refine lv_iconst (v := 0) hx hb dL_law_826 (by decide) ?_
      refine co_nSWS (wr := wQ G q τ) (w' := fun u : cS × cS => wW G a q u.1 u.2 τ) (As := [.ref (a 0), .int 8, .int (nI n), .int 0, .int 0]) (rest := []) [0, 1, 2, 3, 4, 5, 6, 7, 8, 9, 10, 11, 12, 13, 14, 15, 16, 17, 18] [19, 20, 21, 22, 23] [5, 6, 7, 8, 9, 10, 11, 12, 13, 14, 15, 16, 17, 18, 19, 20, 21, 22, 23, 0, 1, 2, 3, 4] S (c_L_calls8 l hl9 G sa a σ ρ (nI n) 0 0 (fun z => absurd (z.symm.trans (cdW2 hn0 (k := 0) (by decide) (v := 0) (by decide) c_2)) (by decide))) (vx_cwSW 5 hts gL_law_L_calls rfl rfl rfl (by decide +kernel) ⟨(Nat.le_of_ble_eq_true rfl), (Nat.le_of_ble_eq_true rfl)⟩) hK hP hD hS hA hX rfl rfl (by decide) (by decide) (by decide) (by decide) (fun _ => rfl) rfl hl.1 rfl (Nat.le_of_ble_eq_true rfl) dL_law_827 ⟨by show cells + 4 ≤ 600130; omega, by show slots + 24 ≤ 7301080; omega⟩ (fun r_w_3 u_w_3 H locs hp_w_3 hP hD hS => ?_)
      obtain ⟨e1_w_3, e2_w_3⟩ := pC_2 hp_w_3 (cdW2 hn0 (k := 0) (by decide) (v := 0) (by decide) c_2)
      have e3_w_3 : u_w_3.1 = σ := e2_w_3
      have hP : pG G (wW G a q σ u_w_3.2 τ) H := (by rw [← e3_w_3]; exact hP)
      have hD : va_D (AW s) (wW G a q σ u_w_3.2 τ) := (by rw [← e3_w_3]; exact hD)
      refine co_eq (e1_w_3) ?_
      refine lv_goto (tgt := 857) hx hb dL_law_830 (by decide) ?_
      refine lv_istore (lv' := [(16, .int (-3)), (15, .int (-3)), (0, .ref b0), (1, .ref (a 0)), (2, .ref (q 0)), (3, .ref (q 1)), (4, .ref (q 2)), (5, .ref (q 3)), (6, .ref (q 4)), (8, .int (nI t)), (10, .int (nI A)), (11, .int (nI n)), (12, .int (nI o)), (13, .int (nI c₀)), (14, .int (bI (alv (σ 0) (nI n))))]) hx hb dL_law_857 hl (by decide) rfl (fun ls hl => ?_)
      exact kk σ u_w_3.2 τ Z _ _ _ H locs ls hR (by omega) (by omega) (by omega) hP hD hS (lv_sub hl [2, 3, 4, 5, 6, 7, 8, 9, 1, 0] rfl)
  · refine lv_iconst (v := 1) hx hb dL_law_807 (by decide) ?_
    refine lv_goto (tgt := 813) hx hb dL_law_808 (by decide) ?_
    refine lv_istore (lv' := [(15, .int 1), (0, .ref b0), (1, .ref (a 0)), (2, .ref (q 0)), (3, .ref (q 1)), (4, .ref (q 2)), (5, .ref (q 3)), (6, .ref (q 4)), (8, .int (nI t)), (10, .int (nI A)), (11, .int (nI n)), (12, .int (nI o)), (13, .int (nI c₀)), (14, .int (bI (alv (σ 0) (nI n)))), (16, .int 0)]) hx hb dL_law_813 hl (by decide) rfl (fun ls hl => ?_)
    refine lv_iload hx hb dL_law_815 (lv_at hl 13 rfl) ?_
    refine co_ifne (tgt := 833) S dL_law_817 (by decide) (fun c_4 => ?_) (fun c_4 => ?_)
    · refine lv_aload_n hx hb dL_law_833 rfl (lv_at hl 2 rfl) ?_
      refine lv_iload hx hb dL_law_834 (lv_at hl 10 rfl) ?_
      refine lv_iload hx hb dL_law_836 (lv_at hl 12 rfl) ?_
      refine lv_aload_n hx hb dL_law_838 rfl (lv_at hl 3 rfl) ?_
      refine lv_aload_n hx hb dL_law_839 rfl (lv_at hl 4 rfl) ?_
      refine lv_aload hx hb dL_law_840 (lv_at hl 5 rfl) ?_
      refine lv_aload hx hb dL_law_842 (lv_at hl 6 rfl) ?_
      refine lv_aload hx hb dL_law_844 (lv_at hl 7 rfl) ?_
      refine co_nS (As := [.ref (a 0), .int (nI n), .int (nI c₀), .ref (q 0), .ref (q 1), .ref (q 2), .ref (q 3), .ref (q 4)]) (rest := []) S (c_L_looks l hl9 G sa a q σ ρ τ Z ν δ κ hR n c₀ ⟨hn0, c_1⟩ hc0) (va_cwS 8 hts gL_law_L_looks rfl rfl rfl (by decide +kernel) ⟨(Nat.le_of_ble_eq_true rfl), (Nat.le_of_ble_eq_true rfl)⟩) hK hP hD hS hA hX rfl hl.1 rfl (Nat.le_of_ble_eq_true rfl) dL_law_846 ⟨by show cells + 20 ≤ 600130; omega, by show slots + 120 ≤ 7301080; omega⟩ (fun r_w_5 ρ_w_5 H locs hr_w_5 hP hD hS => ?_)
      refine co_eq (show r_w_5 = 1 from hr_w_5) ?_
      refine lv_if_eq (tgt := 856) hx hb dL_law_849 (by decide) (fun c_6 => ?_) (fun c_6 => ?_)
      · exact absurd c_6 (by decide)
      · refine lv_iconst (v := 1) hx hb dL_law_852 (by decide) ?_
        refine lv_goto (tgt := 857) hx hb dL_law_853 (by decide) ?_
        refine lv_istore (lv' := [(16, .int 1), (15, .int 1), (0, .ref b0), (1, .ref (a 0)), (2, .ref (q 0)), (3, .ref (q 1)), (4, .ref (q 2)), (5, .ref (q 3)), (6, .ref (q 4)), (8, .int (nI t)), (10, .int (nI A)), (11, .int (nI n)), (12, .int (nI o)), (13, .int (nI c₀)), (14, .int (bI (alv (σ 0) (nI n))))]) hx hb dL_law_857 hl (by decide) rfl (fun ls hl => ?_)
        exact kk σ ρ_w_5 τ Z _ _ _ H locs ls hR (by omega) (by omega) (by omega) hP hD hS (lv_sub hl [2, 3, 4, 5, 6, 7, 8, 9, 1, 0] rfl)
    · exact absurd (c_4.symm.trans c_1) (by decide)

set_option maxHeartbeats 8000000 in
set_option maxRecDepth 100000 in
theorem lt_rounds {p : Program} {l : Launch} {e : Env} {s : State} {m : MethodId} {below : List Frame} {meth : Method} {c : Code} {b0 L : Nat} {xs : Nat → Int32} {G : cG} {sa a q : Nat → Nat} (C9 : lwT p l s m c b0 L xs G sa) {Z : Nat} {ν δ κ : Nat → Nat} {σ ρ τ : cS} (hR : Rq Z ν δ κ σ τ) {n o c₀ A t : Nat} (hn0 : n < 64) (hdn : δ n < 10) (ho0 : o < 64) (hc0 : c₀ < 6) (hZ9 : Z + 1 < 1000) {H : Heap} {locs : List Loc} {cells slots : Nat} (hc9 : cells + 20 ≤ 600130) (hs9 : slots + 120 ≤ 7301080) (hP : pG G (wW G a q σ ρ τ) H) (hD : va_D (AW s) (wW G a q σ ρ τ)) (hS : va_S (AW s) s.heap H locs) {ls : Array Slot} (hl : lv_has ls 20 [(0, .ref b0), (1, .ref (a 0)), (2, .ref (q 0)), (3, .ref (q 1)), (4, .ref (q 2)), (5, .ref (q 3)), (6, .ref (q 4)), (8, .int (nI t)), (10, .int (nI A)), (11, .int (nI n)), (12, .int (nI o)), (13, .int (nI c₀)), (14, .int (bI (alv (σ 0) (nI n)))), (15, .int (-3)), (16, .int 0)])
    (kk : ∀ (σ' ρ' τ' : cS) (Z' : Nat) (v : Int32) (cc sc : Nat) (H : Heap) (locs : List Loc) (ls : Array Slot), Rq Z' ν δ κ σ' τ' → Z' ≤ Z + 1 → cc ≤ cells + 20 → sc ≤ slots + 120 → pG G (wW G a q σ' ρ' τ') H → va_D (AW s) (wW G a q σ' ρ' τ') → va_S (AW s) s.heap H locs → lv_has ls 20 [(0, .ref b0), (1, .ref (a 0)), (2, .ref (q 0)), (3, .ref (q 1)), (4, .ref (q 2)), (5, .ref (q 3)), (6, .ref (q 4)), (8, .int (nI t)), (15, .int v), (16, .int v)] → W p l e room_1 s m #[Value.ref b0] below meth c H locs cc sc (lw_Z below #[Value.ref b0] s) (F0 m 859 ls [])) : W p l e room_1 s m #[Value.ref b0] below meth c H locs cells slots (lw_Z below #[Value.ref b0] s) (F0 m 722 ls []) := by
  obtain ⟨S, hl9, hXs, hbl, hK, hX, hL9⟩ := C9
  obtain ⟨hx, hb, hml, hown, hts⟩ := id S
  have hA : ∀ q : Nat, s.heap.size ≤ q → AW s q := fun _ h => h
  have tk9 : κ c₀ < 64 := Rq.ka hR hc0
  refine lv_iconst (v := 0) hx hb dL_law_722 (by decide) ?_
  refine lv_istore (lv' := [(17, .int 0), (0, .ref b0), (1, .ref (a 0)), (2, .ref (q 0)), (3, .ref (q 1)), (4, .ref (q 2)), (5, .ref (q 3)), (6, .ref (q 4)), (8, .int (nI t)), (10, .int (nI A)), (11, .int (nI n)), (12, .int (nI o)), (13, .int (nI c₀)), (14, .int (bI (alv (σ 0) (nI n)))), (15, .int (-3)), (16, .int 0)]) hx hb dL_law_723 hl (by decide) rfl (fun ls hl => ?_)
  have L1 : ∀ (d₁ : Nat) (k : Nat) (σ' τ' : cS), k + d₁ = 64 → Rq Z ν δ κ σ' τ' → σ' = lrS true σ k → ∀ (H : Heap) (locs : List Loc), pG G (wW G a q σ ρ τ') H → va_D (AW s) (wW G a q σ ρ τ') → va_S (AW s) s.heap H locs → ∀ ls : Array Slot, lv_has ls 20 [(0, .ref b0), (1, .ref (a 0)), (2, .ref (q 0)), (3, .ref (q 1)), (4, .ref (q 2)), (5, .ref (q 3)), (6, .ref (q 4)), (8, .int (nI t)), (17, .int (nI k))] → W p l e room_1 s m #[Value.ref b0] below meth c H locs (cells) (slots) (lw_Z below #[Value.ref b0] s) (F0 m 725 ls []) := by
    intro d₁
    induction d₁ with
    | zero =>
      intro k σ' τ' hk hR9 h9 H locs hP hD hS ls hl
      have rf9 : lrS true σ 64 = σ' := (by rw [h9, show k = 64 by omega])
      refine lv_iload hx hb dL_law_725 (lv_at hl 8 rfl) ?_
      refine lv_bipush (v := 64) hx hb dL_law_727 (by decide) ?_
      refine lv_icmp_ge (tgt := 781) hx hb dL_law_729 (by decide) (fun c_1 => ?_) (fun c_1 => ?_)
      · refine lv_aload_n hx hb dL_law_781 rfl (lv_at hl 2 rfl) ?_
        refine lv_aload_n hx hb dL_law_782 rfl (lv_at hl 3 rfl) ?_
        refine lv_aload hx hb dL_law_783 (lv_at hl 4 rfl) ?_
        refine lv_aload hx hb dL_law_785 (lv_at hl 5 rfl) ?_
        refine co_rS (As := [.ref (q 0), .ref (q 1), .ref (q 2), .ref (q 3)]) (rest := []) S (c_L_wrong l G Z q ν δ κ σ' τ' hR9) (va_cwS 4 hts gL_law_L_wrong rfl rfl rfl (by decide +kernel) ⟨Nat.le_of_ble_eq_true rfl, Nat.le_of_ble_eq_true rfl⟩) hK (pG_perm hP [19, 20, 21, 22, 23] rfl) rfl hl.1 rfl (Nat.le_of_ble_eq_true rfl) dL_law_787 ⟨by show cells + 0 ≤ 600130; omega, by show slots + 0 ≤ 7301080; omega⟩ ?_
        refine lv_istore (lv' := [(15, .int (cwp σ' 64)), (0, .ref b0), (1, .ref (a 0)), (2, .ref (q 0)), (3, .ref (q 1)), (4, .ref (q 2)), (5, .ref (q 3)), (6, .ref (q 4)), (8, .int (nI t)), (17, .int (nI k))]) hx hb dL_law_790 hl (by decide) rfl (fun ls hl => ?_)
        refine lv_aload_n hx hb dL_law_792 rfl (lv_at hl 2 rfl) ?_
        refine lv_iconst (v := 1) hx hb dL_law_793 (by decide) ?_
        refine co_xViS (wr := wQ G q τ') (w' := fun u : cS × cS => wW G a q u.1 u.2 τ') (As := [.int 1]) (rest := []) [0, 1, 2, 3, 4, 5, 6, 7, 8, 9, 10, 11, 12, 13, 14, 15, 16, 17, 18] [19, 20, 21, 22, 23] [5, 6, 7, 8, 9, 10, 11, 12, 13, 14, 15, 16, 17, 18, 19, 20, 21, 22, 23, 0, 1, 2, 3, 4] S (c_X2_goRounds l hl9 G sa a σ ρ 1) (cwV 1 hts gL_law_X2_goRounds rfl rfl rfl (by decide +kernel) ⟨(Nat.le_of_ble_eq_true rfl), (Nat.le_of_ble_eq_true rfl)⟩) hK hP hD hS hA hX rfl rfl (by decide) (by decide) (by decide) (by decide) (fun _ => rfl) (va_recv hK hP (ci := 1) (q0 := 0) rfl rfl) rfl hl.1 rfl (Nat.le_of_ble_eq_true rfl) dL_law_794 ⟨by show cells + 1 ≤ 600130; omega, by show slots + 6 ≤ 7301080; omega⟩ (fun E ce q9 u H locs hp _ _ _ _ _ _ => (exq_no hp.1 (by decide)).elim) (fun r_w_2 u_w_2 H locs hp_w_2 hP hD hS => ?_)
        have e3_w_2 : u_w_2.1 = σ' := hp_w_2.2.2.trans (lrI_1.trans (rf9))
        have hP : pG G (wW G a q σ' u_w_2.2 τ') H := (by rw [← e3_w_2]; exact hP)
        have hD : va_D (AW s) (wW G a q σ' u_w_2.2 τ') := (by rw [← e3_w_2]; exact hD)
        refine co_eq (hp_w_2.2.1.trans (show cwp (lrI true σ (1 : Int32).toNatClampNeg) 64 = cwp σ' 64 by rw [lrI_1, rf9])) ?_
        refine lv_istore (lv' := [(16, .int (cwp σ' 64)), (15, .int (cwp σ' 64)), (0, .ref b0), (1, .ref (a 0)), (2, .ref (q 0)), (3, .ref (q 1)), (4, .ref (q 2)), (5, .ref (q 3)), (6, .ref (q 4)), (8, .int (nI t)), (17, .int (nI k))]) hx hb dL_law_797 hl (by decide) rfl (fun ls hl => ?_)
        refine lv_goto (tgt := 859) hx hb dL_law_799 (by decide) ?_
        exact kk σ' u_w_2.2 τ' Z _ _ _ H locs ls hR9 (by omega) (by omega) (by omega) hP hD hS (lv_sub hl [2, 3, 4, 5, 6, 7, 8, 9, 1, 0] rfl)
      · exact absurd (nI_le (a := 64) (b := k) (by omega) (by omega)) c_1
    | succ d₁ ihL1 =>
      intro k σ' τ' hk hR9 h9 H locs hP hD hS ls hl
      have tk8 : k < 64 := (by omega)
      refine lv_iload hx hb dL_law_725 (lv_at hl 8 rfl) ?_
      refine lv_bipush (v := 64) hx hb dL_law_727 (by decide) ?_
      refine lv_icmp_ge (tgt := 781) hx hb dL_law_729 (by decide) (fun c_3 => ?_) (fun c_3 => ?_)
      · exact absurd c_3 (nI_ge (a := k) (b := 64) (by omega) (by omega))
      · refine lv_iconst (v := 4) hx hb dL_law_732 (by decide) ?_
        refine lv_istore (lv' := [(18, .int 4), (0, .ref b0), (1, .ref (a 0)), (2, .ref (q 0)), (3, .ref (q 1)), (4, .ref (q 2)), (5, .ref (q 3)), (6, .ref (q 4)), (8, .int (nI t)), (17, .int (nI k))]) hx hb dL_law_733 hl (by decide) rfl (fun ls hl => ?_)
        refine lv_iload hx hb dL_law_735 (lv_at hl 0 rfl) ?_
        refine lv_bipush (v := 8) hx hb dL_law_737 (by decide) ?_
        refine lv_icmp_ge (tgt := 775) hx hb dL_law_739 (by decide) (fun c_4 => ?_) (fun c_4 => ?_)
        · exact absurd c_4 (by decide)
        · refine lv_iload hx hb dL_law_742 (lv_at hl 9 rfl) ?_
          refine lv_aload_n hx hb dL_law_744 rfl (lv_at hl 3 rfl) ?_
          refine lv_aload_n hx hb dL_law_745 rfl (lv_at hl 4 rfl) ?_
          refine co_rS (As := [.int (nI k), .ref (q 0), .ref (q 1)]) (rest := []) S (c_L_lives l G Z q ν δ κ σ' τ' hR9 k tk8) (va_cwS 3 hts gL_law_L_lives rfl rfl rfl (by decide +kernel) ⟨Nat.le_of_ble_eq_true rfl, Nat.le_of_ble_eq_true rfl⟩) hK (pG_perm hP [19, 20, 21, 22, 23] rfl) rfl hl.1 rfl (Nat.le_of_ble_eq_true rfl) dL_law_746 ⟨by show cells + 0 ≤ 600130; omega, by show slots + 0 ≤ 7301080; omega⟩ ?_
          refine co_ifeq (tgt := 775) S dL_law_749 (by decide) (fun c_5 => ?_) (fun c_5 => ?_)
          · refine lv_iinc (v := (nI (k + 1))) (lv' := [(17, .int (nI (k + 1))), (18, .int 4), (0, .ref b0), (1, .ref (a 0)), (2, .ref (q 0)), (3, .ref (q 1)), (4, .ref (q 2)), (5, .ref (q 3)), (6, .ref (q 4)), (8, .int (nI t))]) hx hb dL_law_775 hl (k := 9) rfl (nI_1 k) (by decide) rfl (fun ls hl => ?_)
            refine lv_goto (tgt := 725) hx hb dL_law_778 (by decide) ?_
            exact ihL1 (k + 1) σ' τ' (by omega) hR9 (lr_no h9 c_5) _ _ hP hD hS ls (lv_sub hl [2, 3, 4, 5, 6, 7, 8, 9, 0] rfl)
          · refine lv_iload hx hb dL_law_752 (lv_at hl 0 rfl) ?_
            refine lv_iload hx hb dL_law_754 (lv_at hl 9 rfl) ?_
            refine lv_aload_n hx hb dL_law_756 rfl (lv_at hl 3 rfl) ?_
            refine lv_aload_n hx hb dL_law_757 rfl (lv_at hl 4 rfl) ?_
            refine lv_aload hx hb dL_law_758 (lv_at hl 5 rfl) ?_
            refine lv_aload hx hb dL_law_760 (lv_at hl 6 rfl) ?_
            refine lv_aload hx hb dL_law_762 (lv_at hl 7 rfl) ?_
            refine co_mSiS (As := [.int 4, .int (nI k), .ref (q 0), .ref (q 1), .ref (q 2), .ref (q 3), .ref (q 4)]) (rest := []) (wr := wO G a σ ρ) (w' := (fun u : cS => wW G a q σ ρ u)) [19, 20, 21, 22, 23] [0, 1, 2, 3, 4, 5, 6, 7, 8, 9, 10, 11, 12, 13, 14, 15, 16, 17, 18] [0, 1, 2, 3, 4, 5, 6, 7, 8, 9, 10, 11, 12, 13, 14, 15, 16, 17, 18, 19, 20, 21, 22, 23] S (c_L_step4 l G Z q ν δ κ σ' τ' hR9 k ⟨tk8, c_5⟩) (va_cwS 7 hts gL_law_L_step rfl rfl rfl (by decide +kernel) ⟨Nat.le_of_ble_eq_true rfl, Nat.le_of_ble_eq_true rfl⟩) hK hP hD hS hA rfl rfl (by decide) (by decide) (by decide) (by decide) (fun _ => rfl) rfl hl.1 rfl (Nat.le_of_ble_eq_true rfl) dL_law_764 ⟨by show cells + 0 ≤ 600130; omega, by show slots + 0 ≤ 7301080; omega⟩ (fun r_6 u_6 H locs hu_6 hP hD hS => ?_)
            obtain ⟨hr_6, hq_6⟩ := hu_6
            have hr_6 : r_6 = (bI (chB σ' (nI k))) := hr_6
            obtain ⟨σ_6, eσ_6⟩ : ∃ z9, z9 = (ddS σ' (nI k)) := ⟨_, rfl⟩
            have hq_6 : Rq Z ν δ κ σ_6 u_6 := (by rw [eσ_6]; exact hq_6)
            have hc0_6 : σ_6 0 = (σ' 0) := (by rw [eσ_6]; exact ddS_0)
            have hP : pG G (wW G a q σ ρ u_6) H := hP
            have hD : va_D (AW s) (wW G a q σ ρ u_6) := hD
            refine lv_istore (lv' := [(19, .int r_6), (18, .int 4), (0, .ref b0), (1, .ref (a 0)), (2, .ref (q 0)), (3, .ref (q 1)), (4, .ref (q 2)), (5, .ref (q 3)), (6, .ref (q 4)), (8, .int (nI t)), (17, .int (nI k))]) hx hb dL_law_767 hl (by decide) rfl (fun ls hl => ?_)
            refine lv_iinc (v := 5) (lv' := [(18, .int 5), (19, .int r_6), (0, .ref b0), (1, .ref (a 0)), (2, .ref (q 0)), (3, .ref (q 1)), (4, .ref (q 2)), (5, .ref (q 3)), (6, .ref (q 4)), (8, .int (nI t)), (17, .int (nI k))]) hx hb dL_law_769 hl (k := 1) rfl (by decide) (by decide) rfl (fun ls hl => ?_)
            refine lv_goto (tgt := 735) hx hb dL_law_772 (by decide) ?_
            refine lv_iload hx hb dL_law_735 (lv_at hl 0 rfl) ?_
            refine lv_bipush (v := 8) hx hb dL_law_737 (by decide) ?_
            refine lv_icmp_ge (tgt := 775) hx hb dL_law_739 (by decide) (fun c_7 => ?_) (fun c_7 => ?_)
            · exact absurd c_7 (by decide)
            · refine lv_iload hx hb dL_law_742 (lv_at hl 10 rfl) ?_
              refine lv_aload_n hx hb dL_law_744 rfl (lv_at hl 4 rfl) ?_
              refine lv_aload_n hx hb dL_law_745 rfl (lv_at hl 5 rfl) ?_
              refine co_rS (As := [.int (nI k), .ref (q 0), .ref (q 1)]) (rest := []) S (c_L_lives l G Z q ν δ κ σ_6 u_6 hq_6 k tk8) (va_cwS 3 hts gL_law_L_lives rfl rfl rfl (by decide +kernel) ⟨Nat.le_of_ble_eq_true rfl, Nat.le_of_ble_eq_true rfl⟩) hK (pG_perm hP [19, 20, 21, 22, 23] rfl) rfl hl.1 rfl (Nat.le_of_ble_eq_true rfl) dL_law_746 ⟨by show cells + 0 ≤ 600130; omega, by show slots + 0 ≤ 7301080; omega⟩ ?_
              refine co_eq (show bI (alv (σ_6 0) (nI k)) = bI (alv (σ' 0) (nI k)) by rw [hc0_6]) ?_
              refine co_ifeq (tgt := 775) S dL_law_749 (by decide) (fun c_8 => ?_) (fun c_8 => ?_)
              · exact absurd (c_8.symm.trans c_5) (by decide)
              · refine lv_iload hx hb dL_law_752 (lv_at hl 0 rfl) ?_
                refine lv_iload hx hb dL_law_754 (lv_at hl 10 rfl) ?_
                refine lv_aload_n hx hb dL_law_756 rfl (lv_at hl 4 rfl) ?_
                refine lv_aload_n hx hb dL_law_757 rfl (lv_at hl 5 rfl) ?_
                refine lv_aload hx hb dL_law_758 (lv_at hl 6 rfl) ?_
                refine lv_aload hx hb dL_law_760 (lv_at hl 7 rfl) ?_
                refine lv_aload hx hb dL_law_762 (lv_at hl 8 rfl) ?_
                refine co_mSiS (As := [.int 5, .int (nI k), .ref (q 0), .ref (q 1), .ref (q 2), .ref (q 3), .ref (q 4)]) (rest := []) (wr := wO G a σ ρ) (w' := (fun u : cS => wW G a q σ ρ u)) [19, 20, 21, 22, 23] [0, 1, 2, 3, 4, 5, 6, 7, 8, 9, 10, 11, 12, 13, 14, 15, 16, 17, 18] [0, 1, 2, 3, 4, 5, 6, 7, 8, 9, 10, 11, 12, 13, 14, 15, 16, 17, 18, 19, 20, 21, 22, 23] S (c_L_step5 l G Z q ν δ κ σ_6 u_6 hq_6 k (Lv.tr hc0_6 ⟨tk8, c_5⟩)) (va_cwS 7 hts gL_law_L_step rfl rfl rfl (by decide +kernel) ⟨Nat.le_of_ble_eq_true rfl, Nat.le_of_ble_eq_true rfl⟩) hK hP hD hS hA rfl rfl (by decide) (by decide) (by decide) (by decide) (fun _ => rfl) rfl hl.1 rfl (Nat.le_of_ble_eq_true rfl) dL_law_764 ⟨by show cells + 0 ≤ 600130; omega, by show slots + 0 ≤ 7301080; omega⟩ (fun r_9 u_9 H locs hu_9 hP hD hS => ?_)
                obtain ⟨hr_9, hq_9⟩ := hu_9
                have hr_9 : r_9 = (tat 3 (msS σ_6 (nI k) 1) (nI k) 0) := hr_9
                obtain ⟨σ_9, eσ_9⟩ : ∃ z9, z9 = (msS σ_6 (nI k)) := ⟨_, rfl⟩
                have hq_9 : Rq Z ν δ κ σ_9 u_9 := (by rw [eσ_9]; exact hq_9)
                have hc0_9 : σ_9 0 = (σ' 0) := (by rw [eσ_9]; exact (msS_0).trans hc0_6)
                have hP : pG G (wW G a q σ ρ u_9) H := hP
                have hD : va_D (AW s) (wW G a q σ ρ u_9) := hD
                refine lv_istore (lv' := [(19, .int r_9), (18, .int 5), (0, .ref b0), (1, .ref (a 0)), (2, .ref (q 0)), (3, .ref (q 1)), (4, .ref (q 2)), (5, .ref (q 3)), (6, .ref (q 4)), (8, .int (nI t)), (17, .int (nI k))]) hx hb dL_law_767 hl (by decide) rfl (fun ls hl => ?_)
                refine lv_iinc (v := 6) (lv' := [(18, .int 6), (19, .int r_9), (0, .ref b0), (1, .ref (a 0)), (2, .ref (q 0)), (3, .ref (q 1)), (4, .ref (q 2)), (5, .ref (q 3)), (6, .ref (q 4)), (8, .int (nI t)), (17, .int (nI k))]) hx hb dL_law_769 hl (k := 1) rfl (by decide) (by decide) rfl (fun ls hl => ?_)
                refine lv_goto (tgt := 735) hx hb dL_law_772 (by decide) ?_
                refine lv_iload hx hb dL_law_735 (lv_at hl 0 rfl) ?_
                refine lv_bipush (v := 8) hx hb dL_law_737 (by decide) ?_
                refine lv_icmp_ge (tgt := 775) hx hb dL_law_739 (by decide) (fun c_10 => ?_) (fun c_10 => ?_)
                · exact absurd c_10 (by decide)
                · refine lv_iload hx hb dL_law_742 (lv_at hl 10 rfl) ?_
                  refine lv_aload_n hx hb dL_law_744 rfl (lv_at hl 4 rfl) ?_
                  refine lv_aload_n hx hb dL_law_745 rfl (lv_at hl 5 rfl) ?_
                  refine co_rS (As := [.int (nI k), .ref (q 0), .ref (q 1)]) (rest := []) S (c_L_lives l G Z q ν δ κ σ_9 u_9 hq_9 k tk8) (va_cwS 3 hts gL_law_L_lives rfl rfl rfl (by decide +kernel) ⟨Nat.le_of_ble_eq_true rfl, Nat.le_of_ble_eq_true rfl⟩) hK (pG_perm hP [19, 20, 21, 22, 23] rfl) rfl hl.1 rfl (Nat.le_of_ble_eq_true rfl) dL_law_746 ⟨by show cells + 0 ≤ 600130; omega, by show slots + 0 ≤ 7301080; omega⟩ ?_
                  refine co_eq (show bI (alv (σ_9 0) (nI k)) = bI (alv (σ' 0) (nI k)) by rw [hc0_9]) ?_
                  refine co_ifeq (tgt := 775) S dL_law_749 (by decide) (fun c_11 => ?_) (fun c_11 => ?_)
                  · exact absurd (c_11.symm.trans c_8) (by decide)
                  · refine lv_iload hx hb dL_law_752 (lv_at hl 0 rfl) ?_
                    refine lv_iload hx hb dL_law_754 (lv_at hl 10 rfl) ?_
                    refine lv_aload_n hx hb dL_law_756 rfl (lv_at hl 4 rfl) ?_
                    refine lv_aload_n hx hb dL_law_757 rfl (lv_at hl 5 rfl) ?_
                    refine lv_aload hx hb dL_law_758 (lv_at hl 6 rfl) ?_
                    refine lv_aload hx hb dL_law_760 (lv_at hl 7 rfl) ?_
                    refine lv_aload hx hb dL_law_762 (lv_at hl 8 rfl) ?_
                    refine co_mSiS (As := [.int 6, .int (nI k), .ref (q 0), .ref (q 1), .ref (q 2), .ref (q 3), .ref (q 4)]) (rest := []) (wr := wO G a σ ρ) (w' := (fun u : cS => wW G a q σ ρ u)) [19, 20, 21, 22, 23] [0, 1, 2, 3, 4, 5, 6, 7, 8, 9, 10, 11, 12, 13, 14, 15, 16, 17, 18] [0, 1, 2, 3, 4, 5, 6, 7, 8, 9, 10, 11, 12, 13, 14, 15, 16, 17, 18, 19, 20, 21, 22, 23] S (c_L_step6 l G Z q ν δ κ σ_9 u_9 hq_9 k (Lv.tr hc0_9 ⟨tk8, c_5⟩)) (va_cwS 7 hts gL_law_L_step rfl rfl rfl (by decide +kernel) ⟨Nat.le_of_ble_eq_true rfl, Nat.le_of_ble_eq_true rfl⟩) hK hP hD hS hA rfl rfl (by decide) (by decide) (by decide) (by decide) (fun _ => rfl) rfl hl.1 rfl (Nat.le_of_ble_eq_true rfl) dL_law_764 ⟨by show cells + 0 ≤ 600130; omega, by show slots + 0 ≤ 7301080; omega⟩ (fun r_12 u_12 H locs hu_12 hP hD hS => ?_)
                    obtain ⟨hr_12, hq_12⟩ := hu_12
                    have hr_12 : r_12 = (rfC σ_9 (nI k) 6) := hr_12
                    obtain ⟨σ_12, eσ_12⟩ : ∃ z9, z9 = (rfS σ_9 (nI k) 6) := ⟨_, rfl⟩
                    have hq_12 : Rq Z ν δ κ σ_12 u_12 := (by rw [eσ_12]; exact hq_12)
                    have hc0_12 : σ_12 0 = (σ' 0) := (by rw [eσ_12]; exact ((rfS_0 6)).trans hc0_9)
                    have hP : pG G (wW G a q σ ρ u_12) H := hP
                    have hD : va_D (AW s) (wW G a q σ ρ u_12) := hD
                    refine lv_istore (lv' := [(19, .int r_12), (18, .int 6), (0, .ref b0), (1, .ref (a 0)), (2, .ref (q 0)), (3, .ref (q 1)), (4, .ref (q 2)), (5, .ref (q 3)), (6, .ref (q 4)), (8, .int (nI t)), (17, .int (nI k))]) hx hb dL_law_767 hl (by decide) rfl (fun ls hl => ?_)
                    refine lv_iinc (v := 7) (lv' := [(18, .int 7), (19, .int r_12), (0, .ref b0), (1, .ref (a 0)), (2, .ref (q 0)), (3, .ref (q 1)), (4, .ref (q 2)), (5, .ref (q 3)), (6, .ref (q 4)), (8, .int (nI t)), (17, .int (nI k))]) hx hb dL_law_769 hl (k := 1) rfl (by decide) (by decide) rfl (fun ls hl => ?_)
                    refine lv_goto (tgt := 735) hx hb dL_law_772 (by decide) ?_
                    refine lv_iload hx hb dL_law_735 (lv_at hl 0 rfl) ?_
                    refine lv_bipush (v := 8) hx hb dL_law_737 (by decide) ?_
                    refine lv_icmp_ge (tgt := 775) hx hb dL_law_739 (by decide) (fun c_13 => ?_) (fun c_13 => ?_)
                    · exact absurd c_13 (by decide)
                    · refine lv_iload hx hb dL_law_742 (lv_at hl 10 rfl) ?_
                      refine lv_aload_n hx hb dL_law_744 rfl (lv_at hl 4 rfl) ?_
                      refine lv_aload_n hx hb dL_law_745 rfl (lv_at hl 5 rfl) ?_
                      refine co_rS (As := [.int (nI k), .ref (q 0), .ref (q 1)]) (rest := []) S (c_L_lives l G Z q ν δ κ σ_12 u_12 hq_12 k tk8) (va_cwS 3 hts gL_law_L_lives rfl rfl rfl (by decide +kernel) ⟨Nat.le_of_ble_eq_true rfl, Nat.le_of_ble_eq_true rfl⟩) hK (pG_perm hP [19, 20, 21, 22, 23] rfl) rfl hl.1 rfl (Nat.le_of_ble_eq_true rfl) dL_law_746 ⟨by show cells + 0 ≤ 600130; omega, by show slots + 0 ≤ 7301080; omega⟩ ?_
                      refine co_eq (show bI (alv (σ_12 0) (nI k)) = bI (alv (σ' 0) (nI k)) by rw [hc0_12]) ?_
                      refine co_ifeq (tgt := 775) S dL_law_749 (by decide) (fun c_14 => ?_) (fun c_14 => ?_)
                      · exact absurd (c_14.symm.trans c_11) (by decide)
                      · refine lv_iload hx hb dL_law_752 (lv_at hl 0 rfl) ?_
                        refine lv_iload hx hb dL_law_754 (lv_at hl 10 rfl) ?_
                        refine lv_aload_n hx hb dL_law_756 rfl (lv_at hl 4 rfl) ?_
                        refine lv_aload_n hx hb dL_law_757 rfl (lv_at hl 5 rfl) ?_
                        refine lv_aload hx hb dL_law_758 (lv_at hl 6 rfl) ?_
                        refine lv_aload hx hb dL_law_760 (lv_at hl 7 rfl) ?_
                        refine lv_aload hx hb dL_law_762 (lv_at hl 8 rfl) ?_
                        refine co_mSiS (As := [.int 7, .int (nI k), .ref (q 0), .ref (q 1), .ref (q 2), .ref (q 3), .ref (q 4)]) (rest := []) (wr := wO G a σ ρ) (w' := (fun u : cS => wW G a q σ ρ u)) [19, 20, 21, 22, 23] [0, 1, 2, 3, 4, 5, 6, 7, 8, 9, 10, 11, 12, 13, 14, 15, 16, 17, 18] [0, 1, 2, 3, 4, 5, 6, 7, 8, 9, 10, 11, 12, 13, 14, 15, 16, 17, 18, 19, 20, 21, 22, 23] S (c_L_step7 l G Z q ν δ κ σ_12 u_12 hq_12 k (Lv.tr hc0_12 ⟨tk8, c_5⟩)) (va_cwS 7 hts gL_law_L_step rfl rfl rfl (by decide +kernel) ⟨Nat.le_of_ble_eq_true rfl, Nat.le_of_ble_eq_true rfl⟩) hK hP hD hS hA rfl rfl (by decide) (by decide) (by decide) (by decide) (fun _ => rfl) rfl hl.1 rfl (Nat.le_of_ble_eq_true rfl) dL_law_764 ⟨by show cells + 0 ≤ 600130; omega, by show slots + 0 ≤ 7301080; omega⟩ (fun r_15 u_15 H locs hu_15 hP hD hS => ?_)
                        obtain ⟨hr_15, hq_15⟩ := hu_15
                        have hr_15 : r_15 = (svC σ_12 (nI k) 64) := hr_15
                        obtain ⟨σ_15, eσ_15⟩ : ∃ z9, z9 = (svS σ_12 (nI k) 64) := ⟨_, rfl⟩
                        have hq_15 : Rq Z ν δ κ σ_15 u_15 := (by rw [eσ_15]; exact hq_15)
                        have hc0_15 : σ_15 0 = (σ' 0) := (by rw [eσ_15]; exact ((svS_0 64)).trans hc0_12)
                        have hP : pG G (wW G a q σ ρ u_15) H := hP
                        have hD : va_D (AW s) (wW G a q σ ρ u_15) := hD
                        refine lv_istore (lv' := [(19, .int r_15), (18, .int 7), (0, .ref b0), (1, .ref (a 0)), (2, .ref (q 0)), (3, .ref (q 1)), (4, .ref (q 2)), (5, .ref (q 3)), (6, .ref (q 4)), (8, .int (nI t)), (17, .int (nI k))]) hx hb dL_law_767 hl (by decide) rfl (fun ls hl => ?_)
                        refine lv_iinc (v := 8) (lv' := [(18, .int 8), (19, .int r_15), (0, .ref b0), (1, .ref (a 0)), (2, .ref (q 0)), (3, .ref (q 1)), (4, .ref (q 2)), (5, .ref (q 3)), (6, .ref (q 4)), (8, .int (nI t)), (17, .int (nI k))]) hx hb dL_law_769 hl (k := 1) rfl (by decide) (by decide) rfl (fun ls hl => ?_)
                        refine lv_goto (tgt := 735) hx hb dL_law_772 (by decide) ?_
                        refine lv_iload hx hb dL_law_735 (lv_at hl 0 rfl) ?_
                        refine lv_bipush (v := 8) hx hb dL_law_737 (by decide) ?_
                        refine lv_icmp_ge (tgt := 775) hx hb dL_law_739 (by decide) (fun c_16 => ?_) (fun c_16 => ?_)
                        · refine lv_iinc (v := (nI (k + 1))) (lv' := [(17, .int (nI (k + 1))), (18, .int 8), (19, .int r_15), (0, .ref b0), (1, .ref (a 0)), (2, .ref (q 0)), (3, .ref (q 1)), (4, .ref (q 2)), (5, .ref (q 3)), (6, .ref (q 4)), (8, .int (nI t))]) hx hb dL_law_775 hl (k := 10) rfl (nI_1 k) (by decide) rfl (fun ls hl => ?_)
                          refine lv_goto (tgt := 725) hx hb dL_law_778 (by decide) ?_
                          exact ihL1 (k + 1) σ_15 u_15 (by omega) hq_15 (lr_t h9 c_14 eσ_6 eσ_9 eσ_12 rfl eσ_15) _ _ hP hD hS ls (lv_sub hl [3, 4, 5, 6, 7, 8, 9, 10, 0] rfl)
                        · exact absurd (by decide) c_16
  exact L1 64 0 _ _ rfl hR rfl _ _ hP hD hS ls (lv_sub hl [1, 2, 3, 4, 5, 6, 7, 8, 0] rfl)
