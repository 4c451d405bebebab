/-! the law's hundred turns, and its start -/
set_option maxHeartbeats 8000000 in
set_option maxRecDepth 100000 in
theorem law_turns {p : Program} {l : Launch} {e : Env} {s : State} {m : MethodId} {below : List Frame} {meth : Method} {c : Code} {b0 L : Nat} {xs : Nat → Int32} {G : cG} {sa a q : Nat → Nat} (C9 : lwT p l s m c b0 L xs G sa) (hr : meth.sig.returnType = ret) (hlocks : meth.locks = false) {ν δ κ : Nat → Nat} :
    ∀ (d t Z cells slots : Nat) (σ ρ τ : cS) (H : Heap) (locs : List Loc) (ls : Array Slot), t + d = 117 → 17 ≤ t → Z + 17 ≤ t → cells + 1000 * d ≤ 200000 → slots + 6000 * d ≤ 900000 → Rq Z ν δ κ σ τ → pG G (wW G a q σ ρ τ) H → va_D (AW s) (wW G a q σ ρ τ) → va_S (AW s) s.heap H locs → lv_has ls 20 [(0, .ref b0), (1, .ref (a 0)), (2, .ref (q 0)), (3, .ref (q 1)), (4, .ref (q 2)), (5, .ref (q 3)), (6, .ref (q 4)), (8, .int (nI t))] → W p l e room_1 s m #[Value.ref b0] below meth c H locs cells slots (lw_Z below #[Value.ref b0] s) (F0 m 211 ls []) := by
  obtain ⟨S, hl9, hXs, hbl, hK, hX, hL9⟩ := id C9
  obtain ⟨hx, hb, hml, hown, hts⟩ := id S
  have hA : ∀ q : Nat, s.heap.size ≤ q → AW s q := fun _ h => h
  intro d
  induction d with
  | zero =>
    intro t Z cells slots σ ρ τ H locs ls ht h17 hZ hc hs hR hP hD hS hl
    refine lv_iload hx hb dL_law_211 (lv_at hl 7 rfl) ?_
    refine lv_bipush (v := 117) hx hb dL_law_213 (by decide) ?_
    refine lv_icmp_ge (tgt := 889) hx hb dL_law_215 (by decide) (fun _ => ?_) (fun c1 => absurd (nI_le (a := 117) (b := t) (by omega) (by omega)) c1)
    refine lv_iconst (v := 1) hx hb dL_law_889 (by decide) ?_
    refine va_forget (fun q hq => hS.2.2 q hq) ?_
    refine W.widen (k := 600130) (n := 7301080) (by omega) (by omega) ?_
    exact lw_ret hx hb hr hlocks dL_law_890
  | succ d ih =>
    intro t Z cells slots σ ρ τ H locs ls ht h17 hZ hc hs hR hP hD hS hl
    have TL : ∀ (σ' ρ' τ' : cS) (Z' : Nat) (v : Int32) (cc sc : Nat) (H : Heap) (locs : List Loc) (ls : Array Slot), Rq Z' ν δ κ σ' τ' → Z' ≤ Z + 1 → cc ≤ cells + 20 → sc ≤ slots + 120 → pG G (wW G a q σ' ρ' τ') H → va_D (AW s) (wW G a q σ' ρ' τ') → va_S (AW s) s.heap H locs → lv_has ls 20 [(0, .ref b0), (1, .ref (a 0)), (2, .ref (q 0)), (3, .ref (q 1)), (4, .ref (q 2)), (5, .ref (q 3)), (6, .ref (q 4)), (8, .int (nI t)), (15, .int v), (16, .int v)] → W p l e room_1 s m #[Value.ref b0] below meth c H locs cc sc (lw_Z below #[Value.ref b0] s) (F0 m 859 ls []) := by
      intro σ' ρ' τ' Z' v cc sc H locs ls hR7 hZ7 hcc hsc hP hD hS hl
      refine lv_iload hx hb dL_law_859 (lv_at hl 9 rfl) ?_
      refine lv_iload hx hb dL_law_861 (lv_at hl 8 rfl) ?_
      refine lv_icmp_ne (tgt := 881) hx hb dL_law_863 (by decide) (fun c_1 => ?_) (fun c_1 => ?_)
      · exact absurd rfl c_1
      · refine lv_aload_n hx hb dL_law_866 rfl (lv_at hl 1 rfl) ?_
        refine lv_aload_n hx hb dL_law_867 rfl (lv_at hl 2 rfl) ?_
        refine lv_aload_n hx hb dL_law_868 rfl (lv_at hl 3 rfl) ?_
        refine lv_aload hx hb dL_law_869 (lv_at hl 4 rfl) ?_
        refine lv_aload hx hb dL_law_871 (lv_at hl 5 rfl) ?_
        refine lv_aload hx hb dL_law_873 (lv_at hl 6 rfl) ?_
        refine co_nS (As := [.ref (a 0), .ref (q 0), .ref (q 1), .ref (q 2), .ref (q 3), .ref (q 4)]) (rest := []) S (c_L_isSo l hl9 G sa a q σ' ρ' τ' Z' ν δ κ hR7) (va_cwS 6 hts gL_law_L_isSo rfl rfl rfl (by decide +kernel) ⟨(Nat.le_of_ble_eq_true rfl), (Nat.le_of_ble_eq_true rfl)⟩) hK hP hD hS hA hX rfl hl.1 rfl (Nat.le_of_ble_eq_true rfl) dL_law_875 ⟨by show cc + 900 ≤ 600130; omega, by show sc + 5000 ≤ 7301080; omega⟩ (fun r_w_2 ρ_w_2 H locs hr_w_2 hP hD hS => ?_)
        refine co_eq (show r_w_2 = 1 from hr_w_2) ?_
        refine lv_if_ne (tgt := 883) hx hb dL_law_878 (by decide) (fun c_3 => ?_) (fun c_3 => ?_)
        · refine lv_iinc (v := (nI (t + 1))) (lv' := [(8, .int (nI (t + 1))), (0, .ref b0), (1, .ref (a 0)), (2, .ref (q 0)), (3, .ref (q 1)), (4, .ref (q 2)), (5, .ref (q 3)), (6, .ref (q 4)), (15, .int v), (16, .int v)]) hx hb dL_law_883 hl (k := 7) rfl (nI_1 t) (by decide) rfl (fun ls hl => ?_)
          refine lv_goto (tgt := 211) hx hb dL_law_886 (by decide) ?_
          exact ih (t + 1) Z' _ _ σ' ρ_w_2 τ' H locs ls (by omega) (by omega) (by omega) (by omega) (by omega) hR7 hP hD hS (lv_sub hl [1, 2, 3, 4, 5, 6, 7, 0] rfl)
        · exact absurd c_3 (by decide)
    refine lv_iload hx hb dL_law_211 (lv_at hl 7 rfl) ?_
    refine lv_bipush (v := 117) hx hb dL_law_213 (by decide) ?_
    refine lv_icmp_ge (tgt := 889) hx hb dL_law_215 (by decide) (fun c_4 => ?_) (fun c_4 => ?_)
    · exact absurd c_4 (nI_ge (a := t) (b := 117) (by omega) (by omega))
    · refine lv_aload_n hx hb dL_law_218 rfl (lv_at hl 0 rfl) ?_
      refine lv_iload hx hb dL_law_219 (lv_at hl 7 rfl) ?_
      refine co_cS (As := [.ref b0, .int (nI t)]) (rest := []) S (c_L_cell l b0 L xs (by omega) t (by omega)) (va_cwS 2 hts gL_law_L_cell rfl rfl rfl (by decide +kernel) ⟨(Nat.le_of_ble_eq_true rfl), (Nat.le_of_ble_eq_true rfl)⟩) hXs hbl hS rfl hl.1 rfl (Nat.le_of_ble_eq_true rfl) dL_law_221 ⟨by show cells + 0 ≤ 600130; omega, by show slots + 0 ≤ 7301080; omega⟩ ?_
      refine lv_istore (lv' := [(9, .int (cel L xs t)), (0, .ref b0), (1, .ref (a 0)), (2, .ref (q 0)), (3, .ref (q 1)), (4, .ref (q 2)), (5, .ref (q 3)), (6, .ref (q 4)), (8, .int (nI t))]) hx hb dL_law_224 hl (by decide) rfl (fun ls hl => ?_)
      refine lv_iload hx hb dL_law_226 (lv_at hl 0 rfl) ?_
      refine lv_bipush (v := 22) hx hb dL_law_228 (by decide) ?_
      refine co_rS (As := [.int (cel L xs t), .int (nI 22)]) (rest := []) S (c_L_low l G (cel L xs t) 22 (by decide) (by decide)) (va_cwS 2 hts gL_law_L_low rfl rfl rfl (by decide +kernel) ⟨(Nat.le_of_ble_eq_true rfl), (Nat.le_of_ble_eq_true rfl)⟩) hK (pG_nil) rfl hl.1 rfl (Nat.le_of_ble_eq_true rfl) dL_law_230 ⟨by show cells + 0 ≤ 600130; omega, by show slots + 0 ≤ 7301080; omega⟩ ?_
      obtain ⟨A, eA⟩ : ∃ z9, z9 = lo (cel L xs t) 22 := ⟨_, rfl⟩
      have bA : A < 22 := (by rw [eA]; exact lo_lt (by decide))
      refine co_eq (show nI (lo (cel L xs t) 22) = nI A by rw [eA]) ?_
      refine lv_istore (lv' := [(10, .int (nI A)), (9, .int (cel L xs t)), (0, .ref b0), (1, .ref (a 0)), (2, .ref (q 0)), (3, .ref (q 1)), (4, .ref (q 2)), (5, .ref (q 3)), (6, .ref (q 4)), (8, .int (nI t))]) hx hb dL_law_233 hl (by decide) rfl (fun ls hl => ?_)
      refine lv_aload_n hx hb dL_law_235 rfl (lv_at hl 5 rfl) ?_
      refine lv_iload hx hb dL_law_236 (lv_at hl 1 rfl) ?_
      refine lv_iconst (v := 5) hx hb dL_law_238 (by decide) ?_
      refine lv_ishr hx hb dL_law_239 ?_
      refine lv_bipush (v := 10) hx hb dL_law_240 (by decide) ?_
      refine co_rS (As := [.int ((cel L xs t) >>> (5 &&& 31)), .int (nI 10)]) (rest := [.ref (q 1)]) S (c_L_low l G ((cel L xs t) >>> (5 &&& 31)) 10 (by decide) (by decide)) (va_cwS 2 hts gL_law_L_low rfl rfl rfl (by decide +kernel) ⟨(Nat.le_of_ble_eq_true rfl), (Nat.le_of_ble_eq_true rfl)⟩) hK (pG_nil) rfl hl.1 rfl (Nat.le_of_ble_eq_true rfl) dL_law_242 ⟨by show cells + 0 ≤ 600130; omega, by show slots + 0 ≤ 7301080; omega⟩ ?_
      obtain ⟨pp, epp⟩ : ∃ z9, z9 = lo ((cel L xs t) >>> (5 &&& 31)) 10 := ⟨_, rfl⟩
      have bpp : pp < 10 := (by rw [epp]; exact lo_lt (by decide))
      refine co_eq (show nI (lo ((cel L xs t) >>> (5 &&& 31)) 10) = nI pp by rw [epp]) ?_
      have tpp : ν pp < 64 := Rq.nu hR bpp
      refine va_iald hx hb hK hP 20 0 rfl rfl (vp_in_nI (n := pp) (N := 27) (by omega) (by decide)) dL_law_245 ?_
      refine co_eq (rq_n hR bpp) ?_
      refine lv_istore (lv' := [(11, .int (nI (ν pp))), (10, .int (nI A)), (9, .int (cel L xs t)), (0, .ref b0), (1, .ref (a 0)), (2, .ref (q 0)), (3, .ref (q 1)), (4, .ref (q 2)), (5, .ref (q 3)), (6, .ref (q 4)), (8, .int (nI t))]) hx hb dL_law_246 hl (by decide) rfl (fun ls hl => ?_)
      refine lv_aload_n hx hb dL_law_248 rfl (lv_at hl 6 rfl) ?_
      refine lv_iload hx hb dL_law_249 (lv_at hl 2 rfl) ?_
      refine lv_bipush (v := 9) hx hb dL_law_251 (by decide) ?_
      refine lv_ishr hx hb dL_law_253 ?_
      refine lv_bipush (v := 10) hx hb dL_law_254 (by decide) ?_
      refine co_rS (As := [.int ((cel L xs t) >>> (9 &&& 31)), .int (nI 10)]) (rest := [.ref (q 1)]) S (c_L_low l G ((cel L xs t) >>> (9 &&& 31)) 10 (by decide) (by decide)) (va_cwS 2 hts gL_law_L_low rfl rfl rfl (by decide +kernel) ⟨(Nat.le_of_ble_eq_true rfl), (Nat.le_of_ble_eq_true rfl)⟩) hK (pG_nil) rfl hl.1 rfl (Nat.le_of_ble_eq_true rfl) dL_law_256 ⟨by show cells + 0 ≤ 600130; omega, by show slots + 0 ≤ 7301080; omega⟩ ?_
      obtain ⟨rr, err⟩ : ∃ z9, z9 = lo ((cel L xs t) >>> (9 &&& 31)) 10 := ⟨_, rfl⟩
      have brr : rr < 10 := (by rw [err]; exact lo_lt (by decide))
      refine co_eq (show nI (lo ((cel L xs t) >>> (9 &&& 31)) 10) = nI rr by rw [err]) ?_
      have trr : ν rr < 64 := Rq.nu hR brr
      refine va_iald hx hb hK hP 20 0 rfl rfl (vp_in_nI (n := rr) (N := 27) (by omega) (by decide)) dL_law_259 ?_
      refine co_eq (rq_n hR brr) ?_
      refine lv_istore (lv' := [(12, .int (nI (ν rr))), (11, .int (nI (ν pp))), (10, .int (nI A)), (9, .int (cel L xs t)), (0, .ref b0), (1, .ref (a 0)), (2, .ref (q 0)), (3, .ref (q 1)), (4, .ref (q 2)), (5, .ref (q 3)), (6, .ref (q 4)), (8, .int (nI t))]) hx hb dL_law_260 hl (by decide) rfl (fun ls hl => ?_)
      refine lv_iload hx hb dL_law_262 (lv_at hl 3 rfl) ?_
      refine lv_bipush (v := 13) hx hb dL_law_264 (by decide) ?_
      refine lv_ishr hx hb dL_law_266 ?_
      refine lv_bipush (v := 6) hx hb dL_law_267 (by decide) ?_
      refine co_rS (As := [.int ((cel L xs t) >>> (13 &&& 31)), .int (nI 6)]) (rest := []) S (c_L_low l G ((cel L xs t) >>> (13 &&& 31)) 6 (by decide) (by decide)) (va_cwS 2 hts gL_law_L_low rfl rfl rfl (by decide +kernel) ⟨(Nat.le_of_ble_eq_true rfl), (Nat.le_of_ble_eq_true rfl)⟩) hK (pG_nil) rfl hl.1 rfl (Nat.le_of_ble_eq_true rfl) dL_law_269 ⟨by show cells + 0 ≤ 600130; omega, by show slots + 0 ≤ 7301080; omega⟩ ?_
      obtain ⟨g, eg⟩ : ∃ z9, z9 = lo ((cel L xs t) >>> (13 &&& 31)) 6 := ⟨_, rfl⟩
      have bg : g < 6 := (by rw [eg]; exact lo_lt (by decide))
      refine co_eq (show nI (lo ((cel L xs t) >>> (13 &&& 31)) 6) = nI g by rw [eg]) ?_
      refine lv_istore (lv' := [(13, .int (nI g)), (12, .int (nI (ν rr))), (11, .int (nI (ν pp))), (10, .int (nI A)), (9, .int (cel L xs t)), (0, .ref b0), (1, .ref (a 0)), (2, .ref (q 0)), (3, .ref (q 1)), (4, .ref (q 2)), (5, .ref (q 3)), (6, .ref (q 4)), (8, .int (nI t))]) hx hb dL_law_272 hl (by decide) rfl (fun ls hl => ?_)
      have dpp : δ (ν pp) < 10 := (by rw [Rq.dn hR bpp]; exact bpp)
      refine lv_iload hx hb dL_law_274 (lv_at hl 2 rfl) ?_
      refine lv_aload_n hx hb dL_law_276 rfl (lv_at hl 7 rfl) ?_
      refine lv_aload_n hx hb dL_law_277 rfl (lv_at hl 8 rfl) ?_
      refine co_rS (As := [.int (nI (ν pp)), .ref (q 0), .ref (q 1)]) (rest := []) S (c_L_lives l G Z q ν δ κ σ τ hR (ν pp) tpp) (va_cwS 3 hts gL_law_L_lives rfl rfl rfl (by decide +kernel) ⟨Nat.le_of_ble_eq_true rfl, Nat.le_of_ble_eq_true rfl⟩) hK (pG_perm hP [19, 20, 21, 22, 23] rfl) rfl hl.1 rfl (Nat.le_of_ble_eq_true rfl) dL_law_278 ⟨by show cells + 0 ≤ 600130; omega, by show slots + 0 ≤ 7301080; omega⟩ ?_
      refine lv_istore (lv' := [(14, .int (bI (alv (σ 0) (nI (ν pp))))), (13, .int (nI g)), (12, .int (nI (ν rr))), (11, .int (nI (ν pp))), (10, .int (nI A)), (9, .int (cel L xs t)), (0, .ref b0), (1, .ref (a 0)), (2, .ref (q 0)), (3, .ref (q 1)), (4, .ref (q 2)), (5, .ref (q 3)), (6, .ref (q 4)), (8, .int (nI t))]) hx hb dL_law_281 hl (by decide) rfl (fun ls hl => ?_)
      refine lv_bipush (v := (-3)) hx hb dL_law_283 (by decide) ?_
      refine lv_istore (lv' := [(15, .int (-3)), (14, .int (bI (alv (σ 0) (nI (ν pp))))), (13, .int (nI g)), (12, .int (nI (ν rr))), (11, .int (nI (ν pp))), (10, .int (nI A)), (9, .int (cel L xs t)), (0, .ref b0), (1, .ref (a 0)), (2, .ref (q 0)), (3, .ref (q 1)), (4, .ref (q 2)), (5, .ref (q 3)), (6, .ref (q 4)), (8, .int (nI t))]) hx hb dL_law_285 hl (by decide) rfl (fun ls hl => ?_)
      refine lv_iconst (v := 0) hx hb dL_law_287 (by decide) ?_
      refine lv_istore (lv' := [(16, .int 0), (15, .int (-3)), (14, .int (bI (alv (σ 0) (nI (ν pp))))), (13, .int (nI g)), (12, .int (nI (ν rr))), (11, .int (nI (ν pp))), (10, .int (nI A)), (9, .int (cel L xs t)), (0, .ref b0), (1, .ref (a 0)), (2, .ref (q 0)), (3, .ref (q 1)), (4, .ref (q 2)), (5, .ref (q 3)), (6, .ref (q 4)), (8, .int (nI t))]) hx hb dL_law_288 hl (by decide) rfl (fun ls hl => ?_)
      refine lv_aload_n hx hb dL_law_290 rfl (lv_at hl 11 rfl) ?_
      refine co_rS (As := [.ref (q 1)]) (rest := []) S (c_L_count l G Z q ν δ κ σ τ hR) (va_cwS 1 hts gL_law_L_count rfl rfl rfl (by decide +kernel) ⟨Nat.le_of_ble_eq_true rfl, Nat.le_of_ble_eq_true rfl⟩) hK (pG_perm hP [19, 20, 21, 22, 23] rfl) rfl hl.1 rfl (Nat.le_of_ble_eq_true rfl) dL_law_291 ⟨by show cells + 0 ≤ 600130; omega, by show slots + 0 ≤ 7301080; omega⟩ ?_
      refine lv_if_ne (tgt := 333) hx hb dL_law_294 (by decide) (fun c_5 => ?_) (fun c_5 => ?_)
      · refine lv_iload hx hb dL_law_333 (lv_at hl 6 rfl) ?_
        refine lv_bipush (v := 7) hx hb dL_law_335 (by decide) ?_
        refine lv_icmp_ge (tgt := 443) hx hb dL_law_337 (by decide) (fun c_6 => ?_) (fun c_6 => ?_)
        · refine lv_iload hx hb dL_law_443 (lv_at hl 6 rfl) ?_
          refine lv_bipush (v := 7) hx hb dL_law_445 (by decide) ?_
          refine lv_icmp_ne (tgt := 490) hx hb dL_law_447 (by decide) (fun c_7 => ?_) (fun c_7 => ?_)
          · refine lv_iload hx hb dL_law_490 (lv_at hl 6 rfl) ?_
            refine lv_bipush (v := 8) hx hb dL_law_492 (by decide) ?_
            refine lv_icmp_ne (tgt := 534) hx hb dL_law_494 (by decide) (fun c_8 => ?_) (fun c_8 => ?_)
            · refine lv_iload hx hb dL_law_534 (lv_at hl 6 rfl) ?_
              refine lv_bipush (v := 13) hx hb dL_law_536 (by decide) ?_
              refine lv_icmp_ge (tgt := 587) hx hb dL_law_538 (by decide) (fun c_9 => ?_) (fun c_9 => ?_)
              · refine lv_iload hx hb dL_law_587 (lv_at hl 6 rfl) ?_
                refine lv_bipush (v := 17) hx hb dL_law_589 (by decide) ?_
                refine lv_icmp_ge (tgt := 715) hx hb dL_law_591 (by decide) (fun c_10 => ?_) (fun c_10 => ?_)
                · refine lv_iload hx hb dL_law_715 (lv_at hl 6 rfl) ?_
                  refine lv_bipush (v := 20) hx hb dL_law_717 (by decide) ?_
                  refine lv_icmp_ge (tgt := 802) hx hb dL_law_719 (by decide) (fun c_11 => ?_) (fun c_11 => ?_)
                  · exact lt_look C9 hR (n := ν pp) (o := ν rr) (c₀ := g) (A := A) (t := t) tpp dpp trr bg (by omega) (by omega) (by omega) hP hD hS (lv_sub hl [8, 9, 10, 11, 12, 13, 14, 15, 6, 5, 4, 3, 2, 1, 0] rfl) TL
                  · exact lt_rounds C9 hR (n := ν pp) (o := ν rr) (c₀ := g) (A := A) (t := t) tpp dpp trr bg (by omega) (by omega) (by omega) hP hD hS (lv_sub hl [8, 9, 10, 11, 12, 13, 14, 15, 6, 5, 4, 3, 2, 1, 0] rfl) TL
                · exact lt_put C9 hR (n := ν pp) (o := ν rr) (c₀ := g) (A := A) (t := t) tpp dpp trr bg (by omega) (by omega) (by omega) hP hD hS (lv_sub hl [8, 9, 10, 11, 12, 13, 14, 15, 6, 5, 4, 3, 2, 1, 0] rfl) TL
              · have g1 : 7 ≤ A := (nI_leI (a := 7) (by omega) (by omega)).mp c_6
                have g2 : A ≠ 7 := fun z => c_7 (by rw [z]; rfl)
                have g3 : A ≠ 8 := fun z => c_8 (by rw [z]; rfl)
                have g4 : A < 13 := Nat.lt_of_not_le (fun z => c_9 (nI_le (a := 13) (b := A) z (by omega)))
                rcases (show A = 9 ∨ A = 10 ∨ A = 11 ∨ A = 12 by omega) with g5 | g5 | g5 | g5
                · rw [g5] at hl
                  exact lt_step4 C9 hR (n := ν pp) (o := ν rr) (c₀ := g) (A := A) (t := t) tpp dpp trr bg (by omega) (by omega) (by omega) hP hD hS (lv_sub hl [8, 9, 10, 11, 12, 13, 14, 15, 6, 5, 4, 3, 2, 1, 0] rfl) TL
                · rw [g5] at hl
                  exact lt_step5 C9 hR (n := ν pp) (o := ν rr) (c₀ := g) (A := A) (t := t) tpp dpp trr bg (by omega) (by omega) (by omega) hP hD hS (lv_sub hl [8, 9, 10, 11, 12, 13, 14, 15, 6, 5, 4, 3, 2, 1, 0] rfl) TL
                · rw [g5] at hl
                  exact lt_step6 C9 hR (n := ν pp) (o := ν rr) (c₀ := g) (A := A) (t := t) tpp dpp trr bg (by omega) (by omega) (by omega) hP hD hS (lv_sub hl [8, 9, 10, 11, 12, 13, 14, 15, 6, 5, 4, 3, 2, 1, 0] rfl) TL
                · rw [g5] at hl
                  exact lt_step7 C9 hR (n := ν pp) (o := ν rr) (c₀ := g) (A := A) (t := t) tpp dpp trr bg (by omega) (by omega) (by omega) hP hD hS (lv_sub hl [8, 9, 10, 11, 12, 13, 14, 15, 6, 5, 4, 3, 2, 1, 0] rfl) TL
            · exact lt_leave C9 hR (n := ν pp) (o := ν rr) (c₀ := g) (A := A) (t := t) tpp dpp trr bg (by omega) (by omega) (by omega) hP hD hS (lv_sub hl [8, 9, 10, 11, 12, 13, 14, 15, 6, 5, 4, 3, 2, 1, 0] rfl) TL
          · exact lt_fail C9 hR (n := ν pp) (o := ν rr) (c₀ := g) (A := A) (t := t) tpp dpp trr bg (by omega) (by omega) (by omega) hP hD hS (lv_sub hl [8, 9, 10, 11, 12, 13, 14, 15, 6, 5, 4, 3, 2, 1, 0] rfl) TL
        · exact lt_join C9 hR (n := ν pp) (o := ν rr) (c₀ := g) (A := A) (t := t) tpp dpp trr bg (by omega) (by omega) (by omega) hP hD hS (lv_sub hl [8, 9, 10, 11, 12, 13, 14, 15, 6, 5, 4, 3, 2, 1, 0] rfl) TL
      · exact lt_first C9 hR (n := ν pp) (o := ν rr) (c₀ := g) (A := A) (t := t) tpp dpp trr bg (by omega) c_5 (by omega) (by omega) hP hD hS (lv_sub hl [8, 9, 10, 11, 12, 13, 14, 15, 6, 5, 4, 3, 2, 1, 0] rfl) TL
