/-! the law holds all that the class tells against its own arrays -/
theorem rq_s1 {Z : Nat} {ν δ κ : nF} {σ τ : cS} {n k : Nat} (h : Rq Z ν δ κ σ τ) (hL : Lv σ n) (hk : δ n = k) (p : Nat) (hp : p < 3) {i : Nat} (hi : i = 4 * k + p) : τ 2 (nI i).toNatClampNeg = tat 3 (σ 1) (nI n) (nI p) := by
  obtain ⟨j, -, e, m⟩ := rq_s h hL hk p hp hi
  rw [e, m]
theorem cdP0 {σ : cS} {n i M : Nat} (hL : Lv σ n) (hi : i < M + 1) (hM : M < 2 ^ 30) : cdP σ (nI n) (nI i) (nI M) = 0 := by
  rw [cdP, okR_id hL.1, if_pos rfl, okR_rg hi hM, if_pos rfl, if_pos hL.2]
theorem cdA0 {σ : cS} {n : Nat} (hL : Lv σ n) : cdA σ (nI n) = 0 := by
  rw [cdA, okR_id hL.1, if_pos rfl, if_pos hL.2]
theorem cd10 {n : Nat} (hn : n < 64) : cd1 (nI n) 0 63 = 0 := by
  rw [cd1, okR_id hn, if_pos rfl]
theorem co_icmp0ne {p : Program} {l : Launch} {e : Env} {R : Room} {s : State} {m : MethodId} {args : Array Value} {below : List Frame} {meth : Method} {c : Code} {H : Heap} {locs : List Loc} {cells slots : Nat} {Q : State → Prop} {Ts : List Cond} {cc : ByteArray} {nL pc : Nat} {own : String} {rest : List Value} {ls : Array Slot} {v : Bool} {off : Int} {tgt : Nat} (S : CallFix p m c cc nL s args Ts own) (hdg : decode cc pc = .ok (.if_icmp .ne off, 3)) (ht : (pc : Int) + off = (tgt : Int)) (kt : v = true → W p l e R s m args below meth c H locs cells slots Q (F0 m tgt ls rest)) (kf : v = false → W p l e R s m args below meth c H locs cells slots Q (F0 m (pc + 3) ls rest)) : W p l e R s m args below meth c H locs cells slots Q (F0 m pc ls (.int 0 :: .int (bI v) :: rest)) :=
  lv_icmp_ne S.1 S.2.1 hdg ht (fun h => kt (bI_1 h)) (fun h => kf (bI_0 h))
/-- a lookup's last node: it lives, and its live successor is what is found -/
theorem pth_sh {L U F : Nat → Int32} {key n : Int32} : ∀ j, pth L U F key n (j + 1) = pth L U F key (nxF L U F key n) j
  | 0 => rfl
  | j + 1 => by rw [pth, pth_sh j]; rfl
theorem rq_last {Z : Nat} {ν δ κ : nF} {σ τ : cS} (h : Rq Z ν δ κ σ τ) {key : Nat} (hk : key < 64) : ∀ (d n : Nat), Lv σ n → upw n key < d → ∃ y, pth (σ 0) (σ 1) (σ 3) (nI key) (nI n) (hpc (σ 0) (σ 1) (σ 3) (nI key) d (nI n)) = nI y ∧ Lv σ y ∧ lsF (σ 0) (σ 1) (nI y) = fnd (σ 0) (σ 1) (σ 3) (nI key) d (nI n) := by
  intro d
  induction d with
  | zero => intro n _ h0; exact absurd h0 (by omega)
  | succ d ih =>
    intro n hL hd
    rw [fnd, hpc]
    cases c : upTo (nI key) (nI n) (lsF (σ 0) (σ 1) (nI n)) with
    | true => exact ⟨n, by rw [if_pos rfl]; rfl, hL, by rw [if_pos rfl]⟩
    | false =>
      obtain ⟨j, ej, lj, cj⟩ := h.nx hL hk c
      obtain ⟨y, e1, e2, e3⟩ := ih j lj (by omega)
      refine ⟨y, ?_, e2, ?_⟩
      · rw [if_neg (by decide), pth_sh, ej]; exact e1
      · rw [if_neg (by decide), ej]; exact e3

abbrev rm_L_isSo : Room := { frames := 9, cells := 900, slots := 5000, locals := 155 }
set_option maxHeartbeats 8000000 in
set_option maxRecDepth 100000 in
theorem c_L_isSo (l : Launch) (hl9 : l.stackTraces = false) (G : cG) (sa : Nat → Nat) (a q : Nat → Nat) (σ ρ τ : cS) (Z : Nat) (ν δ κ : Nat → Nat) (hR : Rq Z ν δ κ σ τ) : MetN l yL_isSo wsL_isSo rm_L_isSo G sa (wW G a q σ ρ τ) [.ref (a 0), .ref (q 0), .ref (q 1), .ref (q 2), .ref (q 3), .ref (q 4)] (fun u : cS => wW G a q σ u τ) (fun r _ => r = 1) 900 5000 := by
  refine co_bodyN (cc := cL_isSo) (maxL := 10) (ret := (some .boolean)) (by decide) rfl (Nat.le_of_ble_eq_true rfl) ?_
  intro p e s m args below meth c S hr hlocks hK A hA hP hD hS hX ls hl
  have S : CallFix p m c cL_isSo 10 s args wsL_isSo RL := S
  obtain ⟨hx, hb, hml, hown, hts⟩ := id S
  have hl : lv_has ls 10 [(0, .ref (a 0)), (1, .ref (q 0)), (2, .ref (q 1)), (3, .ref (q 2)), (4, .ref (q 3)), (5, .ref (q 4))] := hl
  refine lv_aload_n hx hb dL_isSo_0 rfl (lv_at hl 0 rfl) ?_
  refine co_rV (As := []) (rest := []) S (c_X2_living l G a σ ρ) (cwV 0 hts gL_isSo_X2_living rfl rfl rfl (by decide +kernel) ⟨(Nat.le_of_ble_eq_true rfl), (Nat.le_of_ble_eq_true rfl)⟩) hK (pG_perm hP [0, 1, 2, 3, 4, 5, 6, 7, 8, 9, 10, 11, 12, 13, 14, 15, 16, 17, 18] rfl) (va_recv hK hP (ci := 1) (q0 := 0) rfl rfl) rfl hl.1 rfl (Nat.le_of_ble_eq_true rfl) dL_isSo_1 ⟨by show 0 + 0 ≤ 900; omega, by show 0 + 0 ≤ 5000; omega⟩ ?_
  refine lv_aload_n hx hb dL_isSo_4 rfl (lv_at hl 2 rfl) ?_
  refine co_rS (As := [.ref (q 1)]) (rest := [.int (cnt (σ 0) 64)]) S (c_L_count l G Z q ν δ κ σ τ hR) (va_cwS 1 hts gL_isSo_L_count rfl rfl rfl (by decide +kernel) ⟨Nat.le_of_ble_eq_true rfl, Nat.le_of_ble_eq_true rfl⟩) hK (pG_perm hP [19, 20, 21, 22, 23] rfl) rfl hl.1 rfl (Nat.le_of_ble_eq_true rfl) dL_isSo_5 ⟨by show 0 + 0 ≤ 900; omega, by show 0 + 0 ≤ 5000; omega⟩ ?_
  refine lv_icmp_ne (tgt := 30) hx hb dL_isSo_8 (by decide) (fun c_1 => ?_) (fun c_1 => ?_)
  · exact absurd rfl c_1
  · refine lv_aload_n hx hb dL_isSo_11 rfl (lv_at hl 0 rfl) ?_
    refine co_rV (As := []) (rest := []) S (c_X2_wrongPointers l G a σ ρ) (cwV 0 hts gL_isSo_X2_wrongPointers rfl rfl rfl (by decide +kernel) ⟨(Nat.le_of_ble_eq_true rfl), (Nat.le_of_ble_eq_true rfl)⟩) hK (pG_perm hP [0, 1, 2, 3, 4, 5, 6, 7, 8, 9, 10, 11, 12, 13, 14, 15, 16, 17, 18] rfl) (va_recv hK hP (ci := 1) (q0 := 0) rfl rfl) rfl hl.1 rfl (Nat.le_of_ble_eq_true rfl) dL_isSo_12 ⟨by show 0 + 0 ≤ 900; omega, by show 0 + 0 ≤ 5000; omega⟩ ?_
    refine lv_aload_n hx hb dL_isSo_15 rfl (lv_at hl 1 rfl) ?_
    refine lv_aload_n hx hb dL_isSo_16 rfl (lv_at hl 2 rfl) ?_
    refine lv_aload_n hx hb dL_isSo_17 rfl (lv_at hl 3 rfl) ?_
    refine lv_aload hx hb dL_isSo_18 (lv_at hl 4 rfl) ?_
    refine co_rS (As := [.ref (q 0), .ref (q 1), .ref (q 2), .ref (q 3)]) (rest := [.int (cwp σ 64)]) S (c_L_wrong l G Z q ν δ κ σ τ hR) (va_cwS 4 hts gL_isSo_L_wrong rfl rfl rfl (by decide +kernel) ⟨Nat.le_of_ble_eq_true rfl, Nat.le_of_ble_eq_true rfl⟩) hK (pG_perm hP [19, 20, 21, 22, 23] rfl) rfl hl.1 rfl (Nat.le_of_ble_eq_true rfl) dL_isSo_20 ⟨by show 0 + 0 ≤ 900; omega, by show 0 + 0 ≤ 5000; omega⟩ ?_
    refine lv_icmp_ne (tgt := 30) hx hb dL_isSo_23 (by decide) (fun c_2 => ?_) (fun c_2 => ?_)
    · exact absurd rfl c_2
    · refine lv_iconst (v := 1) hx hb dL_isSo_26 (by decide) ?_
      refine lv_goto (tgt := 31) hx hb dL_isSo_27 (by decide) ?_
      refine lv_istore (lv' := [(6, .int 1), (0, .ref (a 0)), (1, .ref (q 0)), (2, .ref (q 1)), (3, .ref (q 2)), (4, .ref (q 3)), (5, .ref (q 4))]) hx hb dL_isSo_31 hl (by decide) rfl (fun ls hl => ?_)
      refine lv_iconst (v := 0) hx hb dL_isSo_33 (by decide) ?_
      refine lv_istore (lv' := [(7, .int 0), (6, .int 1), (0, .ref (a 0)), (1, .ref (q 0)), (2, .ref (q 1)), (3, .ref (q 2)), (4, .ref (q 3)), (5, .ref (q 4))]) hx hb dL_isSo_34 hl (by decide) rfl (fun ls hl => ?_)
      have L1 : ∀ (d₁ : Nat) (k : Nat) (ρ₁ : cS) (cc₁ sc₁ : Nat), k + d₁ = 10 → cc₁ + 79 * d₁ ≤ 800 → sc₁ + 474 * d₁ ≤ 4800 → ∀ (H : Heap) (locs : List Loc), pG G (wW G a q σ ρ₁ τ) H → va_D A (wW G a q σ ρ₁ τ) → va_S A s.heap H locs → ∀ ls : Array Slot, lv_has ls 10 [(0, .ref (a 0)), (1, .ref (q 0)), (2, .ref (q 1)), (3, .ref (q 2)), (4, .ref (q 3)), (5, .ref (q 4)), (6, .int 1), (7, .int (nI k))] → W p l e rm_L_isSo s m args below meth c H locs cc₁ sc₁ (QN below G A (fun u : cS => wW G a q σ u τ) (fun r _ => r = 1) 900 5000 args s) (F0 m 36 ls []) := by
        intro d₁
        induction d₁ with
        | zero =>
          intro k ρ₁ cc₁ sc₁ hk cb sb H locs hP hD hS ls hl
          refine lv_iload hx hb dL_isSo_36 (lv_at hl 7 rfl) ?_
          refine lv_bipush (v := 10) hx hb dL_isSo_38 (by decide) ?_
          refine lv_icmp_ge (tgt := 240) hx hb dL_isSo_40 (by decide) (fun c_3 => ?_) (fun c_3 => ?_)
          · refine lv_iconst (v := 0) hx hb dL_isSo_240 (by decide) ?_
            refine lv_istore (lv' := [(7, .int 0), (0, .ref (a 0)), (1, .ref (q 0)), (2, .ref (q 1)), (3, .ref (q 2)), (4, .ref (q 3)), (5, .ref (q 4)), (6, .int 1)]) hx hb dL_isSo_241 hl (by decide) rfl (fun ls hl => ?_)
            have L3 : ∀ (d₃ : Nat) (c₁ : Nat) (ρ₁ : cS) (cc₁ sc₁ : Nat), c₁ + d₃ = 6 → cc₁ + 2 * d₃ ≤ 812 → sc₁ + 12 * d₃ ≤ 4872 → ∀ (H : Heap) (locs : List Loc), pG G (wW G a q σ ρ₁ τ) H → va_D A (wW G a q σ ρ₁ τ) → va_S A s.heap H locs → ∀ ls : Array Slot, lv_has ls 10 [(0, .ref (a 0)), (1, .ref (q 0)), (2, .ref (q 1)), (3, .ref (q 2)), (4, .ref (q 3)), (5, .ref (q 4)), (6, .int 1), (7, .int (nI c₁))] → W p l e rm_L_isSo s m args below meth c H locs cc₁ sc₁ (QN below G A (fun u : cS => wW G a q σ u τ) (fun r _ => r = 1) 900 5000 args s) (F0 m 243 ls []) := by
              intro d₃
              induction d₃ with
              | zero =>
                intro c₁ ρ₁ cc₁ sc₁ hc9 cb sb H locs hP hD hS ls hl
                refine lv_iload hx hb dL_isSo_243 (lv_at hl 7 rfl) ?_
                refine lv_bipush (v := 6) hx hb dL_isSo_245 (by decide) ?_
                refine lv_icmp_ge (tgt := 364) hx hb dL_isSo_247 (by decide) (fun c_4 => ?_) (fun c_4 => ?_)
                · refine lv_iload hx hb dL_isSo_364 (lv_at hl 6 rfl) ?_
                  exact co_endNz (v := true) ρ₁ S hr hlocks dL_isSo_366 hK hP hD hS rfl (by show cc₁ ≤ 900; omega) (by show sc₁ ≤ 5000; omega)
                · exact absurd (nI_le (a := 6) (b := c₁) (by omega) (by omega)) c_4
              | succ d₃ ihL3 =>
                intro c₁ ρ₁ cc₁ sc₁ hc9 cb sb H locs hP hD hS ls hl
                have tk9 : κ c₁ < 64 := Rq.ka hR (by omega)
                refine lv_iload hx hb dL_isSo_243 (lv_at hl 7 rfl) ?_
                refine lv_bipush (v := 6) hx hb dL_isSo_245 (by decide) ?_
                refine lv_icmp_ge (tgt := 364) hx hb dL_isSo_247 (by decide) (fun c_5 => ?_) (fun c_5 => ?_)
                · exact absurd c_5 (nI_ge (a := c₁) (b := 6) (by omega) (by omega))
                · refine lv_iload hx hb dL_isSo_250 (lv_at hl 6 rfl) ?_
                  refine lv_if_eq (tgt := 364) hx hb dL_isSo_252 (by decide) (fun c_6 => ?_) (fun c_6 => ?_)
                  · exact absurd c_6 (by decide)
                  · refine lv_iconst (v := 0) hx hb dL_isSo_255 (by decide) ?_
                    refine lv_istore (lv' := [(8, .int 0), (0, .ref (a 0)), (1, .ref (q 0)), (2, .ref (q 1)), (3, .ref (q 2)), (4, .ref (q 3)), (5, .ref (q 4)), (6, .int 1), (7, .int (nI c₁))]) hx hb dL_isSo_256 hl (by decide) rfl (fun ls hl => ?_)
                    refine lv_iconst (v := 0) hx hb dL_isSo_258 (by decide) ?_
                    refine lv_istore (lv' := [(9, .int 0), (8, .int 0), (0, .ref (a 0)), (1, .ref (q 0)), (2, .ref (q 1)), (3, .ref (q 2)), (4, .ref (q 3)), (5, .ref (q 4)), (6, .int 1), (7, .int (nI c₁))]) hx hb dL_isSo_259 hl (by decide) rfl (fun ls hl => ?_)
                    have L4 : ∀ (d₄ : Nat) (j : Nat) (y : Int32), j + d₄ = 10 → y = smI (fun i => kpT σ (nI (κ c₁)) (nI (ν i))) j → ∀ (H : Heap) (locs : List Loc), pG G (wW G a q σ ρ₁ τ) H → va_D A (wW G a q σ ρ₁ τ) → va_S A s.heap H locs → ∀ ls : Array Slot, lv_has ls 10 [(0, .ref (a 0)), (1, .ref (q 0)), (2, .ref (q 1)), (3, .ref (q 2)), (4, .ref (q 3)), (5, .ref (q 4)), (6, .int 1), (7, .int (nI c₁)), (8, .int y), (9, .int (nI j))] → W p l e rm_L_isSo s m args below meth c H locs (cc₁) (sc₁) (QN below G A (fun u : cS => wW G a q σ u τ) (fun r _ => r = 1) 900 5000 args s) (F0 m 261 ls []) := by
                      intro d₄
                      induction d₄ with
                      | zero =>
                        intro j y hj9 hy9 H locs hP hD hS ls hl
                        have hz9 : y = kpC σ (nI (κ c₁)) 64 := (by rw [hy9, show j = 10 by omega]; exact rq_kpC hR _)
                        refine lv_iload hx hb dL_isSo_261 (lv_at hl 9 rfl) ?_
                        refine lv_bipush (v := 10) hx hb dL_isSo_263 (by decide) ?_
                        refine lv_icmp_ge (tgt := 309) hx hb dL_isSo_265 (by decide) (fun c_7 => ?_) (fun c_7 => ?_)
                        · refine lv_aload_n hx hb dL_isSo_309 rfl (lv_at hl 0 rfl) ?_
                          refine lv_aload_n hx hb dL_isSo_310 rfl (lv_at hl 2 rfl) ?_
                          refine lv_bipush (v := 20) hx hb dL_isSo_311 (by decide) ?_
                          refine lv_iload hx hb dL_isSo_313 (lv_at hl 7 rfl) ?_
                          refine lv_iadd hx hb dL_isSo_315 ?_
                          refine co_eq (show (20 : Int32) + (nI c₁) = (nI (20 + c₁)) from nI_add 20 c₁) ?_
                          refine va_iald hx hb hK hP 20 0 rfl rfl (vp_in_nI (n := (20 + c₁)) (N := 27) (by omega) (by decide)) dL_isSo_316 ?_
                          refine co_eq (rq_k hR (show c₁ < 6 by omega)) ?_
                          refine co_q (As := [.int (nI (κ c₁))]) (rest := []) S (c_X2_keepers l hl9 G sa a σ ρ₁ (nI (κ c₁))) (fun r u h => ⟨h.2.1, h.2.2⟩) (fun E u h => exq_no h.1 (cd10 tk9)) (cwV 1 hts gL_isSo_X2_keepers rfl rfl rfl (by decide +kernel) ⟨(Nat.le_of_ble_eq_true rfl), (Nat.le_of_ble_eq_true rfl)⟩) hK hP hD hS hA hX rfl hl.1 rfl (Nat.le_of_ble_eq_true rfl) dL_isSo_317 ⟨by show cc₁ + 1 ≤ 900; omega, by show sc₁ + 6 ≤ 5000; omega⟩ (fun ρ_8 H locs hP hD hS => ?_)
                          refine lv_iload hx hb dL_isSo_320 (lv_at hl 8 rfl) ?_
                          refine co_eq (hz9) ?_
                          refine lv_icmp_ne (tgt := 355) hx hb dL_isSo_322 (by decide) (fun c_9 => ?_) (fun c_9 => ?_)
                          · exact absurd rfl c_9
                          · refine lv_aload_n hx hb dL_isSo_325 rfl (lv_at hl 0 rfl) ?_
                            refine lv_aload_n hx hb dL_isSo_326 rfl (lv_at hl 2 rfl) ?_
                            refine lv_bipush (v := 20) hx hb dL_isSo_327 (by decide) ?_
                            refine lv_iload hx hb dL_isSo_329 (lv_at hl 7 rfl) ?_
                            refine lv_iadd hx hb dL_isSo_331 ?_
                            refine co_eq (show (20 : Int32) + (nI c₁) = (nI (20 + c₁)) from nI_add 20 c₁) ?_
                            refine va_iald hx hb hK hP 20 0 rfl rfl (vp_in_nI (n := (20 + c₁)) (N := 27) (by omega) (by decide)) dL_isSo_332 ?_
                            refine co_eq (rq_k hR (show c₁ < 6 by omega)) ?_
                            refine co_q (As := [.int (nI (κ c₁))]) (rest := []) S (c_X2_owner l hl9 G sa a σ ρ_8 (nI (κ c₁))) (fun r u h => ⟨h.2.1, h.2.2⟩) (fun E u h => exq_no h.1 (cd10 tk9)) (cwV 1 hts gL_isSo_X2_owner rfl rfl rfl (by decide +kernel) ⟨(Nat.le_of_ble_eq_true rfl), (Nat.le_of_ble_eq_true rfl)⟩) hK hP hD hS hA hX rfl hl.1 rfl (Nat.le_of_ble_eq_true rfl) dL_isSo_333 ⟨by show cc₁ + 1 + 1 ≤ 900; omega, by show sc₁ + 6 + 6 ≤ 5000; omega⟩ (fun ρ_10 H locs hP hD hS => ?_)
                            refine lv_aload_n hx hb dL_isSo_336 rfl (lv_at hl 2 rfl) ?_
                            refine lv_bipush (v := 20) hx hb dL_isSo_337 (by decide) ?_
                            refine lv_iload hx hb dL_isSo_339 (lv_at hl 7 rfl) ?_
                            refine lv_iadd hx hb dL_isSo_341 ?_
                            refine co_eq (show (20 : Int32) + (nI c₁) = (nI (20 + c₁)) from nI_add 20 c₁) ?_
                            refine va_iald hx hb hK hP 20 0 rfl rfl (vp_in_nI (n := (20 + c₁)) (N := 27) (by omega) (by decide)) dL_isSo_342 ?_
                            refine co_eq (rq_k hR (show c₁ < 6 by omega)) ?_
                            refine lv_aload_n hx hb dL_isSo_343 rfl (lv_at hl 1 rfl) ?_
                            refine lv_aload_n hx hb dL_isSo_344 rfl (lv_at hl 2 rfl) ?_
                            refine co_rS (As := [.int (nI (κ c₁)), .ref (q 0), .ref (q 1)]) (rest := [.int (upF (σ 0) (nI (κ c₁)) 64 0)]) S (c_L_owner l G Z q ν δ κ σ τ hR (κ c₁) tk9) (va_cwS 3 hts gL_isSo_L_owner rfl rfl rfl (by decide +kernel) ⟨Nat.le_of_ble_eq_true rfl, Nat.le_of_ble_eq_true rfl⟩) hK (pG_perm hP [19, 20, 21, 22, 23] rfl) rfl hl.1 rfl (Nat.le_of_ble_eq_true rfl) dL_isSo_345 ⟨by show cc₁ + 1 + 1 + 0 ≤ 900; omega, by show sc₁ + 6 + 6 + 0 ≤ 5000; omega⟩ ?_
                            refine lv_icmp_ne (tgt := 355) hx hb dL_isSo_348 (by decide) (fun c_11 => ?_) (fun c_11 => ?_)
                            · exact absurd rfl c_11
                            · refine lv_iconst (v := 1) hx hb dL_isSo_351 (by decide) ?_
                              refine lv_goto (tgt := 356) hx hb dL_isSo_352 (by decide) ?_
                              refine lv_istore (lv' := [(6, .int 1), (0, .ref (a 0)), (1, .ref (q 0)), (2, .ref (q 1)), (3, .ref (q 2)), (4, .ref (q 3)), (5, .ref (q 4)), (7, .int (nI c₁)), (8, .int y), (9, .int (nI j))]) hx hb dL_isSo_356 hl (by decide) rfl (fun ls hl => ?_)
                              refine lv_iinc (v := (nI (c₁ + 1))) (lv' := [(7, .int (nI (c₁ + 1))), (6, .int 1), (0, .ref (a 0)), (1, .ref (q 0)), (2, .ref (q 1)), (3, .ref (q 2)), (4, .ref (q 3)), (5, .ref (q 4)), (8, .int y), (9, .int (nI j))]) hx hb dL_isSo_358 hl (k := 7) rfl (nI_1 c₁) (by decide) rfl (fun ls hl => ?_)
                              refine lv_goto (tgt := 243) hx hb dL_isSo_361 (by decide) ?_
                              exact ihL3 (c₁ + 1) ρ_10 _ _ (by omega) (by omega) (by omega) _ _ hP hD hS ls (lv_sub hl [2, 3, 4, 5, 6, 7, 1, 0] rfl)
                        · exact absurd (nI_le (a := 10) (b := j) (by omega) (by omega)) c_7
                      | succ d₄ ihL4 =>
                        intro j y hj9 hy9 H locs hP hD hS ls hl
                        have tn9 : ν j < 64 := Rq.nu hR (show j < 10 by omega)
                        refine lv_iload hx hb dL_isSo_261 (lv_at hl 9 rfl) ?_
                        refine lv_bipush (v := 10) hx hb dL_isSo_263 (by decide) ?_
                        refine lv_icmp_ge (tgt := 309) hx hb dL_isSo_265 (by decide) (fun c_12 => ?_) (fun c_12 => ?_)
                        · exact absurd c_12 (nI_ge (a := j) (b := 10) (by omega) (by omega))
                        · refine lv_iload hx hb dL_isSo_268 (lv_at hl 8 rfl) ?_
                          refine lv_aload_n hx hb dL_isSo_270 rfl (lv_at hl 2 rfl) ?_
                          refine lv_bipush (v := 10) hx hb dL_isSo_271 (by decide) ?_
                          refine lv_iload hx hb dL_isSo_273 (lv_at hl 9 rfl) ?_
                          refine lv_iadd hx hb dL_isSo_275 ?_
                          refine co_eq (show (10 : Int32) + (nI j) = (nI (10 + j)) from nI_add 10 j) ?_
                          refine va_iald hx hb hK hP 20 0 rfl rfl (vp_in_nI (n := (10 + j)) (N := 27) (by omega) (by decide)) dL_isSo_276 ?_
                          refine co_eq (y := bI (alv (σ 0) (nI (ν j)))) (rq_l hR (show j < 10 by omega)) ?_
                          refine lv_iconst (v := 1) hx hb dL_isSo_277 (by decide) ?_
                          refine co_icmpne1 (tgt := 299) S dL_isSo_278 (by decide) (fun c_13 => ?_) (fun c_13 => ?_)
                          · refine lv_iconst (v := 0) hx hb dL_isSo_299 (by decide) ?_
                            refine lv_iadd hx hb dL_isSo_300 ?_
                            refine lv_istore (lv' := [(8, .int (y + 0)), (0, .ref (a 0)), (1, .ref (q 0)), (2, .ref (q 1)), (3, .ref (q 2)), (4, .ref (q 3)), (5, .ref (q 4)), (6, .int 1), (7, .int (nI c₁)), (9, .int (nI j))]) hx hb dL_isSo_301 hl (by decide) rfl (fun ls hl => ?_)
                            refine lv_iinc (v := (nI (j + 1))) (lv' := [(9, .int (nI (j + 1))), (8, .int (y + 0)), (0, .ref (a 0)), (1, .ref (q 0)), (2, .ref (q 1)), (3, .ref (q 2)), (4, .ref (q 3)), (5, .ref (q 4)), (6, .int 1), (7, .int (nI c₁))]) hx hb dL_isSo_303 hl (k := 9) rfl (nI_1 j) (by decide) rfl (fun ls hl => ?_)
                            refine lv_goto (tgt := 261) hx hb dL_isSo_306 (by decide) ?_
                            exact ihL4 (j + 1) _ (by omega) (by show _ = smI (fun i => kpT σ (nI (κ c₁)) (nI (ν i))) j + kpT σ (nI (κ c₁)) (nI (ν j)); rw [← hy9, kpT, if_neg (by rw [c_13]; decide)]) _ _ hP hD hS ls (lv_sub hl [2, 3, 4, 5, 6, 7, 8, 9, 1, 0] rfl)
                          · refine lv_aload hx hb dL_isSo_281 (lv_at hl 5 rfl) ?_
                            refine lv_bipush (v := 6) hx hb dL_isSo_283 (by decide) ?_
                            refine lv_iload hx hb dL_isSo_285 (lv_at hl 9 rfl) ?_
                            refine lv_imul hx hb dL_isSo_287 ?_
                            refine co_eq (show (6 : Int32) * (nI j) = (nI (6 * j)) from pk_mul 6 j) ?_
                            refine lv_iload hx hb dL_isSo_288 (lv_at hl 7 rfl) ?_
                            refine lv_iadd hx hb dL_isSo_290 ?_
                            refine co_eq (show (nI (6 * j)) + (nI c₁) = (nI ((6 * j) + c₁)) from nI_add (6 * j) c₁) ?_
                            refine va_iald hx hb hK hP 23 0 rfl rfl (vp_in_nI (n := ((6 * j) + c₁)) (N := 60) (by omega) (by decide)) dL_isSo_291 ?_
                            rcases rq_st hR ⟨tn9, c_13⟩ (Rq.ka hR (show c₁ < 6 by omega)) with at_14 | ⟨t_14, gt_14, ht_14, at_14⟩
                            · have bt_14 : tat 64 (σ 4) (nI (ν j)) (nI (κ c₁)) = (-1) := (rq_v hR ⟨tn9, c_13⟩ (Rq.ka hR (show c₁ < 6 by omega))).trans at_14
                              refine co_eq ((rq_w hR ⟨tn9, c_13⟩ (Rq.dn hR (show j < 10 by omega)) c₁ (by omega) (i := (6 * j) + c₁) (by omega)).trans at_14) ?_
                              refine lv_if_lt (tgt := 299) hx hb dL_isSo_292 (by decide) (fun c_15 => ?_) (fun c_15 => ?_)
                              · refine lv_iconst (v := 0) hx hb dL_isSo_299 (by decide) ?_
                                refine lv_iadd hx hb dL_isSo_300 ?_
                                refine lv_istore (lv' := [(8, .int (y + 0)), (0, .ref (a 0)), (1, .ref (q 0)), (2, .ref (q 1)), (3, .ref (q 2)), (4, .ref (q 3)), (5, .ref (q 4)), (6, .int 1), (7, .int (nI c₁)), (9, .int (nI j))]) hx hb dL_isSo_301 hl (by decide) rfl (fun ls hl => ?_)
                                refine lv_iinc (v := (nI (j + 1))) (lv' := [(9, .int (nI (j + 1))), (8, .int (y + 0)), (0, .ref (a 0)), (1, .ref (q 0)), (2, .ref (q 1)), (3, .ref (q 2)), (4, .ref (q 3)), (5, .ref (q 4)), (6, .int 1), (7, .int (nI c₁))]) hx hb dL_isSo_303 hl (k := 9) rfl (nI_1 j) (by decide) rfl (fun ls hl => ?_)
                                refine lv_goto (tgt := 261) hx hb dL_isSo_306 (by decide) ?_
                                exact ihL4 (j + 1) _ (by omega) (by show _ = smI (fun i => kpT σ (nI (κ c₁)) (nI (ν i))) j + kpT σ (nI (κ c₁)) (nI (ν j)); rw [← hy9, kpT, if_pos c_13, if_pos bt_14]) _ _ hP hD hS ls (lv_sub hl [2, 3, 4, 5, 6, 7, 8, 9, 1, 0] rfl)
                              · exact absurd (by decide) c_15
                            · have bt_14 : tat 64 (σ 4) (nI (ν j)) (nI (κ c₁)) = (nI t_14) := (rq_v hR ⟨tn9, c_13⟩ (Rq.ka hR (show c₁ < 6 by omega))).trans at_14
                              refine co_eq ((rq_w hR ⟨tn9, c_13⟩ (Rq.dn hR (show j < 10 by omega)) c₁ (by omega) (i := (6 * j) + c₁) (by omega)).trans at_14) ?_
                              refine lv_if_lt (tgt := 299) hx hb dL_isSo_292 (by decide) (fun c_16 => ?_) (fun c_16 => ?_)
                              · exact absurd c_16 (nI_pos (by omega))
                              · refine lv_iconst (v := 1) hx hb dL_isSo_295 (by decide) ?_
                                refine lv_goto (tgt := 300) hx hb dL_isSo_296 (by decide) ?_
                                refine lv_iadd hx hb dL_isSo_300 ?_
                                refine lv_istore (lv' := [(8, .int (y + 1)), (0, .ref (a 0)), (1, .ref (q 0)), (2, .ref (q 1)), (3, .ref (q 2)), (4, .ref (q 3)), (5, .ref (q 4)), (6, .int 1), (7, .int (nI c₁)), (9, .int (nI j))]) hx hb dL_isSo_301 hl (by decide) rfl (fun ls hl => ?_)
                                refine lv_iinc (v := (nI (j + 1))) (lv' := [(9, .int (nI (j + 1))), (8, .int (y + 1)), (0, .ref (a 0)), (1, .ref (q 0)), (2, .ref (q 1)), (3, .ref (q 2)), (4, .ref (q 3)), (5, .ref (q 4)), (6, .int 1), (7, .int (nI c₁))]) hx hb dL_isSo_303 hl (k := 9) rfl (nI_1 j) (by decide) rfl (fun ls hl => ?_)
                                refine lv_goto (tgt := 261) hx hb dL_isSo_306 (by decide) ?_
                                exact ihL4 (j + 1) _ (by omega) (by show _ = smI (fun i => kpT σ (nI (κ c₁)) (nI (ν i))) j + kpT σ (nI (κ c₁)) (nI (ν j)); rw [← hy9, kpT, if_pos c_13, if_neg (by rw [bt_14]; exact nI_ne1 (by omega))]) _ _ hP hD hS ls (lv_sub hl [2, 3, 4, 5, 6, 7, 8, 9, 1, 0] rfl)
                    exact L4 10 0 _ rfl rfl _ _ hP hD hS ls (lv_sub hl [2, 3, 4, 5, 6, 7, 8, 9, 1, 0] rfl)
            exact L3 6 0 ρ₁ _ _ rfl (by omega) (by omega) _ _ hP hD hS ls (lv_sub hl [1, 2, 3, 4, 5, 6, 7, 0] rfl)
          · exact absurd (nI_le (a := 10) (b := k) (by omega) (by omega)) c_3
        | succ d₁ ihL1 =>
          intro k ρ₁ cc₁ sc₁ hk cb sb H locs hP hD hS ls hl
          have tn9 : ν k < 64 := Rq.nu hR (show k < 10 by omega)
          refine lv_iload hx hb dL_isSo_36 (lv_at hl 7 rfl) ?_
          refine lv_bipush (v := 10) hx hb dL_isSo_38 (by decide) ?_
          refine lv_icmp_ge (tgt := 240) hx hb dL_isSo_40 (by decide) (fun c_17 => ?_) (fun c_17 => ?_)
          · exact absurd c_17 (nI_ge (a := k) (b := 10) (by omega) (by omega))
          · refine lv_iload hx hb dL_isSo_43 (lv_at hl 6 rfl) ?_
            refine lv_if_eq (tgt := 240) hx hb dL_isSo_45 (by decide) (fun c_18 => ?_) (fun c_18 => ?_)
            · exact absurd c_18 (by decide)
            · refine lv_aload_n hx hb dL_isSo_48 rfl (lv_at hl 2 rfl) ?_
              refine lv_iload hx hb dL_isSo_49 (lv_at hl 7 rfl) ?_
              refine va_iald hx hb hK hP 20 0 rfl rfl (vp_in_nI (n := k) (N := 27) (by omega) (by decide)) dL_isSo_51 ?_
              refine co_eq (rq_n hR (show k < 10 by omega)) ?_
              refine lv_istore (lv' := [(8, .int (nI (ν k))), (0, .ref (a 0)), (1, .ref (q 0)), (2, .ref (q 1)), (3, .ref (q 2)), (4, .ref (q 3)), (5, .ref (q 4)), (6, .int 1), (7, .int (nI k))]) hx hb dL_isSo_52 hl (by decide) rfl (fun ls hl => ?_)
              refine lv_aload_n hx hb dL_isSo_54 rfl (lv_at hl 1 rfl) ?_
              refine lv_iload hx hb dL_isSo_55 (lv_at hl 0 rfl) ?_
              refine co_q (As := [.int (nI (ν k))]) (rest := []) S (c_X2_isLiving l hl9 G sa a σ ρ₁ (nI (ν k))) (fun r u h => ⟨h.2.1, h.2.2⟩) (fun E u h => exq_no h.1 (cd10 tn9)) (cwV 1 hts gL_isSo_X2_isLiving rfl rfl rfl (by decide +kernel) ⟨(Nat.le_of_ble_eq_true rfl), (Nat.le_of_ble_eq_true rfl)⟩) hK hP hD hS hA hX rfl hl.1 rfl (Nat.le_of_ble_eq_true rfl) dL_isSo_57 ⟨by show cc₁ + 1 ≤ 900; omega, by show sc₁ + 6 ≤ 5000; omega⟩ (fun ρ_19 H locs hP hD hS => ?_)
              refine lv_aload_n hx hb dL_isSo_60 rfl (lv_at hl 3 rfl) ?_
              refine lv_bipush (v := 10) hx hb dL_isSo_61 (by decide) ?_
              refine lv_iload hx hb dL_isSo_63 (lv_at hl 8 rfl) ?_
              refine lv_iadd hx hb dL_isSo_65 ?_
              refine co_eq (show (10 : Int32) + (nI k) = (nI (10 + k)) from nI_add 10 k) ?_
              refine va_iald hx hb hK hP 20 0 rfl rfl (vp_in_nI (n := (10 + k)) (N := 27) (by omega) (by decide)) dL_isSo_66 ?_
              refine co_eq (y := bI (alv (σ 0) (nI (ν k)))) (rq_l hR (show k < 10 by omega)) ?_
              refine lv_iconst (v := 1) hx hb dL_isSo_67 (by decide) ?_
              refine co_icmpne1 (tgt := 75) S dL_isSo_68 (by decide) (fun c_20 => ?_) (fun c_20 => ?_)
              · refine lv_iconst (v := 0) hx hb dL_isSo_75 (by decide) ?_
                refine co_icmp0ne (tgt := 83) S dL_isSo_76 (by decide) (fun c_21 => ?_) (fun c_21 => ?_)
                · exact absurd (c_21.symm.trans c_20) (by decide)
                · refine lv_iconst (v := 1) hx hb dL_isSo_79 (by decide) ?_
                  refine lv_goto (tgt := 84) hx hb dL_isSo_80 (by decide) ?_
                  refine lv_istore (lv' := [(6, .int 1), (8, .int (nI (ν k))), (0, .ref (a 0)), (1, .ref (q 0)), (2, .ref (q 1)), (3, .ref (q 2)), (4, .ref (q 3)), (5, .ref (q 4)), (7, .int (nI k))]) hx hb dL_isSo_84 hl (by decide) rfl (fun ls hl => ?_)
                  refine lv_iconst (v := 0) hx hb dL_isSo_86 (by decide) ?_
                  refine lv_istore (lv' := [(9, .int 0), (6, .int 1), (8, .int (nI (ν k))), (0, .ref (a 0)), (1, .ref (q 0)), (2, .ref (q 1)), (3, .ref (q 2)), (4, .ref (q 3)), (5, .ref (q 4)), (7, .int (nI k))]) hx hb dL_isSo_87 hl (by decide) rfl (fun ls hl => ?_)
                  obtain ⟨c2, hc2⟩ : ∃ z9, z9 = cc₁ + 1 := ⟨_, rfl⟩
                  obtain ⟨s2, hs2⟩ : ∃ z9, z9 = sc₁ + 6 := ⟨_, rfl⟩
                  have L2 : ∀ (d₂ : Nat) (i : Nat) (ρ₁ : cS) (cc₁ sc₁ : Nat), i + d₂ = 6 → cc₁ + 13 * d₂ ≤ c2 + 78 → sc₁ + 78 * d₂ ≤ s2 + 468 → ∀ (H : Heap) (locs : List Loc), pG G (wW G a q σ ρ₁ τ) H → va_D A (wW G a q σ ρ₁ τ) → va_S A s.heap H locs → ∀ ls : Array Slot, lv_has ls 10 [(0, .ref (a 0)), (1, .ref (q 0)), (2, .ref (q 1)), (3, .ref (q 2)), (4, .ref (q 3)), (5, .ref (q 4)), (6, .int 1), (7, .int (nI k)), (8, .int (nI (ν k))), (9, .int (nI i))] → W p l e rm_L_isSo s m args below meth c H locs cc₁ sc₁ (QN below G A (fun u : cS => wW G a q σ u τ) (fun r _ => r = 1) 900 5000 args s) (F0 m 89 ls []) := by
                    intro d₂
                    induction d₂ with
                    | zero =>
                      intro i ρ₁ cc₁ sc₁ hi9 cb2 sb2 H locs hP hD hS ls hl
                      refine lv_iload hx hb dL_isSo_89 (lv_at hl 9 rfl) ?_
                      refine lv_bipush (v := 6) hx hb dL_isSo_91 (by decide) ?_
                      refine lv_icmp_ge (tgt := 234) hx hb dL_isSo_93 (by decide) (fun c_22 => ?_) (fun c_22 => ?_)
                      · refine lv_iinc (v := (nI (k + 1))) (lv' := [(7, .int (nI (k + 1))), (0, .ref (a 0)), (1, .ref (q 0)), (2, .ref (q 1)), (3, .ref (q 2)), (4, .ref (q 3)), (5, .ref (q 4)), (6, .int 1), (8, .int (nI (ν k))), (9, .int (nI i))]) hx hb dL_isSo_234 hl (k := 7) rfl (nI_1 k) (by decide) rfl (fun ls hl => ?_)
                        refine lv_goto (tgt := 36) hx hb dL_isSo_237 (by decide) ?_
                        exact ihL1 (k + 1) ρ₁ _ _ (by omega) (by omega) (by omega) _ _ hP hD hS ls (lv_sub hl [1, 2, 3, 4, 5, 6, 7, 0] rfl)
                      · exact absurd (nI_le (a := 6) (b := i) (by omega) (by omega)) c_22
                    | succ d₂ ihL2 =>
                      intro i ρ₁ cc₁ sc₁ hi9 cb2 sb2 H locs hP hD hS ls hl
                      refine lv_iload hx hb dL_isSo_89 (lv_at hl 9 rfl) ?_
                      refine lv_bipush (v := 6) hx hb dL_isSo_91 (by decide) ?_
                      refine lv_icmp_ge (tgt := 234) hx hb dL_isSo_93 (by decide) (fun c_23 => ?_) (fun c_23 => ?_)
                      · exact absurd c_23 (nI_ge (a := i) (b := 6) (by omega) (by omega))
                      · refine lv_iload hx hb dL_isSo_96 (lv_at hl 6 rfl) ?_
                        refine lv_if_eq (tgt := 234) hx hb dL_isSo_98 (by decide) (fun c_24 => ?_) (fun c_24 => ?_)
                        · exact absurd c_24 (by decide)
                        · refine lv_aload_n hx hb dL_isSo_101 rfl (lv_at hl 2 rfl) ?_
                          refine lv_bipush (v := 10) hx hb dL_isSo_102 (by decide) ?_
                          refine lv_iload hx hb dL_isSo_104 (lv_at hl 7 rfl) ?_
                          refine lv_iadd hx hb dL_isSo_106 ?_
                          refine co_eq (show (10 : Int32) + (nI k) = (nI (10 + k)) from nI_add 10 k) ?_
                          refine va_iald hx hb hK hP 20 0 rfl rfl (vp_in_nI (n := (10 + k)) (N := 27) (by omega) (by decide)) dL_isSo_107 ?_
                          refine co_eq (y := bI (alv (σ 0) (nI (ν k)))) (rq_l hR (show k < 10 by omega)) ?_
                          refine lv_iconst (v := 1) hx hb dL_isSo_108 (by decide) ?_
                          refine co_icmpne1 (tgt := 234) S dL_isSo_109 (by decide) (fun c_25 => ?_) (fun c_25 => ?_)
                          · refine lv_iinc (v := (nI (k + 1))) (lv' := [(7, .int (nI (k + 1))), (0, .ref (a 0)), (1, .ref (q 0)), (2, .ref (q 1)), (3, .ref (q 2)), (4, .ref (q 3)), (5, .ref (q 4)), (6, .int 1), (8, .int (nI (ν k))), (9, .int (nI i))]) hx hb dL_isSo_234 hl (k := 7) rfl (nI_1 k) (by decide) rfl (fun ls hl => ?_)
                            refine lv_goto (tgt := 36) hx hb dL_isSo_237 (by decide) ?_
                            exact ihL1 (k + 1) ρ₁ _ _ (by omega) (by omega) (by omega) _ _ hP hD hS ls (lv_sub hl [1, 2, 3, 4, 5, 6, 7, 0] rfl)
                          · exact absurd (c_25.symm.trans c_21) (by decide)
                  exact L2 6 0 ρ_19 _ _ rfl (by omega) (by omega) _ _ hP hD hS ls (lv_sub hl [3, 4, 5, 6, 7, 8, 1, 9, 2, 0] rfl)
              · refine lv_iconst (v := 1) hx hb dL_isSo_71 (by decide) ?_
                refine lv_goto (tgt := 76) hx hb dL_isSo_72 (by decide) ?_
                refine co_icmpne1 (tgt := 83) S dL_isSo_76 (by decide) (fun c_26 => ?_) (fun c_26 => ?_)
                · exact absurd (c_26.symm.trans c_20) (by decide)
                · refine lv_iconst (v := 1) hx hb dL_isSo_79 (by decide) ?_
                  refine lv_goto (tgt := 84) hx hb dL_isSo_80 (by decide) ?_
                  refine lv_istore (lv' := [(6, .int 1), (8, .int (nI (ν k))), (0, .ref (a 0)), (1, .ref (q 0)), (2, .ref (q 1)), (3, .ref (q 2)), (4, .ref (q 3)), (5, .ref (q 4)), (7, .int (nI k))]) hx hb dL_isSo_84 hl (by decide) rfl (fun ls hl => ?_)
                  refine lv_iconst (v := 0) hx hb dL_isSo_86 (by decide) ?_
                  refine lv_istore (lv' := [(9, .int 0), (6, .int 1), (8, .int (nI (ν k))), (0, .ref (a 0)), (1, .ref (q 0)), (2, .ref (q 1)), (3, .ref (q 2)), (4, .ref (q 3)), (5, .ref (q 4)), (7, .int (nI k))]) hx hb dL_isSo_87 hl (by decide) rfl (fun ls hl => ?_)
                  obtain ⟨c2, hc2⟩ : ∃ z9, z9 = cc₁ + 1 := ⟨_, rfl⟩
                  obtain ⟨s2, hs2⟩ : ∃ z9, z9 = sc₁ + 6 := ⟨_, rfl⟩
                  have L2 : ∀ (d₂ : Nat) (i : Nat) (ρ₁ : cS) (cc₁ sc₁ : Nat), i + d₂ = 6 → cc₁ + 13 * d₂ ≤ c2 + 78 → sc₁ + 78 * d₂ ≤ s2 + 468 → ∀ (H : Heap) (locs : List Loc), pG G (wW G a q σ ρ₁ τ) H → va_D A (wW G a q σ ρ₁ τ) → va_S A s.heap H locs → ∀ ls : Array Slot, lv_has ls 10 [(0, .ref (a 0)), (1, .ref (q 0)), (2, .ref (q 1)), (3, .ref (q 2)), (4, .ref (q 3)), (5, .ref (q 4)), (6, .int 1), (7, .int (nI k)), (8, .int (nI (ν k))), (9, .int (nI i))] → W p l e rm_L_isSo s m args below meth c H locs cc₁ sc₁ (QN below G A (fun u : cS => wW G a q σ u τ) (fun r _ => r = 1) 900 5000 args s) (F0 m 89 ls []) := by
                    intro d₂
                    induction d₂ with
                    | zero =>
                      intro i ρ₁ cc₁ sc₁ hi9 cb2 sb2 H locs hP hD hS ls hl
                      refine lv_iload hx hb dL_isSo_89 (lv_at hl 9 rfl) ?_
                      refine lv_bipush (v := 6) hx hb dL_isSo_91 (by decide) ?_
                      refine lv_icmp_ge (tgt := 234) hx hb dL_isSo_93 (by decide) (fun c_27 => ?_) (fun c_27 => ?_)
                      · refine lv_iinc (v := (nI (k + 1))) (lv' := [(7, .int (nI (k + 1))), (0, .ref (a 0)), (1, .ref (q 0)), (2, .ref (q 1)), (3, .ref (q 2)), (4, .ref (q 3)), (5, .ref (q 4)), (6, .int 1), (8, .int (nI (ν k))), (9, .int (nI i))]) hx hb dL_isSo_234 hl (k := 7) rfl (nI_1 k) (by decide) rfl (fun ls hl => ?_)
                        refine lv_goto (tgt := 36) hx hb dL_isSo_237 (by decide) ?_
                        exact ihL1 (k + 1) ρ₁ _ _ (by omega) (by omega) (by omega) _ _ hP hD hS ls (lv_sub hl [1, 2, 3, 4, 5, 6, 7, 0] rfl)
                      · exact absurd (nI_le (a := 6) (b := i) (by omega) (by omega)) c_27
                    | succ d₂ ihL2 =>
                      intro i ρ₁ cc₁ sc₁ hi9 cb2 sb2 H locs hP hD hS ls hl
                      refine lv_iload hx hb dL_isSo_89 (lv_at hl 9 rfl) ?_
                      refine lv_bipush (v := 6) hx hb dL_isSo_91 (by decide) ?_
                      refine lv_icmp_ge (tgt := 234) hx hb dL_isSo_93 (by decide) (fun c_28 => ?_) (fun c_28 => ?_)
                      · exact absurd c_28 (nI_ge (a := i) (b := 6) (by omega) (by omega))
                      · refine lv_iload hx hb dL_isSo_96 (lv_at hl 6 rfl) ?_
                        refine lv_if_eq (tgt := 234) hx hb dL_isSo_98 (by decide) (fun c_29 => ?_) (fun c_29 => ?_)
                        · exact absurd c_29 (by decide)
                        · refine lv_aload_n hx hb dL_isSo_101 rfl (lv_at hl 2 rfl) ?_
                          refine lv_bipush (v := 10) hx hb dL_isSo_102 (by decide) ?_
                          refine lv_iload hx hb dL_isSo_104 (lv_at hl 7 rfl) ?_
                          refine lv_iadd hx hb dL_isSo_106 ?_
                          refine co_eq (show (10 : Int32) + (nI k) = (nI (10 + k)) from nI_add 10 k) ?_
                          refine va_iald hx hb hK hP 20 0 rfl rfl (vp_in_nI (n := (10 + k)) (N := 27) (by omega) (by decide)) dL_isSo_107 ?_
                          refine co_eq (y := bI (alv (σ 0) (nI (ν k)))) (rq_l hR (show k < 10 by omega)) ?_
                          refine lv_iconst (v := 1) hx hb dL_isSo_108 (by decide) ?_
                          refine co_icmpne1 (tgt := 234) S dL_isSo_109 (by decide) (fun c_30 => ?_) (fun c_30 => ?_)
                          · exact absurd (c_30.symm.trans c_26) (by decide)
                          · refine lv_aload_n hx hb dL_isSo_112 rfl (lv_at hl 0 rfl) ?_
                            refine lv_iload hx hb dL_isSo_113 (lv_at hl 8 rfl) ?_
                            refine lv_iload hx hb dL_isSo_115 (lv_at hl 9 rfl) ?_
                            refine co_q (As := [.int (nI (ν k)), .int (nI i)]) (rest := []) S (c_X2_finger l hl9 G sa a σ ρ₁ (nI (ν k)) (nI i)) (fun r u h => ⟨h.2.1, h.2.2⟩) (fun E u h => exq_no h.1 (cdP0 (M := 5) ⟨tn9, c_20⟩ (by omega) (by decide))) (cwV 2 hts gL_isSo_X2_finger rfl rfl rfl (by decide +kernel) ⟨(Nat.le_of_ble_eq_true rfl), (Nat.le_of_ble_eq_true rfl)⟩) hK hP hD hS hA hX rfl hl.1 rfl (Nat.le_of_ble_eq_true rfl) dL_isSo_117 ⟨by show cc₁ + 3 ≤ 900; omega, by show sc₁ + 18 ≤ 5000; omega⟩ (fun ρ_31 H locs hP hD hS => ?_)
                            refine lv_aload hx hb dL_isSo_120 (lv_at hl 4 rfl) ?_
                            refine lv_bipush (v := 6) hx hb dL_isSo_122 (by decide) ?_
                            refine lv_iload hx hb dL_isSo_124 (lv_at hl 7 rfl) ?_
                            refine lv_imul hx hb dL_isSo_126 ?_
                            refine co_eq (show (6 : Int32) * (nI k) = (nI (6 * k)) from pk_mul 6 k) ?_
                            refine lv_iload hx hb dL_isSo_127 (lv_at hl 9 rfl) ?_
                            refine lv_iadd hx hb dL_isSo_129 ?_
                            refine co_eq (show (nI (6 * k)) + (nI i) = (nI ((6 * k) + i)) from nI_add (6 * k) i) ?_
                            refine va_iald hx hb hK hP 22 0 rfl rfl (vp_in_nI (n := ((6 * k) + i)) (N := 60) (by omega) (by decide)) dL_isSo_130 ?_
                            refine co_eq (rq_f1 hR ⟨tn9, c_20⟩ (Rq.dn hR (show k < 10 by omega)) i (by omega) (i := (6 * k) + i) (by omega)) ?_
                            refine lv_icmp_ne (tgt := 225) hx hb dL_isSo_131 (by decide) (fun c_32 => ?_) (fun c_32 => ?_)
                            · exact absurd rfl c_32
                            · refine lv_aload_n hx hb dL_isSo_134 rfl (lv_at hl 0 rfl) ?_
                              refine lv_iload hx hb dL_isSo_135 (lv_at hl 8 rfl) ?_
                              refine lv_aload_n hx hb dL_isSo_137 rfl (lv_at hl 2 rfl) ?_
                              refine lv_bipush (v := 20) hx hb dL_isSo_138 (by decide) ?_
                              refine lv_iload hx hb dL_isSo_140 (lv_at hl 9 rfl) ?_
                              refine lv_iadd hx hb dL_isSo_142 ?_
                              refine co_eq (show (20 : Int32) + (nI i) = (nI (20 + i)) from nI_add 20 i) ?_
                              refine va_iald hx hb hK hP 20 0 rfl rfl (vp_in_nI (n := (20 + i)) (N := 27) (by omega) (by decide)) dL_isSo_143 ?_
                              refine co_eq (rq_k hR (show i < 6 by omega)) ?_
                              refine co_q (As := [.int (nI (ν k)), .int (nI (κ i))]) (rest := []) S (c_X2_kept l hl9 G sa a σ ρ_31 (nI (ν k)) (nI (κ i))) (fun r u h => ⟨h.2.1, h.2.2⟩) (fun E u h => exq_no h.1 (cdP0 (M := 63) ⟨tn9, c_20⟩ (by have := (Rq.ka hR (show i < 6 by omega)); omega) (by decide))) (cwV 2 hts gL_isSo_X2_kept rfl rfl rfl (by decide +kernel) ⟨(Nat.le_of_ble_eq_true rfl), (Nat.le_of_ble_eq_true rfl)⟩) hK hP hD hS hA hX rfl hl.1 rfl (Nat.le_of_ble_eq_true rfl) dL_isSo_144 ⟨by show cc₁ + 3 + 3 ≤ 900; omega, by show sc₁ + 18 + 18 ≤ 5000; omega⟩ (fun ρ_33 H locs hP hD hS => ?_)
                              refine co_eq (rq_v hR ⟨tn9, c_20⟩ (Rq.ka hR (show i < 6 by omega))) ?_
                              refine lv_aload hx hb dL_isSo_147 (lv_at hl 5 rfl) ?_
                              refine lv_bipush (v := 6) hx hb dL_isSo_149 (by decide) ?_
                              refine lv_iload hx hb dL_isSo_151 (lv_at hl 7 rfl) ?_
                              refine lv_imul hx hb dL_isSo_153 ?_
                              refine co_eq (show (6 : Int32) * (nI k) = (nI (6 * k)) from pk_mul 6 k) ?_
                              refine lv_iload hx hb dL_isSo_154 (lv_at hl 9 rfl) ?_
                              refine lv_iadd hx hb dL_isSo_156 ?_
                              refine co_eq (show (nI (6 * k)) + (nI i) = (nI ((6 * k) + i)) from nI_add (6 * k) i) ?_
                              refine va_iald hx hb hK hP 23 0 rfl rfl (vp_in_nI (n := ((6 * k) + i)) (N := 60) (by omega) (by decide)) dL_isSo_157 ?_
                              refine co_eq (rq_w hR ⟨tn9, c_20⟩ (Rq.dn hR (show k < 10 by omega)) i (by omega) (i := (6 * k) + i) (by omega)) ?_
                              refine lv_icmp_ne (tgt := 225) hx hb dL_isSo_158 (by decide) (fun c_34 => ?_) (fun c_34 => ?_)
                              · exact absurd rfl c_34
                              · refine lv_iload hx hb dL_isSo_161 (lv_at hl 9 rfl) ?_
                                refine lv_iconst (v := 2) hx hb dL_isSo_163 (by decide) ?_
                                refine lv_icmp_gt (tgt := 187) hx hb dL_isSo_164 (by decide) (fun c_35 => ?_) (fun c_35 => ?_)
                                · refine lv_aload_n hx hb dL_isSo_187 rfl (lv_at hl 0 rfl) ?_
                                  refine lv_iload hx hb dL_isSo_188 (lv_at hl 8 rfl) ?_
                                  refine co_q (As := [.int (nI (ν k))]) (rest := []) S (c_X2_predecessor l hl9 G sa a σ ρ_33 (nI (ν k))) (fun r u h => ⟨h.2.1, h.2.2⟩) (fun E u h => exq_no h.1 (cdA0 ⟨tn9, c_20⟩)) (cwV 1 hts gL_isSo_X2_predecessor rfl rfl rfl (by decide +kernel) ⟨(Nat.le_of_ble_eq_true rfl), (Nat.le_of_ble_eq_true rfl)⟩) hK hP hD hS hA hX rfl hl.1 rfl (Nat.le_of_ble_eq_true rfl) dL_isSo_190 ⟨by show cc₁ + 3 + 3 + 2 ≤ 900; omega, by show sc₁ + 18 + 18 + 12 ≤ 5000; omega⟩ (fun ρ_36 H locs hP hD hS => ?_)
                                  refine lv_aload_n hx hb dL_isSo_193 rfl (lv_at hl 3 rfl) ?_
                                  refine lv_iconst (v := 4) hx hb dL_isSo_194 (by decide) ?_
                                  refine lv_iload hx hb dL_isSo_195 (lv_at hl 7 rfl) ?_
                                  refine lv_imul hx hb dL_isSo_197 ?_
                                  refine co_eq (show (4 : Int32) * (nI k) = (nI (4 * k)) from pk_mul 4 k) ?_
                                  refine lv_iconst (v := 3) hx hb dL_isSo_198 (by decide) ?_
                                  refine lv_iadd hx hb dL_isSo_199 ?_
                                  refine co_eq (show (nI (4 * k)) + (3 : Int32) = (nI ((4 * k) + 3)) from nI_add (4 * k) 3) ?_
                                  refine va_iald hx hb hK hP 21 0 rfl rfl (vp_in_nI (n := ((4 * k) + 3)) (N := 40) (by omega) (by decide)) dL_isSo_200 ?_
                                  refine co_eq (rq_p1 hR ⟨tn9, c_20⟩ (Rq.dn hR (show k < 10 by omega)) (i := (4 * k) + 3) (by omega)) ?_
                                  refine lv_icmp_ne (tgt := 225) hx hb dL_isSo_201 (by decide) (fun c_37 => ?_) (fun c_37 => ?_)
                                  · exact absurd rfl c_37
                                  · refine lv_aload_n hx hb dL_isSo_204 rfl (lv_at hl 0 rfl) ?_
                                    refine lv_iload hx hb dL_isSo_205 (lv_at hl 8 rfl) ?_
                                    refine co_q (As := [.int (nI (ν k))]) (rest := []) S (c_X2_liveSuccessor l hl9 G sa a σ ρ_36 (nI (ν k))) (fun r u h => ⟨h.2.1, h.2.2⟩) (fun E u h => exq_no h.1 (cdA0 ⟨tn9, c_20⟩)) (cwV 1 hts gL_isSo_X2_liveSuccessor rfl rfl rfl (by decide +kernel) ⟨(Nat.le_of_ble_eq_true rfl), (Nat.le_of_ble_eq_true rfl)⟩) hK hP hD hS hA hX rfl hl.1 rfl (Nat.le_of_ble_eq_true rfl) dL_isSo_207 ⟨by show cc₁ + 3 + 3 + 2 + 2 ≤ 900; omega, by show sc₁ + 18 + 18 + 12 + 12 ≤ 5000; omega⟩ (fun ρ_38 H locs hP hD hS => ?_)
                                    refine lv_iload hx hb dL_isSo_210 (lv_at hl 8 rfl) ?_
                                    refine lv_aload_n hx hb dL_isSo_212 rfl (lv_at hl 1 rfl) ?_
                                    refine lv_aload_n hx hb dL_isSo_213 rfl (lv_at hl 2 rfl) ?_
                                    refine lv_aload_n hx hb dL_isSo_214 rfl (lv_at hl 3 rfl) ?_
                                    refine co_rS (As := [.int (nI (ν k)), .ref (q 0), .ref (q 1), .ref (q 2)]) (rest := [.int (lsF (σ 0) (σ 1) (nI (ν k)))]) S (c_L_next l G Z q ν δ κ σ τ hR (ν k) ⟨tn9, c_20⟩) (va_cwS 4 hts gL_isSo_L_next rfl rfl rfl (by decide +kernel) ⟨Nat.le_of_ble_eq_true rfl, Nat.le_of_ble_eq_true rfl⟩) hK (pG_perm hP [19, 20, 21, 22, 23] rfl) rfl hl.1 rfl (Nat.le_of_ble_eq_true rfl) dL_isSo_215 ⟨by show cc₁ + 3 + 3 + 2 + 2 + 0 ≤ 900; omega, by show sc₁ + 18 + 18 + 12 + 12 + 0 ≤ 5000; omega⟩ ?_
                                    refine lv_icmp_ne (tgt := 225) hx hb dL_isSo_218 (by decide) (fun c_39 => ?_) (fun c_39 => ?_)
                                    · exact absurd rfl c_39
                                    · refine lv_iconst (v := 1) hx hb dL_isSo_221 (by decide) ?_
                                      refine lv_goto (tgt := 226) hx hb dL_isSo_222 (by decide) ?_
                                      refine lv_istore (lv' := [(6, .int 1), (0, .ref (a 0)), (1, .ref (q 0)), (2, .ref (q 1)), (3, .ref (q 2)), (4, .ref (q 3)), (5, .ref (q 4)), (7, .int (nI k)), (8, .int (nI (ν k))), (9, .int (nI i))]) hx hb dL_isSo_226 hl (by decide) rfl (fun ls hl => ?_)
                                      refine lv_iinc (v := (nI (i + 1))) (lv' := [(9, .int (nI (i + 1))), (6, .int 1), (0, .ref (a 0)), (1, .ref (q 0)), (2, .ref (q 1)), (3, .ref (q 2)), (4, .ref (q 3)), (5, .ref (q 4)), (7, .int (nI k)), (8, .int (nI (ν k)))]) hx hb dL_isSo_228 hl (k := 9) rfl (nI_1 i) (by decide) rfl (fun ls hl => ?_)
                                      refine lv_goto (tgt := 89) hx hb dL_isSo_231 (by decide) ?_
                                      exact ihL2 (i + 1) ρ_38 _ _ (by omega) (by omega) (by omega) _ _ hP hD hS ls (lv_sub hl [2, 3, 4, 5, 6, 7, 1, 8, 9, 0] rfl)
                                · have hi3 : i < 3 := Nat.lt_of_not_le (fun z => c_35 (nI_lt (a := 2) (b := i) (by omega) (by omega)))
                                  refine lv_aload_n hx hb dL_isSo_167 rfl (lv_at hl 0 rfl) ?_
                                  refine lv_iload hx hb dL_isSo_168 (lv_at hl 8 rfl) ?_
                                  refine lv_iload hx hb dL_isSo_170 (lv_at hl 9 rfl) ?_
                                  refine co_q (As := [.int (nI (ν k)), .int (nI i)]) (rest := []) S (c_X2_successor l hl9 G sa a σ ρ_33 (nI (ν k)) (nI i)) (fun r u h => ⟨h.2.1, h.2.2⟩) (fun E u h => exq_no h.1 (cdP0 (M := 2) ⟨tn9, c_20⟩ (by omega) (by decide))) (cwV 2 hts gL_isSo_X2_successor rfl rfl rfl (by decide +kernel) ⟨(Nat.le_of_ble_eq_true rfl), (Nat.le_of_ble_eq_true rfl)⟩) hK hP hD hS hA hX rfl hl.1 rfl (Nat.le_of_ble_eq_true rfl) dL_isSo_172 ⟨by show cc₁ + 3 + 3 + 3 ≤ 900; omega, by show sc₁ + 18 + 18 + 18 ≤ 5000; omega⟩ (fun ρ_40 H locs hP hD hS => ?_)
                                  refine lv_aload_n hx hb dL_isSo_175 rfl (lv_at hl 3 rfl) ?_
                                  refine lv_iconst (v := 4) hx hb dL_isSo_176 (by decide) ?_
                                  refine lv_iload hx hb dL_isSo_177 (lv_at hl 7 rfl) ?_
                                  refine lv_imul hx hb dL_isSo_179 ?_
                                  refine co_eq (show (4 : Int32) * (nI k) = (nI (4 * k)) from pk_mul 4 k) ?_
                                  refine lv_iload hx hb dL_isSo_180 (lv_at hl 9 rfl) ?_
                                  refine lv_iadd hx hb dL_isSo_182 ?_
                                  refine co_eq (show (nI (4 * k)) + (nI i) = (nI ((4 * k) + i)) from nI_add (4 * k) i) ?_
                                  refine va_iald hx hb hK hP 21 0 rfl rfl (vp_in_nI (n := ((4 * k) + i)) (N := 40) (by omega) (by decide)) dL_isSo_183 ?_
                                  refine co_eq (rq_s1 hR ⟨tn9, c_20⟩ (Rq.dn hR (show k < 10 by omega)) i (by omega) (i := (4 * k) + i) (by omega)) ?_
                                  refine lv_icmp_ne (tgt := 225) hx hb dL_isSo_184 (by decide) (fun c_41 => ?_) (fun c_41 => ?_)
                                  · exact absurd rfl c_41
                                  · refine lv_aload_n hx hb dL_isSo_187 rfl (lv_at hl 0 rfl) ?_
                                    refine lv_iload hx hb dL_isSo_188 (lv_at hl 8 rfl) ?_
                                    refine co_q (As := [.int (nI (ν k))]) (rest := []) S (c_X2_predecessor l hl9 G sa a σ ρ_40 (nI (ν k))) (fun r u h => ⟨h.2.1, h.2.2⟩) (fun E u h => exq_no h.1 (cdA0 ⟨tn9, c_20⟩)) (cwV 1 hts gL_isSo_X2_predecessor rfl rfl rfl (by decide +kernel) ⟨(Nat.le_of_ble_eq_true rfl), (Nat.le_of_ble_eq_true rfl)⟩) hK hP hD hS hA hX rfl hl.1 rfl (Nat.le_of_ble_eq_true rfl) dL_isSo_190 ⟨by show cc₁ + 3 + 3 + 3 + 2 ≤ 900; omega, by show sc₁ + 18 + 18 + 18 + 12 ≤ 5000; omega⟩ (fun ρ_42 H locs hP hD hS => ?_)
                                    refine lv_aload_n hx hb dL_isSo_193 rfl (lv_at hl 3 rfl) ?_
                                    refine lv_iconst (v := 4) hx hb dL_isSo_194 (by decide) ?_
                                    refine lv_iload hx hb dL_isSo_195 (lv_at hl 7 rfl) ?_
                                    refine lv_imul hx hb dL_isSo_197 ?_
                                    refine co_eq (show (4 : Int32) * (nI k) = (nI (4 * k)) from pk_mul 4 k) ?_
                                    refine lv_iconst (v := 3) hx hb dL_isSo_198 (by decide) ?_
                                    refine lv_iadd hx hb dL_isSo_199 ?_
                                    refine co_eq (show (nI (4 * k)) + (3 : Int32) = (nI ((4 * k) + 3)) from nI_add (4 * k) 3) ?_
                                    refine va_iald hx hb hK hP 21 0 rfl rfl (vp_in_nI (n := ((4 * k) + 3)) (N := 40) (by omega) (by decide)) dL_isSo_200 ?_
                                    refine co_eq (rq_p1 hR ⟨tn9, c_20⟩ (Rq.dn hR (show k < 10 by omega)) (i := (4 * k) + 3) (by omega)) ?_
                                    refine lv_icmp_ne (tgt := 225) hx hb dL_isSo_201 (by decide) (fun c_43 => ?_) (fun c_43 => ?_)
                                    · exact absurd rfl c_43
                                    · refine lv_aload_n hx hb dL_isSo_204 rfl (lv_at hl 0 rfl) ?_
                                      refine lv_iload hx hb dL_isSo_205 (lv_at hl 8 rfl) ?_
                                      refine co_q (As := [.int (nI (ν k))]) (rest := []) S (c_X2_liveSuccessor l hl9 G sa a σ ρ_42 (nI (ν k))) (fun r u h => ⟨h.2.1, h.2.2⟩) (fun E u h => exq_no h.1 (cdA0 ⟨tn9, c_20⟩)) (cwV 1 hts gL_isSo_X2_liveSuccessor rfl rfl rfl (by decide +kernel) ⟨(Nat.le_of_ble_eq_true rfl), (Nat.le_of_ble_eq_true rfl)⟩) hK hP hD hS hA hX rfl hl.1 rfl (Nat.le_of_ble_eq_true rfl) dL_isSo_207 ⟨by show cc₁ + 3 + 3 + 3 + 2 + 2 ≤ 900; omega, by show sc₁ + 18 + 18 + 18 + 12 + 12 ≤ 5000; omega⟩ (fun ρ_44 H locs hP hD hS => ?_)
                                      refine lv_iload hx hb dL_isSo_210 (lv_at hl 8 rfl) ?_
                                      refine lv_aload_n hx hb dL_isSo_212 rfl (lv_at hl 1 rfl) ?_
                                      refine lv_aload_n hx hb dL_isSo_213 rfl (lv_at hl 2 rfl) ?_
                                      refine lv_aload_n hx hb dL_isSo_214 rfl (lv_at hl 3 rfl) ?_
                                      refine co_rS (As := [.int (nI (ν k)), .ref (q 0), .ref (q 1), .ref (q 2)]) (rest := [.int (lsF (σ 0) (σ 1) (nI (ν k)))]) S (c_L_next l G Z q ν δ κ σ τ hR (ν k) ⟨tn9, c_20⟩) (va_cwS 4 hts gL_isSo_L_next rfl rfl rfl (by decide +kernel) ⟨Nat.le_of_ble_eq_true rfl, Nat.le_of_ble_eq_true rfl⟩) hK (pG_perm hP [19, 20, 21, 22, 23] rfl) rfl hl.1 rfl (Nat.le_of_ble_eq_true rfl) dL_isSo_215 ⟨by show cc₁ + 3 + 3 + 3 + 2 + 2 + 0 ≤ 900; omega, by show sc₁ + 18 + 18 + 18 + 12 + 12 + 0 ≤ 5000; omega⟩ ?_
                                      refine lv_icmp_ne (tgt := 225) hx hb dL_isSo_218 (by decide) (fun c_45 => ?_) (fun c_45 => ?_)
                                      · exact absurd rfl c_45
                                      · refine lv_iconst (v := 1) hx hb dL_isSo_221 (by decide) ?_
                                        refine lv_goto (tgt := 226) hx hb dL_isSo_222 (by decide) ?_
                                        refine lv_istore (lv' := [(6, .int 1), (0, .ref (a 0)), (1, .ref (q 0)), (2, .ref (q 1)), (3, .ref (q 2)), (4, .ref (q 3)), (5, .ref (q 4)), (7, .int (nI k)), (8, .int (nI (ν k))), (9, .int (nI i))]) hx hb dL_isSo_226 hl (by decide) rfl (fun ls hl => ?_)
                                        refine lv_iinc (v := (nI (i + 1))) (lv' := [(9, .int (nI (i + 1))), (6, .int 1), (0, .ref (a 0)), (1, .ref (q 0)), (2, .ref (q 1)), (3, .ref (q 2)), (4, .ref (q 3)), (5, .ref (q 4)), (7, .int (nI k)), (8, .int (nI (ν k)))]) hx hb dL_isSo_228 hl (k := 9) rfl (nI_1 i) (by decide) rfl (fun ls hl => ?_)
                                        refine lv_goto (tgt := 89) hx hb dL_isSo_231 (by decide) ?_
                                        exact ihL2 (i + 1) ρ_44 _ _ (by omega) (by omega) (by omega) _ _ hP hD hS ls (lv_sub hl [2, 3, 4, 5, 6, 7, 1, 8, 9, 0] rfl)
                  exact L2 6 0 ρ_19 _ _ rfl (by omega) (by omega) _ _ hP hD hS ls (lv_sub hl [3, 4, 5, 6, 7, 8, 1, 9, 2, 0] rfl)
      exact L1 10 0 ρ _ _ rfl (by omega) (by omega) _ _ hP hD hS ls (lv_sub hl [2, 3, 4, 5, 6, 7, 1, 0] rfl)

abbrev rm_L_looks : Room := { frames := 9, cells := 20, slots := 120, locals := 155 }
set_option maxHeartbeats 8000000 in
set_option maxRecDepth 100000 in
theorem c_L_looks (l : Launch) (hl9 : l.stackTraces = false) (G : cG) (sa : Nat → Nat) (a q : Nat → Nat) (σ ρ τ : cS) (Z : Nat) (ν δ κ : Nat → Nat) (hR : Rq Z ν δ κ σ τ)(n c₀ : Nat) (hn : Lv σ n) (hc0 : c₀ < 6) : MetN l yL_looks wsL_looks rm_L_looks G sa (wW G a q σ ρ τ) [.ref (a 0), .int (nI n), .int (nI c₀), .ref (q 0), .ref (q 1), .ref (q 2), .ref (q 3), .ref (q 4)] (fun u : cS => wW G a q σ u τ) (fun r _ => r = 1) 20 120 := by
  refine co_bodyN (cc := cL_looks) (maxL := 12) (ret := (some .boolean)) (by decide) rfl (Nat.le_of_ble_eq_true rfl) ?_
  intro p e s m args below meth c S hr hlocks hK A hA hP hD hS hX ls hl
  have S : CallFix p m c cL_looks 12 s args wsL_looks RL := S
  obtain ⟨hx, hb, hml, hown, hts⟩ := id S
  have hl : lv_has ls 12 [(0, .ref (a 0)), (1, .int (nI n)), (2, .int (nI c₀)), (3, .ref (q 0)), (4, .ref (q 1)), (5, .ref (q 2)), (6, .ref (q 3)), (7, .ref (q 4))] := hl
  have hn0 : n < 64 := hn.1
  have d90 : δ n < 10 := Rq.d9 hR hn
  have tk9 : κ c₀ < 64 := Rq.ka hR hc0
  obtain ⟨y, ey, ly, fy⟩ := rq_last hR tk9 64 n hn (Nat.mod_lt _ (by decide))
  have ty : y < 64 := ly.1
  refine lv_iload_n hx hb dL_looks_0 rfl (lv_at hl 1 rfl) ?_
  refine lv_aload hx hb dL_looks_1 (lv_at hl 4 rfl) ?_
  refine lv_bipush (v := 20) hx hb dL_looks_3 (by decide) ?_
  refine lv_iload_n hx hb dL_looks_5 rfl (lv_at hl 2 rfl) ?_
  refine lv_iadd hx hb dL_looks_6 ?_
  refine co_eq (show (20 : Int32) + (nI c₀) = (nI (20 + c₀)) from nI_add 20 c₀) ?_
  refine va_iald hx hb hK hP 20 0 rfl rfl (vp_in_nI (n := (20 + c₀)) (N := 27) (by omega) (by decide)) dL_looks_7 ?_
  refine co_eq (rq_k hR hc0) ?_
  refine lv_aload_n hx hb dL_looks_8 rfl (lv_at hl 3 rfl) ?_
  refine lv_aload hx hb dL_looks_9 (lv_at hl 4 rfl) ?_
  refine lv_aload hx hb dL_looks_11 (lv_at hl 5 rfl) ?_
  refine lv_aload hx hb dL_looks_13 (lv_at hl 6 rfl) ?_
  obtain ⟨j_1, ej_1, lj_1⟩ := Rq.fn hR hn tk9
  have tj_1 : j_1 < 64 := lj_1.1
  obtain ⟨h_2, eh_2⟩ : ∃ z9, z9 = (hpc (σ 0) (σ 1) (σ 3) (nI (κ c₀)) 64 (nI n)) := ⟨_, rfl⟩
  have gh_2 : h_2 < 64 := (by rw [eh_2]; exact Rq.hp hR hn tk9)
  refine co_rS (As := [.int (nI n), .int (nI (κ c₀)), .ref (q 0), .ref (q 1), .ref (q 2), .ref (q 3)]) (rest := []) S (c_L_walk l G Z q ν δ κ σ τ hR n (κ c₀) hn tk9) (va_cwS 6 hts gL_looks_L_walk rfl rfl rfl (by decide +kernel) ⟨Nat.le_of_ble_eq_true rfl, Nat.le_of_ble_eq_true rfl⟩) hK (pG_perm hP [19, 20, 21, 22, 23] rfl) rfl hl.1 rfl (Nat.le_of_ble_eq_true rfl) dL_looks_15 ⟨by show 0 + 0 ≤ 20; omega, by show 0 + 0 ≤ 120; omega⟩ ?_
  refine co_eq (show nI (100 * (hpc (σ 0) (σ 1) (σ 3) (nI (κ c₀)) 64 (nI n))) + fnR σ (nI n) (nI (κ c₀)) = nI (100 * h_2 + j_1) by rw [← eh_2, ej_1, nI_add]) ?_
  refine lv_istore (lv' := [(8, .int (nI (100 * h_2 + j_1))), (0, .ref (a 0)), (1, .int (nI n)), (2, .int (nI c₀)), (3, .ref (q 0)), (4, .ref (q 1)), (5, .ref (q 2)), (6, .ref (q 3)), (7, .ref (q 4))]) hx hb dL_looks_18 hl (by decide) rfl (fun ls hl => ?_)
  refine lv_iload hx hb dL_looks_20 (lv_at hl 0 rfl) ?_
  refine lv_if_ge (tgt := 30) hx hb dL_looks_22 (by decide) (fun c_3 => ?_) (fun c_3 => ?_)
  · refine lv_iload hx hb dL_looks_30 (lv_at hl 0 rfl) ?_
    refine lv_bipush (v := 100) hx hb dL_looks_32 (by decide) ?_
    refine lv_idiv hx hb dL_looks_34 (by decide) ?_
    refine co_eq (show (nI (100 * h_2 + j_1)) / 100 = (nI ((100 * h_2 + j_1) / 100)) from pk_div (a := (100 * h_2 + j_1)) (d := 100) (by omega) (by decide) (by decide)) ?_
    refine co_eq (show nI ((100 * h_2 + j_1) / 100) = nI h_2 by congr 1; omega) ?_
    refine lv_istore (lv' := [(9, .int (nI h_2)), (8, .int (nI (100 * h_2 + j_1))), (0, .ref (a 0)), (1, .int (nI n)), (2, .int (nI c₀)), (3, .ref (q 0)), (4, .ref (q 1)), (5, .ref (q 2)), (6, .ref (q 3)), (7, .ref (q 4))]) hx hb dL_looks_35 hl (by decide) rfl (fun ls hl => ?_)
    refine lv_iload hx hb dL_looks_37 (lv_at hl 1 rfl) ?_
    refine lv_if_ge (tgt := 46) hx hb dL_looks_39 (by decide) (fun c_4 => ?_) (fun c_4 => ?_)
    · refine lv_iload hx hb dL_looks_46 (lv_at hl 1 rfl) ?_
      refine lv_bipush (v := 100) hx hb dL_looks_48 (by decide) ?_
      refine lv_irem hx hb dL_looks_50 (by decide) ?_
      refine co_eq (show nI (100 * h_2 + j_1) - nI (100 * h_2 + j_1) / 100 * 100 = nI j_1 from (pk_rem (a := 100 * h_2 + j_1) (d := 100) (by omega) (by decide) (by decide)).trans (by congr 1; omega)) ?_
      refine lv_istore (lv' := [(10, .int (nI j_1)), (9, .int (nI h_2)), (8, .int (nI (100 * h_2 + j_1))), (0, .ref (a 0)), (1, .int (nI n)), (2, .int (nI c₀)), (3, .ref (q 0)), (4, .ref (q 1)), (5, .ref (q 2)), (6, .ref (q 3)), (7, .ref (q 4))]) hx hb dL_looks_51 hl (by decide) rfl (fun ls hl => ?_)
      refine lv_aload_n hx hb dL_looks_53 rfl (lv_at hl 3 rfl) ?_
      refine lv_iload_n hx hb dL_looks_54 rfl (lv_at hl 4 rfl) ?_
      refine lv_aload hx hb dL_looks_55 (lv_at hl 7 rfl) ?_
      refine lv_bipush (v := 20) hx hb dL_looks_57 (by decide) ?_
      refine lv_iload_n hx hb dL_looks_59 rfl (lv_at hl 5 rfl) ?_
      refine lv_iadd hx hb dL_looks_60 ?_
      refine co_eq (show (20 : Int32) + (nI c₀) = (nI (20 + c₀)) from nI_add 20 c₀) ?_
      refine va_iald hx hb hK hP 20 0 rfl rfl (vp_in_nI (n := (20 + c₀)) (N := 27) (by omega) (by decide)) dL_looks_61 ?_
      refine co_eq (rq_k hR hc0) ?_
      refine co_q (As := [.int (nI n), .int (nI (κ c₀))]) (rest := []) S (c_X2_lookup l hl9 G sa a σ ρ (nI n) (nI (κ c₀))) (fun r u h => ⟨h.2.1, h.2.2⟩) (fun E u h => exq_no h.1 (cdP0 (M := 63) hn (by omega) (by decide))) (cwV 2 hts gL_looks_X2_lookup rfl rfl rfl (by decide +kernel) ⟨(Nat.le_of_ble_eq_true rfl), (Nat.le_of_ble_eq_true rfl)⟩) hK hP hD hS hA hX rfl hl.1 rfl (Nat.le_of_ble_eq_true rfl) dL_looks_62 ⟨by show 0 + 3 ≤ 20; omega, by show 0 + 18 ≤ 120; omega⟩ (fun ρ_5 H locs hP hD hS => ?_)
      refine co_eq (ej_1) ?_
      refine lv_iload hx hb dL_looks_65 (lv_at hl 0 rfl) ?_
      refine lv_icmp_ne (tgt := 144) hx hb dL_looks_67 (by decide) (fun c_6 => ?_) (fun c_6 => ?_)
      · exact absurd rfl c_6
      · refine lv_aload_n hx hb dL_looks_70 rfl (lv_at hl 3 rfl) ?_
        refine lv_iload_n hx hb dL_looks_71 rfl (lv_at hl 4 rfl) ?_
        refine lv_aload hx hb dL_looks_72 (lv_at hl 7 rfl) ?_
        refine lv_bipush (v := 20) hx hb dL_looks_74 (by decide) ?_
        refine lv_iload_n hx hb dL_looks_76 rfl (lv_at hl 5 rfl) ?_
        refine lv_iadd hx hb dL_looks_77 ?_
        refine co_eq (show (20 : Int32) + (nI c₀) = (nI (20 + c₀)) from nI_add 20 c₀) ?_
        refine va_iald hx hb hK hP 20 0 rfl rfl (vp_in_nI (n := (20 + c₀)) (N := 27) (by omega) (by decide)) dL_looks_78 ?_
        refine co_eq (rq_k hR hc0) ?_
        refine co_q (As := [.int (nI n), .int (nI (κ c₀))]) (rest := []) S (c_X2_hops l hl9 G sa a σ ρ_5 (nI n) (nI (κ c₀))) (fun r u h => ⟨h.2.1 (Rq.hp hR hn tk9), h.2.2⟩) (fun E u h => exq_no h.1 (cdP0 (M := 63) hn (by omega) (by decide))) (cwV 2 hts gL_looks_X2_hops rfl rfl rfl (by decide +kernel) ⟨(Nat.le_of_ble_eq_true rfl), (Nat.le_of_ble_eq_true rfl)⟩) hK hP hD hS hA hX rfl hl.1 rfl (Nat.le_of_ble_eq_true rfl) dL_looks_79 ⟨by show 0 + 3 + 3 ≤ 20; omega, by show 0 + 18 + 18 ≤ 120; omega⟩ (fun ρ_7 H locs hP hD hS => ?_)
        refine co_eq (show nI (hpc (σ 0) (σ 1) (σ 3) (nI (κ c₀)) 64 (nI n)) = nI h_2 by rw [eh_2]) ?_
        refine lv_iload hx hb dL_looks_82 (lv_at hl 1 rfl) ?_
        refine lv_icmp_ne (tgt := 144) hx hb dL_looks_84 (by decide) (fun c_8 => ?_) (fun c_8 => ?_)
        · exact absurd rfl c_8
        · refine lv_aload_n hx hb dL_looks_87 rfl (lv_at hl 3 rfl) ?_
          refine lv_iload_n hx hb dL_looks_88 rfl (lv_at hl 4 rfl) ?_
          refine lv_aload hx hb dL_looks_89 (lv_at hl 7 rfl) ?_
          refine lv_bipush (v := 20) hx hb dL_looks_91 (by decide) ?_
          refine lv_iload_n hx hb dL_looks_93 rfl (lv_at hl 5 rfl) ?_
          refine lv_iadd hx hb dL_looks_94 ?_
          refine co_eq (show (20 : Int32) + (nI c₀) = (nI (20 + c₀)) from nI_add 20 c₀) ?_
          refine va_iald hx hb hK hP 20 0 rfl rfl (vp_in_nI (n := (20 + c₀)) (N := 27) (by omega) (by decide)) dL_looks_95 ?_
          refine co_eq (rq_k hR hc0) ?_
          refine co_q (As := [.int (nI n), .int (nI (κ c₀))]) (rest := []) S (c_X2_get l hl9 G sa a σ ρ_7 (nI n) (nI (κ c₀))) (fun r u h => ⟨h.2.1, h.2.2⟩) (fun E u h => exq_no h.1 (cdP0 (M := 63) hn (by omega) (by decide))) (cwV 2 hts gL_looks_X2_get rfl rfl rfl (by decide +kernel) ⟨(Nat.le_of_ble_eq_true rfl), (Nat.le_of_ble_eq_true rfl)⟩) hK hP hD hS hA hX rfl hl.1 rfl (Nat.le_of_ble_eq_true rfl) dL_looks_96 ⟨by show 0 + 3 + 3 + 3 ≤ 20; omega, by show 0 + 18 + 18 + 18 ≤ 120; omega⟩ (fun ρ_9 H locs hP hD hS => ?_)
          refine co_eq (show tat 64 (σ 4) (fnR σ (nI n) (nI (κ c₀))) (nI (κ c₀)) = tat 64 (σ 5) (nI j_1) (nI (κ c₀)) by rw [ej_1]; exact rq_v hR lj_1 tk9) ?_
          refine lv_iload hx hb dL_looks_99 (lv_at hl 0 rfl) ?_
          refine lv_if_ge (tgt := 108) hx hb dL_looks_101 (by decide) (fun c_10 => ?_) (fun c_10 => ?_)
          · refine lv_aload hx hb dL_looks_108 (lv_at hl 10 rfl) ?_
            refine lv_bipush (v := 6) hx hb dL_looks_110 (by decide) ?_
            refine lv_aload_n hx hb dL_looks_112 rfl (lv_at hl 6 rfl) ?_
            refine lv_iload hx hb dL_looks_113 (lv_at hl 0 rfl) ?_
            refine va_iald hx hb hK hP 19 0 rfl rfl (vp_in_nI (n := j_1) (N := 64) (by omega) (by decide)) dL_looks_115 ?_
            have d9n_11 : δ j_1 < 10 := Rq.d9 hR lj_1
            refine co_eq (rq_d hR tj_1 d9n_11) ?_
            refine lv_imul hx hb dL_looks_116 ?_
            refine co_eq (show (6 : Int32) * (nI (δ j_1)) = (nI (6 * (δ j_1))) from pk_mul 6 (δ j_1)) ?_
            refine lv_iload_n hx hb dL_looks_117 rfl (lv_at hl 5 rfl) ?_
            refine lv_iadd hx hb dL_looks_118 ?_
            refine co_eq (show (nI (6 * (δ j_1))) + (nI c₀) = (nI ((6 * (δ j_1)) + c₀)) from nI_add (6 * (δ j_1)) c₀) ?_
            refine va_iald hx hb hK hP 23 0 rfl rfl (vp_in_nI (n := ((6 * (δ j_1)) + c₀)) (N := 60) (by omega) (by decide)) dL_looks_119 ?_
            refine co_eq (rq_w hR lj_1 rfl c₀ (by omega) (i := (6 * (δ j_1)) + c₀) (by omega)) ?_
            refine lv_icmp_ne (tgt := 144) hx hb dL_looks_120 (by decide) (fun c_12 => ?_) (fun c_12 => ?_)
            · exact absurd rfl c_12
            · refine lv_aload_n hx hb dL_looks_123 rfl (lv_at hl 3 rfl) ?_
              refine lv_iload_n hx hb dL_looks_124 rfl (lv_at hl 4 rfl) ?_
              refine lv_aload hx hb dL_looks_125 (lv_at hl 7 rfl) ?_
              refine lv_bipush (v := 20) hx hb dL_looks_127 (by decide) ?_
              refine lv_iload_n hx hb dL_looks_129 rfl (lv_at hl 5 rfl) ?_
              refine lv_iadd hx hb dL_looks_130 ?_
              refine co_eq (show (20 : Int32) + (nI c₀) = (nI (20 + c₀)) from nI_add 20 c₀) ?_
              refine va_iald hx hb hK hP 20 0 rfl rfl (vp_in_nI (n := (20 + c₀)) (N := 27) (by omega) (by decide)) dL_looks_131 ?_
              refine co_eq (rq_k hR hc0) ?_
              refine lv_iconst (v := 0) hx hb dL_looks_132 (by decide) ?_
              refine co_q (As := [.int (nI n), .int (nI (κ c₀)), .int 0]) (rest := []) S (c_X2_hopAt l hl9 G sa a σ ρ_9 (nI n) (nI (κ c₀)) 0) (fun r u h => ⟨(h.2.1 (Rq.hp hR hn tk9)).2.2, h.2.2⟩) (fun E u h => h.1.elim (fun z => exq_no z (cdP0 (M := 63) hn (by omega) (by decide))) (fun z => (z.2.2 (Rq.hp hR hn tk9)).elim (fun w => absurd w (by decide)) (fun w => absurd w (nI_pos (by have := (Rq.hp hR hn tk9); omega))))) (cwV 3 hts gL_looks_X2_hopAt rfl rfl rfl (by decide +kernel) ⟨(Nat.le_of_ble_eq_true rfl), (Nat.le_of_ble_eq_true rfl)⟩) hK hP hD hS hA hX rfl hl.1 rfl (Nat.le_of_ble_eq_true rfl) dL_looks_133 ⟨by show 0 + 3 + 3 + 3 + 4 ≤ 20; omega, by show 0 + 18 + 18 + 18 + 24 ≤ 120; omega⟩ (fun ρ_13 H locs hP hD hS => ?_)
              refine co_eq (show pth (σ 0) (σ 1) (σ 3) (nI (κ c₀)) (nI n) (0 : Int32).toNatClampNeg = nI n by rw [sb_cl0]; rfl) ?_
              refine lv_iload_n hx hb dL_looks_136 rfl (lv_at hl 4 rfl) ?_
              refine lv_icmp_ne (tgt := 144) hx hb dL_looks_137 (by decide) (fun c_14 => ?_) (fun c_14 => ?_)
              · exact absurd rfl c_14
              · refine lv_iconst (v := 1) hx hb dL_looks_140 (by decide) ?_
                refine lv_goto (tgt := 145) hx hb dL_looks_141 (by decide) ?_
                refine lv_istore (lv' := [(11, .int 1), (10, .int (nI j_1)), (9, .int (nI h_2)), (8, .int (nI (100 * h_2 + j_1))), (0, .ref (a 0)), (1, .int (nI n)), (2, .int (nI c₀)), (3, .ref (q 0)), (4, .ref (q 1)), (5, .ref (q 2)), (6, .ref (q 3)), (7, .ref (q 4))]) hx hb dL_looks_145 hl (by decide) rfl (fun ls hl => ?_)
                refine lv_iload hx hb dL_looks_147 (lv_at hl 0 rfl) ?_
                refine lv_if_eq (tgt := 193) hx hb dL_looks_149 (by decide) (fun c_15 => ?_) (fun c_15 => ?_)
                · exact absurd c_15 (by decide)
                · refine lv_iload hx hb dL_looks_152 (lv_at hl 2 rfl) ?_
                  refine lv_if_eq (tgt := 189) hx hb dL_looks_154 (by decide) (fun c_16 => ?_) (fun c_16 => ?_)
                  · refine lv_iconst (v := 1) hx hb dL_looks_189 (by decide) ?_
                    refine lv_goto (tgt := 194) hx hb dL_looks_190 (by decide) ?_
                    exact co_endNz (v := true) ρ_13 S hr hlocks dL_looks_194 hK hP hD hS rfl (by show 0 + 3 + 3 + 3 + 4 ≤ 20; omega) (by show 0 + 18 + 18 + 18 + 24 ≤ 120; omega)
                  · refine lv_iload hx hb dL_looks_157 (lv_at hl 3 rfl) ?_
                    refine lv_if_lt (tgt := 189) hx hb dL_looks_159 (by decide) (fun c_17 => ?_) (fun c_17 => ?_)
                    · exact absurd c_17 (nI_pos (by omega))
                    · refine lv_aload_n hx hb dL_looks_162 rfl (lv_at hl 4 rfl) ?_
                      refine lv_iload_n hx hb dL_looks_163 rfl (lv_at hl 5 rfl) ?_
                      refine lv_aload hx hb dL_looks_164 (lv_at hl 8 rfl) ?_
                      refine lv_bipush (v := 20) hx hb dL_looks_166 (by decide) ?_
                      refine lv_iload_n hx hb dL_looks_168 rfl (lv_at hl 6 rfl) ?_
                      refine lv_iadd hx hb dL_looks_169 ?_
                      refine co_eq (show (20 : Int32) + (nI c₀) = (nI (20 + c₀)) from nI_add 20 c₀) ?_
                      refine va_iald hx hb hK hP 20 0 rfl rfl (vp_in_nI (n := (20 + c₀)) (N := 27) (by omega) (by decide)) dL_looks_170 ?_
                      refine co_eq (rq_k hR hc0) ?_
                      refine lv_iload hx hb dL_looks_171 (lv_at hl 2 rfl) ?_
                      refine co_q (As := [.int (nI n), .int (nI (κ c₀)), .int (nI h_2)]) (rest := []) S (c_X2_hopAt l hl9 G sa a σ ρ_13 (nI n) (nI (κ c₀)) (nI h_2)) (fun r u h => ⟨(h.2.1 (Rq.hp hR hn tk9)).2.2, h.2.2⟩) (fun E u h => h.1.elim (fun z => exq_no z (cdP0 (M := 63) hn (by omega) (by decide))) (fun z => (z.2.2 (Rq.hp hR hn tk9)).elim (fun w => absurd w (nI_pos (by omega))) (fun w => absurd w (by rw [← eh_2]; exact nI_nlt (Nat.le_refl _) (by omega))))) (cwV 3 hts gL_looks_X2_hopAt rfl rfl rfl (by decide +kernel) ⟨(Nat.le_of_ble_eq_true rfl), (Nat.le_of_ble_eq_true rfl)⟩) hK hP hD hS hA hX rfl hl.1 rfl (Nat.le_of_ble_eq_true rfl) dL_looks_173 ⟨by show 0 + 3 + 3 + 3 + 4 + 4 ≤ 20; omega, by show 0 + 18 + 18 + 18 + 24 + 24 ≤ 120; omega⟩ (fun ρ_18 H locs hP hD hS => ?_)
                      refine co_eq (show pth (σ 0) (σ 1) (σ 3) (nI (κ c₀)) (nI n) (nI h_2).toNatClampNeg = nI y by rw [nI_clamp (by omega), eh_2]; exact ey) ?_
                      refine lv_aload_n hx hb dL_looks_176 rfl (lv_at hl 7 rfl) ?_
                      refine lv_aload hx hb dL_looks_177 (lv_at hl 8 rfl) ?_
                      refine lv_aload hx hb dL_looks_179 (lv_at hl 9 rfl) ?_
                      refine co_rS (As := [.int (nI y), .ref (q 0), .ref (q 1), .ref (q 2)]) (rest := []) S (c_L_next l G Z q ν δ κ σ τ hR y ly) (va_cwS 4 hts gL_looks_L_next rfl rfl rfl (by decide +kernel) ⟨Nat.le_of_ble_eq_true rfl, Nat.le_of_ble_eq_true rfl⟩) hK (pG_perm hP [19, 20, 21, 22, 23] rfl) rfl hl.1 rfl (Nat.le_of_ble_eq_true rfl) dL_looks_181 ⟨by show 0 + 3 + 3 + 3 + 4 + 4 + 0 ≤ 20; omega, by show 0 + 18 + 18 + 18 + 24 + 24 + 0 ≤ 120; omega⟩ ?_
                      refine co_eq (show lsF (σ 0) (σ 1) (nI y) = nI j_1 from fy.trans ej_1) ?_
                      refine lv_iload hx hb dL_looks_184 (lv_at hl 1 rfl) ?_
                      refine lv_icmp_ne (tgt := 193) hx hb dL_looks_186 (by decide) (fun c_19 => ?_) (fun c_19 => ?_)
                      · exact absurd rfl c_19
                      · refine lv_iconst (v := 1) hx hb dL_looks_189 (by decide) ?_
                        refine lv_goto (tgt := 194) hx hb dL_looks_190 (by decide) ?_
                        exact co_endNz (v := true) ρ_18 S hr hlocks dL_looks_194 hK hP hD hS rfl (by show 0 + 3 + 3 + 3 + 4 + 4 ≤ 20; omega) (by show 0 + 18 + 18 + 18 + 24 + 24 ≤ 120; omega)
          · exact absurd (nI_pos' (by omega)) c_10
    · exact absurd (nI_pos' (by omega)) c_4
  · exact absurd (nI_pos' (by omega)) c_3
