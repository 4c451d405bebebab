theorem lc_z0 : (0 : Int32).toNatClampNeg = 0 := by decide
theorem lc_any {Z Z' : Nat} {σ F v : cS} {cd : Nat} {r R : Int32} (h2 : cd = 0 → r = R ∧ Rl Z' F v) (h3 : cd ≠ 0 → Rl Z σ v) : ∃ (Z9 : Nat) (σ9 : cS), Rl Z9 σ9 v := by
  by_cases h : cd = 0
  · exact ⟨Z', F, (h2 h).2⟩
  · exact ⟨Z, σ, h3 h⟩
set_option maxHeartbeats 4000000 in
set_option maxRecDepth 100000 in
theorem lc_create {p : Program} {l : Launch} {e : Env} {s : State} {m : MethodId} {below : List Frame} {meth : Method} {c : Code} {Q : State → Prop} {b0 L i Z : Nat} {xs : Nat → Int32} {G : cG} {sa : Nat → Nat} {a b : Nat → Nat} {q : Nat} {cells slots : Nat} {σ ρ μ : cS} {o : Nat → Int64} {H : Heap} {locs : List Loc} {ls : Array Slot}
    (C9 : lwI p l s m c b0 L xs G sa i) (hR : Rl Z σ μ) (hZ : Z + 1 < 2 ^ 30) (hc4 : cells + 4 ≤ 601024) (hs4 : slots + 24 ≤ 7293034) (hP : pG G (wW G a b q (σ, ρ, o) μ) H) (hD : va_D (fun q => s.heap.size ≤ q) (wW G a b q (σ, ρ, o) μ)) (hS : va_S (fun q => s.heap.size ≤ q) s.heap H locs) (hl : lv_has ls 7 (lwL a b b0 q i))
    (kk : ∀ (σ' ρ' μ' : cS) (o' : Nat → Int64) (H' : Heap) (locs' : List Loc) (ls' : Array Slot), Rl (Z + 1) σ' μ' → pG G (wW G a b q (σ', ρ', o') μ') H' → va_D (fun q => s.heap.size ≤ q) (wW G a b q (σ', ρ', o') μ') → va_S (fun q => s.heap.size ≤ q) s.heap H' locs' → lv_has ls' 7 (lwL a b b0 q i) → W p l e room_1 s m #[Value.ref b0] below meth c H' locs' (cells + 4) (slots + 24) Q (F0 m 1612 ls' [])) :
    W p l e room_1 s m #[Value.ref b0] below meth c H locs cells slots Q (F0 m 152 ls []) := by
  obtain ⟨S, hl9, hXs, hbl, hK, hX, hN, hi4, hL⟩ := C9
  obtain ⟨hx, hb, hml, hown, hts⟩ := id S
  have hA : ∀ q : Nat, s.heap.size ≤ q → (fun q : Nat => s.heap.size ≤ q) q := fun _ h => h
  have hl : lv_has ls 7 [(0, .ref b0), (1, .ref (a 0)), (2, .ref (b 0)), (3, .ref q), (4, .int (nI i))] := hl
  refine lv_aload_n hx hb dL_law_152 rfl (lv_at hl 1 rfl) ?_
  refine lv_aload_n hx hb dL_law_153 rfl (lv_at hl 0 rfl) ?_
  refine lv_iload hx hb dL_law_154 (lv_at hl 4 rfl) ?_
  refine lv_iconst (v := 1) hx hb dL_law_156 (by decide) ?_
  refine lv_iadd hx hb dL_law_157 ?_
  refine co_sld (i := i + 1) hx hb hXs hbl hS (nI_add i 1) (by omega) hL dL_law_158 ?_
  refine lv_aload_n hx hb dL_law_159 rfl (lv_at hl 3 rfl) ?_
  refine co_lSiS (wr := wM G b μ) (w' := fun u : lS => wW G a b q u μ) (As := [.ref (a 0), .int (xs (i + 1)), .ref q]) (rest := []) [0, 1, 2, 3, 4, 5, 6, 7, 8, 9, 10, 11, 12, 13, 14, 15, 16, 17, 18, 30] [19, 20, 21, 22, 23, 24, 25, 26, 27, 28, 29] [11, 12, 13, 14, 15, 16, 17, 18, 19, 20, 21, 22, 23, 24, 25, 26, 27, 28, 29, 0, 1, 2, 3, 4, 5, 6, 7, 8, 9, 10, 30] S (c_L_create l hl9 G sa a q σ ρ o (xs (i + 1))) (vx_cwSW 3 hts gL_law_L_create rfl rfl rfl (by decide +kernel) ⟨(Nat.le_of_ble_eq_true rfl), (Nat.le_of_ble_eq_true rfl)⟩) hK hP hD hS hA hX hN rfl rfl (by decide) (by decide) (by decide) (by decide) (fun _ => rfl) rfl hl.1 rfl (Nat.le_of_ble_eq_true rfl) dL_law_160 ⟨hc4, hs4⟩ (fun r u H locs hp hP hD hS => ?_)
  refine lv_istore (lv' := [(5, .int r), (0, .ref b0), (1, .ref (a 0)), (2, .ref (b 0)), (3, .ref q), (4, .int (nI i))]) hx hb dL_law_163 hl (by decide) rfl (fun ls hl => ?_)
  refine lv_aload_n hx hb dL_law_165 rfl (lv_at hl 3 rfl) ?_
  refine lv_aload_n hx hb dL_law_166 rfl (lv_at hl 1 rfl) ?_
  refine lv_iload hx hb dL_law_167 (lv_at hl 5 rfl) ?_
  refine lv_iconst (v := 1) hx hb dL_law_169 (by decide) ?_
  refine lv_iadd hx hb dL_law_170 ?_
  refine co_sld (i := i + 1) hx hb hXs hbl hS (nI_add i 1) (by omega) hL dL_law_171 ?_
  refine co_mViS (wr := wL G a q u) (w' := fun v : cS => wW G a b q u v) (As := [.int (xs (i + 1))]) (rest := []) [19, 20, 21, 22, 23, 24, 25, 26, 27, 28, 29] [0, 1, 2, 3, 4, 5, 6, 7, 8, 9, 10, 11, 12, 13, 14, 15, 16, 17, 18, 30] [0, 1, 2, 3, 4, 5, 6, 7, 8, 9, 10, 11, 12, 13, 14, 15, 16, 17, 18, 20, 21, 22, 23, 24, 25, 26, 27, 28, 29, 30, 19] S (c_X3_create l G Z b σ μ hR (xs (i + 1))) (cwV 1 hts gL_law_X3_create rfl rfl rfl (by decide +kernel) ⟨(Nat.le_of_ble_eq_true rfl), (Nat.le_of_ble_eq_true rfl)⟩) hK hP hD hS hA rfl rfl (by decide) (by decide) (by decide) (by decide) (fun _ => rfl) (va_recv hK hP (ci := 2) (q0 := 19) rfl rfl) rfl hl.1 rfl (Nat.le_of_ble_eq_true rfl) dL_law_172 ⟨hc4, hs4⟩ (fun r2 v H locs hq hP hD hS => ?_)
  refine lv_istore (lv' := [(6, .int r2), (5, .int r), (0, .ref b0), (1, .ref (a 0)), (2, .ref (b 0)), (3, .ref q), (4, .int (nI i))]) hx hb dL_law_175 hl (by decide) rfl (fun ls hl => ?_)
  obtain ⟨hq1, hq2, hq3⟩ := hq
  obtain ⟨Zx, σx, hRx⟩ : ∃ (Z9 : Nat) (σ9 : cS), Rl Z9 σ9 v := lc_any hq2 hq3
  refine lv_aload_n hx hb dL_law_177 rfl (lv_at hl 4 rfl) ?_
  refine co_rV (As := []) (rest := []) S (c_X3_thrown l G Zx b σx v hRx) (cwV 0 hts gL_law_X3_thrown rfl rfl rfl (by decide +kernel) ⟨(Nat.le_of_ble_eq_true rfl), (Nat.le_of_ble_eq_true rfl)⟩) hK (pG_perm hP [19, 20, 21, 22, 23, 24, 25, 26, 27, 28, 29] rfl) (va_recv hK hP (ci := 2) (q0 := 19) rfl rfl) rfl hl.1 rfl (Nat.le_of_ble_eq_true rfl) dL_law_178 ⟨hc4, hs4⟩ ?_
  refine lv_iload hx hb dL_law_181 (lv_at hl 1 rfl) ?_
  refine lv_icmp_eq (tgt := 188) hx hb dL_law_183 (by decide) (fun c8 => ?_) (fun c8 => ?_)
  · refine lv_iload hx hb dL_law_188 (lv_at hl 1 rfl) ?_
    refine lv_if_ne (tgt := 205) hx hb dL_law_190 (by decide) (fun c9 => ?_) (fun c9 => ?_)
    · rcases hp with ⟨h1, -⟩ | ⟨-, -, h3, h4⟩
      · exact absurd h1 c9
      · refine lv_goto (tgt := 1612) hx hb dL_law_205 (by decide) ?_
        exact kk u.1 u.2.1 v u.2.2 H locs ls (by rw [h4]; exact (hq3 h3).up) hP hD hS (lv_sub hl [2, 3, 4, 5, 6] rfl)
    · rcases hp with ⟨-, h2, h3, h4⟩ | ⟨h1, -⟩
      · obtain ⟨e1, hRF⟩ := hq2 h2
        refine lv_aload_n hx hb dL_law_193 rfl (lv_at hl 5 rfl) ?_
        refine lv_iconst (v := 0) hx hb dL_law_194 (by decide) ?_
        refine va_lald hx hb hK hP 30 2 rfl rfl vin0 dL_law_195 ?_
        refine lv_iload hx hb dL_law_196 (lv_at hl 0 rfl) ?_
        refine lv_i2l (v := r2.toInt64) hx hb dL_law_198 rfl ?_
        refine co_lcmp0 hx hb ((congrArg u.2.2 lc_z0).trans (h3.trans (by rw [e1]))) dL_law_199 ?_
        refine lv_if_eq (tgt := 205) hx hb dL_law_200 (by decide) (fun _ => ?_) (fun c7 => absurd rfl c7)
        refine lv_goto (tgt := 1612) hx hb dL_law_205 (by decide) ?_
        exact kk u.1 u.2.1 v u.2.2 H locs ls (by rw [h4]; exact hRF.up) hP hD hS (lv_sub hl [2, 3, 4, 5, 6] rfl)
      · exact absurd c9 h1
  · exact absurd (hq1.trans (pL_thr hp)) c8

set_option maxHeartbeats 4000000 in
set_option maxRecDepth 100000 in
theorem lc_join {p : Program} {l : Launch} {e : Env} {s : State} {m : MethodId} {below : List Frame} {meth : Method} {c : Code} {Q : State → Prop} {b0 L i Z : Nat} {xs : Nat → Int32} {G : cG} {sa : Nat → Nat} {a b : Nat → Nat} {q : Nat} {cells slots : Nat} {σ ρ μ : cS} {o : Nat → Int64} {H : Heap} {locs : List Loc} {ls : Array Slot}
    (C9 : lwI p l s m c b0 L xs G sa i) (hR : Rl Z σ μ) (hZ : Z + 1 < 2 ^ 30) (hc4 : cells + 4 ≤ 601024) (hs4 : slots + 24 ≤ 7293034) (hP : pG G (wW G a b q (σ, ρ, o) μ) H) (hD : va_D (fun q => s.heap.size ≤ q) (wW G a b q (σ, ρ, o) μ)) (hS : va_S (fun q => s.heap.size ≤ q) s.heap H locs) (hl : lv_has ls 7 (lwL a b b0 q i))
    (kk : ∀ (σ' ρ' μ' : cS) (o' : Nat → Int64) (H' : Heap) (locs' : List Loc) (ls' : Array Slot), Rl (Z + 1) σ' μ' → pG G (wW G a b q (σ', ρ', o') μ') H' → va_D (fun q => s.heap.size ≤ q) (wW G a b q (σ', ρ', o') μ') → va_S (fun q => s.heap.size ≤ q) s.heap H' locs' → lv_has ls' 7 (lwL a b b0 q i) → W p l e room_1 s m #[Value.ref b0] below meth c H' locs' (cells + 4) (slots + 24) Q (F0 m 1612 ls' [])) :
    W p l e room_1 s m #[Value.ref b0] below meth c H locs cells slots Q (F0 m 208 ls []) := by
  obtain ⟨S, hl9, hXs, hbl, hK, hX, hN, hi4, hL⟩ := C9
  obtain ⟨hx, hb, hml, hown, hts⟩ := id S
  have hA : ∀ q : Nat, s.heap.size ≤ q → (fun q : Nat => s.heap.size ≤ q) q := fun _ h => h
  have hl : lv_has ls 7 [(0, .ref b0), (1, .ref (a 0)), (2, .ref (b 0)), (3, .ref q), (4, .int (nI i))] := hl
  refine lv_aload_n hx hb dL_law_208 rfl (lv_at hl 1 rfl) ?_
  refine lv_aload_n hx hb dL_law_209 rfl (lv_at hl 0 rfl) ?_
  refine lv_iload hx hb dL_law_210 (lv_at hl 4 rfl) ?_
  refine lv_iconst (v := 1) hx hb dL_law_212 (by decide) ?_
  refine lv_iadd hx hb dL_law_213 ?_
  refine co_sld (i := i + 1) hx hb hXs hbl hS (nI_add i 1) (by omega) hL dL_law_214 ?_
  refine lv_aload_n hx hb dL_law_215 rfl (lv_at hl 0 rfl) ?_
  refine lv_iload hx hb dL_law_216 (lv_at hl 4 rfl) ?_
  refine lv_iconst (v := 2) hx hb dL_law_218 (by decide) ?_
  refine lv_iadd hx hb dL_law_219 ?_
  refine co_sld (i := i + 2) hx hb hXs hbl hS (nI_add i 2) (by omega) hL dL_law_220 ?_
  refine lv_aload_n hx hb dL_law_221 rfl (lv_at hl 3 rfl) ?_
  refine co_lSiS (wr := wM G b μ) (w' := fun u : lS => wW G a b q u μ) (As := [.ref (a 0), .int (xs (i + 1)), .int (xs (i + 2)), .ref q]) (rest := []) [0, 1, 2, 3, 4, 5, 6, 7, 8, 9, 10, 11, 12, 13, 14, 15, 16, 17, 18, 30] [19, 20, 21, 22, 23, 24, 25, 26, 27, 28, 29] [11, 12, 13, 14, 15, 16, 17, 18, 19, 20, 21, 22, 23, 24, 25, 26, 27, 28, 29, 0, 1, 2, 3, 4, 5, 6, 7, 8, 9, 10, 30] S (c_L_join l hl9 G sa a q σ ρ o (xs (i + 1)) (xs (i + 2))) (vx_cwSW 4 hts gL_law_L_join rfl rfl rfl (by decide +kernel) ⟨(Nat.le_of_ble_eq_true rfl), (Nat.le_of_ble_eq_true rfl)⟩) hK hP hD hS hA hX hN rfl rfl (by decide) (by decide) (by decide) (by decide) (fun _ => rfl) rfl hl.1 rfl (Nat.le_of_ble_eq_true rfl) dL_law_222 ⟨hc4, hs4⟩ (fun r u H locs hp hP hD hS => ?_)
  refine lv_istore (lv' := [(5, .int r), (0, .ref b0), (1, .ref (a 0)), (2, .ref (b 0)), (3, .ref q), (4, .int (nI i))]) hx hb dL_law_225 hl (by decide) rfl (fun ls hl => ?_)
  refine lv_aload_n hx hb dL_law_227 rfl (lv_at hl 3 rfl) ?_
  refine lv_aload_n hx hb dL_law_228 rfl (lv_at hl 1 rfl) ?_
  refine lv_iload hx hb dL_law_229 (lv_at hl 5 rfl) ?_
  refine lv_iconst (v := 1) hx hb dL_law_231 (by decide) ?_
  refine lv_iadd hx hb dL_law_232 ?_
  refine co_sld (i := i + 1) hx hb hXs hbl hS (nI_add i 1) (by omega) hL dL_law_233 ?_
  refine lv_aload_n hx hb dL_law_234 rfl (lv_at hl 1 rfl) ?_
  refine lv_iload hx hb dL_law_235 (lv_at hl 5 rfl) ?_
  refine lv_iconst (v := 2) hx hb dL_law_237 (by decide) ?_
  refine lv_iadd hx hb dL_law_238 ?_
  refine co_sld (i := i + 2) hx hb hXs hbl hS (nI_add i 2) (by omega) hL dL_law_239 ?_
  refine co_mViS (wr := wL G a q u) (w' := fun v : cS => wW G a b q u v) (As := [.int (xs (i + 1)), .int (xs (i + 2))]) (rest := []) [19, 20, 21, 22, 23, 24, 25, 26, 27, 28, 29] [0, 1, 2, 3, 4, 5, 6, 7, 8, 9, 10, 11, 12, 13, 14, 15, 16, 17, 18, 30] [0, 1, 2, 3, 4, 5, 6, 7, 8, 9, 10, 11, 12, 13, 14, 15, 16, 17, 18, 20, 21, 22, 23, 24, 25, 26, 27, 28, 29, 30, 19] S (c_X3_join l G Z b σ μ hR (xs (i + 1)) (xs (i + 2))) (cwV 2 hts gL_law_X3_join rfl rfl rfl (by decide +kernel) ⟨(Nat.le_of_ble_eq_true rfl), (Nat.le_of_ble_eq_true rfl)⟩) hK hP hD hS hA rfl rfl (by decide) (by decide) (by decide) (by decide) (fun _ => rfl) (va_recv hK hP (ci := 2) (q0 := 19) rfl rfl) rfl hl.1 rfl (Nat.le_of_ble_eq_true rfl) dL_law_240 ⟨hc4, hs4⟩ (fun r2 v H locs hq hP hD hS => ?_)
  refine lv_istore (lv' := [(6, .int r2), (5, .int r), (0, .ref b0), (1, .ref (a 0)), (2, .ref (b 0)), (3, .ref q), (4, .int (nI i))]) hx hb dL_law_243 hl (by decide) rfl (fun ls hl => ?_)
  obtain ⟨hq1, hq2, hq3⟩ := hq
  obtain ⟨Zx, σx, hRx⟩ : ∃ (Z9 : Nat) (σ9 : cS), Rl Z9 σ9 v := lc_any hq2 hq3
  refine lv_aload_n hx hb dL_law_245 rfl (lv_at hl 4 rfl) ?_
  refine co_rV (As := []) (rest := []) S (c_X3_thrown l G Zx b σx v hRx) (cwV 0 hts gL_law_X3_thrown rfl rfl rfl (by decide +kernel) ⟨(Nat.le_of_ble_eq_true rfl), (Nat.le_of_ble_eq_true rfl)⟩) hK (pG_perm hP [19, 20, 21, 22, 23, 24, 25, 26, 27, 28, 29] rfl) (va_recv hK hP (ci := 2) (q0 := 19) rfl rfl) rfl hl.1 rfl (Nat.le_of_ble_eq_true rfl) dL_law_246 ⟨hc4, hs4⟩ ?_
  refine lv_iload hx hb dL_law_249 (lv_at hl 1 rfl) ?_
  refine lv_icmp_eq (tgt := 256) hx hb dL_law_251 (by decide) (fun c8 => ?_) (fun c8 => ?_)
  · refine lv_iload hx hb dL_law_256 (lv_at hl 1 rfl) ?_
    refine lv_if_ne (tgt := 273) hx hb dL_law_258 (by decide) (fun c9 => ?_) (fun c9 => ?_)
    · rcases hp with ⟨h1, -⟩ | ⟨-, -, h3, h4⟩
      · exact absurd h1 c9
      · refine lv_goto (tgt := 1612) hx hb dL_law_273 (by decide) ?_
        exact kk u.1 u.2.1 v u.2.2 H locs ls (by rw [h4]; exact (hq3 h3).up) hP hD hS (lv_sub hl [2, 3, 4, 5, 6] rfl)
    · rcases hp with ⟨-, h2, h3, h4⟩ | ⟨h1, -⟩
      · obtain ⟨e1, hRF⟩ := hq2 h2
        refine lv_aload_n hx hb dL_law_261 rfl (lv_at hl 5 rfl) ?_
        refine lv_iconst (v := 0) hx hb dL_law_262 (by decide) ?_
        refine va_lald hx hb hK hP 30 2 rfl rfl vin0 dL_law_263 ?_
        refine lv_iload hx hb dL_law_264 (lv_at hl 0 rfl) ?_
        refine lv_i2l (v := r2.toInt64) hx hb dL_law_266 rfl ?_
        refine co_lcmp0 hx hb ((congrArg u.2.2 lc_z0).trans (h3.trans (by rw [e1]))) dL_law_267 ?_
        refine lv_if_eq (tgt := 273) hx hb dL_law_268 (by decide) (fun _ => ?_) (fun c7 => absurd rfl c7)
        refine lv_goto (tgt := 1612) hx hb dL_law_273 (by decide) ?_
        exact kk u.1 u.2.1 v u.2.2 H locs ls (by rw [h4]; exact hRF.up) hP hD hS (lv_sub hl [2, 3, 4, 5, 6] rfl)
      · exact absurd c9 h1
  · exact absurd (hq1.trans (pL_thr hp)) c8

set_option maxHeartbeats 4000000 in
set_option maxRecDepth 100000 in
theorem lc_fail {p : Program} {l : Launch} {e : Env} {s : State} {m : MethodId} {below : List Frame} {meth : Method} {c : Code} {Q : State → Prop} {b0 L i Z : Nat} {xs : Nat → Int32} {G : cG} {sa : Nat → Nat} {a b : Nat → Nat} {q : Nat} {cells slots : Nat} {σ ρ μ : cS} {o : Nat → Int64} {H : Heap} {locs : List Loc} {ls : Array Slot}
    (C9 : lwI p l s m c b0 L xs G sa i) (hR : Rl Z σ μ) (hZ : Z + 1 < 2 ^ 30) (hc4 : cells + 4 ≤ 601024) (hs4 : slots + 24 ≤ 7293034) (hP : pG G (wW G a b q (σ, ρ, o) μ) H) (hD : va_D (fun q => s.heap.size ≤ q) (wW G a b q (σ, ρ, o) μ)) (hS : va_S (fun q => s.heap.size ≤ q) s.heap H locs) (hl : lv_has ls 7 (lwL a b b0 q i))
    (kk : ∀ (σ' ρ' μ' : cS) (o' : Nat → Int64) (H' : Heap) (locs' : List Loc) (ls' : Array Slot), Rl (Z + 1) σ' μ' → pG G (wW G a b q (σ', ρ', o') μ') H' → va_D (fun q => s.heap.size ≤ q) (wW G a b q (σ', ρ', o') μ') → va_S (fun q => s.heap.size ≤ q) s.heap H' locs' → lv_has ls' 7 (lwL a b b0 q i) → W p l e room_1 s m #[Value.ref b0] below meth c H' locs' (cells + 4) (slots + 24) Q (F0 m 1612 ls' [])) :
    W p l e room_1 s m #[Value.ref b0] below meth c H locs cells slots Q (F0 m 276 ls []) := by
  obtain ⟨S, hl9, hXs, hbl, hK, hX, hN, hi4, hL⟩ := C9
  obtain ⟨hx, hb, hml, hown, hts⟩ := id S
  have hA : ∀ q : Nat, s.heap.size ≤ q → (fun q : Nat => s.heap.size ≤ q) q := fun _ h => h
  have hl : lv_has ls 7 [(0, .ref b0), (1, .ref (a 0)), (2, .ref (b 0)), (3, .ref q), (4, .int (nI i))] := hl
  refine lv_aload_n hx hb dL_law_276 rfl (lv_at hl 1 rfl) ?_
  refine lv_aload_n hx hb dL_law_277 rfl (lv_at hl 0 rfl) ?_
  refine lv_iload hx hb dL_law_278 (lv_at hl 4 rfl) ?_
  refine lv_iconst (v := 1) hx hb dL_law_280 (by decide) ?_
  refine lv_iadd hx hb dL_law_281 ?_
  refine co_sld (i := i + 1) hx hb hXs hbl hS (nI_add i 1) (by omega) hL dL_law_282 ?_
  refine lv_aload_n hx hb dL_law_283 rfl (lv_at hl 3 rfl) ?_
  refine co_lSiS (wr := wM G b μ) (w' := fun u : lS => wW G a b q u μ) (As := [.ref (a 0), .int (xs (i + 1)), .ref q]) (rest := []) [0, 1, 2, 3, 4, 5, 6, 7, 8, 9, 10, 11, 12, 13, 14, 15, 16, 17, 18, 30] [19, 20, 21, 22, 23, 24, 25, 26, 27, 28, 29] [11, 12, 13, 14, 15, 16, 17, 18, 19, 20, 21, 22, 23, 24, 25, 26, 27, 28, 29, 0, 1, 2, 3, 4, 5, 6, 7, 8, 9, 10, 30] S (c_L_fail l hl9 G sa a q σ ρ o (xs (i + 1))) (vx_cwSW 3 hts gL_law_L_fail rfl rfl rfl (by decide +kernel) ⟨(Nat.le_of_ble_eq_true rfl), (Nat.le_of_ble_eq_true rfl)⟩) hK hP hD hS hA hX hN rfl rfl (by decide) (by decide) (by decide) (by decide) (fun _ => rfl) rfl hl.1 rfl (Nat.le_of_ble_eq_true rfl) dL_law_284 ⟨hc4, hs4⟩ (fun r u H locs hp hP hD hS => ?_)
  refine lv_istore (lv' := [(5, .int r), (0, .ref b0), (1, .ref (a 0)), (2, .ref (b 0)), (3, .ref q), (4, .int (nI i))]) hx hb dL_law_287 hl (by decide) rfl (fun ls hl => ?_)
  refine lv_aload_n hx hb dL_law_289 rfl (lv_at hl 3 rfl) ?_
  refine lv_aload_n hx hb dL_law_290 rfl (lv_at hl 1 rfl) ?_
  refine lv_iload hx hb dL_law_291 (lv_at hl 5 rfl) ?_
  refine lv_iconst (v := 1) hx hb dL_law_293 (by decide) ?_
  refine lv_iadd hx hb dL_law_294 ?_
  refine co_sld (i := i + 1) hx hb hXs hbl hS (nI_add i 1) (by omega) hL dL_law_295 ?_
  refine co_mViS (wr := wL G a q u) (w' := fun v : cS => wW G a b q u v) (As := [.int (xs (i + 1))]) (rest := []) [19, 20, 21, 22, 23, 24, 25, 26, 27, 28, 29] [0, 1, 2, 3, 4, 5, 6, 7, 8, 9, 10, 11, 12, 13, 14, 15, 16, 17, 18, 30] [0, 1, 2, 3, 4, 5, 6, 7, 8, 9, 10, 11, 12, 13, 14, 15, 16, 17, 18, 20, 21, 22, 23, 24, 25, 26, 27, 28, 29, 30, 19] S (c_X3_fail l G Z b σ μ hR (xs (i + 1))) (cwV 1 hts gL_law_X3_fail rfl rfl rfl (by decide +kernel) ⟨(Nat.le_of_ble_eq_true rfl), (Nat.le_of_ble_eq_true rfl)⟩) hK hP hD hS hA rfl rfl (by decide) (by decide) (by decide) (by decide) (fun _ => rfl) (va_recv hK hP (ci := 2) (q0 := 19) rfl rfl) rfl hl.1 rfl (Nat.le_of_ble_eq_true rfl) dL_law_296 ⟨hc4, hs4⟩ (fun r2 v H locs hq hP hD hS => ?_)
  refine lv_istore (lv' := [(6, .int r2), (5, .int r), (0, .ref b0), (1, .ref (a 0)), (2, .ref (b 0)), (3, .ref q), (4, .int (nI i))]) hx hb dL_law_299 hl (by decide) rfl (fun ls hl => ?_)
  obtain ⟨hq1, hq2, hq3⟩ := hq
  obtain ⟨Zx, σx, hRx⟩ : ∃ (Z9 : Nat) (σ9 : cS), Rl Z9 σ9 v := lc_any hq2 hq3
  refine lv_aload_n hx hb dL_law_301 rfl (lv_at hl 4 rfl) ?_
  refine co_rV (As := []) (rest := []) S (c_X3_thrown l G Zx b σx v hRx) (cwV 0 hts gL_law_X3_thrown rfl rfl rfl (by decide +kernel) ⟨(Nat.le_of_ble_eq_true rfl), (Nat.le_of_ble_eq_true rfl)⟩) hK (pG_perm hP [19, 20, 21, 22, 23, 24, 25, 26, 27, 28, 29] rfl) (va_recv hK hP (ci := 2) (q0 := 19) rfl rfl) rfl hl.1 rfl (Nat.le_of_ble_eq_true rfl) dL_law_302 ⟨hc4, hs4⟩ ?_
  refine lv_iload hx hb dL_law_305 (lv_at hl 1 rfl) ?_
  refine lv_icmp_eq (tgt := 312) hx hb dL_law_307 (by decide) (fun c8 => ?_) (fun c8 => ?_)
  · refine lv_iload hx hb dL_law_312 (lv_at hl 1 rfl) ?_
    refine lv_if_ne (tgt := 329) hx hb dL_law_314 (by decide) (fun c9 => ?_) (fun c9 => ?_)
    · rcases hp with ⟨h1, -⟩ | ⟨-, -, h3, h4⟩
      · exact absurd h1 c9
      · refine lv_goto (tgt := 1612) hx hb dL_law_329 (by decide) ?_
        exact kk u.1 u.2.1 v u.2.2 H locs ls (by rw [h4]; exact (hq3 h3).up) hP hD hS (lv_sub hl [2, 3, 4, 5, 6] rfl)
    · rcases hp with ⟨-, h2, h3, h4⟩ | ⟨h1, -⟩
      · obtain ⟨e1, hRF⟩ := hq2 h2
        refine lv_aload_n hx hb dL_law_317 rfl (lv_at hl 5 rfl) ?_
        refine lv_iconst (v := 0) hx hb dL_law_318 (by decide) ?_
        refine va_lald hx hb hK hP 30 2 rfl rfl vin0 dL_law_319 ?_
        refine lv_iload hx hb dL_law_320 (lv_at hl 0 rfl) ?_
        refine lv_i2l (v := r2.toInt64) hx hb dL_law_322 rfl ?_
        refine co_lcmp0 hx hb ((congrArg u.2.2 lc_z0).trans (h3.trans (by rw [e1]))) dL_law_323 ?_
        refine lv_if_eq (tgt := 329) hx hb dL_law_324 (by decide) (fun _ => ?_) (fun c7 => absurd rfl c7)
        refine lv_goto (tgt := 1612) hx hb dL_law_329 (by decide) ?_
        exact kk u.1 u.2.1 v u.2.2 H locs ls (by rw [h4]; exact hRF.up) hP hD hS (lv_sub hl [2, 3, 4, 5, 6] rfl)
      · exact absurd c9 h1
  · exact absurd (hq1.trans (pL_thr hp)) c8

set_option maxHeartbeats 4000000 in
set_option maxRecDepth 100000 in
theorem lc_leave {p : Program} {l : Launch} {e : Env} {s : State} {m : MethodId} {below : List Frame} {meth : Method} {c : Code} {Q : State → Prop} {b0 L i Z : Nat} {xs : Nat → Int32} {G : cG} {sa : Nat → Nat} {a b : Nat → Nat} {q : Nat} {cells slots : Nat} {σ ρ μ : cS} {o : Nat → Int64} {H : Heap} {locs : List Loc} {ls : Array Slot}
    (C9 : lwI p l s m c b0 L xs G sa i) (hR : Rl Z σ μ) (hZ : Z + 1 < 2 ^ 30) (hc4 : cells + 4 ≤ 601024) (hs4 : slots + 24 ≤ 7293034) (hP : pG G (wW G a b q (σ, ρ, o) μ) H) (hD : va_D (fun q => s.heap.size ≤ q) (wW G a b q (σ, ρ, o) μ)) (hS : va_S (fun q => s.heap.size ≤ q) s.heap H locs) (hl : lv_has ls 7 (lwL a b b0 q i))
    (kk : ∀ (σ' ρ' μ' : cS) (o' : Nat → Int64) (H' : Heap) (locs' : List Loc) (ls' : Array Slot), Rl (Z + 1) σ' μ' → pG G (wW G a b q (σ', ρ', o') μ') H' → va_D (fun q => s.heap.size ≤ q) (wW G a b q (σ', ρ', o') μ') → va_S (fun q => s.heap.size ≤ q) s.heap H' locs' → lv_has ls' 7 (lwL a b b0 q i) → W p l e room_1 s m #[Value.ref b0] below meth c H' locs' (cells + 4) (slots + 24) Q (F0 m 1612 ls' [])) :
    W p l e room_1 s m #[Value.ref b0] below meth c H locs cells slots Q (F0 m 332 ls []) := by
  obtain ⟨S, hl9, hXs, hbl, hK, hX, hN, hi4, hL⟩ := C9
  obtain ⟨hx, hb, hml, hown, hts⟩ := id S
  have hA : ∀ q : Nat, s.heap.size ≤ q → (fun q : Nat => s.heap.size ≤ q) q := fun _ h => h
  have hl : lv_has ls 7 [(0, .ref b0), (1, .ref (a 0)), (2, .ref (b 0)), (3, .ref q), (4, .int (nI i))] := hl
  refine lv_aload_n hx hb dL_law_332 rfl (lv_at hl 1 rfl) ?_
  refine lv_aload_n hx hb dL_law_333 rfl (lv_at hl 0 rfl) ?_
  refine lv_iload hx hb dL_law_334 (lv_at hl 4 rfl) ?_
  refine lv_iconst (v := 1) hx hb dL_law_336 (by decide) ?_
  refine lv_iadd hx hb dL_law_337 ?_
  refine co_sld (i := i + 1) hx hb hXs hbl hS (nI_add i 1) (by omega) hL dL_law_338 ?_
  refine lv_aload_n hx hb dL_law_339 rfl (lv_at hl 3 rfl) ?_
  refine co_lSiS (wr := wM G b μ) (w' := fun u : lS => wW G a b q u μ) (As := [.ref (a 0), .int (xs (i + 1)), .ref q]) (rest := []) [0, 1, 2, 3, 4, 5, 6, 7, 8, 9, 10, 11, 12, 13, 14, 15, 16, 17, 18, 30] [19, 20, 21, 22, 23, 24, 25, 26, 27, 28, 29] [11, 12, 13, 14, 15, 16, 17, 18, 19, 20, 21, 22, 23, 24, 25, 26, 27, 28, 29, 0, 1, 2, 3, 4, 5, 6, 7, 8, 9, 10, 30] S (c_L_leave l hl9 G sa a q σ ρ o (xs (i + 1))) (vx_cwSW 3 hts gL_law_L_leave rfl rfl rfl (by decide +kernel) ⟨(Nat.le_of_ble_eq_true rfl), (Nat.le_of_ble_eq_true rfl)⟩) hK hP hD hS hA hX hN rfl rfl (by decide) (by decide) (by decide) (by decide) (fun _ => rfl) rfl hl.1 rfl (Nat.le_of_ble_eq_true rfl) dL_law_340 ⟨hc4, hs4⟩ (fun r u H locs hp hP hD hS => ?_)
  refine lv_istore (lv' := [(5, .int r), (0, .ref b0), (1, .ref (a 0)), (2, .ref (b 0)), (3, .ref q), (4, .int (nI i))]) hx hb dL_law_343 hl (by decide) rfl (fun ls hl => ?_)
  refine lv_aload_n hx hb dL_law_345 rfl (lv_at hl 3 rfl) ?_
  refine lv_aload_n hx hb dL_law_346 rfl (lv_at hl 1 rfl) ?_
  refine lv_iload hx hb dL_law_347 (lv_at hl 5 rfl) ?_
  refine lv_iconst (v := 1) hx hb dL_law_349 (by decide) ?_
  refine lv_iadd hx hb dL_law_350 ?_
  refine co_sld (i := i + 1) hx hb hXs hbl hS (nI_add i 1) (by omega) hL dL_law_351 ?_
  refine co_mViS (wr := wL G a q u) (w' := fun v : cS => wW G a b q u v) (As := [.int (xs (i + 1))]) (rest := []) [19, 20, 21, 22, 23, 24, 25, 26, 27, 28, 29] [0, 1, 2, 3, 4, 5, 6, 7, 8, 9, 10, 11, 12, 13, 14, 15, 16, 17, 18, 30] [0, 1, 2, 3, 4, 5, 6, 7, 8, 9, 10, 11, 12, 13, 14, 15, 16, 17, 18, 20, 21, 22, 23, 24, 25, 26, 27, 28, 29, 30, 19] S (c_X3_leave l G Z b σ μ hR (xs (i + 1))) (cwV 1 hts gL_law_X3_leave rfl rfl rfl (by decide +kernel) ⟨(Nat.le_of_ble_eq_true rfl), (Nat.le_of_ble_eq_true rfl)⟩) hK hP hD hS hA rfl rfl (by decide) (by decide) (by decide) (by decide) (fun _ => rfl) (va_recv hK hP (ci := 2) (q0 := 19) rfl rfl) rfl hl.1 rfl (Nat.le_of_ble_eq_true rfl) dL_law_352 ⟨hc4, hs4⟩ (fun r2 v H locs hq hP hD hS => ?_)
  refine lv_istore (lv' := [(6, .int r2), (5, .int r), (0, .ref b0), (1, .ref (a 0)), (2, .ref (b 0)), (3, .ref q), (4, .int (nI i))]) hx hb dL_law_355 hl (by decide) rfl (fun ls hl => ?_)
  obtain ⟨hq1, hq2, hq3⟩ := hq
  obtain ⟨Zx, σx, hRx⟩ : ∃ (Z9 : Nat) (σ9 : cS), Rl Z9 σ9 v := lc_any hq2 hq3
  refine lv_aload_n hx hb dL_law_357 rfl (lv_at hl 4 rfl) ?_
  refine co_rV (As := []) (rest := []) S (c_X3_thrown l G Zx b σx v hRx) (cwV 0 hts gL_law_X3_thrown rfl rfl rfl (by decide +kernel) ⟨(Nat.le_of_ble_eq_true rfl), (Nat.le_of_ble_eq_true rfl)⟩) hK (pG_perm hP [19, 20, 21, 22, 23, 24, 25, 26, 27, 28, 29] rfl) (va_recv hK hP (ci := 2) (q0 := 19) rfl rfl) rfl hl.1 rfl (Nat.le_of_ble_eq_true rfl) dL_law_358 ⟨hc4, hs4⟩ ?_
  refine lv_iload hx hb dL_law_361 (lv_at hl 1 rfl) ?_
  refine lv_icmp_eq (tgt := 368) hx hb dL_law_363 (by decide) (fun c8 => ?_) (fun c8 => ?_)
  · refine lv_iload hx hb dL_law_368 (lv_at hl 1 rfl) ?_
    refine lv_if_ne (tgt := 385) hx hb dL_law_370 (by decide) (fun c9 => ?_) (fun c9 => ?_)
    · rcases hp with ⟨h1, -⟩ | ⟨-, -, h3, h4⟩
      · exact absurd h1 c9
      · refine lv_goto (tgt := 1612) hx hb dL_law_385 (by decide) ?_
        exact kk u.1 u.2.1 v u.2.2 H locs ls (by rw [h4]; exact (hq3 h3).up) hP hD hS (lv_sub hl [2, 3, 4, 5, 6] rfl)
    · rcases hp with ⟨-, h2, h3, h4⟩ | ⟨h1, -⟩
      · obtain ⟨e1, hRF⟩ := hq2 h2
        refine lv_aload_n hx hb dL_law_373 rfl (lv_at hl 5 rfl) ?_
        refine lv_iconst (v := 0) hx hb dL_law_374 (by decide) ?_
        refine va_lald hx hb hK hP 30 2 rfl rfl vin0 dL_law_375 ?_
        refine lv_iload hx hb dL_law_376 (lv_at hl 0 rfl) ?_
        refine lv_i2l (v := r2.toInt64) hx hb dL_law_378 rfl ?_
        refine co_lcmp0 hx hb ((congrArg u.2.2 lc_z0).trans (h3.trans (by rw [e1]))) dL_law_379 ?_
        refine lv_if_eq (tgt := 385) hx hb dL_law_380 (by decide) (fun _ => ?_) (fun c7 => absurd rfl c7)
        refine lv_goto (tgt := 1612) hx hb dL_law_385 (by decide) ?_
        exact kk u.1 u.2.1 v u.2.2 H locs ls (by rw [h4]; exact hRF.up) hP hD hS (lv_sub hl [2, 3, 4, 5, 6] rfl)
      · exact absurd c9 h1
  · exact absurd (hq1.trans (pL_thr hp)) c8

set_option maxHeartbeats 4000000 in
set_option maxRecDepth 100000 in
theorem lc_living {p : Program} {l : Launch} {e : Env} {s : State} {m : MethodId} {below : List Frame} {meth : Method} {c : Code} {Q : State → Prop} {b0 L i Z : Nat} {xs : Nat → Int32} {G : cG} {sa : Nat → Nat} {a b : Nat → Nat} {q : Nat} {cells slots : Nat} {σ ρ μ : cS} {o : Nat → Int64} {H : Heap} {locs : List Loc} {ls : Array Slot}
    (C9 : lwI p l s m c b0 L xs G sa i) (hR : Rl Z σ μ) (hZ : Z + 1 < 2 ^ 30) (hc4 : cells + 4 ≤ 601024) (hs4 : slots + 24 ≤ 7293034) (hP : pG G (wW G a b q (σ, ρ, o) μ) H) (hD : va_D (fun q => s.heap.size ≤ q) (wW G a b q (σ, ρ, o) μ)) (hS : va_S (fun q => s.heap.size ≤ q) s.heap H locs) (hl : lv_has ls 7 (lwL a b b0 q i))
    (kk : ∀ (σ' ρ' μ' : cS) (o' : Nat → Int64) (H' : Heap) (locs' : List Loc) (ls' : Array Slot), Rl (Z + 1) σ' μ' → pG G (wW G a b q (σ', ρ', o') μ') H' → va_D (fun q => s.heap.size ≤ q) (wW G a b q (σ', ρ', o') μ') → va_S (fun q => s.heap.size ≤ q) s.heap H' locs' → lv_has ls' 7 (lwL a b b0 q i) → W p l e room_1 s m #[Value.ref b0] below meth c H' locs' (cells + 4) (slots + 24) Q (F0 m 1612 ls' [])) :
    W p l e room_1 s m #[Value.ref b0] below meth c H locs cells slots Q (F0 m 388 ls []) := by
  obtain ⟨S, hl9, hXs, hbl, hK, hX, hN, hi4, hL⟩ := C9
  obtain ⟨hx, hb, hml, hown, hts⟩ := id S
  have hA : ∀ q : Nat, s.heap.size ≤ q → (fun q : Nat => s.heap.size ≤ q) q := fun _ h => h
  have hl : lv_has ls 7 [(0, .ref b0), (1, .ref (a 0)), (2, .ref (b 0)), (3, .ref q), (4, .int (nI i))] := hl
  refine lv_aload_n hx hb dL_law_388 rfl (lv_at hl 1 rfl) ?_
  refine co_rV (As := []) (rest := []) S (c_X2_living l G a σ ρ) (cwV 0 hts gL_law_X2_living rfl rfl rfl (by decide +kernel) ⟨(Nat.le_of_ble_eq_true rfl), (Nat.le_of_ble_eq_true rfl)⟩) hK (pG_perm hP [0, 1, 2, 3, 4, 5, 6, 7, 8, 9, 10, 11, 12, 13, 14, 15, 16, 17, 18] rfl) (va_recv hK hP (ci := 1) (q0 := 0) rfl rfl) rfl hl.1 rfl (Nat.le_of_ble_eq_true rfl) dL_law_389 ⟨by show cells + 0 ≤ 601024; omega, by show slots + 0 ≤ 7293034; omega⟩ ?_
  refine lv_aload_n hx hb dL_law_392 rfl (lv_at hl 2 rfl) ?_
  refine co_mViS (wr := wL G a q (σ, ρ, o)) (w' := fun v : cS => wW G a b q (σ, ρ, o) v) (As := []) (rest := [.int (cnt (σ 0) 64)]) [19, 20, 21, 22, 23, 24, 25, 26, 27, 28, 29] [0, 1, 2, 3, 4, 5, 6, 7, 8, 9, 10, 11, 12, 13, 14, 15, 16, 17, 18, 30] [0, 1, 2, 3, 4, 5, 6, 7, 8, 9, 10, 11, 12, 13, 14, 15, 16, 17, 18, 20, 21, 22, 23, 24, 25, 26, 27, 28, 29, 30, 19] S (c_X3_living l G Z b σ μ hR) (cwV 0 hts gL_law_X3_living rfl rfl rfl (by decide +kernel) ⟨(Nat.le_of_ble_eq_true rfl), (Nat.le_of_ble_eq_true rfl)⟩) hK hP hD hS hA rfl rfl (by decide) (by decide) (by decide) (by decide) (fun _ => rfl) (va_recv hK hP (ci := 2) (q0 := 19) rfl rfl) rfl hl.1 rfl (Nat.le_of_ble_eq_true rfl) dL_law_393 ⟨by show cells + 0 ≤ 601024; omega, by show slots + 0 ≤ 7293034; omega⟩ (fun r v H locs hq hP hD hS => ?_)
  obtain ⟨e1, hRF⟩ := hq.2.1 rfl
  refine lv_icmp_eq (tgt := 1612) hx hb dL_law_396 (by decide) (fun c9 => ?_) (fun c9 => ?_)
  · exact W.widen (k := cells + 4) (n := slots + 24) (by omega) (by omega) (kk σ ρ v o H locs ls hRF.up hP hD hS hl)
  · exact absurd e1.symm c9

set_option maxHeartbeats 4000000 in
set_option maxRecDepth 100000 in
theorem lc_isLiving {p : Program} {l : Launch} {e : Env} {s : State} {m : MethodId} {below : List Frame} {meth : Method} {c : Code} {Q : State → Prop} {b0 L i Z : Nat} {xs : Nat → Int32} {G : cG} {sa : Nat → Nat} {a b : Nat → Nat} {q : Nat} {cells slots : Nat} {σ ρ μ : cS} {o : Nat → Int64} {H : Heap} {locs : List Loc} {ls : Array Slot}
    (C9 : lwI p l s m c b0 L xs G sa i) (hR : Rl Z σ μ) (hZ : Z + 1 < 2 ^ 30) (hc4 : cells + 4 ≤ 601024) (hs4 : slots + 24 ≤ 7293034) (hP : pG G (wW G a b q (σ, ρ, o) μ) H) (hD : va_D (fun q => s.heap.size ≤ q) (wW G a b q (σ, ρ, o) μ)) (hS : va_S (fun q => s.heap.size ≤ q) s.heap H locs) (hl : lv_has ls 7 (lwL a b b0 q i))
    (kk : ∀ (σ' ρ' μ' : cS) (o' : Nat → Int64) (H' : Heap) (locs' : List Loc) (ls' : Array Slot), Rl (Z + 1) σ' μ' → pG G (wW G a b q (σ', ρ', o') μ') H' → va_D (fun q => s.heap.size ≤ q) (wW G a b q (σ', ρ', o') μ') → va_S (fun q => s.heap.size ≤ q) s.heap H' locs' → lv_has ls' 7 (lwL a b b0 q i) → W p l e room_1 s m #[Value.ref b0] below meth c H' locs' (cells + 4) (slots + 24) Q (F0 m 1612 ls' [])) :
    W p l e room_1 s m #[Value.ref b0] below meth c H locs cells slots Q (F0 m 401 ls []) := by
  obtain ⟨S, hl9, hXs, hbl, hK, hX, hN, hi4, hL⟩ := C9
  obtain ⟨hx, hb, hml, hown, hts⟩ := id S
  have hA : ∀ q : Nat, s.heap.size ≤ q → (fun q : Nat => s.heap.size ≤ q) q := fun _ h => h
  have hl : lv_has ls 7 [(0, .ref b0), (1, .ref (a 0)), (2, .ref (b 0)), (3, .ref q), (4, .int (nI i))] := hl
  refine lv_aload_n hx hb dL_law_401 rfl (lv_at hl 1 rfl) ?_
  refine lv_aload_n hx hb dL_law_402 rfl (lv_at hl 0 rfl) ?_
  refine lv_iload hx hb dL_law_403 (lv_at hl 4 rfl) ?_
  refine lv_iconst (v := 1) hx hb dL_law_405 (by decide) ?_
  refine lv_iadd hx hb dL_law_406 ?_
  refine co_sld (i := i + 1) hx hb hXs hbl hS (nI_add i 1) (by omega) hL dL_law_407 ?_
  refine lv_aload_n hx hb dL_law_408 rfl (lv_at hl 3 rfl) ?_
  refine co_lSiS (wr := wM G b μ) (w' := fun u : lS => wW G a b q u μ) (As := [.ref (a 0), .int (xs (i + 1)), .ref q]) (rest := []) [0, 1, 2, 3, 4, 5, 6, 7, 8, 9, 10, 11, 12, 13, 14, 15, 16, 17, 18, 30] [19, 20, 21, 22, 23, 24, 25, 26, 27, 28, 29] [11, 12, 13, 14, 15, 16, 17, 18, 19, 20, 21, 22, 23, 24, 25, 26, 27, 28, 29, 0, 1, 2, 3, 4, 5, 6, 7, 8, 9, 10, 30] S (c_L_isLiving l hl9 G sa a q σ ρ o (xs (i + 1))) (vx_cwSW 3 hts gL_law_L_isLiving rfl rfl rfl (by decide +kernel) ⟨(Nat.le_of_ble_eq_true rfl), (Nat.le_of_ble_eq_true rfl)⟩) hK hP hD hS hA hX hN rfl rfl (by decide) (by decide) (by decide) (by decide) (fun _ => rfl) rfl hl.1 rfl (Nat.le_of_ble_eq_true rfl) dL_law_409 ⟨hc4, hs4⟩ (fun r u H locs hp hP hD hS => ?_)
  refine lv_istore (lv' := [(5, .int r), (0, .ref b0), (1, .ref (a 0)), (2, .ref (b 0)), (3, .ref q), (4, .int (nI i))]) hx hb dL_law_412 hl (by decide) rfl (fun ls hl => ?_)
  refine lv_aload_n hx hb dL_law_414 rfl (lv_at hl 3 rfl) ?_
  refine lv_aload_n hx hb dL_law_415 rfl (lv_at hl 1 rfl) ?_
  refine lv_iload hx hb dL_law_416 (lv_at hl 5 rfl) ?_
  refine lv_iconst (v := 1) hx hb dL_law_418 (by decide) ?_
  refine lv_iadd hx hb dL_law_419 ?_
  refine co_sld (i := i + 1) hx hb hXs hbl hS (nI_add i 1) (by omega) hL dL_law_420 ?_
  refine co_mViS (wr := wL G a q u) (w' := fun v : cS => wW G a b q u v) (As := [.int (xs (i + 1))]) (rest := []) [19, 20, 21, 22, 23, 24, 25, 26, 27, 28, 29] [0, 1, 2, 3, 4, 5, 6, 7, 8, 9, 10, 11, 12, 13, 14, 15, 16, 17, 18, 30] [0, 1, 2, 3, 4, 5, 6, 7, 8, 9, 10, 11, 12, 13, 14, 15, 16, 17, 18, 20, 21, 22, 23, 24, 25, 26, 27, 28, 29, 30, 19] S (c_X3_isLiving l G Z b σ μ hR (xs (i + 1))) (cwV 1 hts gL_law_X3_isLiving rfl rfl rfl (by decide +kernel) ⟨(Nat.le_of_ble_eq_true rfl), (Nat.le_of_ble_eq_true rfl)⟩) hK hP hD hS hA rfl rfl (by decide) (by decide) (by decide) (by decide) (fun _ => rfl) (va_recv hK hP (ci := 2) (q0 := 19) rfl rfl) rfl hl.1 rfl (Nat.le_of_ble_eq_true rfl) dL_law_421 ⟨hc4, hs4⟩ (fun r2 v H locs hq hP hD hS => ?_)
  refine lv_istore (lv' := [(6, .int r2), (5, .int r), (0, .ref b0), (1, .ref (a 0)), (2, .ref (b 0)), (3, .ref q), (4, .int (nI i))]) hx hb dL_law_424 hl (by decide) rfl (fun ls hl => ?_)
  obtain ⟨hq1, hq2, hq3⟩ := hq
  obtain ⟨Zx, σx, hRx⟩ : ∃ (Z9 : Nat) (σ9 : cS), Rl Z9 σ9 v := lc_any hq2 hq3
  refine lv_aload_n hx hb dL_law_426 rfl (lv_at hl 4 rfl) ?_
  refine co_rV (As := []) (rest := []) S (c_X3_thrown l G Zx b σx v hRx) (cwV 0 hts gL_law_X3_thrown rfl rfl rfl (by decide +kernel) ⟨(Nat.le_of_ble_eq_true rfl), (Nat.le_of_ble_eq_true rfl)⟩) hK (pG_perm hP [19, 20, 21, 22, 23, 24, 25, 26, 27, 28, 29] rfl) (va_recv hK hP (ci := 2) (q0 := 19) rfl rfl) rfl hl.1 rfl (Nat.le_of_ble_eq_true rfl) dL_law_427 ⟨hc4, hs4⟩ ?_
  refine lv_iload hx hb dL_law_430 (lv_at hl 1 rfl) ?_
  refine lv_icmp_eq (tgt := 437) hx hb dL_law_432 (by decide) (fun c8 => ?_) (fun c8 => ?_)
  · refine lv_iload hx hb dL_law_437 (lv_at hl 1 rfl) ?_
    refine lv_if_ne (tgt := 461) hx hb dL_law_439 (by decide) (fun c9 => ?_) (fun c9 => ?_)
    · rcases hp with ⟨h1, -⟩ | ⟨-, -, h3, h4⟩
      · exact absurd h1 c9
      · refine lv_goto (tgt := 1612) hx hb dL_law_461 (by decide) ?_
        exact kk u.1 u.2.1 v u.2.2 H locs ls (by rw [h4]; exact (hq3 h3).up) hP hD hS (lv_sub hl [2, 3, 4, 5, 6] rfl)
    · rcases hp with ⟨-, h2, h3, h4⟩ | ⟨h1, -⟩
      · obtain ⟨e1, hRF⟩ := hq2 h2
        refine lv_aload_n hx hb dL_law_442 rfl (lv_at hl 5 rfl) ?_
        refine lv_iconst (v := 0) hx hb dL_law_443 (by decide) ?_
        refine va_lald hx hb hK hP 30 2 rfl rfl vin0 dL_law_444 ?_
        refine lv_iload hx hb dL_law_445 (lv_at hl 0 rfl) ?_
        subst e1
        refine co_ifeq (tgt := 454) S dL_law_447 (by decide) (fun c7 => ?_) (fun c7 => ?_)
        · refine lv_lconst (v := 0) hx hb dL_law_454 (by decide) ?_
          refine co_lcmp0 hx hb ((congrArg u.2.2 lc_z0).trans (h3.trans (by rw [c7]; rfl))) dL_law_455 ?_
          refine lv_if_eq (tgt := 461) hx hb dL_law_456 (by decide) (fun _ => ?_) (fun c7 => absurd rfl c7)
          refine lv_goto (tgt := 1612) hx hb dL_law_461 (by decide) ?_
          exact kk u.1 u.2.1 v u.2.2 H locs ls (by rw [h4]; exact hRF.up) hP hD hS (lv_sub hl [2, 3, 4, 5, 6] rfl)
        · refine lv_lconst (v := 1) hx hb dL_law_450 (by decide) ?_
          refine lv_goto (tgt := 455) hx hb dL_law_451 (by decide) ?_
          refine co_lcmp0 hx hb ((congrArg u.2.2 lc_z0).trans (h3.trans (by rw [c7]; rfl))) dL_law_455 ?_
          refine lv_if_eq (tgt := 461) hx hb dL_law_456 (by decide) (fun _ => ?_) (fun c7 => absurd rfl c7)
          refine lv_goto (tgt := 1612) hx hb dL_law_461 (by decide) ?_
          exact kk u.1 u.2.1 v u.2.2 H locs ls (by rw [h4]; exact hRF.up) hP hD hS (lv_sub hl [2, 3, 4, 5, 6] rfl)
      · exact absurd c9 h1
  · exact absurd (hq1.trans (pL_thr hp)) c8

set_option maxHeartbeats 4000000 in
set_option maxRecDepth 100000 in
theorem lc_successor {p : Program} {l : Launch} {e : Env} {s : State} {m : MethodId} {below : List Frame} {meth : Method} {c : Code} {Q : State → Prop} {b0 L i Z : Nat} {xs : Nat → Int32} {G : cG} {sa : Nat → Nat} {a b : Nat → Nat} {q : Nat} {cells slots : Nat} {σ ρ μ : cS} {o : Nat → Int64} {H : Heap} {locs : List Loc} {ls : Array Slot}
    (C9 : lwI p l s m c b0 L xs G sa i) (hR : Rl Z σ μ) (hZ : Z + 1 < 2 ^ 30) (hc4 : cells + 4 ≤ 601024) (hs4 : slots + 24 ≤ 7293034) (hP : pG G (wW G a b q (σ, ρ, o) μ) H) (hD : va_D (fun q => s.heap.size ≤ q) (wW G a b q (σ, ρ, o) μ)) (hS : va_S (fun q => s.heap.size ≤ q) s.heap H locs) (hl : lv_has ls 7 (lwL a b b0 q i))
    (kk : ∀ (σ' ρ' μ' : cS) (o' : Nat → Int64) (H' : Heap) (locs' : List Loc) (ls' : Array Slot), Rl (Z + 1) σ' μ' → pG G (wW G a b q (σ', ρ', o') μ') H' → va_D (fun q => s.heap.size ≤ q) (wW G a b q (σ', ρ', o') μ') → va_S (fun q => s.heap.size ≤ q) s.heap H' locs' → lv_has ls' 7 (lwL a b b0 q i) → W p l e room_1 s m #[Value.ref b0] below meth c H' locs' (cells + 4) (slots + 24) Q (F0 m 1612 ls' [])) :
    W p l e room_1 s m #[Value.ref b0] below meth c H locs cells slots Q (F0 m 464 ls []) := by
  obtain ⟨S, hl9, hXs, hbl, hK, hX, hN, hi4, hL⟩ := C9
  obtain ⟨hx, hb, hml, hown, hts⟩ := id S
  have hA : ∀ q : Nat, s.heap.size ≤ q → (fun q : Nat => s.heap.size ≤ q) q := fun _ h => h
  have hl : lv_has ls 7 [(0, .ref b0), (1, .ref (a 0)), (2, .ref (b 0)), (3, .ref q), (4, .int (nI i))] := hl
  refine lv_aload_n hx hb dL_law_464 rfl (lv_at hl 1 rfl) ?_
  refine lv_aload_n hx hb dL_law_465 rfl (lv_at hl 0 rfl) ?_
  refine lv_iload hx hb dL_law_466 (lv_at hl 4 rfl) ?_
  refine lv_iconst (v := 1) hx hb dL_law_468 (by decide) ?_
  refine lv_iadd hx hb dL_law_469 ?_
  refine co_sld (i := i + 1) hx hb hXs hbl hS (nI_add i 1) (by omega) hL dL_law_470 ?_
  refine lv_aload_n hx hb dL_law_471 rfl (lv_at hl 0 rfl) ?_
  refine lv_iload hx hb dL_law_472 (lv_at hl 4 rfl) ?_
  refine lv_iconst (v := 2) hx hb dL_law_474 (by decide) ?_
  refine lv_iadd hx hb dL_law_475 ?_
  refine co_sld (i := i + 2) hx hb hXs hbl hS (nI_add i 2) (by omega) hL dL_law_476 ?_
  refine lv_aload_n hx hb dL_law_477 rfl (lv_at hl 3 rfl) ?_
  refine co_lSiS (wr := wM G b μ) (w' := fun u : lS => wW G a b q u μ) (As := [.ref (a 0), .int (xs (i + 1)), .int (xs (i + 2)), .ref q]) (rest := []) [0, 1, 2, 3, 4, 5, 6, 7, 8, 9, 10, 11, 12, 13, 14, 15, 16, 17, 18, 30] [19, 20, 21, 22, 23, 24, 25, 26, 27, 28, 29] [11, 12, 13, 14, 15, 16, 17, 18, 19, 20, 21, 22, 23, 24, 25, 26, 27, 28, 29, 0, 1, 2, 3, 4, 5, 6, 7, 8, 9, 10, 30] S (c_L_successor l hl9 G sa a q σ ρ o (xs (i + 1)) (xs (i + 2))) (vx_cwSW 4 hts gL_law_L_successor rfl rfl rfl (by decide +kernel) ⟨(Nat.le_of_ble_eq_true rfl), (Nat.le_of_ble_eq_true rfl)⟩) hK hP hD hS hA hX hN rfl rfl (by decide) (by decide) (by decide) (by decide) (fun _ => rfl) rfl hl.1 rfl (Nat.le_of_ble_eq_true rfl) dL_law_478 ⟨hc4, hs4⟩ (fun r u H locs hp hP hD hS => ?_)
  refine lv_istore (lv' := [(5, .int r), (0, .ref b0), (1, .ref (a 0)), (2, .ref (b 0)), (3, .ref q), (4, .int (nI i))]) hx hb dL_law_481 hl (by decide) rfl (fun ls hl => ?_)
  refine lv_aload_n hx hb dL_law_483 rfl (lv_at hl 3 rfl) ?_
  refine lv_aload_n hx hb dL_law_484 rfl (lv_at hl 1 rfl) ?_
  refine lv_iload hx hb dL_law_485 (lv_at hl 5 rfl) ?_
  refine lv_iconst (v := 1) hx hb dL_law_487 (by decide) ?_
  refine lv_iadd hx hb dL_law_488 ?_
  refine co_sld (i := i + 1) hx hb hXs hbl hS (nI_add i 1) (by omega) hL dL_law_489 ?_
  refine lv_aload_n hx hb dL_law_490 rfl (lv_at hl 1 rfl) ?_
  refine lv_iload hx hb dL_law_491 (lv_at hl 5 rfl) ?_
  refine lv_iconst (v := 2) hx hb dL_law_493 (by decide) ?_
  refine lv_iadd hx hb dL_law_494 ?_
  refine co_sld (i := i + 2) hx hb hXs hbl hS (nI_add i 2) (by omega) hL dL_law_495 ?_
  refine co_mViS (wr := wL G a q u) (w' := fun v : cS => wW G a b q u v) (As := [.int (xs (i + 1)), .int (xs (i + 2))]) (rest := []) [19, 20, 21, 22, 23, 24, 25, 26, 27, 28, 29] [0, 1, 2, 3, 4, 5, 6, 7, 8, 9, 10, 11, 12, 13, 14, 15, 16, 17, 18, 30] [0, 1, 2, 3, 4, 5, 6, 7, 8, 9, 10, 11, 12, 13, 14, 15, 16, 17, 18, 20, 21, 22, 23, 24, 25, 26, 27, 28, 29, 30, 19] S (c_X3_successor l G Z b σ μ hR (xs (i + 1)) (xs (i + 2))) (cwV 2 hts gL_law_X3_successor rfl rfl rfl (by decide +kernel) ⟨(Nat.le_of_ble_eq_true rfl), (Nat.le_of_ble_eq_true rfl)⟩) hK hP hD hS hA rfl rfl (by decide) (by decide) (by decide) (by decide) (fun _ => rfl) (va_recv hK hP (ci := 2) (q0 := 19) rfl rfl) rfl hl.1 rfl (Nat.le_of_ble_eq_true rfl) dL_law_496 ⟨hc4, hs4⟩ (fun r2 v H locs hq hP hD hS => ?_)
  refine lv_istore (lv' := [(6, .int r2), (5, .int r), (0, .ref b0), (1, .ref (a 0)), (2, .ref (b 0)), (3, .ref q), (4, .int (nI i))]) hx hb dL_law_499 hl (by decide) rfl (fun ls hl => ?_)
  obtain ⟨hq1, hq2, hq3⟩ := hq
  obtain ⟨Zx, σx, hRx⟩ : ∃ (Z9 : Nat) (σ9 : cS), Rl Z9 σ9 v := lc_any hq2 hq3
  refine lv_aload_n hx hb dL_law_501 rfl (lv_at hl 4 rfl) ?_
  refine co_rV (As := []) (rest := []) S (c_X3_thrown l G Zx b σx v hRx) (cwV 0 hts gL_law_X3_thrown rfl rfl rfl (by decide +kernel) ⟨(Nat.le_of_ble_eq_true rfl), (Nat.le_of_ble_eq_true rfl)⟩) hK (pG_perm hP [19, 20, 21, 22, 23, 24, 25, 26, 27, 28, 29] rfl) (va_recv hK hP (ci := 2) (q0 := 19) rfl rfl) rfl hl.1 rfl (Nat.le_of_ble_eq_true rfl) dL_law_502 ⟨hc4, hs4⟩ ?_
  refine lv_iload hx hb dL_law_505 (lv_at hl 1 rfl) ?_
  refine lv_icmp_eq (tgt := 512) hx hb dL_law_507 (by decide) (fun c8 => ?_) (fun c8 => ?_)
  · refine lv_iload hx hb dL_law_512 (lv_at hl 1 rfl) ?_
    refine lv_if_ne (tgt := 529) hx hb dL_law_514 (by decide) (fun c9 => ?_) (fun c9 => ?_)
    · rcases hp with ⟨h1, -⟩ | ⟨-, -, h3, h4⟩
      · exact absurd h1 c9
      · refine lv_goto (tgt := 1612) hx hb dL_law_529 (by decide) ?_
        exact kk u.1 u.2.1 v u.2.2 H locs ls (by rw [h4]; exact (hq3 h3).up) hP hD hS (lv_sub hl [2, 3, 4, 5, 6] rfl)
    · rcases hp with ⟨-, h2, h3, h4⟩ | ⟨h1, -⟩
      · obtain ⟨e1, hRF⟩ := hq2 h2
        refine lv_aload_n hx hb dL_law_517 rfl (lv_at hl 5 rfl) ?_
        refine lv_iconst (v := 0) hx hb dL_law_518 (by decide) ?_
        refine va_lald hx hb hK hP 30 2 rfl rfl vin0 dL_law_519 ?_
        refine lv_iload hx hb dL_law_520 (lv_at hl 0 rfl) ?_
        refine lv_i2l (v := r2.toInt64) hx hb dL_law_522 rfl ?_
        refine co_lcmp0 hx hb ((congrArg u.2.2 lc_z0).trans (h3.trans (by rw [e1]))) dL_law_523 ?_
        refine lv_if_eq (tgt := 529) hx hb dL_law_524 (by decide) (fun _ => ?_) (fun c7 => absurd rfl c7)
        refine lv_goto (tgt := 1612) hx hb dL_law_529 (by decide) ?_
        exact kk u.1 u.2.1 v u.2.2 H locs ls (by rw [h4]; exact hRF.up) hP hD hS (lv_sub hl [2, 3, 4, 5, 6] rfl)
      · exact absurd c9 h1
  · exact absurd (hq1.trans (pL_thr hp)) c8

set_option maxHeartbeats 4000000 in
set_option maxRecDepth 100000 in
theorem lc_liveSuccessor {p : Program} {l : Launch} {e : Env} {s : State} {m : MethodId} {below : List Frame} {meth : Method} {c : Code} {Q : State → Prop} {b0 L i Z : Nat} {xs : Nat → Int32} {G : cG} {sa : Nat → Nat} {a b : Nat → Nat} {q : Nat} {cells slots : Nat} {σ ρ μ : cS} {o : Nat → Int64} {H : Heap} {locs : List Loc} {ls : Array Slot}
    (C9 : lwI p l s m c b0 L xs G sa i) (hR : Rl Z σ μ) (hZ : Z + 1 < 2 ^ 30) (hc4 : cells + 4 ≤ 601024) (hs4 : slots + 24 ≤ 7293034) (hP : pG G (wW G a b q (σ, ρ, o) μ) H) (hD : va_D (fun q => s.heap.size ≤ q) (wW G a b q (σ, ρ, o) μ)) (hS : va_S (fun q => s.heap.size ≤ q) s.heap H locs) (hl : lv_has ls 7 (lwL a b b0 q i))
    (kk : ∀ (σ' ρ' μ' : cS) (o' : Nat → Int64) (H' : Heap) (locs' : List Loc) (ls' : Array Slot), Rl (Z + 1) σ' μ' → pG G (wW G a b q (σ', ρ', o') μ') H' → va_D (fun q => s.heap.size ≤ q) (wW G a b q (σ', ρ', o') μ') → va_S (fun q => s.heap.size ≤ q) s.heap H' locs' → lv_has ls' 7 (lwL a b b0 q i) → W p l e room_1 s m #[Value.ref b0] below meth c H' locs' (cells + 4) (slots + 24) Q (F0 m 1612 ls' [])) :
    W p l e room_1 s m #[Value.ref b0] below meth c H locs cells slots Q (F0 m 532 ls []) := by
  obtain ⟨S, hl9, hXs, hbl, hK, hX, hN, hi4, hL⟩ := C9
  obtain ⟨hx, hb, hml, hown, hts⟩ := id S
  have hA : ∀ q : Nat, s.heap.size ≤ q → (fun q : Nat => s.heap.size ≤ q) q := fun _ h => h
  have hl : lv_has ls 7 [(0, .ref b0), (1, .ref (a 0)), (2, .ref (b 0)), (3, .ref q), (4, .int (nI i))] := hl
  refine lv_aload_n hx hb dL_law_532 rfl (lv_at hl 1 rfl) ?_
  refine lv_aload_n hx hb dL_law_533 rfl (lv_at hl 0 rfl) ?_
  refine lv_iload hx hb dL_law_534 (lv_at hl 4 rfl) ?_
  refine lv_iconst (v := 1) hx hb dL_law_536 (by decide) ?_
  refine lv_iadd hx hb dL_law_537 ?_
  refine co_sld (i := i + 1) hx hb hXs hbl hS (nI_add i 1) (by omega) hL dL_law_538 ?_
  refine lv_aload_n hx hb dL_law_539 rfl (lv_at hl 3 rfl) ?_
  refine co_lSiS (wr := wM G b μ) (w' := fun u : lS => wW G a b q u μ) (As := [.ref (a 0), .int (xs (i + 1)), .ref q]) (rest := []) [0, 1, 2, 3, 4, 5, 6, 7, 8, 9, 10, 11, 12, 13, 14, 15, 16, 17, 18, 30] [19, 20, 21, 22, 23, 24, 25, 26, 27, 28, 29] [11, 12, 13, 14, 15, 16, 17, 18, 19, 20, 21, 22, 23, 24, 25, 26, 27, 28, 29, 0, 1, 2, 3, 4, 5, 6, 7, 8, 9, 10, 30] S (c_L_liveSuccessor l hl9 G sa a q σ ρ o (xs (i + 1))) (vx_cwSW 3 hts gL_law_L_liveSuccessor rfl rfl rfl (by decide +kernel) ⟨(Nat.le_of_ble_eq_true rfl), (Nat.le_of_ble_eq_true rfl)⟩) hK hP hD hS hA hX hN rfl rfl (by decide) (by decide) (by decide) (by decide) (fun _ => rfl) rfl hl.1 rfl (Nat.le_of_ble_eq_true rfl) dL_law_540 ⟨hc4, hs4⟩ (fun r u H locs hp hP hD hS => ?_)
  refine lv_istore (lv' := [(5, .int r), (0, .ref b0), (1, .ref (a 0)), (2, .ref (b 0)), (3, .ref q), (4, .int (nI i))]) hx hb dL_law_543 hl (by decide) rfl (fun ls hl => ?_)
  refine lv_aload_n hx hb dL_law_545 rfl (lv_at hl 3 rfl) ?_
  refine lv_aload_n hx hb dL_law_546 rfl (lv_at hl 1 rfl) ?_
  refine lv_iload hx hb dL_law_547 (lv_at hl 5 rfl) ?_
  refine lv_iconst (v := 1) hx hb dL_law_549 (by decide) ?_
  refine lv_iadd hx hb dL_law_550 ?_
  refine co_sld (i := i + 1) hx hb hXs hbl hS (nI_add i 1) (by omega) hL dL_law_551 ?_
  refine co_mViS (wr := wL G a q u) (w' := fun v : cS => wW G a b q u v) (As := [.int (xs (i + 1))]) (rest := []) [19, 20, 21, 22, 23, 24, 25, 26, 27, 28, 29] [0, 1, 2, 3, 4, 5, 6, 7, 8, 9, 10, 11, 12, 13, 14, 15, 16, 17, 18, 30] [0, 1, 2, 3, 4, 5, 6, 7, 8, 9, 10, 11, 12, 13, 14, 15, 16, 17, 18, 20, 21, 22, 23, 24, 25, 26, 27, 28, 29, 30, 19] S (c_X3_liveSuccessor l G Z b σ μ hR (xs (i + 1))) (cwV 1 hts gL_law_X3_liveSuccessor rfl rfl rfl (by decide +kernel) ⟨(Nat.le_of_ble_eq_true rfl), (Nat.le_of_ble_eq_true rfl)⟩) hK hP hD hS hA rfl rfl (by decide) (by decide) (by decide) (by decide) (fun _ => rfl) (va_recv hK hP (ci := 2) (q0 := 19) rfl rfl) rfl hl.1 rfl (Nat.le_of_ble_eq_true rfl) dL_law_552 ⟨hc4, hs4⟩ (fun r2 v H locs hq hP hD hS => ?_)
  refine lv_istore (lv' := [(6, .int r2), (5, .int r), (0, .ref b0), (1, .ref (a 0)), (2, .ref (b 0)), (3, .ref q), (4, .int (nI i))]) hx hb dL_law_555 hl (by decide) rfl (fun ls hl => ?_)
  obtain ⟨hq1, hq2, hq3⟩ := hq
  obtain ⟨Zx, σx, hRx⟩ : ∃ (Z9 : Nat) (σ9 : cS), Rl Z9 σ9 v := lc_any hq2 hq3
  refine lv_aload_n hx hb dL_law_557 rfl (lv_at hl 4 rfl) ?_
  refine co_rV (As := []) (rest := []) S (c_X3_thrown l G Zx b σx v hRx) (cwV 0 hts gL_law_X3_thrown rfl rfl rfl (by decide +kernel) ⟨(Nat.le_of_ble_eq_true rfl), (Nat.le_of_ble_eq_true rfl)⟩) hK (pG_perm hP [19, 20, 21, 22, 23, 24, 25, 26, 27, 28, 29] rfl) (va_recv hK hP (ci := 2) (q0 := 19) rfl rfl) rfl hl.1 rfl (Nat.le_of_ble_eq_true rfl) dL_law_558 ⟨hc4, hs4⟩ ?_
  refine lv_iload hx hb dL_law_561 (lv_at hl 1 rfl) ?_
  refine lv_icmp_eq (tgt := 568) hx hb dL_law_563 (by decide) (fun c8 => ?_) (fun c8 => ?_)
  · refine lv_iload hx hb dL_law_568 (lv_at hl 1 rfl) ?_
    refine lv_if_ne (tgt := 585) hx hb dL_law_570 (by decide) (fun c9 => ?_) (fun c9 => ?_)
    · rcases hp with ⟨h1, -⟩ | ⟨-, -, h3, h4⟩
      · exact absurd h1 c9
      · refine lv_goto (tgt := 1612) hx hb dL_law_585 (by decide) ?_
        exact kk u.1 u.2.1 v u.2.2 H locs ls (by rw [h4]; exact (hq3 h3).up) hP hD hS (lv_sub hl [2, 3, 4, 5, 6] rfl)
    · rcases hp with ⟨-, h2, h3, h4⟩ | ⟨h1, -⟩
      · obtain ⟨e1, hRF⟩ := hq2 h2
        refine lv_aload_n hx hb dL_law_573 rfl (lv_at hl 5 rfl) ?_
        refine lv_iconst (v := 0) hx hb dL_law_574 (by decide) ?_
        refine va_lald hx hb hK hP 30 2 rfl rfl vin0 dL_law_575 ?_
        refine lv_iload hx hb dL_law_576 (lv_at hl 0 rfl) ?_
        refine lv_i2l (v := r2.toInt64) hx hb dL_law_578 rfl ?_
        refine co_lcmp0 hx hb ((congrArg u.2.2 lc_z0).trans (h3.trans (by rw [e1]))) dL_law_579 ?_
        refine lv_if_eq (tgt := 585) hx hb dL_law_580 (by decide) (fun _ => ?_) (fun c7 => absurd rfl c7)
        refine lv_goto (tgt := 1612) hx hb dL_law_585 (by decide) ?_
        exact kk u.1 u.2.1 v u.2.2 H locs ls (by rw [h4]; exact hRF.up) hP hD hS (lv_sub hl [2, 3, 4, 5, 6] rfl)
      · exact absurd c9 h1
  · exact absurd (hq1.trans (pL_thr hp)) c8

set_option maxHeartbeats 4000000 in
set_option maxRecDepth 100000 in
theorem lc_predecessor {p : Program} {l : Launch} {e : Env} {s : State} {m : MethodId} {below : List Frame} {meth : Method} {c : Code} {Q : State → Prop} {b0 L i Z : Nat} {xs : Nat → Int32} {G : cG} {sa : Nat → Nat} {a b : Nat → Nat} {q : Nat} {cells slots : Nat} {σ ρ μ : cS} {o : Nat → Int64} {H : Heap} {locs : List Loc} {ls : Array Slot}
    (C9 : lwI p l s m c b0 L xs G sa i) (hR : Rl Z σ μ) (hZ : Z + 1 < 2 ^ 30) (hc4 : cells + 4 ≤ 601024) (hs4 : slots + 24 ≤ 7293034) (hP : pG G (wW G a b q (σ, ρ, o) μ) H) (hD : va_D (fun q => s.heap.size ≤ q) (wW G a b q (σ, ρ, o) μ)) (hS : va_S (fun q => s.heap.size ≤ q) s.heap H locs) (hl : lv_has ls 7 (lwL a b b0 q i))
    (kk : ∀ (σ' ρ' μ' : cS) (o' : Nat → Int64) (H' : Heap) (locs' : List Loc) (ls' : Array Slot), Rl (Z + 1) σ' μ' → pG G (wW G a b q (σ', ρ', o') μ') H' → va_D (fun q => s.heap.size ≤ q) (wW G a b q (σ', ρ', o') μ') → va_S (fun q => s.heap.size ≤ q) s.heap H' locs' → lv_has ls' 7 (lwL a b b0 q i) → W p l e room_1 s m #[Value.ref b0] below meth c H' locs' (cells + 4) (slots + 24) Q (F0 m 1612 ls' [])) :
    W p l e room_1 s m #[Value.ref b0] below meth c H locs cells slots Q (F0 m 588 ls []) := by
  obtain ⟨S, hl9, hXs, hbl, hK, hX, hN, hi4, hL⟩ := C9
  obtain ⟨hx, hb, hml, hown, hts⟩ := id S
  have hA : ∀ q : Nat, s.heap.size ≤ q → (fun q : Nat => s.heap.size ≤ q) q := fun _ h => h
  have hl : lv_has ls 7 [(0, .ref b0), (1, .ref (a 0)), (2, .ref (b 0)), (3, .ref q), (4, .int (nI i))] := hl
  refine lv_aload_n hx hb dL_law_588 rfl (lv_at hl 1 rfl) ?_
  refine lv_aload_n hx hb dL_law_589 rfl (lv_at hl 0 rfl) ?_
  refine lv_iload hx hb dL_law_590 (lv_at hl 4 rfl) ?_
  refine lv_iconst (v := 1) hx hb dL_law_592 (by decide) ?_
  refine lv_iadd hx hb dL_law_593 ?_
  refine co_sld (i := i + 1) hx hb hXs hbl hS (nI_add i 1) (by omega) hL dL_law_594 ?_
  refine lv_aload_n hx hb dL_law_595 rfl (lv_at hl 3 rfl) ?_
  refine co_lSiS (wr := wM G b μ) (w' := fun u : lS => wW G a b q u μ) (As := [.ref (a 0), .int (xs (i + 1)), .ref q]) (rest := []) [0, 1, 2, 3, 4, 5, 6, 7, 8, 9, 10, 11, 12, 13, 14, 15, 16, 17, 18, 30] [19, 20, 21, 22, 23, 24, 25, 26, 27, 28, 29] [11, 12, 13, 14, 15, 16, 17, 18, 19, 20, 21, 22, 23, 24, 25, 26, 27, 28, 29, 0, 1, 2, 3, 4, 5, 6, 7, 8, 9, 10, 30] S (c_L_predecessor l hl9 G sa a q σ ρ o (xs (i + 1))) (vx_cwSW 3 hts gL_law_L_predecessor rfl rfl rfl (by decide +kernel) ⟨(Nat.le_of_ble_eq_true rfl), (Nat.le_of_ble_eq_true rfl)⟩) hK hP hD hS hA hX hN rfl rfl (by decide) (by decide) (by decide) (by decide) (fun _ => rfl) rfl hl.1 rfl (Nat.le_of_ble_eq_true rfl) dL_law_596 ⟨hc4, hs4⟩ (fun r u H locs hp hP hD hS => ?_)
  refine lv_istore (lv' := [(5, .int r), (0, .ref b0), (1, .ref (a 0)), (2, .ref (b 0)), (3, .ref q), (4, .int (nI i))]) hx hb dL_law_599 hl (by decide) rfl (fun ls hl => ?_)
  refine lv_aload_n hx hb dL_law_601 rfl (lv_at hl 3 rfl) ?_
  refine lv_aload_n hx hb dL_law_602 rfl (lv_at hl 1 rfl) ?_
  refine lv_iload hx hb dL_law_603 (lv_at hl 5 rfl) ?_
  refine lv_iconst (v := 1) hx hb dL_law_605 (by decide) ?_
  refine lv_iadd hx hb dL_law_606 ?_
  refine co_sld (i := i + 1) hx hb hXs hbl hS (nI_add i 1) (by omega) hL dL_law_607 ?_
  refine co_mViS (wr := wL G a q u) (w' := fun v : cS => wW G a b q u v) (As := [.int (xs (i + 1))]) (rest := []) [19, 20, 21, 22, 23, 24, 25, 26, 27, 28, 29] [0, 1, 2, 3, 4, 5, 6, 7, 8, 9, 10, 11, 12, 13, 14, 15, 16, 17, 18, 30] [0, 1, 2, 3, 4, 5, 6, 7, 8, 9, 10, 11, 12, 13, 14, 15, 16, 17, 18, 20, 21, 22, 23, 24, 25, 26, 27, 28, 29, 30, 19] S (c_X3_predecessor l G Z b σ μ hR (xs (i + 1))) (cwV 1 hts gL_law_X3_predecessor rfl rfl rfl (by decide +kernel) ⟨(Nat.le_of_ble_eq_true rfl), (Nat.le_of_ble_eq_true rfl)⟩) hK hP hD hS hA rfl rfl (by decide) (by decide) (by decide) (by decide) (fun _ => rfl) (va_recv hK hP (ci := 2) (q0 := 19) rfl rfl) rfl hl.1 rfl (Nat.le_of_ble_eq_true rfl) dL_law_608 ⟨hc4, hs4⟩ (fun r2 v H locs hq hP hD hS => ?_)
  refine lv_istore (lv' := [(6, .int r2), (5, .int r), (0, .ref b0), (1, .ref (a 0)), (2, .ref (b 0)), (3, .ref q), (4, .int (nI i))]) hx hb dL_law_611 hl (by decide) rfl (fun ls hl => ?_)
  obtain ⟨hq1, hq2, hq3⟩ := hq
  obtain ⟨Zx, σx, hRx⟩ : ∃ (Z9 : Nat) (σ9 : cS), Rl Z9 σ9 v := lc_any hq2 hq3
  refine lv_aload_n hx hb dL_law_613 rfl (lv_at hl 4 rfl) ?_
  refine co_rV (As := []) (rest := []) S (c_X3_thrown l G Zx b σx v hRx) (cwV 0 hts gL_law_X3_thrown rfl rfl rfl (by decide +kernel) ⟨(Nat.le_of_ble_eq_true rfl), (Nat.le_of_ble_eq_true rfl)⟩) hK (pG_perm hP [19, 20, 21, 22, 23, 24, 25, 26, 27, 28, 29] rfl) (va_recv hK hP (ci := 2) (q0 := 19) rfl rfl) rfl hl.1 rfl (Nat.le_of_ble_eq_true rfl) dL_law_614 ⟨hc4, hs4⟩ ?_
  refine lv_iload hx hb dL_law_617 (lv_at hl 1 rfl) ?_
  refine lv_icmp_eq (tgt := 624) hx hb dL_law_619 (by decide) (fun c8 => ?_) (fun c8 => ?_)
  · refine lv_iload hx hb dL_law_624 (lv_at hl 1 rfl) ?_
    refine lv_if_ne (tgt := 641) hx hb dL_law_626 (by decide) (fun c9 => ?_) (fun c9 => ?_)
    · rcases hp with ⟨h1, -⟩ | ⟨-, -, h3, h4⟩
      · exact absurd h1 c9
      · refine lv_goto (tgt := 1612) hx hb dL_law_641 (by decide) ?_
        exact kk u.1 u.2.1 v u.2.2 H locs ls (by rw [h4]; exact (hq3 h3).up) hP hD hS (lv_sub hl [2, 3, 4, 5, 6] rfl)
    · rcases hp with ⟨-, h2, h3, h4⟩ | ⟨h1, -⟩
      · obtain ⟨e1, hRF⟩ := hq2 h2
        refine lv_aload_n hx hb dL_law_629 rfl (lv_at hl 5 rfl) ?_
        refine lv_iconst (v := 0) hx hb dL_law_630 (by decide) ?_
        refine va_lald hx hb hK hP 30 2 rfl rfl vin0 dL_law_631 ?_
        refine lv_iload hx hb dL_law_632 (lv_at hl 0 rfl) ?_
        refine lv_i2l (v := r2.toInt64) hx hb dL_law_634 rfl ?_
        refine co_lcmp0 hx hb ((congrArg u.2.2 lc_z0).trans (h3.trans (by rw [e1]))) dL_law_635 ?_
        refine lv_if_eq (tgt := 641) hx hb dL_law_636 (by decide) (fun _ => ?_) (fun c7 => absurd rfl c7)
        refine lv_goto (tgt := 1612) hx hb dL_law_641 (by decide) ?_
        exact kk u.1 u.2.1 v u.2.2 H locs ls (by rw [h4]; exact hRF.up) hP hD hS (lv_sub hl [2, 3, 4, 5, 6] rfl)
      · exact absurd c9 h1
  · exact absurd (hq1.trans (pL_thr hp)) c8
