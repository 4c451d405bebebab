set_option maxHeartbeats 4000000 in
set_option maxRecDepth 100000 in
theorem lc_hopAt {p : Program} {l : Launch} {e : Env} {s : State} {m : MethodId} {below : List Frame} {meth : Method} {c : Code} {Q : State → Prop} {b0 L i Z : Nat} {xs : Nat → Int32} {G : cG} {sa : Nat → Nat} {a b : Nat → Nat} {q : Nat} {cells slots : Nat} {σ ρ μ : cS} {o : Nat → Int64} {H : Heap} {locs : List Loc} {ls : Array Slot}
    (C9 : lwI p l s m c b0 L xs G sa i) (hR : Rl Z σ μ) (hZ : Z + 1 < 2 ^ 30) (hc4 : cells + 4 ≤ 601024) (hs4 : slots + 24 ≤ 7293034) (hP : pG G (wW G a b q (σ, ρ, o) μ) H) (hD : va_D (fun q => s.heap.size ≤ q) (wW G a b q (σ, ρ, o) μ)) (hS : va_S (fun q => s.heap.size ≤ q) s.heap H locs) (hl : lv_has ls 7 (lwL a b b0 q i))
    (kk : ∀ (σ' ρ' μ' : cS) (o' : Nat → Int64) (H' : Heap) (locs' : List Loc) (ls' : Array Slot), Rl (Z + 1) σ' μ' → pG G (wW G a b q (σ', ρ', o') μ') H' → va_D (fun q => s.heap.size ≤ q) (wW G a b q (σ', ρ', o') μ') → va_S (fun q => s.heap.size ≤ q) s.heap H' locs' → lv_has ls' 7 (lwL a b b0 q i) → W p l e room_1 s m #[Value.ref b0] below meth c H' locs' (cells + 4) (slots + 24) Q (F0 m 1612 ls' [])) :
    W p l e room_1 s m #[Value.ref b0] below meth c H locs cells slots Q (F0 m 1135 ls []) := by
  obtain ⟨S, hl9, hXs, hbl, hK, hX, hN, hi4, hL⟩ := C9
  obtain ⟨hx, hb, hml, hown, hts⟩ := id S
  have hA : ∀ q : Nat, s.heap.size ≤ q → (fun q : Nat => s.heap.size ≤ q) q := fun _ h => h
  have hl : lv_has ls 7 [(0, .ref b0), (1, .ref (a 0)), (2, .ref (b 0)), (3, .ref q), (4, .int (nI i))] := hl
  refine lv_aload_n hx hb dL_law_1135 rfl (lv_at hl 1 rfl) ?_
  refine lv_aload_n hx hb dL_law_1136 rfl (lv_at hl 0 rfl) ?_
  refine lv_iload hx hb dL_law_1137 (lv_at hl 4 rfl) ?_
  refine lv_iconst (v := 1) hx hb dL_law_1139 (by decide) ?_
  refine lv_iadd hx hb dL_law_1140 ?_
  refine co_sld (i := i + 1) hx hb hXs hbl hS (nI_add i 1) (by omega) hL dL_law_1141 ?_
  refine lv_aload_n hx hb dL_law_1142 rfl (lv_at hl 0 rfl) ?_
  refine lv_iload hx hb dL_law_1143 (lv_at hl 4 rfl) ?_
  refine lv_iconst (v := 2) hx hb dL_law_1145 (by decide) ?_
  refine lv_iadd hx hb dL_law_1146 ?_
  refine co_sld (i := i + 2) hx hb hXs hbl hS (nI_add i 2) (by omega) hL dL_law_1147 ?_
  refine lv_aload_n hx hb dL_law_1148 rfl (lv_at hl 0 rfl) ?_
  refine lv_iload hx hb dL_law_1149 (lv_at hl 4 rfl) ?_
  refine lv_iconst (v := 3) hx hb dL_law_1151 (by decide) ?_
  refine lv_iadd hx hb dL_law_1152 ?_
  refine co_sld (i := i + 3) hx hb hXs hbl hS (nI_add i 3) (by omega) hL dL_law_1153 ?_
  refine lv_aload_n hx hb dL_law_1154 rfl (lv_at hl 3 rfl) ?_
  refine co_lSiS (wr := wM G b μ) (w' := fun u : lS => wW G a b q u μ) (As := [.ref (a 0), .int (xs (i + 1)), .int (xs (i + 2)), .int (xs (i + 3)), .ref q]) (rest := []) [0, 1, 2, 3, 4, 5, 6, 7, 8, 9, 10, 11, 12, 13, 14, 15, 16, 17, 18, 30] [19, 20, 21, 22, 23, 24, 25, 26, 27, 28, 29] [11, 12, 13, 14, 15, 16, 17, 18, 19, 20, 21, 22, 23, 24, 25, 26, 27, 28, 29, 0, 1, 2, 3, 4, 5, 6, 7, 8, 9, 10, 30] S (c_L_hopAt l hl9 G sa a q σ ρ o (xs (i + 1)) (xs (i + 2)) (xs (i + 3)) (fun h9 => hp_of hR h9)) (vx_cwSW 5 hts gL_law_L_hopAt rfl rfl rfl (by decide +kernel) ⟨(Nat.le_of_ble_eq_true rfl), (Nat.le_of_ble_eq_true rfl)⟩) hK hP hD hS hA hX hN rfl rfl (by decide) (by decide) (by decide) (by decide) (fun _ => rfl) rfl hl.1 rfl (Nat.le_of_ble_eq_true rfl) dL_law_1155 ⟨hc4, hs4⟩ (fun r u H locs hp hP hD hS => ?_)
  refine lv_istore (lv' := [(5, .int r), (0, .ref b0), (1, .ref (a 0)), (2, .ref (b 0)), (3, .ref q), (4, .int (nI i))]) hx hb dL_law_1158 hl (by decide) rfl (fun ls hl => ?_)
  refine lv_aload_n hx hb dL_law_1160 rfl (lv_at hl 3 rfl) ?_
  refine lv_aload_n hx hb dL_law_1161 rfl (lv_at hl 1 rfl) ?_
  refine lv_iload hx hb dL_law_1162 (lv_at hl 5 rfl) ?_
  refine lv_iconst (v := 1) hx hb dL_law_1164 (by decide) ?_
  refine lv_iadd hx hb dL_law_1165 ?_
  refine co_sld (i := i + 1) hx hb hXs hbl hS (nI_add i 1) (by omega) hL dL_law_1166 ?_
  refine lv_aload_n hx hb dL_law_1167 rfl (lv_at hl 1 rfl) ?_
  refine lv_iload hx hb dL_law_1168 (lv_at hl 5 rfl) ?_
  refine lv_iconst (v := 2) hx hb dL_law_1170 (by decide) ?_
  refine lv_iadd hx hb dL_law_1171 ?_
  refine co_sld (i := i + 2) hx hb hXs hbl hS (nI_add i 2) (by omega) hL dL_law_1172 ?_
  refine lv_aload_n hx hb dL_law_1173 rfl (lv_at hl 1 rfl) ?_
  refine lv_iload hx hb dL_law_1174 (lv_at hl 5 rfl) ?_
  refine lv_iconst (v := 3) hx hb dL_law_1176 (by decide) ?_
  refine lv_iadd hx hb dL_law_1177 ?_
  refine co_sld (i := i + 3) hx hb hXs hbl hS (nI_add i 3) (by omega) hL dL_law_1178 ?_
  refine co_mViS (wr := wL G a q u) (w' := fun v : cS => wW G a b q u v) (As := [.int (xs (i + 1)), .int (xs (i + 2)), .int (xs (i + 3))]) (rest := []) [19, 20, 21, 22, 23, 24, 25, 26, 27, 28, 29] [0, 1, 2, 3, 4, 5, 6, 7, 8, 9, 10, 11, 12, 13, 14, 15, 16, 17, 18, 30] [0, 1, 2, 3, 4, 5, 6, 7, 8, 9, 10, 11, 12, 13, 14, 15, 16, 17, 18, 20, 21, 22, 23, 24, 25, 26, 27, 28, 29, 30, 19] S (c_X3_hopAt l G Z b σ μ hR (xs (i + 1)) (xs (i + 2)) (xs (i + 3))) (cwV 3 hts gL_law_X3_hopAt rfl rfl rfl (by decide +kernel) ⟨(Nat.le_of_ble_eq_true rfl), (Nat.le_of_ble_eq_true rfl)⟩) hK hP hD hS hA rfl rfl (by decide) (by decide) (by decide) (by decide) (fun _ => rfl) (va_recv hK hP (ci := 2) (q0 := 19) rfl rfl) rfl hl.1 rfl (Nat.le_of_ble_eq_true rfl) dL_law_1179 ⟨hc4, hs4⟩ (fun r2 v H locs hq hP hD hS => ?_)
  refine lv_istore (lv' := [(6, .int r2), (5, .int r), (0, .ref b0), (1, .ref (a 0)), (2, .ref (b 0)), (3, .ref q), (4, .int (nI i))]) hx hb dL_law_1182 hl (by decide) rfl (fun ls hl => ?_)
  obtain ⟨hq1, hq2, hq3⟩ := hq
  obtain ⟨Zx, σx, hRx⟩ : ∃ (Z9 : Nat) (σ9 : cS), Rl Z9 σ9 v := lc_any hq2 hq3
  refine lv_aload_n hx hb dL_law_1184 rfl (lv_at hl 4 rfl) ?_
  refine co_rV (As := []) (rest := []) S (c_X3_thrown l G Zx b σx v hRx) (cwV 0 hts gL_law_X3_thrown rfl rfl rfl (by decide +kernel) ⟨(Nat.le_of_ble_eq_true rfl), (Nat.le_of_ble_eq_true rfl)⟩) hK (pG_perm hP [19, 20, 21, 22, 23, 24, 25, 26, 27, 28, 29] rfl) (va_recv hK hP (ci := 2) (q0 := 19) rfl rfl) rfl hl.1 rfl (Nat.le_of_ble_eq_true rfl) dL_law_1185 ⟨hc4, hs4⟩ ?_
  refine lv_iload hx hb dL_law_1188 (lv_at hl 1 rfl) ?_
  refine lv_icmp_eq (tgt := 1195) hx hb dL_law_1190 (by decide) (fun c8 => ?_) (fun c8 => ?_)
  · refine lv_iload hx hb dL_law_1195 (lv_at hl 1 rfl) ?_
    refine lv_if_ne (tgt := 1212) hx hb dL_law_1197 (by decide) (fun c9 => ?_) (fun c9 => ?_)
    · rcases hp with ⟨h1, -⟩ | ⟨-, -, h3, h4⟩
      · exact absurd h1 c9
      · refine lv_goto (tgt := 1612) hx hb dL_law_1212 (by decide) ?_
        exact kk u.1 u.2.1 v u.2.2 H locs ls (by rw [h4]; exact (hq3 h3).up) hP hD hS (lv_sub hl [2, 3, 4, 5, 6] rfl)
    · rcases hp with ⟨-, h2, h3, h4⟩ | ⟨h1, -⟩
      · obtain ⟨e1, hRF⟩ := hq2 h2
        refine lv_aload_n hx hb dL_law_1200 rfl (lv_at hl 5 rfl) ?_
        refine lv_iconst (v := 0) hx hb dL_law_1201 (by decide) ?_
        refine va_lald hx hb hK hP 30 2 rfl rfl vin0 dL_law_1202 ?_
        refine lv_iload hx hb dL_law_1203 (lv_at hl 0 rfl) ?_
        refine lv_i2l (v := r2.toInt64) hx hb dL_law_1205 rfl ?_
        refine co_lcmp0 hx hb ((congrArg u.2.2 lc_z0).trans (h3.trans (by rw [e1]))) dL_law_1206 ?_
        refine lv_if_eq (tgt := 1212) hx hb dL_law_1207 (by decide) (fun _ => ?_) (fun c7 => absurd rfl c7)
        refine lv_goto (tgt := 1612) hx hb dL_law_1212 (by decide) ?_
        exact kk u.1 u.2.1 v u.2.2 H locs ls (by rw [h4]; exact hRF.up) hP hD hS (lv_sub hl [2, 3, 4, 5, 6] rfl)
      · exact absurd c9 h1
  · exact absurd (hq1.trans (pL_thr hp)) c8

set_option maxHeartbeats 4000000 in
set_option maxRecDepth 100000 in
theorem lc_put {p : Program} {l : Launch} {e : Env} {s : State} {m : MethodId} {below : List Frame} {meth : Method} {c : Code} {Q : State → Prop} {b0 L i Z : Nat} {xs : Nat → Int32} {G : cG} {sa : Nat → Nat} {a b : Nat → Nat} {q : Nat} {cells slots : Nat} {σ ρ μ : cS} {o : Nat → Int64} {H : Heap} {locs : List Loc} {ls : Array Slot}
    (C9 : lwI p l s m c b0 L xs G sa i) (hR : Rl Z σ μ) (hZ : Z + 1 < 2 ^ 30) (hc4 : cells + 4 ≤ 601024) (hs4 : slots + 24 ≤ 7293034) (hP : pG G (wW G a b q (σ, ρ, o) μ) H) (hD : va_D (fun q => s.heap.size ≤ q) (wW G a b q (σ, ρ, o) μ)) (hS : va_S (fun q => s.heap.size ≤ q) s.heap H locs) (hl : lv_has ls 7 (lwL a b b0 q i))
    (kk : ∀ (σ' ρ' μ' : cS) (o' : Nat → Int64) (H' : Heap) (locs' : List Loc) (ls' : Array Slot), Rl (Z + 1) σ' μ' → pG G (wW G a b q (σ', ρ', o') μ') H' → va_D (fun q => s.heap.size ≤ q) (wW G a b q (σ', ρ', o') μ') → va_S (fun q => s.heap.size ≤ q) s.heap H' locs' → lv_has ls' 7 (lwL a b b0 q i) → W p l e room_1 s m #[Value.ref b0] below meth c H' locs' (cells + 4) (slots + 24) Q (F0 m 1612 ls' [])) :
    W p l e room_1 s m #[Value.ref b0] below meth c H locs cells slots Q (F0 m 1215 ls []) := by
  obtain ⟨S, hl9, hXs, hbl, hK, hX, hN, hi4, hL⟩ := C9
  obtain ⟨hx, hb, hml, hown, hts⟩ := id S
  have hA : ∀ q : Nat, s.heap.size ≤ q → (fun q : Nat => s.heap.size ≤ q) q := fun _ h => h
  have hl : lv_has ls 7 [(0, .ref b0), (1, .ref (a 0)), (2, .ref (b 0)), (3, .ref q), (4, .int (nI i))] := hl
  refine lv_aload_n hx hb dL_law_1215 rfl (lv_at hl 1 rfl) ?_
  refine lv_aload_n hx hb dL_law_1216 rfl (lv_at hl 0 rfl) ?_
  refine lv_iload hx hb dL_law_1217 (lv_at hl 4 rfl) ?_
  refine lv_iconst (v := 1) hx hb dL_law_1219 (by decide) ?_
  refine lv_iadd hx hb dL_law_1220 ?_
  refine co_sld (i := i + 1) hx hb hXs hbl hS (nI_add i 1) (by omega) hL dL_law_1221 ?_
  refine lv_aload_n hx hb dL_law_1222 rfl (lv_at hl 0 rfl) ?_
  refine lv_iload hx hb dL_law_1223 (lv_at hl 4 rfl) ?_
  refine lv_iconst (v := 2) hx hb dL_law_1225 (by decide) ?_
  refine lv_iadd hx hb dL_law_1226 ?_
  refine co_sld (i := i + 2) hx hb hXs hbl hS (nI_add i 2) (by omega) hL dL_law_1227 ?_
  refine lv_aload_n hx hb dL_law_1228 rfl (lv_at hl 0 rfl) ?_
  refine lv_iload hx hb dL_law_1229 (lv_at hl 4 rfl) ?_
  refine lv_iconst (v := 3) hx hb dL_law_1231 (by decide) ?_
  refine lv_iadd hx hb dL_law_1232 ?_
  refine co_sld (i := i + 3) hx hb hXs hbl hS (nI_add i 3) (by omega) hL dL_law_1233 ?_
  refine lv_aload_n hx hb dL_law_1234 rfl (lv_at hl 3 rfl) ?_
  refine co_lSiS (wr := wM G b μ) (w' := fun u : lS => wW G a b q u μ) (As := [.ref (a 0), .int (xs (i + 1)), .int (xs (i + 2)), .int (xs (i + 3)), .ref q]) (rest := []) [0, 1, 2, 3, 4, 5, 6, 7, 8, 9, 10, 11, 12, 13, 14, 15, 16, 17, 18, 30] [19, 20, 21, 22, 23, 24, 25, 26, 27, 28, 29] [11, 12, 13, 14, 15, 16, 17, 18, 19, 20, 21, 22, 23, 24, 25, 26, 27, 28, 29, 0, 1, 2, 3, 4, 5, 6, 7, 8, 9, 10, 30] S (c_L_put l hl9 G sa a q σ ρ o (xs (i + 1)) (xs (i + 2)) (xs (i + 3))) (vx_cwSW 5 hts gL_law_L_put rfl rfl rfl (by decide +kernel) ⟨(Nat.le_of_ble_eq_true rfl), (Nat.le_of_ble_eq_true rfl)⟩) hK hP hD hS hA hX hN rfl rfl (by decide) (by decide) (by decide) (by decide) (fun _ => rfl) rfl hl.1 rfl (Nat.le_of_ble_eq_true rfl) dL_law_1235 ⟨hc4, hs4⟩ (fun r u H locs hp hP hD hS => ?_)
  refine lv_istore (lv' := [(5, .int r), (0, .ref b0), (1, .ref (a 0)), (2, .ref (b 0)), (3, .ref q), (4, .int (nI i))]) hx hb dL_law_1238 hl (by decide) rfl (fun ls hl => ?_)
  refine lv_aload_n hx hb dL_law_1240 rfl (lv_at hl 3 rfl) ?_
  refine lv_aload_n hx hb dL_law_1241 rfl (lv_at hl 1 rfl) ?_
  refine lv_iload hx hb dL_law_1242 (lv_at hl 5 rfl) ?_
  refine lv_iconst (v := 1) hx hb dL_law_1244 (by decide) ?_
  refine lv_iadd hx hb dL_law_1245 ?_
  refine co_sld (i := i + 1) hx hb hXs hbl hS (nI_add i 1) (by omega) hL dL_law_1246 ?_
  refine lv_aload_n hx hb dL_law_1247 rfl (lv_at hl 1 rfl) ?_
  refine lv_iload hx hb dL_law_1248 (lv_at hl 5 rfl) ?_
  refine lv_iconst (v := 2) hx hb dL_law_1250 (by decide) ?_
  refine lv_iadd hx hb dL_law_1251 ?_
  refine co_sld (i := i + 2) hx hb hXs hbl hS (nI_add i 2) (by omega) hL dL_law_1252 ?_
  refine lv_aload_n hx hb dL_law_1253 rfl (lv_at hl 1 rfl) ?_
  refine lv_iload hx hb dL_law_1254 (lv_at hl 5 rfl) ?_
  refine lv_iconst (v := 3) hx hb dL_law_1256 (by decide) ?_
  refine lv_iadd hx hb dL_law_1257 ?_
  refine co_sld (i := i + 3) hx hb hXs hbl hS (nI_add i 3) (by omega) hL dL_law_1258 ?_
  refine co_mViS (wr := wL G a q u) (w' := fun v : cS => wW G a b q u v) (As := [.int (xs (i + 1)), .int (xs (i + 2)), .int (xs (i + 3))]) (rest := []) [19, 20, 21, 22, 23, 24, 25, 26, 27, 28, 29] [0, 1, 2, 3, 4, 5, 6, 7, 8, 9, 10, 11, 12, 13, 14, 15, 16, 17, 18, 30] [0, 1, 2, 3, 4, 5, 6, 7, 8, 9, 10, 11, 12, 13, 14, 15, 16, 17, 18, 20, 21, 22, 23, 24, 25, 26, 27, 28, 29, 30, 19] S (c_X3_put l G Z b σ μ hR (xs (i + 1)) (xs (i + 2)) (xs (i + 3)) hZ) (cwV 3 hts gL_law_X3_put rfl rfl rfl (by decide +kernel) ⟨(Nat.le_of_ble_eq_true rfl), (Nat.le_of_ble_eq_true rfl)⟩) hK hP hD hS hA rfl rfl (by decide) (by decide) (by decide) (by decide) (fun _ => rfl) (va_recv hK hP (ci := 2) (q0 := 19) rfl rfl) rfl hl.1 rfl (Nat.le_of_ble_eq_true rfl) dL_law_1259 ⟨hc4, hs4⟩ (fun r2 v H locs hq hP hD hS => ?_)
  refine lv_istore (lv' := [(6, .int r2), (5, .int r), (0, .ref b0), (1, .ref (a 0)), (2, .ref (b 0)), (3, .ref q), (4, .int (nI i))]) hx hb dL_law_1262 hl (by decide) rfl (fun ls hl => ?_)
  obtain ⟨hq1, hq2, hq3⟩ := hq
  obtain ⟨Zx, σx, hRx⟩ : ∃ (Z9 : Nat) (σ9 : cS), Rl Z9 σ9 v := lc_any hq2 hq3
  refine lv_aload_n hx hb dL_law_1264 rfl (lv_at hl 4 rfl) ?_
  refine co_rV (As := []) (rest := []) S (c_X3_thrown l G Zx b σx v hRx) (cwV 0 hts gL_law_X3_thrown rfl rfl rfl (by decide +kernel) ⟨(Nat.le_of_ble_eq_true rfl), (Nat.le_of_ble_eq_true rfl)⟩) hK (pG_perm hP [19, 20, 21, 22, 23, 24, 25, 26, 27, 28, 29] rfl) (va_recv hK hP (ci := 2) (q0 := 19) rfl rfl) rfl hl.1 rfl (Nat.le_of_ble_eq_true rfl) dL_law_1265 ⟨hc4, hs4⟩ ?_
  refine lv_iload hx hb dL_law_1268 (lv_at hl 1 rfl) ?_
  refine lv_icmp_eq (tgt := 1275) hx hb dL_law_1270 (by decide) (fun c8 => ?_) (fun c8 => ?_)
  · refine lv_iload hx hb dL_law_1275 (lv_at hl 1 rfl) ?_
    refine lv_if_ne (tgt := 1292) hx hb dL_law_1277 (by decide) (fun c9 => ?_) (fun c9 => ?_)
    · rcases hp with ⟨h1, -⟩ | ⟨-, -, h3, h4⟩
      · exact absurd h1 c9
      · refine lv_goto (tgt := 1612) hx hb dL_law_1292 (by decide) ?_
        exact kk u.1 u.2.1 v u.2.2 H locs ls (by rw [h4]; exact (hq3 h3).up) hP hD hS (lv_sub hl [2, 3, 4, 5, 6] rfl)
    · rcases hp with ⟨-, h2, h3, h4⟩ | ⟨h1, -⟩
      · obtain ⟨e1, hRF⟩ := hq2 h2
        refine lv_aload_n hx hb dL_law_1280 rfl (lv_at hl 5 rfl) ?_
        refine lv_iconst (v := 0) hx hb dL_law_1281 (by decide) ?_
        refine va_lald hx hb hK hP 30 2 rfl rfl vin0 dL_law_1282 ?_
        refine lv_iload hx hb dL_law_1283 (lv_at hl 0 rfl) ?_
        refine lv_i2l (v := r2.toInt64) hx hb dL_law_1285 rfl ?_
        refine co_lcmp0 hx hb ((congrArg u.2.2 lc_z0).trans (h3.trans (by rw [e1]))) dL_law_1286 ?_
        refine lv_if_eq (tgt := 1292) hx hb dL_law_1287 (by decide) (fun _ => ?_) (fun c7 => absurd rfl c7)
        refine lv_goto (tgt := 1612) hx hb dL_law_1292 (by decide) ?_
        exact kk u.1 u.2.1 v u.2.2 H locs ls (by rw [h4]; exact hRF) hP hD hS (lv_sub hl [2, 3, 4, 5, 6] rfl)
      · exact absurd c9 h1
  · exact absurd (hq1.trans (pL_thr hp)) c8

set_option maxHeartbeats 4000000 in
set_option maxRecDepth 100000 in
theorem lc_get {p : Program} {l : Launch} {e : Env} {s : State} {m : MethodId} {below : List Frame} {meth : Method} {c : Code} {Q : State → Prop} {b0 L i Z : Nat} {xs : Nat → Int32} {G : cG} {sa : Nat → Nat} {a b : Nat → Nat} {q : Nat} {cells slots : Nat} {σ ρ μ : cS} {o : Nat → Int64} {H : Heap} {locs : List Loc} {ls : Array Slot}
    (C9 : lwI p l s m c b0 L xs G sa i) (hR : Rl Z σ μ) (hZ : Z + 1 < 2 ^ 30) (hc4 : cells + 4 ≤ 601024) (hs4 : slots + 24 ≤ 7293034) (hP : pG G (wW G a b q (σ, ρ, o) μ) H) (hD : va_D (fun q => s.heap.size ≤ q) (wW G a b q (σ, ρ, o) μ)) (hS : va_S (fun q => s.heap.size ≤ q) s.heap H locs) (hl : lv_has ls 7 (lwL a b b0 q i))
    (kk : ∀ (σ' ρ' μ' : cS) (o' : Nat → Int64) (H' : Heap) (locs' : List Loc) (ls' : Array Slot), Rl (Z + 1) σ' μ' → pG G (wW G a b q (σ', ρ', o') μ') H' → va_D (fun q => s.heap.size ≤ q) (wW G a b q (σ', ρ', o') μ') → va_S (fun q => s.heap.size ≤ q) s.heap H' locs' → lv_has ls' 7 (lwL a b b0 q i) → W p l e room_1 s m #[Value.ref b0] below meth c H' locs' (cells + 4) (slots + 24) Q (F0 m 1612 ls' [])) :
    W p l e room_1 s m #[Value.ref b0] below meth c H locs cells slots Q (F0 m 1295 ls []) := by
  obtain ⟨S, hl9, hXs, hbl, hK, hX, hN, hi4, hL⟩ := C9
  obtain ⟨hx, hb, hml, hown, hts⟩ := id S
  have hA : ∀ q : Nat, s.heap.size ≤ q → (fun q : Nat => s.heap.size ≤ q) q := fun _ h => h
  have hl : lv_has ls 7 [(0, .ref b0), (1, .ref (a 0)), (2, .ref (b 0)), (3, .ref q), (4, .int (nI i))] := hl
  refine lv_aload_n hx hb dL_law_1295 rfl (lv_at hl 1 rfl) ?_
  refine lv_aload_n hx hb dL_law_1296 rfl (lv_at hl 0 rfl) ?_
  refine lv_iload hx hb dL_law_1297 (lv_at hl 4 rfl) ?_
  refine lv_iconst (v := 1) hx hb dL_law_1299 (by decide) ?_
  refine lv_iadd hx hb dL_law_1300 ?_
  refine co_sld (i := i + 1) hx hb hXs hbl hS (nI_add i 1) (by omega) hL dL_law_1301 ?_
  refine lv_aload_n hx hb dL_law_1302 rfl (lv_at hl 0 rfl) ?_
  refine lv_iload hx hb dL_law_1303 (lv_at hl 4 rfl) ?_
  refine lv_iconst (v := 2) hx hb dL_law_1305 (by decide) ?_
  refine lv_iadd hx hb dL_law_1306 ?_
  refine co_sld (i := i + 2) hx hb hXs hbl hS (nI_add i 2) (by omega) hL dL_law_1307 ?_
  refine lv_aload_n hx hb dL_law_1308 rfl (lv_at hl 3 rfl) ?_
  refine co_lSiS (wr := wM G b μ) (w' := fun u : lS => wW G a b q u μ) (As := [.ref (a 0), .int (xs (i + 1)), .int (xs (i + 2)), .ref q]) (rest := []) [0, 1, 2, 3, 4, 5, 6, 7, 8, 9, 10, 11, 12, 13, 14, 15, 16, 17, 18, 30] [19, 20, 21, 22, 23, 24, 25, 26, 27, 28, 29] [11, 12, 13, 14, 15, 16, 17, 18, 19, 20, 21, 22, 23, 24, 25, 26, 27, 28, 29, 0, 1, 2, 3, 4, 5, 6, 7, 8, 9, 10, 30] S (c_L_get l hl9 G sa a q σ ρ o (xs (i + 1)) (xs (i + 2))) (vx_cwSW 4 hts gL_law_L_get rfl rfl rfl (by decide +kernel) ⟨(Nat.le_of_ble_eq_true rfl), (Nat.le_of_ble_eq_true rfl)⟩) hK hP hD hS hA hX hN rfl rfl (by decide) (by decide) (by decide) (by decide) (fun _ => rfl) rfl hl.1 rfl (Nat.le_of_ble_eq_true rfl) dL_law_1309 ⟨hc4, hs4⟩ (fun r u H locs hp hP hD hS => ?_)
  refine lv_istore (lv' := [(5, .int r), (0, .ref b0), (1, .ref (a 0)), (2, .ref (b 0)), (3, .ref q), (4, .int (nI i))]) hx hb dL_law_1312 hl (by decide) rfl (fun ls hl => ?_)
  refine lv_aload_n hx hb dL_law_1314 rfl (lv_at hl 3 rfl) ?_
  refine lv_aload_n hx hb dL_law_1315 rfl (lv_at hl 1 rfl) ?_
  refine lv_iload hx hb dL_law_1316 (lv_at hl 5 rfl) ?_
  refine lv_iconst (v := 1) hx hb dL_law_1318 (by decide) ?_
  refine lv_iadd hx hb dL_law_1319 ?_
  refine co_sld (i := i + 1) hx hb hXs hbl hS (nI_add i 1) (by omega) hL dL_law_1320 ?_
  refine lv_aload_n hx hb dL_law_1321 rfl (lv_at hl 1 rfl) ?_
  refine lv_iload hx hb dL_law_1322 (lv_at hl 5 rfl) ?_
  refine lv_iconst (v := 2) hx hb dL_law_1324 (by decide) ?_
  refine lv_iadd hx hb dL_law_1325 ?_
  refine co_sld (i := i + 2) hx hb hXs hbl hS (nI_add i 2) (by omega) hL dL_law_1326 ?_
  refine co_mViS (wr := wL G a q u) (w' := fun v : cS => wW G a b q u v) (As := [.int (xs (i + 1)), .int (xs (i + 2))]) (rest := []) [19, 20, 21, 22, 23, 24, 25, 26, 27, 28, 29] [0, 1, 2, 3, 4, 5, 6, 7, 8, 9, 10, 11, 12, 13, 14, 15, 16, 17, 18, 30] [0, 1, 2, 3, 4, 5, 6, 7, 8, 9, 10, 11, 12, 13, 14, 15, 16, 17, 18, 20, 21, 22, 23, 24, 25, 26, 27, 28, 29, 30, 19] S (c_X3_get l G Z b σ μ hR (xs (i + 1)) (xs (i + 2))) (cwV 2 hts gL_law_X3_get rfl rfl rfl (by decide +kernel) ⟨(Nat.le_of_ble_eq_true rfl), (Nat.le_of_ble_eq_true rfl)⟩) hK hP hD hS hA rfl rfl (by decide) (by decide) (by decide) (by decide) (fun _ => rfl) (va_recv hK hP (ci := 2) (q0 := 19) rfl rfl) rfl hl.1 rfl (Nat.le_of_ble_eq_true rfl) dL_law_1327 ⟨hc4, hs4⟩ (fun r2 v H locs hq hP hD hS => ?_)
  refine lv_istore (lv' := [(6, .int r2), (5, .int r), (0, .ref b0), (1, .ref (a 0)), (2, .ref (b 0)), (3, .ref q), (4, .int (nI i))]) hx hb dL_law_1330 hl (by decide) rfl (fun ls hl => ?_)
  obtain ⟨hq1, hq2, hq3⟩ := hq
  obtain ⟨Zx, σx, hRx⟩ : ∃ (Z9 : Nat) (σ9 : cS), Rl Z9 σ9 v := lc_any hq2 hq3
  refine lv_aload_n hx hb dL_law_1332 rfl (lv_at hl 4 rfl) ?_
  refine co_rV (As := []) (rest := []) S (c_X3_thrown l G Zx b σx v hRx) (cwV 0 hts gL_law_X3_thrown rfl rfl rfl (by decide +kernel) ⟨(Nat.le_of_ble_eq_true rfl), (Nat.le_of_ble_eq_true rfl)⟩) hK (pG_perm hP [19, 20, 21, 22, 23, 24, 25, 26, 27, 28, 29] rfl) (va_recv hK hP (ci := 2) (q0 := 19) rfl rfl) rfl hl.1 rfl (Nat.le_of_ble_eq_true rfl) dL_law_1333 ⟨hc4, hs4⟩ ?_
  refine lv_iload hx hb dL_law_1336 (lv_at hl 1 rfl) ?_
  refine lv_icmp_eq (tgt := 1343) hx hb dL_law_1338 (by decide) (fun c8 => ?_) (fun c8 => ?_)
  · refine lv_iload hx hb dL_law_1343 (lv_at hl 1 rfl) ?_
    refine lv_if_ne (tgt := 1360) hx hb dL_law_1345 (by decide) (fun c9 => ?_) (fun c9 => ?_)
    · rcases hp with ⟨h1, -⟩ | ⟨-, -, h3, h4⟩
      · exact absurd h1 c9
      · refine lv_goto (tgt := 1612) hx hb dL_law_1360 (by decide) ?_
        exact kk u.1 u.2.1 v u.2.2 H locs ls (by rw [h4]; exact (hq3 h3).up) hP hD hS (lv_sub hl [2, 3, 4, 5, 6] rfl)
    · rcases hp with ⟨-, h2, h3, h4⟩ | ⟨h1, -⟩
      · obtain ⟨e1, hRF⟩ := hq2 h2
        refine lv_aload_n hx hb dL_law_1348 rfl (lv_at hl 5 rfl) ?_
        refine lv_iconst (v := 0) hx hb dL_law_1349 (by decide) ?_
        refine va_lald hx hb hK hP 30 2 rfl rfl vin0 dL_law_1350 ?_
        refine lv_iload hx hb dL_law_1351 (lv_at hl 0 rfl) ?_
        refine lv_i2l (v := r2.toInt64) hx hb dL_law_1353 rfl ?_
        refine co_lcmp0 hx hb ((congrArg u.2.2 lc_z0).trans (h3.trans (by rw [e1]))) dL_law_1354 ?_
        refine lv_if_eq (tgt := 1360) hx hb dL_law_1355 (by decide) (fun _ => ?_) (fun c7 => absurd rfl c7)
        refine lv_goto (tgt := 1612) hx hb dL_law_1360 (by decide) ?_
        exact kk u.1 u.2.1 v u.2.2 H locs ls (by rw [h4]; exact hRF.up) hP hD hS (lv_sub hl [2, 3, 4, 5, 6] rfl)
      · exact absurd c9 h1
  · exact absurd (hq1.trans (pL_thr hp)) c8

set_option maxHeartbeats 4000000 in
set_option maxRecDepth 100000 in
theorem lc_kept {p : Program} {l : Launch} {e : Env} {s : State} {m : MethodId} {below : List Frame} {meth : Method} {c : Code} {Q : State → Prop} {b0 L i Z : Nat} {xs : Nat → Int32} {G : cG} {sa : Nat → Nat} {a b : Nat → Nat} {q : Nat} {cells slots : Nat} {σ ρ μ : cS} {o : Nat → Int64} {H : Heap} {locs : List Loc} {ls : Array Slot}
    (C9 : lwI p l s m c b0 L xs G sa i) (hR : Rl Z σ μ) (hZ : Z + 1 < 2 ^ 30) (hc4 : cells + 4 ≤ 601024) (hs4 : slots + 24 ≤ 7293034) (hP : pG G (wW G a b q (σ, ρ, o) μ) H) (hD : va_D (fun q => s.heap.size ≤ q) (wW G a b q (σ, ρ, o) μ)) (hS : va_S (fun q => s.heap.size ≤ q) s.heap H locs) (hl : lv_has ls 7 (lwL a b b0 q i))
    (kk : ∀ (σ' ρ' μ' : cS) (o' : Nat → Int64) (H' : Heap) (locs' : List Loc) (ls' : Array Slot), Rl (Z + 1) σ' μ' → pG G (wW G a b q (σ', ρ', o') μ') H' → va_D (fun q => s.heap.size ≤ q) (wW G a b q (σ', ρ', o') μ') → va_S (fun q => s.heap.size ≤ q) s.heap H' locs' → lv_has ls' 7 (lwL a b b0 q i) → W p l e room_1 s m #[Value.ref b0] below meth c H' locs' (cells + 4) (slots + 24) Q (F0 m 1612 ls' [])) :
    W p l e room_1 s m #[Value.ref b0] below meth c H locs cells slots Q (F0 m 1363 ls []) := by
  obtain ⟨S, hl9, hXs, hbl, hK, hX, hN, hi4, hL⟩ := C9
  obtain ⟨hx, hb, hml, hown, hts⟩ := id S
  have hA : ∀ q : Nat, s.heap.size ≤ q → (fun q : Nat => s.heap.size ≤ q) q := fun _ h => h
  have hl : lv_has ls 7 [(0, .ref b0), (1, .ref (a 0)), (2, .ref (b 0)), (3, .ref q), (4, .int (nI i))] := hl
  refine lv_aload_n hx hb dL_law_1363 rfl (lv_at hl 1 rfl) ?_
  refine lv_aload_n hx hb dL_law_1364 rfl (lv_at hl 0 rfl) ?_
  refine lv_iload hx hb dL_law_1365 (lv_at hl 4 rfl) ?_
  refine lv_iconst (v := 1) hx hb dL_law_1367 (by decide) ?_
  refine lv_iadd hx hb dL_law_1368 ?_
  refine co_sld (i := i + 1) hx hb hXs hbl hS (nI_add i 1) (by omega) hL dL_law_1369 ?_
  refine lv_aload_n hx hb dL_law_1370 rfl (lv_at hl 0 rfl) ?_
  refine lv_iload hx hb dL_law_1371 (lv_at hl 4 rfl) ?_
  refine lv_iconst (v := 2) hx hb dL_law_1373 (by decide) ?_
  refine lv_iadd hx hb dL_law_1374 ?_
  refine co_sld (i := i + 2) hx hb hXs hbl hS (nI_add i 2) (by omega) hL dL_law_1375 ?_
  refine lv_aload_n hx hb dL_law_1376 rfl (lv_at hl 3 rfl) ?_
  refine co_lSiS (wr := wM G b μ) (w' := fun u : lS => wW G a b q u μ) (As := [.ref (a 0), .int (xs (i + 1)), .int (xs (i + 2)), .ref q]) (rest := []) [0, 1, 2, 3, 4, 5, 6, 7, 8, 9, 10, 11, 12, 13, 14, 15, 16, 17, 18, 30] [19, 20, 21, 22, 23, 24, 25, 26, 27, 28, 29] [11, 12, 13, 14, 15, 16, 17, 18, 19, 20, 21, 22, 23, 24, 25, 26, 27, 28, 29, 0, 1, 2, 3, 4, 5, 6, 7, 8, 9, 10, 30] S (c_L_kept l hl9 G sa a q σ ρ o (xs (i + 1)) (xs (i + 2))) (vx_cwSW 4 hts gL_law_L_kept rfl rfl rfl (by decide +kernel) ⟨(Nat.le_of_ble_eq_true rfl), (Nat.le_of_ble_eq_true rfl)⟩) hK hP hD hS hA hX hN rfl rfl (by decide) (by decide) (by decide) (by decide) (fun _ => rfl) rfl hl.1 rfl (Nat.le_of_ble_eq_true rfl) dL_law_1377 ⟨hc4, hs4⟩ (fun r u H locs hp hP hD hS => ?_)
  refine lv_istore (lv' := [(5, .int r), (0, .ref b0), (1, .ref (a 0)), (2, .ref (b 0)), (3, .ref q), (4, .int (nI i))]) hx hb dL_law_1380 hl (by decide) rfl (fun ls hl => ?_)
  refine lv_aload_n hx hb dL_law_1382 rfl (lv_at hl 3 rfl) ?_
  refine lv_aload_n hx hb dL_law_1383 rfl (lv_at hl 1 rfl) ?_
  refine lv_iload hx hb dL_law_1384 (lv_at hl 5 rfl) ?_
  refine lv_iconst (v := 1) hx hb dL_law_1386 (by decide) ?_
  refine lv_iadd hx hb dL_law_1387 ?_
  refine co_sld (i := i + 1) hx hb hXs hbl hS (nI_add i 1) (by omega) hL dL_law_1388 ?_
  refine lv_aload_n hx hb dL_law_1389 rfl (lv_at hl 1 rfl) ?_
  refine lv_iload hx hb dL_law_1390 (lv_at hl 5 rfl) ?_
  refine lv_iconst (v := 2) hx hb dL_law_1392 (by decide) ?_
  refine lv_iadd hx hb dL_law_1393 ?_
  refine co_sld (i := i + 2) hx hb hXs hbl hS (nI_add i 2) (by omega) hL dL_law_1394 ?_
  refine co_mViS (wr := wL G a q u) (w' := fun v : cS => wW G a b q u v) (As := [.int (xs (i + 1)), .int (xs (i + 2))]) (rest := []) [19, 20, 21, 22, 23, 24, 25, 26, 27, 28, 29] [0, 1, 2, 3, 4, 5, 6, 7, 8, 9, 10, 11, 12, 13, 14, 15, 16, 17, 18, 30] [0, 1, 2, 3, 4, 5, 6, 7, 8, 9, 10, 11, 12, 13, 14, 15, 16, 17, 18, 20, 21, 22, 23, 24, 25, 26, 27, 28, 29, 30, 19] S (c_X3_kept l G Z b σ μ hR (xs (i + 1)) (xs (i + 2))) (cwV 2 hts gL_law_X3_kept rfl rfl rfl (by decide +kernel) ⟨(Nat.le_of_ble_eq_true rfl), (Nat.le_of_ble_eq_true rfl)⟩) hK hP hD hS hA rfl rfl (by decide) (by decide) (by decide) (by decide) (fun _ => rfl) (va_recv hK hP (ci := 2) (q0 := 19) rfl rfl) rfl hl.1 rfl (Nat.le_of_ble_eq_true rfl) dL_law_1395 ⟨hc4, hs4⟩ (fun r2 v H locs hq hP hD hS => ?_)
  refine lv_istore (lv' := [(6, .int r2), (5, .int r), (0, .ref b0), (1, .ref (a 0)), (2, .ref (b 0)), (3, .ref q), (4, .int (nI i))]) hx hb dL_law_1398 hl (by decide) rfl (fun ls hl => ?_)
  obtain ⟨hq1, hq2, hq3⟩ := hq
  obtain ⟨Zx, σx, hRx⟩ : ∃ (Z9 : Nat) (σ9 : cS), Rl Z9 σ9 v := lc_any hq2 hq3
  refine lv_aload_n hx hb dL_law_1400 rfl (lv_at hl 4 rfl) ?_
  refine co_rV (As := []) (rest := []) S (c_X3_thrown l G Zx b σx v hRx) (cwV 0 hts gL_law_X3_thrown rfl rfl rfl (by decide +kernel) ⟨(Nat.le_of_ble_eq_true rfl), (Nat.le_of_ble_eq_true rfl)⟩) hK (pG_perm hP [19, 20, 21, 22, 23, 24, 25, 26, 27, 28, 29] rfl) (va_recv hK hP (ci := 2) (q0 := 19) rfl rfl) rfl hl.1 rfl (Nat.le_of_ble_eq_true rfl) dL_law_1401 ⟨hc4, hs4⟩ ?_
  refine lv_iload hx hb dL_law_1404 (lv_at hl 1 rfl) ?_
  refine lv_icmp_eq (tgt := 1411) hx hb dL_law_1406 (by decide) (fun c8 => ?_) (fun c8 => ?_)
  · refine lv_iload hx hb dL_law_1411 (lv_at hl 1 rfl) ?_
    refine lv_if_ne (tgt := 1428) hx hb dL_law_1413 (by decide) (fun c9 => ?_) (fun c9 => ?_)
    · rcases hp with ⟨h1, -⟩ | ⟨-, -, h3, h4⟩
      · exact absurd h1 c9
      · refine lv_goto (tgt := 1612) hx hb dL_law_1428 (by decide) ?_
        exact kk u.1 u.2.1 v u.2.2 H locs ls (by rw [h4]; exact (hq3 h3).up) hP hD hS (lv_sub hl [2, 3, 4, 5, 6] rfl)
    · rcases hp with ⟨-, h2, h3, h4⟩ | ⟨h1, -⟩
      · obtain ⟨e1, hRF⟩ := hq2 h2
        refine lv_aload_n hx hb dL_law_1416 rfl (lv_at hl 5 rfl) ?_
        refine lv_iconst (v := 0) hx hb dL_law_1417 (by decide) ?_
        refine va_lald hx hb hK hP 30 2 rfl rfl vin0 dL_law_1418 ?_
        refine lv_iload hx hb dL_law_1419 (lv_at hl 0 rfl) ?_
        refine lv_i2l (v := r2.toInt64) hx hb dL_law_1421 rfl ?_
        refine co_lcmp0 hx hb ((congrArg u.2.2 lc_z0).trans (h3.trans (by rw [e1]))) dL_law_1422 ?_
        refine lv_if_eq (tgt := 1428) hx hb dL_law_1423 (by decide) (fun _ => ?_) (fun c7 => absurd rfl c7)
        refine lv_goto (tgt := 1612) hx hb dL_law_1428 (by decide) ?_
        exact kk u.1 u.2.1 v u.2.2 H locs ls (by rw [h4]; exact hRF.up) hP hD hS (lv_sub hl [2, 3, 4, 5, 6] rfl)
      · exact absurd c9 h1
  · exact absurd (hq1.trans (pL_thr hp)) c8

set_option maxHeartbeats 4000000 in
set_option maxRecDepth 100000 in
theorem lc_keepers {p : Program} {l : Launch} {e : Env} {s : State} {m : MethodId} {below : List Frame} {meth : Method} {c : Code} {Q : State → Prop} {b0 L i Z : Nat} {xs : Nat → Int32} {G : cG} {sa : Nat → Nat} {a b : Nat → Nat} {q : Nat} {cells slots : Nat} {σ ρ μ : cS} {o : Nat → Int64} {H : Heap} {locs : List Loc} {ls : Array Slot}
    (C9 : lwI p l s m c b0 L xs G sa i) (hR : Rl Z σ μ) (hZ : Z + 1 < 2 ^ 30) (hc4 : cells + 4 ≤ 601024) (hs4 : slots + 24 ≤ 7293034) (hP : pG G (wW G a b q (σ, ρ, o) μ) H) (hD : va_D (fun q => s.heap.size ≤ q) (wW G a b q (σ, ρ, o) μ)) (hS : va_S (fun q => s.heap.size ≤ q) s.heap H locs) (hl : lv_has ls 7 (lwL a b b0 q i))
    (kk : ∀ (σ' ρ' μ' : cS) (o' : Nat → Int64) (H' : Heap) (locs' : List Loc) (ls' : Array Slot), Rl (Z + 1) σ' μ' → pG G (wW G a b q (σ', ρ', o') μ') H' → va_D (fun q => s.heap.size ≤ q) (wW G a b q (σ', ρ', o') μ') → va_S (fun q => s.heap.size ≤ q) s.heap H' locs' → lv_has ls' 7 (lwL a b b0 q i) → W p l e room_1 s m #[Value.ref b0] below meth c H' locs' (cells + 4) (slots + 24) Q (F0 m 1612 ls' [])) :
    W p l e room_1 s m #[Value.ref b0] below meth c H locs cells slots Q (F0 m 1431 ls []) := by
  obtain ⟨S, hl9, hXs, hbl, hK, hX, hN, hi4, hL⟩ := C9
  obtain ⟨hx, hb, hml, hown, hts⟩ := id S
  have hA : ∀ q : Nat, s.heap.size ≤ q → (fun q : Nat => s.heap.size ≤ q) q := fun _ h => h
  have hl : lv_has ls 7 [(0, .ref b0), (1, .ref (a 0)), (2, .ref (b 0)), (3, .ref q), (4, .int (nI i))] := hl
  refine lv_aload_n hx hb dL_law_1431 rfl (lv_at hl 1 rfl) ?_
  refine lv_aload_n hx hb dL_law_1432 rfl (lv_at hl 0 rfl) ?_
  refine lv_iload hx hb dL_law_1433 (lv_at hl 4 rfl) ?_
  refine lv_iconst (v := 1) hx hb dL_law_1435 (by decide) ?_
  refine lv_iadd hx hb dL_law_1436 ?_
  refine co_sld (i := i + 1) hx hb hXs hbl hS (nI_add i 1) (by omega) hL dL_law_1437 ?_
  refine lv_aload_n hx hb dL_law_1438 rfl (lv_at hl 3 rfl) ?_
  refine co_lSiS (wr := wM G b μ) (w' := fun u : lS => wW G a b q u μ) (As := [.ref (a 0), .int (xs (i + 1)), .ref q]) (rest := []) [0, 1, 2, 3, 4, 5, 6, 7, 8, 9, 10, 11, 12, 13, 14, 15, 16, 17, 18, 30] [19, 20, 21, 22, 23, 24, 25, 26, 27, 28, 29] [11, 12, 13, 14, 15, 16, 17, 18, 19, 20, 21, 22, 23, 24, 25, 26, 27, 28, 29, 0, 1, 2, 3, 4, 5, 6, 7, 8, 9, 10, 30] S (c_L_keepers l hl9 G sa a q σ ρ o (xs (i + 1))) (vx_cwSW 3 hts gL_law_L_keepers rfl rfl rfl (by decide +kernel) ⟨(Nat.le_of_ble_eq_true rfl), (Nat.le_of_ble_eq_true rfl)⟩) hK hP hD hS hA hX hN rfl rfl (by decide) (by decide) (by decide) (by decide) (fun _ => rfl) rfl hl.1 rfl (Nat.le_of_ble_eq_true rfl) dL_law_1439 ⟨hc4, hs4⟩ (fun r u H locs hp hP hD hS => ?_)
  refine lv_istore (lv' := [(5, .int r), (0, .ref b0), (1, .ref (a 0)), (2, .ref (b 0)), (3, .ref q), (4, .int (nI i))]) hx hb dL_law_1442 hl (by decide) rfl (fun ls hl => ?_)
  refine lv_aload_n hx hb dL_law_1444 rfl (lv_at hl 3 rfl) ?_
  refine lv_aload_n hx hb dL_law_1445 rfl (lv_at hl 1 rfl) ?_
  refine lv_iload hx hb dL_law_1446 (lv_at hl 5 rfl) ?_
  refine lv_iconst (v := 1) hx hb dL_law_1448 (by decide) ?_
  refine lv_iadd hx hb dL_law_1449 ?_
  refine co_sld (i := i + 1) hx hb hXs hbl hS (nI_add i 1) (by omega) hL dL_law_1450 ?_
  refine co_mViS (wr := wL G a q u) (w' := fun v : cS => wW G a b q u v) (As := [.int (xs (i + 1))]) (rest := []) [19, 20, 21, 22, 23, 24, 25, 26, 27, 28, 29] [0, 1, 2, 3, 4, 5, 6, 7, 8, 9, 10, 11, 12, 13, 14, 15, 16, 17, 18, 30] [0, 1, 2, 3, 4, 5, 6, 7, 8, 9, 10, 11, 12, 13, 14, 15, 16, 17, 18, 20, 21, 22, 23, 24, 25, 26, 27, 28, 29, 30, 19] S (c_X3_keepers l G Z b σ μ hR (xs (i + 1))) (cwV 1 hts gL_law_X3_keepers rfl rfl rfl (by decide +kernel) ⟨(Nat.le_of_ble_eq_true rfl), (Nat.le_of_ble_eq_true rfl)⟩) hK hP hD hS hA rfl rfl (by decide) (by decide) (by decide) (by decide) (fun _ => rfl) (va_recv hK hP (ci := 2) (q0 := 19) rfl rfl) rfl hl.1 rfl (Nat.le_of_ble_eq_true rfl) dL_law_1451 ⟨hc4, hs4⟩ (fun r2 v H locs hq hP hD hS => ?_)
  refine lv_istore (lv' := [(6, .int r2), (5, .int r), (0, .ref b0), (1, .ref (a 0)), (2, .ref (b 0)), (3, .ref q), (4, .int (nI i))]) hx hb dL_law_1454 hl (by decide) rfl (fun ls hl => ?_)
  obtain ⟨hq1, hq2, hq3⟩ := hq
  obtain ⟨Zx, σx, hRx⟩ : ∃ (Z9 : Nat) (σ9 : cS), Rl Z9 σ9 v := lc_any hq2 hq3
  refine lv_aload_n hx hb dL_law_1456 rfl (lv_at hl 4 rfl) ?_
  refine co_rV (As := []) (rest := []) S (c_X3_thrown l G Zx b σx v hRx) (cwV 0 hts gL_law_X3_thrown rfl rfl rfl (by decide +kernel) ⟨(Nat.le_of_ble_eq_true rfl), (Nat.le_of_ble_eq_true rfl)⟩) hK (pG_perm hP [19, 20, 21, 22, 23, 24, 25, 26, 27, 28, 29] rfl) (va_recv hK hP (ci := 2) (q0 := 19) rfl rfl) rfl hl.1 rfl (Nat.le_of_ble_eq_true rfl) dL_law_1457 ⟨hc4, hs4⟩ ?_
  refine lv_iload hx hb dL_law_1460 (lv_at hl 1 rfl) ?_
  refine lv_icmp_eq (tgt := 1467) hx hb dL_law_1462 (by decide) (fun c8 => ?_) (fun c8 => ?_)
  · refine lv_iload hx hb dL_law_1467 (lv_at hl 1 rfl) ?_
    refine lv_if_ne (tgt := 1484) hx hb dL_law_1469 (by decide) (fun c9 => ?_) (fun c9 => ?_)
    · rcases hp with ⟨h1, -⟩ | ⟨-, -, h3, h4⟩
      · exact absurd h1 c9
      · refine lv_goto (tgt := 1612) hx hb dL_law_1484 (by decide) ?_
        exact kk u.1 u.2.1 v u.2.2 H locs ls (by rw [h4]; exact (hq3 h3).up) hP hD hS (lv_sub hl [2, 3, 4, 5, 6] rfl)
    · rcases hp with ⟨-, h2, h3, h4⟩ | ⟨h1, -⟩
      · obtain ⟨e1, hRF⟩ := hq2 h2
        refine lv_aload_n hx hb dL_law_1472 rfl (lv_at hl 5 rfl) ?_
        refine lv_iconst (v := 0) hx hb dL_law_1473 (by decide) ?_
        refine va_lald hx hb hK hP 30 2 rfl rfl vin0 dL_law_1474 ?_
        refine lv_iload hx hb dL_law_1475 (lv_at hl 0 rfl) ?_
        refine lv_i2l (v := r2.toInt64) hx hb dL_law_1477 rfl ?_
        refine co_lcmp0 hx hb ((congrArg u.2.2 lc_z0).trans (h3.trans (by rw [e1]))) dL_law_1478 ?_
        refine lv_if_eq (tgt := 1484) hx hb dL_law_1479 (by decide) (fun _ => ?_) (fun c7 => absurd rfl c7)
        refine lv_goto (tgt := 1612) hx hb dL_law_1484 (by decide) ?_
        exact kk u.1 u.2.1 v u.2.2 H locs ls (by rw [h4]; exact hRF.up) hP hD hS (lv_sub hl [2, 3, 4, 5, 6] rfl)
      · exact absurd c9 h1
  · exact absurd (hq1.trans (pL_thr hp)) c8

set_option maxHeartbeats 4000000 in
set_option maxRecDepth 100000 in
theorem lc_owner {p : Program} {l : Launch} {e : Env} {s : State} {m : MethodId} {below : List Frame} {meth : Method} {c : Code} {Q : State → Prop} {b0 L i Z : Nat} {xs : Nat → Int32} {G : cG} {sa : Nat → Nat} {a b : Nat → Nat} {q : Nat} {cells slots : Nat} {σ ρ μ : cS} {o : Nat → Int64} {H : Heap} {locs : List Loc} {ls : Array Slot}
    (C9 : lwI p l s m c b0 L xs G sa i) (hR : Rl Z σ μ) (hZ : Z + 1 < 2 ^ 30) (hc4 : cells + 4 ≤ 601024) (hs4 : slots + 24 ≤ 7293034) (hP : pG G (wW G a b q (σ, ρ, o) μ) H) (hD : va_D (fun q => s.heap.size ≤ q) (wW G a b q (σ, ρ, o) μ)) (hS : va_S (fun q => s.heap.size ≤ q) s.heap H locs) (hl : lv_has ls 7 (lwL a b b0 q i))
    (kk : ∀ (σ' ρ' μ' : cS) (o' : Nat → Int64) (H' : Heap) (locs' : List Loc) (ls' : Array Slot), Rl (Z + 1) σ' μ' → pG G (wW G a b q (σ', ρ', o') μ') H' → va_D (fun q => s.heap.size ≤ q) (wW G a b q (σ', ρ', o') μ') → va_S (fun q => s.heap.size ≤ q) s.heap H' locs' → lv_has ls' 7 (lwL a b b0 q i) → W p l e room_1 s m #[Value.ref b0] below meth c H' locs' (cells + 4) (slots + 24) Q (F0 m 1612 ls' [])) :
    W p l e room_1 s m #[Value.ref b0] below meth c H locs cells slots Q (F0 m 1487 ls []) := by
  obtain ⟨S, hl9, hXs, hbl, hK, hX, hN, hi4, hL⟩ := C9
  obtain ⟨hx, hb, hml, hown, hts⟩ := id S
  have hA : ∀ q : Nat, s.heap.size ≤ q → (fun q : Nat => s.heap.size ≤ q) q := fun _ h => h
  have hl : lv_has ls 7 [(0, .ref b0), (1, .ref (a 0)), (2, .ref (b 0)), (3, .ref q), (4, .int (nI i))] := hl
  refine lv_aload_n hx hb dL_law_1487 rfl (lv_at hl 1 rfl) ?_
  refine lv_aload_n hx hb dL_law_1488 rfl (lv_at hl 0 rfl) ?_
  refine lv_iload hx hb dL_law_1489 (lv_at hl 4 rfl) ?_
  refine lv_iconst (v := 1) hx hb dL_law_1491 (by decide) ?_
  refine lv_iadd hx hb dL_law_1492 ?_
  refine co_sld (i := i + 1) hx hb hXs hbl hS (nI_add i 1) (by omega) hL dL_law_1493 ?_
  refine lv_aload_n hx hb dL_law_1494 rfl (lv_at hl 3 rfl) ?_
  refine co_lSiS (wr := wM G b μ) (w' := fun u : lS => wW G a b q u μ) (As := [.ref (a 0), .int (xs (i + 1)), .ref q]) (rest := []) [0, 1, 2, 3, 4, 5, 6, 7, 8, 9, 10, 11, 12, 13, 14, 15, 16, 17, 18, 30] [19, 20, 21, 22, 23, 24, 25, 26, 27, 28, 29] [11, 12, 13, 14, 15, 16, 17, 18, 19, 20, 21, 22, 23, 24, 25, 26, 27, 28, 29, 0, 1, 2, 3, 4, 5, 6, 7, 8, 9, 10, 30] S (c_L_owner l hl9 G sa a q σ ρ o (xs (i + 1))) (vx_cwSW 3 hts gL_law_L_owner rfl rfl rfl (by decide +kernel) ⟨(Nat.le_of_ble_eq_true rfl), (Nat.le_of_ble_eq_true rfl)⟩) hK hP hD hS hA hX hN rfl rfl (by decide) (by decide) (by decide) (by decide) (fun _ => rfl) rfl hl.1 rfl (Nat.le_of_ble_eq_true rfl) dL_law_1495 ⟨hc4, hs4⟩ (fun r u H locs hp hP hD hS => ?_)
  refine lv_istore (lv' := [(5, .int r), (0, .ref b0), (1, .ref (a 0)), (2, .ref (b 0)), (3, .ref q), (4, .int (nI i))]) hx hb dL_law_1498 hl (by decide) rfl (fun ls hl => ?_)
  refine lv_aload_n hx hb dL_law_1500 rfl (lv_at hl 3 rfl) ?_
  refine lv_aload_n hx hb dL_law_1501 rfl (lv_at hl 1 rfl) ?_
  refine lv_iload hx hb dL_law_1502 (lv_at hl 5 rfl) ?_
  refine lv_iconst (v := 1) hx hb dL_law_1504 (by decide) ?_
  refine lv_iadd hx hb dL_law_1505 ?_
  refine co_sld (i := i + 1) hx hb hXs hbl hS (nI_add i 1) (by omega) hL dL_law_1506 ?_
  refine co_mViS (wr := wL G a q u) (w' := fun v : cS => wW G a b q u v) (As := [.int (xs (i + 1))]) (rest := []) [19, 20, 21, 22, 23, 24, 25, 26, 27, 28, 29] [0, 1, 2, 3, 4, 5, 6, 7, 8, 9, 10, 11, 12, 13, 14, 15, 16, 17, 18, 30] [0, 1, 2, 3, 4, 5, 6, 7, 8, 9, 10, 11, 12, 13, 14, 15, 16, 17, 18, 20, 21, 22, 23, 24, 25, 26, 27, 28, 29, 30, 19] S (c_X3_owner l G Z b σ μ hR (xs (i + 1))) (cwV 1 hts gL_law_X3_owner rfl rfl rfl (by decide +kernel) ⟨(Nat.le_of_ble_eq_true rfl), (Nat.le_of_ble_eq_true rfl)⟩) hK hP hD hS hA rfl rfl (by decide) (by decide) (by decide) (by decide) (fun _ => rfl) (va_recv hK hP (ci := 2) (q0 := 19) rfl rfl) rfl hl.1 rfl (Nat.le_of_ble_eq_true rfl) dL_law_1507 ⟨hc4, hs4⟩ (fun r2 v H locs hq hP hD hS => ?_)
  refine lv_istore (lv' := [(6, .int r2), (5, .int r), (0, .ref b0), (1, .ref (a 0)), (2, .ref (b 0)), (3, .ref q), (4, .int (nI i))]) hx hb dL_law_1510 hl (by decide) rfl (fun ls hl => ?_)
  obtain ⟨hq1, hq2, hq3⟩ := hq
  obtain ⟨Zx, σx, hRx⟩ : ∃ (Z9 : Nat) (σ9 : cS), Rl Z9 σ9 v := lc_any hq2 hq3
  refine lv_aload_n hx hb dL_law_1512 rfl (lv_at hl 4 rfl) ?_
  refine co_rV (As := []) (rest := []) S (c_X3_thrown l G Zx b σx v hRx) (cwV 0 hts gL_law_X3_thrown rfl rfl rfl (by decide +kernel) ⟨(Nat.le_of_ble_eq_true rfl), (Nat.le_of_ble_eq_true rfl)⟩) hK (pG_perm hP [19, 20, 21, 22, 23, 24, 25, 26, 27, 28, 29] rfl) (va_recv hK hP (ci := 2) (q0 := 19) rfl rfl) rfl hl.1 rfl (Nat.le_of_ble_eq_true rfl) dL_law_1513 ⟨hc4, hs4⟩ ?_
  refine lv_iload hx hb dL_law_1516 (lv_at hl 1 rfl) ?_
  refine lv_icmp_eq (tgt := 1523) hx hb dL_law_1518 (by decide) (fun c8 => ?_) (fun c8 => ?_)
  · refine lv_iload hx hb dL_law_1523 (lv_at hl 1 rfl) ?_
    refine lv_if_ne (tgt := 1540) hx hb dL_law_1525 (by decide) (fun c9 => ?_) (fun c9 => ?_)
    · rcases hp with ⟨h1, -⟩ | ⟨-, -, h3, h4⟩
      · exact absurd h1 c9
      · refine lv_goto (tgt := 1612) hx hb dL_law_1540 (by decide) ?_
        exact kk u.1 u.2.1 v u.2.2 H locs ls (by rw [h4]; exact (hq3 h3).up) hP hD hS (lv_sub hl [2, 3, 4, 5, 6] rfl)
    · rcases hp with ⟨-, h2, h3, h4⟩ | ⟨h1, -⟩
      · obtain ⟨e1, hRF⟩ := hq2 h2
        refine lv_aload_n hx hb dL_law_1528 rfl (lv_at hl 5 rfl) ?_
        refine lv_iconst (v := 0) hx hb dL_law_1529 (by decide) ?_
        refine va_lald hx hb hK hP 30 2 rfl rfl vin0 dL_law_1530 ?_
        refine lv_iload hx hb dL_law_1531 (lv_at hl 0 rfl) ?_
        refine lv_i2l (v := r2.toInt64) hx hb dL_law_1533 rfl ?_
        refine co_lcmp0 hx hb ((congrArg u.2.2 lc_z0).trans (h3.trans (by rw [e1]))) dL_law_1534 ?_
        refine lv_if_eq (tgt := 1540) hx hb dL_law_1535 (by decide) (fun _ => ?_) (fun c7 => absurd rfl c7)
        refine lv_goto (tgt := 1612) hx hb dL_law_1540 (by decide) ?_
        exact kk u.1 u.2.1 v u.2.2 H locs ls (by rw [h4]; exact hRF.up) hP hD hS (lv_sub hl [2, 3, 4, 5, 6] rfl)
      · exact absurd c9 h1
  · exact absurd (hq1.trans (pL_thr hp)) c8

set_option maxHeartbeats 4000000 in
set_option maxRecDepth 100000 in
theorem lc_wrongPointers {p : Program} {l : Launch} {e : Env} {s : State} {m : MethodId} {below : List Frame} {meth : Method} {c : Code} {Q : State → Prop} {b0 L i Z : Nat} {xs : Nat → Int32} {G : cG} {sa : Nat → Nat} {a b : Nat → Nat} {q : Nat} {cells slots : Nat} {σ ρ μ : cS} {o : Nat → Int64} {H : Heap} {locs : List Loc} {ls : Array Slot}
    (C9 : lwI p l s m c b0 L xs G sa i) (hR : Rl Z σ μ) (hZ : Z + 1 < 2 ^ 30) (hc4 : cells + 4 ≤ 601024) (hs4 : slots + 24 ≤ 7293034) (hP : pG G (wW G a b q (σ, ρ, o) μ) H) (hD : va_D (fun q => s.heap.size ≤ q) (wW G a b q (σ, ρ, o) μ)) (hS : va_S (fun q => s.heap.size ≤ q) s.heap H locs) (hl : lv_has ls 7 (lwL a b b0 q i))
    (kk : ∀ (σ' ρ' μ' : cS) (o' : Nat → Int64) (H' : Heap) (locs' : List Loc) (ls' : Array Slot), Rl (Z + 1) σ' μ' → pG G (wW G a b q (σ', ρ', o') μ') H' → va_D (fun q => s.heap.size ≤ q) (wW G a b q (σ', ρ', o') μ') → va_S (fun q => s.heap.size ≤ q) s.heap H' locs' → lv_has ls' 7 (lwL a b b0 q i) → W p l e room_1 s m #[Value.ref b0] below meth c H' locs' (cells + 4) (slots + 24) Q (F0 m 1612 ls' [])) :
    W p l e room_1 s m #[Value.ref b0] below meth c H locs cells slots Q (F0 m 1543 ls []) := by
  obtain ⟨S, hl9, hXs, hbl, hK, hX, hN, hi4, hL⟩ := C9
  obtain ⟨hx, hb, hml, hown, hts⟩ := id S
  have hA : ∀ q : Nat, s.heap.size ≤ q → (fun q : Nat => s.heap.size ≤ q) q := fun _ h => h
  have hl : lv_has ls 7 [(0, .ref b0), (1, .ref (a 0)), (2, .ref (b 0)), (3, .ref q), (4, .int (nI i))] := hl
  refine lv_aload_n hx hb dL_law_1543 rfl (lv_at hl 1 rfl) ?_
  refine co_rV (As := []) (rest := []) S (c_X2_wrongPointers l G a σ ρ) (cwV 0 hts gL_law_X2_wrongPointers rfl rfl rfl (by decide +kernel) ⟨(Nat.le_of_ble_eq_true rfl), (Nat.le_of_ble_eq_true rfl)⟩) hK (pG_perm hP [0, 1, 2, 3, 4, 5, 6, 7, 8, 9, 10, 11, 12, 13, 14, 15, 16, 17, 18] rfl) (va_recv hK hP (ci := 1) (q0 := 0) rfl rfl) rfl hl.1 rfl (Nat.le_of_ble_eq_true rfl) dL_law_1544 ⟨by show cells + 0 ≤ 601024; omega, by show slots + 0 ≤ 7293034; omega⟩ ?_
  refine lv_aload_n hx hb dL_law_1547 rfl (lv_at hl 2 rfl) ?_
  refine co_mViS (wr := wL G a q (σ, ρ, o)) (w' := fun v : cS => wW G a b q (σ, ρ, o) v) (As := []) (rest := [.int (cwp σ 64)]) [19, 20, 21, 22, 23, 24, 25, 26, 27, 28, 29] [0, 1, 2, 3, 4, 5, 6, 7, 8, 9, 10, 11, 12, 13, 14, 15, 16, 17, 18, 30] [0, 1, 2, 3, 4, 5, 6, 7, 8, 9, 10, 11, 12, 13, 14, 15, 16, 17, 18, 20, 21, 22, 23, 24, 25, 26, 27, 28, 29, 30, 19] S (c_X3_wrongPointers l G Z b σ μ hR) (cwV 0 hts gL_law_X3_wrongPointers rfl rfl rfl (by decide +kernel) ⟨(Nat.le_of_ble_eq_true rfl), (Nat.le_of_ble_eq_true rfl)⟩) hK hP hD hS hA rfl rfl (by decide) (by decide) (by decide) (by decide) (fun _ => rfl) (va_recv hK hP (ci := 2) (q0 := 19) rfl rfl) rfl hl.1 rfl (Nat.le_of_ble_eq_true rfl) dL_law_1548 ⟨by show cells + 0 ≤ 601024; omega, by show slots + 0 ≤ 7293034; omega⟩ (fun r v H locs hq hP hD hS => ?_)
  obtain ⟨e1, hRF⟩ := hq.2.1 rfl
  refine lv_icmp_eq (tgt := 1612) hx hb dL_law_1551 (by decide) (fun c9 => ?_) (fun c9 => ?_)
  · exact W.widen (k := cells + 4) (n := slots + 24) (by omega) (by omega) (kk σ ρ v o H locs ls hRF.up hP hD hS hl)
  · exact absurd e1.symm c9

set_option maxHeartbeats 4000000 in
set_option maxRecDepth 100000 in
theorem lc_roundsToRight {p : Program} {l : Launch} {e : Env} {s : State} {m : MethodId} {below : List Frame} {meth : Method} {c : Code} {Q : State → Prop} {b0 L i Z : Nat} {xs : Nat → Int32} {G : cG} {sa : Nat → Nat} {a b : Nat → Nat} {q : Nat} {cells slots : Nat} {σ ρ μ : cS} {o : Nat → Int64} {H : Heap} {locs : List Loc} {ls : Array Slot}
    (C9 : lwI p l s m c b0 L xs G sa i) (hR : Rl Z σ μ) (hZ : Z + 1 < 2 ^ 30) (hc4 : cells + 4 ≤ 601024) (hs4 : slots + 24 ≤ 7293034) (hP : pG G (wW G a b q (σ, ρ, o) μ) H) (hD : va_D (fun q => s.heap.size ≤ q) (wW G a b q (σ, ρ, o) μ)) (hS : va_S (fun q => s.heap.size ≤ q) s.heap H locs) (hl : lv_has ls 7 (lwL a b b0 q i))
    (kk : ∀ (σ' ρ' μ' : cS) (o' : Nat → Int64) (H' : Heap) (locs' : List Loc) (ls' : Array Slot), Rl (Z + 1) σ' μ' → pG G (wW G a b q (σ', ρ', o') μ') H' → va_D (fun q => s.heap.size ≤ q) (wW G a b q (σ', ρ', o') μ') → va_S (fun q => s.heap.size ≤ q) s.heap H' locs' → lv_has ls' 7 (lwL a b b0 q i) → W p l e room_1 s m #[Value.ref b0] below meth c H' locs' (cells + 4) (slots + 24) Q (F0 m 1612 ls' [])) :
    W p l e room_1 s m #[Value.ref b0] below meth c H locs cells slots Q (F0 m 1556 ls []) := by
  obtain ⟨S, hl9, hXs, hbl, hK, hX, hN, hi4, hL⟩ := C9
  obtain ⟨hx, hb, hml, hown, hts⟩ := id S
  have hA : ∀ q : Nat, s.heap.size ≤ q → (fun q : Nat => s.heap.size ≤ q) q := fun _ h => h
  have hl : lv_has ls 7 [(0, .ref b0), (1, .ref (a 0)), (2, .ref (b 0)), (3, .ref q), (4, .int (nI i))] := hl
  refine lv_aload_n hx hb dL_law_1556 rfl (lv_at hl 1 rfl) ?_
  refine lv_aload_n hx hb dL_law_1557 rfl (lv_at hl 0 rfl) ?_
  refine lv_iload hx hb dL_law_1558 (lv_at hl 4 rfl) ?_
  refine lv_iconst (v := 1) hx hb dL_law_1560 (by decide) ?_
  refine lv_iadd hx hb dL_law_1561 ?_
  refine co_sld (i := i + 1) hx hb hXs hbl hS (nI_add i 1) (by omega) hL dL_law_1562 ?_
  refine lv_aload_n hx hb dL_law_1563 rfl (lv_at hl 3 rfl) ?_
  refine co_lSiS (wr := wM G b μ) (w' := fun u : lS => wW G a b q u μ) (As := [.ref (a 0), .int (xs (i + 1)), .ref q]) (rest := []) [0, 1, 2, 3, 4, 5, 6, 7, 8, 9, 10, 11, 12, 13, 14, 15, 16, 17, 18, 30] [19, 20, 21, 22, 23, 24, 25, 26, 27, 28, 29] [11, 12, 13, 14, 15, 16, 17, 18, 19, 20, 21, 22, 23, 24, 25, 26, 27, 28, 29, 0, 1, 2, 3, 4, 5, 6, 7, 8, 9, 10, 30] S (c_L_roundsToRight l hl9 G sa a q σ ρ o (xs (i + 1))) (vx_cwSW 3 hts gL_law_L_roundsToRight rfl rfl rfl (by decide +kernel) ⟨(Nat.le_of_ble_eq_true rfl), (Nat.le_of_ble_eq_true rfl)⟩) hK hP hD hS hA hX hN rfl rfl (by decide) (by decide) (by decide) (by decide) (fun _ => rfl) rfl hl.1 rfl (Nat.le_of_ble_eq_true rfl) dL_law_1564 ⟨hc4, hs4⟩ (fun r u H locs hp hP hD hS => ?_)
  refine lv_istore (lv' := [(5, .int r), (0, .ref b0), (1, .ref (a 0)), (2, .ref (b 0)), (3, .ref q), (4, .int (nI i))]) hx hb dL_law_1567 hl (by decide) rfl (fun ls hl => ?_)
  refine lv_aload_n hx hb dL_law_1569 rfl (lv_at hl 3 rfl) ?_
  refine lv_aload_n hx hb dL_law_1570 rfl (lv_at hl 1 rfl) ?_
  refine lv_iload hx hb dL_law_1571 (lv_at hl 5 rfl) ?_
  refine lv_iconst (v := 1) hx hb dL_law_1573 (by decide) ?_
  refine lv_iadd hx hb dL_law_1574 ?_
  refine co_sld (i := i + 1) hx hb hXs hbl hS (nI_add i 1) (by omega) hL dL_law_1575 ?_
  refine co_mViS (wr := wL G a q u) (w' := fun v : cS => wW G a b q u v) (As := [.int (xs (i + 1))]) (rest := []) [19, 20, 21, 22, 23, 24, 25, 26, 27, 28, 29] [0, 1, 2, 3, 4, 5, 6, 7, 8, 9, 10, 11, 12, 13, 14, 15, 16, 17, 18, 30] [0, 1, 2, 3, 4, 5, 6, 7, 8, 9, 10, 11, 12, 13, 14, 15, 16, 17, 18, 20, 21, 22, 23, 24, 25, 26, 27, 28, 29, 30, 19] S (c_X3_roundsToRight l G Z b σ μ hR (xs (i + 1))) (cwV 1 hts gL_law_X3_roundsToRight rfl rfl rfl (by decide +kernel) ⟨(Nat.le_of_ble_eq_true rfl), (Nat.le_of_ble_eq_true rfl)⟩) hK hP hD hS hA rfl rfl (by decide) (by decide) (by decide) (by decide) (fun _ => rfl) (va_recv hK hP (ci := 2) (q0 := 19) rfl rfl) rfl hl.1 rfl (Nat.le_of_ble_eq_true rfl) dL_law_1576 ⟨hc4, hs4⟩ (fun r2 v H locs hq hP hD hS => ?_)
  refine lv_istore (lv' := [(6, .int r2), (5, .int r), (0, .ref b0), (1, .ref (a 0)), (2, .ref (b 0)), (3, .ref q), (4, .int (nI i))]) hx hb dL_law_1579 hl (by decide) rfl (fun ls hl => ?_)
  obtain ⟨hq1, hq2, hq3⟩ := hq
  obtain ⟨Zx, σx, hRx⟩ : ∃ (Z9 : Nat) (σ9 : cS), Rl Z9 σ9 v := lc_any hq2 hq3
  refine lv_aload_n hx hb dL_law_1581 rfl (lv_at hl 4 rfl) ?_
  refine co_rV (As := []) (rest := []) S (c_X3_thrown l G Zx b σx v hRx) (cwV 0 hts gL_law_X3_thrown rfl rfl rfl (by decide +kernel) ⟨(Nat.le_of_ble_eq_true rfl), (Nat.le_of_ble_eq_true rfl)⟩) hK (pG_perm hP [19, 20, 21, 22, 23, 24, 25, 26, 27, 28, 29] rfl) (va_recv hK hP (ci := 2) (q0 := 19) rfl rfl) rfl hl.1 rfl (Nat.le_of_ble_eq_true rfl) dL_law_1582 ⟨hc4, hs4⟩ ?_
  refine lv_iload hx hb dL_law_1585 (lv_at hl 1 rfl) ?_
  refine lv_icmp_eq (tgt := 1592) hx hb dL_law_1587 (by decide) (fun c8 => ?_) (fun c8 => ?_)
  · refine lv_iload hx hb dL_law_1592 (lv_at hl 1 rfl) ?_
    refine lv_if_ne (tgt := 1609) hx hb dL_law_1594 (by decide) (fun c9 => ?_) (fun c9 => ?_)
    · rcases hp with ⟨h1, -⟩ | ⟨-, -, h3, h4⟩
      · exact absurd h1 c9
      · refine lv_goto (tgt := 1612) hx hb dL_law_1609 (by decide) ?_
        exact kk u.1 u.2.1 v u.2.2 H locs ls (by rw [h4]; exact (hq3 h3).up) hP hD hS (lv_sub hl [2, 3, 4, 5, 6] rfl)
    · rcases hp with ⟨-, h2, h3, h4⟩ | ⟨h1, -⟩
      · obtain ⟨e1, hRF⟩ := hq2 h2
        refine lv_aload_n hx hb dL_law_1597 rfl (lv_at hl 5 rfl) ?_
        refine lv_iconst (v := 0) hx hb dL_law_1598 (by decide) ?_
        refine va_lald hx hb hK hP 30 2 rfl rfl vin0 dL_law_1599 ?_
        refine lv_iload hx hb dL_law_1600 (lv_at hl 0 rfl) ?_
        refine lv_i2l (v := r2.toInt64) hx hb dL_law_1602 rfl ?_
        refine co_lcmp0 hx hb ((congrArg u.2.2 lc_z0).trans (h3.trans (by rw [e1]))) dL_law_1603 ?_
        refine lv_if_eq (tgt := 1609) hx hb dL_law_1604 (by decide) (fun _ => ?_) (fun c7 => absurd rfl c7)
        refine lv_goto (tgt := 1612) hx hb dL_law_1609 (by decide) ?_
        exact kk u.1 u.2.1 v u.2.2 H locs ls (by rw [h4]; exact hRF.up) hP hD hS (lv_sub hl [2, 3, 4, 5, 6] rfl)
      · exact absurd c9 h1
  · exact absurd (hq1.trans (pL_thr hp)) c8
