/-! the law's reading of its script; its calls of the class -/
def lo (v : Int32) (N : Nat) : Nat := v.toBitVec.toNat % 2 ^ 31 % N
theorem lo_lt {v : Int32} {N : Nat} (h : 0 < N) : lo v N < N := Nat.mod_lt _ h
abbrev rm_L_low : Room := { frames := 0, cells := 0, slots := 0, locals := 0 }
theorem c_L_low (l : Launch) (G : cG) (v : Int32) (N : Nat) (hN0 : 0 < N) (hN : N < 2 ^ 31) : MetR l yL_low wsL_low rm_L_low G ([] : va_W) [.int v, .int (nI N)] (nI (lo v N)) := by
  refine co_bodyR (cc := cL_low) (maxL := 2) (ret := (some .int)) (by decide) rfl (Nat.le_of_ble_eq_true rfl) ?_
  intro p e s m args below meth c S hr hlocks hK hP ls hl
  have S : CallFix p m c cL_low 2 s args wsL_low RL := S
  obtain ⟨hx, hb, hml, hown, hts⟩ := id S
  have hl : lv_has ls 2 [(0, .int v), (1, .int (nI N))] := hl
  refine lv_iload_n hx hb dL_low_0 rfl (lv_at hl 0 rfl) ?_
  refine lv_ldc (v := 2147483647) hx hb hown (hts (.constant RL 9 2147483647) (by decide +kernel)) dL_low_1 ?_
  refine lv_iand hx hb dL_low_3 ?_
  refine co_eq (pk_and v 31 (by decide)) ?_
  refine lv_iload_n hx hb dL_low_4 rfl (lv_at hl 1 rfl) ?_
  refine lv_irem hx hb dL_low_5 (nI_ne0 hN0 hN) ?_
  refine co_eq (pk_rem (Nat.mod_lt _ (by decide)) hN0 hN) ?_
  exact co_endR S hr hlocks dL_low_6 rfl
/-- what the script's k-th cell tells, or what stands in for it -/
def cel (L : Nat) (xs : Nat → Int32) (k : Nat) : Int32 := if k < L then xs k else 54133 * (nI k + 39) + 1741783
abbrev rm_L_cell : Room := { frames := 0, cells := 0, slots := 0, locals := 0 }
theorem c_L_cell (l : Launch) (b L : Nat) (xs : Nat → Int32) (hL : L < 2 ^ 31) (k : Nat) (hk : k < 2 ^ 31) : Met l yL_cell wsL_cell rm_L_cell (va_Pc [.ref b, .int (nI k)] (fun U => va_X b L xs U U.heap ∧ b < U.heap.size)) (QcRead (cel L xs k)) 0 0 (fun _ => False) := by
  refine Met.ofW (cc := cL_cell) (maxL := 2) (ret := (some .int)) (by decide) rfl ?_
  intro p e s m args below meth c s₁ B hml hv
  obtain ⟨rfl, hX, hbl⟩ := hv
  have hts := atoms_spec (ws := wsL_cell) B.pre
  have hl := lv_entry [.ref b, .int (nI k)] (n := 2) (Nat.le_of_ble_eq_true rfl)
  rw [lg_entry_eq]
  generalize (lg_sl [Value.ref b, Value.int (nI k)] ++ List.replicate (2 - (lg_sl [Value.ref b, Value.int (nI k)]).length) Slot.unset).toArray = ls at hl ⊢
  have hl : lv_has ls 2 [(0, .ref b), (1, .int (nI k))] := hl
  have S : CallFix p m c cL_cell 2 s [Value.ref b, Value.int (nI k)].toArray wsL_cell RL := ⟨B.exec, B.bytes, hml, findClass_of_methodNamed B.named, hts⟩
  have hr := B.returns
  have hlocks := B.notSynchronized
  obtain ⟨hx, hb, hml, hown, hts⟩ := id S
  refine lv_iload_n hx hb dL_cell_0 rfl (lv_at hl 1 rfl) ?_
  refine lv_aload_n hx hb dL_cell_1 rfl (lv_at hl 0 rfl) ?_
  refine va_slen hx hb hX hbl (A := fun _ => False) id va_S.rf dL_cell_2 ?_
  refine lv_icmp_ge (tgt := 12) hx hb dL_cell_3 (by decide) (fun c1 => ?_) (fun c1 => ?_)
  · have q : ¬ k < L := fun z => nI_ge z hL c1
    refine lv_ldc (v := 54133) hx hb hown (hts (.constant RL 7 54133) (by decide +kernel)) dL_cell_12 ?_
    refine lv_iload_n hx hb dL_cell_14 rfl (lv_at hl 1 rfl) ?_
    refine lv_bipush (v := 39) hx hb dL_cell_15 (by decide) ?_
    refine lv_iadd hx hb dL_cell_17 ?_
    refine lv_imul hx hb dL_cell_18 ?_
    refine lv_ldc (v := 1741783) hx hb hown (hts (.constant RL 8 1741783) (by decide +kernel)) dL_cell_19 ?_
    refine lv_iadd hx hb dL_cell_21 ?_
    exact co_endR S hr hlocks dL_cell_22 (by rw [cel, if_neg q])
  · have q : k < L := by
      rcases Nat.lt_or_ge k L with z | z
      · exact z
      · exact absurd (nI_le z hk) c1
    refine lv_aload_n hx hb dL_cell_6 rfl (lv_at hl 0 rfl) ?_
    refine lv_iload_n hx hb dL_cell_7 rfl (lv_at hl 1 rfl) ?_
    refine va_sld hx hb hX hbl (A := fun _ => False) id va_S.rf (vp_in_nI q hL) dL_cell_8 ?_
    refine lv_goto (tgt := 22) hx hb dL_cell_9 (by decide) ?_
    exact co_endR S hr hlocks dL_cell_22 (by rw [cel, if_pos q, nI_clamp hk])
section COC9
variable {p : Program} {l : Launch} {e : Env} {R : Room} {s : State} {m : MethodId} {args : Array Value} {below : List Frame} {meth : Method} {c : Code} {H : Heap} {locs : List Loc} {cells slots : Nat} {Q : State → Prop}
  {Ts ws : List Cond} {cc bytes : ByteArray} {nL maxL index n pc : Nat} {own : String} {y : MethodName} {ret : Option FieldType} {rm : Room}
  {As rest st0 : List Value} {ls : Array Slot} {r : Int32}
theorem co_cS {b L : Nat} {xs : Nat → Int32} (S : CallFix p m c cc nL s args Ts own) (hM : Met l y ws rm (va_Pc As (fun U => va_X b L xs U U.heap ∧ b < U.heap.size)) (QcRead r) 0 0 (fun _ => False)) (cw : CallB R s args own index y bytes maxL ret ws rm 0 0 n ∧ (Cond.static y).before args s = true) (hX : va_X b L xs s s.heap) (hbl : b < s.heap.size) (hS : va_S (fun q => s.heap.size ≤ q) s.heap H locs) (hn : As.length = n) (hl : ls.size = nL) (hst : st0 = As.reverse ++ rest) (hW : (rest.map fun v => v.category).sum ≤ 8) (hdg : decode cc pc = .ok (.invokestatic index, 3)) (hf : cells + 0 ≤ R.cells ∧ slots + 0 ≤ R.slots)
    (kk : W p l e R s m args below meth c H locs cells slots Q (F0 m (pc + 3) ls (.int r :: rest))) : W p l e R s m args below meth c H locs cells slots Q (F0 m pc ls st0) := by
  subst hst
  exact W.callR (W.runS S hM cw ⟨fun a U g mk q => by obtain ⟨q0, qX, qb⟩ := q; exact ⟨q0, va_X.moved (u := U) (U := U.calling g mk a) (Vm.Alike.refl U.vm) qX, qb⟩, fun U hU hW => ⟨rfl, by rw [hU]; exact va_X.moved hW.alike (hX.kept (hS.2.1 b hbl (Nat.not_le.mpr hbl))), by rw [hU]; exact Nat.lt_of_lt_of_le hbl hS.1⟩⟩ rfl hn hl rfl (lv_room hW) hdg hf) kk
end COC9
theorem cdA_le (σ : cS) (x : Int32) : cdA σ x ≤ 2 := by
  unfold cdA; repeat' split
  all_goals decide
theorem cdC_le (σ : cS) (x : Int32) : cdC σ x ≤ 2 := by
  unfold cdC; repeat' split
  all_goals decide
theorem cdJ_le (σ : cS) (x v : Int32) : cdJ σ x v ≤ 2 := by
  unfold cdJ; repeat' split
  all_goals decide
theorem cdW_le (σ : cS) (x k v : Int32) : cdW σ x k v ≤ 2 := by
  unfold cdW; repeat' split
  all_goals decide
/-- what 'calls' tells: the answer, or -3 -/
def pC (cd : Nat) (r0 : Int32) (F σ : cS) (r : Int32) (u : cS × cS) : Prop := (cd = 0 ∧ r = r0 ∧ u.1 = F) ∨ (cd = 2 ∧ r = -3 ∧ u.1 = σ)

abbrev rm_L_calls : Room := { frames := 9, cells := 4, slots := 24, locals := 156 }
set_option maxHeartbeats 4000000 in
set_option maxRecDepth 100000 in
theorem c_L_calls0 (l : Launch) (hl9 : l.stackTraces = false) (G : cG) (sa : Nat → Nat) (a : Nat → Nat) (σ ρ : cS) (n o v : Int32) (hc1 : ¬ cdC σ n = 1) : MetN l yL_calls wsL_calls rm_L_calls G sa (wO G a σ ρ) [.ref (a 0), .int 0, .int n, .int o, .int v] (fun u : cS × cS => wO G a u.1 u.2) (pC (cdC σ n) (cnt (blS σ n n n n 0) 64) (blS σ n n n n) σ) 4 24 := by
  refine co_bodyNW (cc := cL_calls) (maxL := 6) (ret := some .int) (hh := [(0, 122, 123, 43)]) (by decide) rfl (Nat.le_of_ble_eq_true rfl) ?_
  intro p e s m args below meth c S hr hlocks htb hK A hA hP hD hS hX ls hl
  have S : CallFix p m c cL_calls 6 s args wsL_calls RL := S
  obtain ⟨hx, hb, hml, hown, hts⟩ := id S
  have hl : lv_has ls 6 [(0, .ref (a 0)), (1, .int 0), (2, .int n), (3, .int o), (4, .int v)] := hl
  refine lv_iload_n hx hb dL_calls_0 rfl (lv_at hl 1 rfl) ?_
  refine lv_if_ne (tgt := 12) hx hb dL_calls_1 (by decide) (fun c1 => absurd rfl c1) (fun _ => ?_)
  refine lv_aload_n hx hb dL_calls_4 rfl (lv_at hl 0 rfl) ?_
  refine lv_iload_n hx hb dL_calls_5 rfl (lv_at hl 2 rfl) ?_
  refine co_xViS (wr := []) (w' := fun u : cS × cS => wO G a u.1 u.2) (As := [.int n]) (rest := []) [0, 1, 2, 3, 4, 5, 6, 7, 8, 9, 10, 11, 12, 13, 14, 15, 16, 17, 18] [] [0, 1, 2, 3, 4, 5, 6, 7, 8, 9, 10, 11, 12, 13, 14, 15, 16, 17, 18] S (c_X2_create l hl9 G sa a σ ρ n) (cwV 1 hts gL_calls_X2_create rfl rfl rfl (by decide +kernel) ⟨(Nat.le_of_ble_eq_true rfl), (Nat.le_of_ble_eq_true rfl)⟩) hK hP hD hS hA hX rfl rfl (by decide) (by decide) (by decide) (by decide) (fun _ => rfl) (va_recv hK hP (ci := 1) (q0 := 0) rfl rfl) rfl hl.1 rfl (Nat.le_of_ble_eq_true rfl) dL_calls_6 ⟨(Nat.le_of_ble_eq_true rfl), (Nat.le_of_ble_eq_true rfl)⟩ (fun E ce q9 u H locs hp hP hD hS h1 h2 h3 => ?_) (fun r u H locs hp hP hD hS => ?_)
  · obtain ⟨hp, hu⟩ := hp
    rcases hp with ⟨k1, -⟩ | ⟨k2, e9⟩ | ⟨k3, -⟩
    · exact absurd k1 hc1
    · subst e9
      refine vx_catch (name := "java/lang/IllegalStateException") hown [] ⟨0, 122, 123, 43⟩ [] htb (fun z hz => by cases hz) rfl (by decide) (hts (.classLink RL 43 "java/lang/IllegalStateException") (by decide +kernel)) (va_Nw.use rfl hX.2.1.2.1) h1 h2 h3 ?_
      refine lv_astore (lv' := [(5, .ref q9), (0, .ref (a 0)), (1, .int 0), (2, .int n), (3, .int o), (4, .int v)]) hx hb dL_calls_123 hl (by decide) rfl (fun ls hl => ?_)
      refine lv_bipush (v := (-3)) hx hb dL_calls_125 (by decide) ?_
      exact co_endN u S hr hlocks dL_calls_127 hK hP hD hS (Or.inr ⟨k2, rfl, hu⟩) (Nat.le_of_ble_eq_true rfl) (Nat.le_of_ble_eq_true rfl)
    · exact absurd (cdC_le σ n) (by omega)
  · obtain ⟨w1, w2, w3⟩ := hp
    refine lv_goto (tgt := 122) hx hb dL_calls_9 (by decide) ?_
    exact co_endN u S hr hlocks dL_calls_122 hK hP hD hS (Or.inl ⟨w1, w2, w3⟩) (Nat.le_of_ble_eq_true rfl) (Nat.le_of_ble_eq_true rfl)

set_option maxHeartbeats 4000000 in
set_option maxRecDepth 100000 in
theorem c_L_calls1 (l : Launch) (hl9 : l.stackTraces = false) (G : cG) (sa : Nat → Nat) (a : Nat → Nat) (σ ρ : cS) (n o v : Int32) (hc1 : ¬ cdJ σ n o = 1) : MetN l yL_calls wsL_calls rm_L_calls G sa (wO G a σ ρ) [.ref (a 0), .int 1, .int n, .int o, .int v] (fun u : cS × cS => wO G a u.1 u.2) (pC (cdJ σ n o) (fnR σ o n) (jnS σ n o) σ) 4 24 := by
  refine co_bodyNW (cc := cL_calls) (maxL := 6) (ret := some .int) (hh := [(0, 122, 123, 43)]) (by decide) rfl (Nat.le_of_ble_eq_true rfl) ?_
  intro p e s m args below meth c S hr hlocks htb hK A hA hP hD hS hX ls hl
  have S : CallFix p m c cL_calls 6 s args wsL_calls RL := S
  obtain ⟨hx, hb, hml, hown, hts⟩ := id S
  have hl : lv_has ls 6 [(0, .ref (a 0)), (1, .int 1), (2, .int n), (3, .int o), (4, .int v)] := hl
  refine lv_iload_n hx hb dL_calls_0 rfl (lv_at hl 1 rfl) ?_
  refine lv_if_ne (tgt := 12) hx hb dL_calls_1 (by decide) (fun _ => ?_) (fun c1 => absurd c1 (by decide))
  refine lv_iload_n hx hb dL_calls_12 rfl (lv_at hl 1 rfl) ?_
  refine lv_iconst (v := 1) hx hb dL_calls_13 (by decide) ?_
  refine lv_icmp_ne (tgt := 26) hx hb dL_calls_14 (by decide) (fun c1 => absurd rfl c1) (fun _ => ?_)
  refine lv_aload_n hx hb dL_calls_17 rfl (lv_at hl 0 rfl) ?_
  refine lv_iload_n hx hb dL_calls_18 rfl (lv_at hl 2 rfl) ?_
  refine lv_iload_n hx hb dL_calls_19 rfl (lv_at hl 3 rfl) ?_
  refine co_xViS (wr := []) (w' := fun u : cS × cS => wO G a u.1 u.2) (As := [.int n, .int o]) (rest := []) [0, 1, 2, 3, 4, 5, 6, 7, 8, 9, 10, 11, 12, 13, 14, 15, 16, 17, 18] [] [0, 1, 2, 3, 4, 5, 6, 7, 8, 9, 10, 11, 12, 13, 14, 15, 16, 17, 18] S (c_X2_join l hl9 G sa a σ ρ n o) (cwV 2 hts gL_calls_X2_join rfl rfl rfl (by decide +kernel) ⟨(Nat.le_of_ble_eq_true rfl), (Nat.le_of_ble_eq_true rfl)⟩) hK hP hD hS hA hX rfl rfl (by decide) (by decide) (by decide) (by decide) (fun _ => rfl) (va_recv hK hP (ci := 1) (q0 := 0) rfl rfl) rfl hl.1 rfl (Nat.le_of_ble_eq_true rfl) dL_calls_20 ⟨(Nat.le_of_ble_eq_true rfl), (Nat.le_of_ble_eq_true rfl)⟩ (fun E ce q9 u H locs hp hP hD hS h1 h2 h3 => ?_) (fun r u H locs hp hP hD hS => ?_)
  · obtain ⟨hp, hu⟩ := hp
    rcases hp with ⟨k1, -⟩ | ⟨k2, e9⟩ | ⟨k3, -⟩
    · exact absurd k1 hc1
    · subst e9
      refine vx_catch (name := "java/lang/IllegalStateException") hown [] ⟨0, 122, 123, 43⟩ [] htb (fun z hz => by cases hz) rfl (by decide) (hts (.classLink RL 43 "java/lang/IllegalStateException") (by decide +kernel)) (va_Nw.use rfl hX.2.1.2.1) h1 h2 h3 ?_
      refine lv_astore (lv' := [(5, .ref q9), (0, .ref (a 0)), (1, .int 1), (2, .int n), (3, .int o), (4, .int v)]) hx hb dL_calls_123 hl (by decide) rfl (fun ls hl => ?_)
      refine lv_bipush (v := (-3)) hx hb dL_calls_125 (by decide) ?_
      exact co_endN u S hr hlocks dL_calls_127 hK hP hD hS (Or.inr ⟨k2, rfl, hu⟩) (Nat.le_of_ble_eq_true rfl) (Nat.le_of_ble_eq_true rfl)
    · exact absurd (cdJ_le σ n o) (by omega)
  · obtain ⟨w1, w2, w3⟩ := hp
    refine lv_goto (tgt := 122) hx hb dL_calls_23 (by decide) ?_
    exact co_endN u S hr hlocks dL_calls_122 hK hP hD hS (Or.inl ⟨w1, w2, w3⟩) (Nat.le_of_ble_eq_true rfl) (Nat.le_of_ble_eq_true rfl)

set_option maxHeartbeats 4000000 in
set_option maxRecDepth 100000 in
theorem c_L_calls2 (l : Launch) (hl9 : l.stackTraces = false) (G : cG) (sa : Nat → Nat) (a : Nat → Nat) (σ ρ : cS) (n o v : Int32) (hc1 : ¬ cdA σ n = 1) : MetN l yL_calls wsL_calls rm_L_calls G sa (wO G a σ ρ) [.ref (a 0), .int 2, .int n, .int o, .int v] (fun u : cS × cS => wO G a u.1 u.2) (pC (cdA σ n) (cnt (saS σ n 0 0) 64) (saS σ n 0) σ) 4 24 := by
  refine co_bodyNW (cc := cL_calls) (maxL := 6) (ret := some .int) (hh := [(0, 122, 123, 43)]) (by decide) rfl (Nat.le_of_ble_eq_true rfl) ?_
  intro p e s m args below meth c S hr hlocks htb hK A hA hP hD hS hX ls hl
  have S : CallFix p m c cL_calls 6 s args wsL_calls RL := S
  obtain ⟨hx, hb, hml, hown, hts⟩ := id S
  have hl : lv_has ls 6 [(0, .ref (a 0)), (1, .int 2), (2, .int n), (3, .int o), (4, .int v)] := hl
  refine lv_iload_n hx hb dL_calls_0 rfl (lv_at hl 1 rfl) ?_
  refine lv_if_ne (tgt := 12) hx hb dL_calls_1 (by decide) (fun _ => ?_) (fun c1 => absurd c1 (by decide))
  refine lv_iload_n hx hb dL_calls_12 rfl (lv_at hl 1 rfl) ?_
  refine lv_iconst (v := 1) hx hb dL_calls_13 (by decide) ?_
  refine lv_icmp_ne (tgt := 26) hx hb dL_calls_14 (by decide) (fun _ => ?_) (fun c1 => absurd c1 (by decide))
  refine lv_iload_n hx hb dL_calls_26 rfl (lv_at hl 1 rfl) ?_
  refine lv_iconst (v := 2) hx hb dL_calls_27 (by decide) ?_
  refine lv_icmp_ne (tgt := 39) hx hb dL_calls_28 (by decide) (fun c1 => absurd rfl c1) (fun _ => ?_)
  refine lv_aload_n hx hb dL_calls_31 rfl (lv_at hl 0 rfl) ?_
  refine lv_iload_n hx hb dL_calls_32 rfl (lv_at hl 2 rfl) ?_
  refine co_xViS (wr := []) (w' := fun u : cS × cS => wO G a u.1 u.2) (As := [.int n]) (rest := []) [0, 1, 2, 3, 4, 5, 6, 7, 8, 9, 10, 11, 12, 13, 14, 15, 16, 17, 18] [] [0, 1, 2, 3, 4, 5, 6, 7, 8, 9, 10, 11, 12, 13, 14, 15, 16, 17, 18] S (c_X2_fail l hl9 G sa a σ ρ n) (cwV 1 hts gL_calls_X2_fail rfl rfl rfl (by decide +kernel) ⟨(Nat.le_of_ble_eq_true rfl), (Nat.le_of_ble_eq_true rfl)⟩) hK hP hD hS hA hX rfl rfl (by decide) (by decide) (by decide) (by decide) (fun _ => rfl) (va_recv hK hP (ci := 1) (q0 := 0) rfl rfl) rfl hl.1 rfl (Nat.le_of_ble_eq_true rfl) dL_calls_33 ⟨(Nat.le_of_ble_eq_true rfl), (Nat.le_of_ble_eq_true rfl)⟩ (fun E ce q9 u H locs hp hP hD hS h1 h2 h3 => ?_) (fun r u H locs hp hP hD hS => ?_)
  · obtain ⟨hp, hu⟩ := hp
    rcases hp with ⟨k1, -⟩ | ⟨k2, e9⟩ | ⟨k3, -⟩
    · exact absurd k1 hc1
    · subst e9
      refine vx_catch (name := "java/lang/IllegalStateException") hown [] ⟨0, 122, 123, 43⟩ [] htb (fun z hz => by cases hz) rfl (by decide) (hts (.classLink RL 43 "java/lang/IllegalStateException") (by decide +kernel)) (va_Nw.use rfl hX.2.1.2.1) h1 h2 h3 ?_
      refine lv_astore (lv' := [(5, .ref q9), (0, .ref (a 0)), (1, .int 2), (2, .int n), (3, .int o), (4, .int v)]) hx hb dL_calls_123 hl (by decide) rfl (fun ls hl => ?_)
      refine lv_bipush (v := (-3)) hx hb dL_calls_125 (by decide) ?_
      exact co_endN u S hr hlocks dL_calls_127 hK hP hD hS (Or.inr ⟨k2, rfl, hu⟩) (Nat.le_of_ble_eq_true rfl) (Nat.le_of_ble_eq_true rfl)
    · exact absurd (cdA_le σ n) (by omega)
  · obtain ⟨w1, w2, w3⟩ := hp
    refine lv_goto (tgt := 122) hx hb dL_calls_36 (by decide) ?_
    exact co_endN u S hr hlocks dL_calls_122 hK hP hD hS (Or.inl ⟨w1, w2, w3⟩) (Nat.le_of_ble_eq_true rfl) (Nat.le_of_ble_eq_true rfl)

set_option maxHeartbeats 4000000 in
set_option maxRecDepth 100000 in
theorem c_L_calls3 (l : Launch) (hl9 : l.stackTraces = false) (G : cG) (sa : Nat → Nat) (a : Nat → Nat) (σ ρ : cS) (n o v : Int32) (hc1 : ¬ cdA σ n = 1) : MetN l yL_calls wsL_calls rm_L_calls G sa (wO G a σ ρ) [.ref (a 0), .int 3, .int n, .int o, .int v] (fun u : cS × cS => wO G a u.1 u.2) (pC (cdA σ n) (cnt (lvS σ n 0) 64) (lvS σ n) σ) 4 24 := by
  refine co_bodyNW (cc := cL_calls) (maxL := 6) (ret := some .int) (hh := [(0, 122, 123, 43)]) (by decide) rfl (Nat.le_of_ble_eq_true rfl) ?_
  intro p e s m args below meth c S hr hlocks htb hK A hA hP hD hS hX ls hl
  have S : CallFix p m c cL_calls 6 s args wsL_calls RL := S
  obtain ⟨hx, hb, hml, hown, hts⟩ := id S
  have hl : lv_has ls 6 [(0, .ref (a 0)), (1, .int 3), (2, .int n), (3, .int o), (4, .int v)] := hl
  refine lv_iload_n hx hb dL_calls_0 rfl (lv_at hl 1 rfl) ?_
  refine lv_if_ne (tgt := 12) hx hb dL_calls_1 (by decide) (fun _ => ?_) (fun c1 => absurd c1 (by decide))
  refine lv_iload_n hx hb dL_calls_12 rfl (lv_at hl 1 rfl) ?_
  refine lv_iconst (v := 1) hx hb dL_calls_13 (by decide) ?_
  refine lv_icmp_ne (tgt := 26) hx hb dL_calls_14 (by decide) (fun _ => ?_) (fun c1 => absurd c1 (by decide))
  refine lv_iload_n hx hb dL_calls_26 rfl (lv_at hl 1 rfl) ?_
  refine lv_iconst (v := 2) hx hb dL_calls_27 (by decide) ?_
  refine lv_icmp_ne (tgt := 39) hx hb dL_calls_28 (by decide) (fun _ => ?_) (fun c1 => absurd c1 (by decide))
  refine lv_iload_n hx hb dL_calls_39 rfl (lv_at hl 1 rfl) ?_
  refine lv_iconst (v := 3) hx hb dL_calls_40 (by decide) ?_
  refine lv_icmp_ne (tgt := 52) hx hb dL_calls_41 (by decide) (fun c1 => absurd rfl c1) (fun _ => ?_)
  refine lv_aload_n hx hb dL_calls_44 rfl (lv_at hl 0 rfl) ?_
  refine lv_iload_n hx hb dL_calls_45 rfl (lv_at hl 2 rfl) ?_
  refine co_xViS (wr := []) (w' := fun u : cS × cS => wO G a u.1 u.2) (As := [.int n]) (rest := []) [0, 1, 2, 3, 4, 5, 6, 7, 8, 9, 10, 11, 12, 13, 14, 15, 16, 17, 18] [] [0, 1, 2, 3, 4, 5, 6, 7, 8, 9, 10, 11, 12, 13, 14, 15, 16, 17, 18] S (c_X2_leave l hl9 G sa a σ ρ n) (cwV 1 hts gL_calls_X2_leave rfl rfl rfl (by decide +kernel) ⟨(Nat.le_of_ble_eq_true rfl), (Nat.le_of_ble_eq_true rfl)⟩) hK hP hD hS hA hX rfl rfl (by decide) (by decide) (by decide) (by decide) (fun _ => rfl) (va_recv hK hP (ci := 1) (q0 := 0) rfl rfl) rfl hl.1 rfl (Nat.le_of_ble_eq_true rfl) dL_calls_46 ⟨(Nat.le_of_ble_eq_true rfl), (Nat.le_of_ble_eq_true rfl)⟩ (fun E ce q9 u H locs hp hP hD hS h1 h2 h3 => ?_) (fun r u H locs hp hP hD hS => ?_)
  · obtain ⟨hp, hu⟩ := hp
    rcases hp with ⟨k1, -⟩ | ⟨k2, e9⟩ | ⟨k3, -⟩
    · exact absurd k1 hc1
    · subst e9
      refine vx_catch (name := "java/lang/IllegalStateException") hown [] ⟨0, 122, 123, 43⟩ [] htb (fun z hz => by cases hz) rfl (by decide) (hts (.classLink RL 43 "java/lang/IllegalStateException") (by decide +kernel)) (va_Nw.use rfl hX.2.1.2.1) h1 h2 h3 ?_
      refine lv_astore (lv' := [(5, .ref q9), (0, .ref (a 0)), (1, .int 3), (2, .int n), (3, .int o), (4, .int v)]) hx hb dL_calls_123 hl (by decide) rfl (fun ls hl => ?_)
      refine lv_bipush (v := (-3)) hx hb dL_calls_125 (by decide) ?_
      exact co_endN u S hr hlocks dL_calls_127 hK hP hD hS (Or.inr ⟨k2, rfl, hu⟩) (Nat.le_of_ble_eq_true rfl) (Nat.le_of_ble_eq_true rfl)
    · exact absurd (cdA_le σ n) (by omega)
  · obtain ⟨w1, w2, w3⟩ := hp
    refine lv_goto (tgt := 122) hx hb dL_calls_49 (by decide) ?_
    exact co_endN u S hr hlocks dL_calls_122 hK hP hD hS (Or.inl ⟨w1, w2, w3⟩) (Nat.le_of_ble_eq_true rfl) (Nat.le_of_ble_eq_true rfl)

set_option maxHeartbeats 4000000 in
set_option maxRecDepth 100000 in
theorem c_L_calls4 (l : Launch) (hl9 : l.stackTraces = false) (G : cG) (sa : Nat → Nat) (a : Nat → Nat) (σ ρ : cS) (n o v : Int32) (hc1 : ¬ cdA σ n = 1) : MetN l yL_calls wsL_calls rm_L_calls G sa (wO G a σ ρ) [.ref (a 0), .int 4, .int n, .int o, .int v] (fun u : cS × cS => wO G a u.1 u.2) (pC (cdA σ n) (bI (chB σ n)) (ddS σ n) σ) 4 24 := by
  refine co_bodyNW (cc := cL_calls) (maxL := 6) (ret := some .int) (hh := [(0, 122, 123, 43)]) (by decide) rfl (Nat.le_of_ble_eq_true rfl) ?_
  intro p e s m args below meth c S hr hlocks htb hK A hA hP hD hS hX ls hl
  have S : CallFix p m c cL_calls 6 s args wsL_calls RL := S
  obtain ⟨hx, hb, hml, hown, hts⟩ := id S
  have hl : lv_has ls 6 [(0, .ref (a 0)), (1, .int 4), (2, .int n), (3, .int o), (4, .int v)] := hl
  refine lv_iload_n hx hb dL_calls_0 rfl (lv_at hl 1 rfl) ?_
  refine lv_if_ne (tgt := 12) hx hb dL_calls_1 (by decide) (fun _ => ?_) (fun c1 => absurd c1 (by decide))
  refine lv_iload_n hx hb dL_calls_12 rfl (lv_at hl 1 rfl) ?_
  refine lv_iconst (v := 1) hx hb dL_calls_13 (by decide) ?_
  refine lv_icmp_ne (tgt := 26) hx hb dL_calls_14 (by decide) (fun _ => ?_) (fun c1 => absurd c1 (by decide))
  refine lv_iload_n hx hb dL_calls_26 rfl (lv_at hl 1 rfl) ?_
  refine lv_iconst (v := 2) hx hb dL_calls_27 (by decide) ?_
  refine lv_icmp_ne (tgt := 39) hx hb dL_calls_28 (by decide) (fun _ => ?_) (fun c1 => absurd c1 (by decide))
  refine lv_iload_n hx hb dL_calls_39 rfl (lv_at hl 1 rfl) ?_
  refine lv_iconst (v := 3) hx hb dL_calls_40 (by decide) ?_
  refine lv_icmp_ne (tgt := 52) hx hb dL_calls_41 (by decide) (fun _ => ?_) (fun c1 => absurd c1 (by decide))
  refine lv_iload_n hx hb dL_calls_52 rfl (lv_at hl 1 rfl) ?_
  refine lv_iconst (v := 4) hx hb dL_calls_53 (by decide) ?_
  refine lv_icmp_ne (tgt := 73) hx hb dL_calls_54 (by decide) (fun c1 => absurd rfl c1) (fun _ => ?_)
  refine lv_aload_n hx hb dL_calls_57 rfl (lv_at hl 0 rfl) ?_
  refine lv_iload_n hx hb dL_calls_58 rfl (lv_at hl 2 rfl) ?_
  refine co_xViS (wr := []) (w' := fun u : cS × cS => wO G a u.1 u.2) (As := [.int n]) (rest := []) [0, 1, 2, 3, 4, 5, 6, 7, 8, 9, 10, 11, 12, 13, 14, 15, 16, 17, 18] [] [0, 1, 2, 3, 4, 5, 6, 7, 8, 9, 10, 11, 12, 13, 14, 15, 16, 17, 18] S (c_X2_check l hl9 G sa a σ ρ n) (cwV 1 hts gL_calls_X2_check rfl rfl rfl (by decide +kernel) ⟨(Nat.le_of_ble_eq_true rfl), (Nat.le_of_ble_eq_true rfl)⟩) hK hP hD hS hA hX rfl rfl (by decide) (by decide) (by decide) (by decide) (fun _ => rfl) (va_recv hK hP (ci := 1) (q0 := 0) rfl rfl) rfl hl.1 rfl (Nat.le_of_ble_eq_true rfl) dL_calls_59 ⟨(Nat.le_of_ble_eq_true rfl), (Nat.le_of_ble_eq_true rfl)⟩ (fun E ce q9 u H locs hp hP hD hS h1 h2 h3 => ?_) (fun r u H locs hp hP hD hS => ?_)
  · obtain ⟨hp, hu⟩ := hp
    rcases hp with ⟨k1, -⟩ | ⟨k2, e9⟩ | ⟨k3, -⟩
    · exact absurd k1 hc1
    · subst e9
      refine vx_catch (name := "java/lang/IllegalStateException") hown [] ⟨0, 122, 123, 43⟩ [] htb (fun z hz => by cases hz) rfl (by decide) (hts (.classLink RL 43 "java/lang/IllegalStateException") (by decide +kernel)) (va_Nw.use rfl hX.2.1.2.1) h1 h2 h3 ?_
      refine lv_astore (lv' := [(5, .ref q9), (0, .ref (a 0)), (1, .int 4), (2, .int n), (3, .int o), (4, .int v)]) hx hb dL_calls_123 hl (by decide) rfl (fun ls hl => ?_)
      refine lv_bipush (v := (-3)) hx hb dL_calls_125 (by decide) ?_
      exact co_endN u S hr hlocks dL_calls_127 hK hP hD hS (Or.inr ⟨k2, rfl, hu⟩) (Nat.le_of_ble_eq_true rfl) (Nat.le_of_ble_eq_true rfl)
    · exact absurd (cdA_le σ n) (by omega)
  · obtain ⟨w1, w2, w3⟩ := hp
    rw [w2]
    refine co_ifeq (tgt := 69) S dL_calls_62 (by decide) (fun c1 => ?_) (fun c1 => ?_)
    · refine lv_iconst (v := 0) hx hb dL_calls_69 (by decide) ?_
      refine lv_goto (tgt := 122) hx hb dL_calls_70 (by decide) ?_
      exact co_endN u S hr hlocks dL_calls_122 hK hP hD hS (Or.inl ⟨w1, by rw [c1]; rfl, w3⟩) (Nat.le_of_ble_eq_true rfl) (Nat.le_of_ble_eq_true rfl)
    · refine lv_iconst (v := 1) hx hb dL_calls_65 (by decide) ?_
      refine lv_goto (tgt := 122) hx hb dL_calls_66 (by decide) ?_
      exact co_endN u S hr hlocks dL_calls_122 hK hP hD hS (Or.inl ⟨w1, by rw [c1]; rfl, w3⟩) (Nat.le_of_ble_eq_true rfl) (Nat.le_of_ble_eq_true rfl)

set_option maxHeartbeats 4000000 in
set_option maxRecDepth 100000 in
theorem c_L_calls5 (l : Launch) (hl9 : l.stackTraces = false) (G : cG) (sa : Nat → Nat) (a : Nat → Nat) (σ ρ : cS) (n o v : Int32) (hc1 : ¬ cdA σ n = 1) : MetN l yL_calls wsL_calls rm_L_calls G sa (wO G a σ ρ) [.ref (a 0), .int 5, .int n, .int o, .int v] (fun u : cS × cS => wO G a u.1 u.2) (pC (cdA σ n) (tat 3 (msS σ n 1) n 0) (msS σ n) σ) 4 24 := by
  refine co_bodyNW (cc := cL_calls) (maxL := 6) (ret := some .int) (hh := [(0, 122, 123, 43)]) (by decide) rfl (Nat.le_of_ble_eq_true rfl) ?_
  intro p e s m args below meth c S hr hlocks htb hK A hA hP hD hS hX ls hl
  have S : CallFix p m c cL_calls 6 s args wsL_calls RL := S
  obtain ⟨hx, hb, hml, hown, hts⟩ := id S
  have hl : lv_has ls 6 [(0, .ref (a 0)), (1, .int 5), (2, .int n), (3, .int o), (4, .int v)] := hl
  refine lv_iload_n hx hb dL_calls_0 rfl (lv_at hl 1 rfl) ?_
  refine lv_if_ne (tgt := 12) hx hb dL_calls_1 (by decide) (fun _ => ?_) (fun c1 => absurd c1 (by decide))
  refine lv_iload_n hx hb dL_calls_12 rfl (lv_at hl 1 rfl) ?_
  refine lv_iconst (v := 1) hx hb dL_calls_13 (by decide) ?_
  refine lv_icmp_ne (tgt := 26) hx hb dL_calls_14 (by decide) (fun _ => ?_) (fun c1 => absurd c1 (by decide))
  refine lv_iload_n hx hb dL_calls_26 rfl (lv_at hl 1 rfl) ?_
  refine lv_iconst (v := 2) hx hb dL_calls_27 (by decide) ?_
  refine lv_icmp_ne (tgt := 39) hx hb dL_calls_28 (by decide) (fun _ => ?_) (fun c1 => absurd c1 (by decide))
  refine lv_iload_n hx hb dL_calls_39 rfl (lv_at hl 1 rfl) ?_
  refine lv_iconst (v := 3) hx hb dL_calls_40 (by decide) ?_
  refine lv_icmp_ne (tgt := 52) hx hb dL_calls_41 (by decide) (fun _ => ?_) (fun c1 => absurd c1 (by decide))
  refine lv_iload_n hx hb dL_calls_52 rfl (lv_at hl 1 rfl) ?_
  refine lv_iconst (v := 4) hx hb dL_calls_53 (by decide) ?_
  refine lv_icmp_ne (tgt := 73) hx hb dL_calls_54 (by decide) (fun _ => ?_) (fun c1 => absurd c1 (by decide))
  refine lv_iload_n hx hb dL_calls_73 rfl (lv_at hl 1 rfl) ?_
  refine lv_iconst (v := 5) hx hb dL_calls_74 (by decide) ?_
  refine lv_icmp_ne (tgt := 86) hx hb dL_calls_75 (by decide) (fun c1 => absurd rfl c1) (fun _ => ?_)
  refine lv_aload_n hx hb dL_calls_78 rfl (lv_at hl 0 rfl) ?_
  refine lv_iload_n hx hb dL_calls_79 rfl (lv_at hl 2 rfl) ?_
  refine co_xViS (wr := []) (w' := fun u : cS × cS => wO G a u.1 u.2) (As := [.int n]) (rest := []) [0, 1, 2, 3, 4, 5, 6, 7, 8, 9, 10, 11, 12, 13, 14, 15, 16, 17, 18] [] [0, 1, 2, 3, 4, 5, 6, 7, 8, 9, 10, 11, 12, 13, 14, 15, 16, 17, 18] S (c_X2_stabilize l hl9 G sa a σ ρ n) (cwV 1 hts gL_calls_X2_stabilize rfl rfl rfl (by decide +kernel) ⟨(Nat.le_of_ble_eq_true rfl), (Nat.le_of_ble_eq_true rfl)⟩) hK hP hD hS hA hX rfl rfl (by decide) (by decide) (by decide) (by decide) (fun _ => rfl) (va_recv hK hP (ci := 1) (q0 := 0) rfl rfl) rfl hl.1 rfl (Nat.le_of_ble_eq_true rfl) dL_calls_80 ⟨(Nat.le_of_ble_eq_true rfl), (Nat.le_of_ble_eq_true rfl)⟩ (fun E ce q9 u H locs hp hP hD hS h1 h2 h3 => ?_) (fun r u H locs hp hP hD hS => ?_)
  · obtain ⟨hp, hu⟩ := hp
    rcases hp with ⟨k1, -⟩ | ⟨k2, e9⟩ | ⟨k3, -⟩
    · exact absurd k1 hc1
    · subst e9
      refine vx_catch (name := "java/lang/IllegalStateException") hown [] ⟨0, 122, 123, 43⟩ [] htb (fun z hz => by cases hz) rfl (by decide) (hts (.classLink RL 43 "java/lang/IllegalStateException") (by decide +kernel)) (va_Nw.use rfl hX.2.1.2.1) h1 h2 h3 ?_
      refine lv_astore (lv' := [(5, .ref q9), (0, .ref (a 0)), (1, .int 5), (2, .int n), (3, .int o), (4, .int v)]) hx hb dL_calls_123 hl (by decide) rfl (fun ls hl => ?_)
      refine lv_bipush (v := (-3)) hx hb dL_calls_125 (by decide) ?_
      exact co_endN u S hr hlocks dL_calls_127 hK hP hD hS (Or.inr ⟨k2, rfl, hu⟩) (Nat.le_of_ble_eq_true rfl) (Nat.le_of_ble_eq_true rfl)
    · exact absurd (cdA_le σ n) (by omega)
  · obtain ⟨w1, w2, w3⟩ := hp
    refine lv_goto (tgt := 122) hx hb dL_calls_83 (by decide) ?_
    exact co_endN u S hr hlocks dL_calls_122 hK hP hD hS (Or.inl ⟨w1, w2, w3⟩) (Nat.le_of_ble_eq_true rfl) (Nat.le_of_ble_eq_true rfl)

set_option maxHeartbeats 4000000 in
set_option maxRecDepth 100000 in
theorem c_L_calls6 (l : Launch) (hl9 : l.stackTraces = false) (G : cG) (sa : Nat → Nat) (a : Nat → Nat) (σ ρ : cS) (n o v : Int32) (hc1 : ¬ cdA σ n = 1) : MetN l yL_calls wsL_calls rm_L_calls G sa (wO G a σ ρ) [.ref (a 0), .int 6, .int n, .int o, .int v] (fun u : cS × cS => wO G a u.1 u.2) (pC (cdA σ n) (rfC σ n 6) (rfS σ n 6) σ) 4 24 := by
  refine co_bodyNW (cc := cL_calls) (maxL := 6) (ret := some .int) (hh := [(0, 122, 123, 43)]) (by decide) rfl (Nat.le_of_ble_eq_true rfl) ?_
  intro p e s m args below meth c S hr hlocks htb hK A hA hP hD hS hX ls hl
  have S : CallFix p m c cL_calls 6 s args wsL_calls RL := S
  obtain ⟨hx, hb, hml, hown, hts⟩ := id S
  have hl : lv_has ls 6 [(0, .ref (a 0)), (1, .int 6), (2, .int n), (3, .int o), (4, .int v)] := hl
  refine lv_iload_n hx hb dL_calls_0 rfl (lv_at hl 1 rfl) ?_
  refine lv_if_ne (tgt := 12) hx hb dL_calls_1 (by decide) (fun _ => ?_) (fun c1 => absurd c1 (by decide))
  refine lv_iload_n hx hb dL_calls_12 rfl (lv_at hl 1 rfl) ?_
  refine lv_iconst (v := 1) hx hb dL_calls_13 (by decide) ?_
  refine lv_icmp_ne (tgt := 26) hx hb dL_calls_14 (by decide) (fun _ => ?_) (fun c1 => absurd c1 (by decide))
  refine lv_iload_n hx hb dL_calls_26 rfl (lv_at hl 1 rfl) ?_
  refine lv_iconst (v := 2) hx hb dL_calls_27 (by decide) ?_
  refine lv_icmp_ne (tgt := 39) hx hb dL_calls_28 (by decide) (fun _ => ?_) (fun c1 => absurd c1 (by decide))
  refine lv_iload_n hx hb dL_calls_39 rfl (lv_at hl 1 rfl) ?_
  refine lv_iconst (v := 3) hx hb dL_calls_40 (by decide) ?_
  refine lv_icmp_ne (tgt := 52) hx hb dL_calls_41 (by decide) (fun _ => ?_) (fun c1 => absurd c1 (by decide))
  refine lv_iload_n hx hb dL_calls_52 rfl (lv_at hl 1 rfl) ?_
  refine lv_iconst (v := 4) hx hb dL_calls_53 (by decide) ?_
  refine lv_icmp_ne (tgt := 73) hx hb dL_calls_54 (by decide) (fun _ => ?_) (fun c1 => absurd c1 (by decide))
  refine lv_iload_n hx hb dL_calls_73 rfl (lv_at hl 1 rfl) ?_
  refine lv_iconst (v := 5) hx hb dL_calls_74 (by decide) ?_
  refine lv_icmp_ne (tgt := 86) hx hb dL_calls_75 (by decide) (fun _ => ?_) (fun c1 => absurd c1 (by decide))
  refine lv_iload_n hx hb dL_calls_86 rfl (lv_at hl 1 rfl) ?_
  refine lv_bipush (v := 6) hx hb dL_calls_87 (by decide) ?_
  refine lv_icmp_ne (tgt := 100) hx hb dL_calls_89 (by decide) (fun c1 => absurd rfl c1) (fun _ => ?_)
  refine lv_aload_n hx hb dL_calls_92 rfl (lv_at hl 0 rfl) ?_
  refine lv_iload_n hx hb dL_calls_93 rfl (lv_at hl 2 rfl) ?_
  refine co_xViS (wr := []) (w' := fun u : cS × cS => wO G a u.1 u.2) (As := [.int n]) (rest := []) [0, 1, 2, 3, 4, 5, 6, 7, 8, 9, 10, 11, 12, 13, 14, 15, 16, 17, 18] [] [0, 1, 2, 3, 4, 5, 6, 7, 8, 9, 10, 11, 12, 13, 14, 15, 16, 17, 18] S (c_X2_fix l hl9 G sa a σ ρ n) (cwV 1 hts gL_calls_X2_fix rfl rfl rfl (by decide +kernel) ⟨(Nat.le_of_ble_eq_true rfl), (Nat.le_of_ble_eq_true rfl)⟩) hK hP hD hS hA hX rfl rfl (by decide) (by decide) (by decide) (by decide) (fun _ => rfl) (va_recv hK hP (ci := 1) (q0 := 0) rfl rfl) rfl hl.1 rfl (Nat.le_of_ble_eq_true rfl) dL_calls_94 ⟨(Nat.le_of_ble_eq_true rfl), (Nat.le_of_ble_eq_true rfl)⟩ (fun E ce q9 u H locs hp hP hD hS h1 h2 h3 => ?_) (fun r u H locs hp hP hD hS => ?_)
  · obtain ⟨hp, hu⟩ := hp
    rcases hp with ⟨k1, -⟩ | ⟨k2, e9⟩ | ⟨k3, -⟩
    · exact absurd k1 hc1
    · subst e9
      refine vx_catch (name := "java/lang/IllegalStateException") hown [] ⟨0, 122, 123, 43⟩ [] htb (fun z hz => by cases hz) rfl (by decide) (hts (.classLink RL 43 "java/lang/IllegalStateException") (by decide +kernel)) (va_Nw.use rfl hX.2.1.2.1) h1 h2 h3 ?_
      refine lv_astore (lv' := [(5, .ref q9), (0, .ref (a 0)), (1, .int 6), (2, .int n), (3, .int o), (4, .int v)]) hx hb dL_calls_123 hl (by decide) rfl (fun ls hl => ?_)
      refine lv_bipush (v := (-3)) hx hb dL_calls_125 (by decide) ?_
      exact co_endN u S hr hlocks dL_calls_127 hK hP hD hS (Or.inr ⟨k2, rfl, hu⟩) (Nat.le_of_ble_eq_true rfl) (Nat.le_of_ble_eq_true rfl)
    · exact absurd (cdA_le σ n) (by omega)
  · obtain ⟨w1, w2, w3⟩ := hp
    refine lv_goto (tgt := 122) hx hb dL_calls_97 (by decide) ?_
    exact co_endN u S hr hlocks dL_calls_122 hK hP hD hS (Or.inl ⟨w1, w2, w3⟩) (Nat.le_of_ble_eq_true rfl) (Nat.le_of_ble_eq_true rfl)

set_option maxHeartbeats 4000000 in
set_option maxRecDepth 100000 in
theorem c_L_calls7 (l : Launch) (hl9 : l.stackTraces = false) (G : cG) (sa : Nat → Nat) (a : Nat → Nat) (σ ρ : cS) (n o v : Int32) (hc1 : ¬ cdA σ n = 1) : MetN l yL_calls wsL_calls rm_L_calls G sa (wO G a σ ρ) [.ref (a 0), .int 7, .int n, .int o, .int v] (fun u : cS × cS => wO G a u.1 u.2) (pC (cdA σ n) (svC σ n 64) (svS σ n 64) σ) 4 24 := by
  refine co_bodyNW (cc := cL_calls) (maxL := 6) (ret := some .int) (hh := [(0, 122, 123, 43)]) (by decide) rfl (Nat.le_of_ble_eq_true rfl) ?_
  intro p e s m args below meth c S hr hlocks htb hK A hA hP hD hS hX ls hl
  have S : CallFix p m c cL_calls 6 s args wsL_calls RL := S
  obtain ⟨hx, hb, hml, hown, hts⟩ := id S
  have hl : lv_has ls 6 [(0, .ref (a 0)), (1, .int 7), (2, .int n), (3, .int o), (4, .int v)] := hl
  refine lv_iload_n hx hb dL_calls_0 rfl (lv_at hl 1 rfl) ?_
  refine lv_if_ne (tgt := 12) hx hb dL_calls_1 (by decide) (fun _ => ?_) (fun c1 => absurd c1 (by decide))
  refine lv_iload_n hx hb dL_calls_12 rfl (lv_at hl 1 rfl) ?_
  refine lv_iconst (v := 1) hx hb dL_calls_13 (by decide) ?_
  refine lv_icmp_ne (tgt := 26) hx hb dL_calls_14 (by decide) (fun _ => ?_) (fun c1 => absurd c1 (by decide))
  refine lv_iload_n hx hb dL_calls_26 rfl (lv_at hl 1 rfl) ?_
  refine lv_iconst (v := 2) hx hb dL_calls_27 (by decide) ?_
  refine lv_icmp_ne (tgt := 39) hx hb dL_calls_28 (by decide) (fun _ => ?_) (fun c1 => absurd c1 (by decide))
  refine lv_iload_n hx hb dL_calls_39 rfl (lv_at hl 1 rfl) ?_
  refine lv_iconst (v := 3) hx hb dL_calls_40 (by decide) ?_
  refine lv_icmp_ne (tgt := 52) hx hb dL_calls_41 (by decide) (fun _ => ?_) (fun c1 => absurd c1 (by decide))
  refine lv_iload_n hx hb dL_calls_52 rfl (lv_at hl 1 rfl) ?_
  refine lv_iconst (v := 4) hx hb dL_calls_53 (by decide) ?_
  refine lv_icmp_ne (tgt := 73) hx hb dL_calls_54 (by decide) (fun _ => ?_) (fun c1 => absurd c1 (by decide))
  refine lv_iload_n hx hb dL_calls_73 rfl (lv_at hl 1 rfl) ?_
  refine lv_iconst (v := 5) hx hb dL_calls_74 (by decide) ?_
  refine lv_icmp_ne (tgt := 86) hx hb dL_calls_75 (by decide) (fun _ => ?_) (fun c1 => absurd c1 (by decide))
  refine lv_iload_n hx hb dL_calls_86 rfl (lv_at hl 1 rfl) ?_
  refine lv_bipush (v := 6) hx hb dL_calls_87 (by decide) ?_
  refine lv_icmp_ne (tgt := 100) hx hb dL_calls_89 (by decide) (fun _ => ?_) (fun c1 => absurd c1 (by decide))
  refine lv_iload_n hx hb dL_calls_100 rfl (lv_at hl 1 rfl) ?_
  refine lv_bipush (v := 7) hx hb dL_calls_101 (by decide) ?_
  refine lv_icmp_ne (tgt := 114) hx hb dL_calls_103 (by decide) (fun c1 => absurd rfl c1) (fun _ => ?_)
  refine lv_aload_n hx hb dL_calls_106 rfl (lv_at hl 0 rfl) ?_
  refine lv_iload_n hx hb dL_calls_107 rfl (lv_at hl 2 rfl) ?_
  refine co_xViS (wr := []) (w' := fun u : cS × cS => wO G a u.1 u.2) (As := [.int n]) (rest := []) [0, 1, 2, 3, 4, 5, 6, 7, 8, 9, 10, 11, 12, 13, 14, 15, 16, 17, 18] [] [0, 1, 2, 3, 4, 5, 6, 7, 8, 9, 10, 11, 12, 13, 14, 15, 16, 17, 18] S (c_X2_replicate l hl9 G sa a σ ρ n) (cwV 1 hts gL_calls_X2_replicate rfl rfl rfl (by decide +kernel) ⟨(Nat.le_of_ble_eq_true rfl), (Nat.le_of_ble_eq_true rfl)⟩) hK hP hD hS hA hX rfl rfl (by decide) (by decide) (by decide) (by decide) (fun _ => rfl) (va_recv hK hP (ci := 1) (q0 := 0) rfl rfl) rfl hl.1 rfl (Nat.le_of_ble_eq_true rfl) dL_calls_108 ⟨(Nat.le_of_ble_eq_true rfl), (Nat.le_of_ble_eq_true rfl)⟩ (fun E ce q9 u H locs hp hP hD hS h1 h2 h3 => ?_) (fun r u H locs hp hP hD hS => ?_)
  · obtain ⟨hp, hu⟩ := hp
    rcases hp with ⟨k1, -⟩ | ⟨k2, e9⟩ | ⟨k3, -⟩
    · exact absurd k1 hc1
    · subst e9
      refine vx_catch (name := "java/lang/IllegalStateException") hown [] ⟨0, 122, 123, 43⟩ [] htb (fun z hz => by cases hz) rfl (by decide) (hts (.classLink RL 43 "java/lang/IllegalStateException") (by decide +kernel)) (va_Nw.use rfl hX.2.1.2.1) h1 h2 h3 ?_
      refine lv_astore (lv' := [(5, .ref q9), (0, .ref (a 0)), (1, .int 7), (2, .int n), (3, .int o), (4, .int v)]) hx hb dL_calls_123 hl (by decide) rfl (fun ls hl => ?_)
      refine lv_bipush (v := (-3)) hx hb dL_calls_125 (by decide) ?_
      exact co_endN u S hr hlocks dL_calls_127 hK hP hD hS (Or.inr ⟨k2, rfl, hu⟩) (Nat.le_of_ble_eq_true rfl) (Nat.le_of_ble_eq_true rfl)
    · exact absurd (cdA_le σ n) (by omega)
  · obtain ⟨w1, w2, w3⟩ := hp
    refine lv_goto (tgt := 122) hx hb dL_calls_111 (by decide) ?_
    exact co_endN u S hr hlocks dL_calls_122 hK hP hD hS (Or.inl ⟨w1, w2, w3⟩) (Nat.le_of_ble_eq_true rfl) (Nat.le_of_ble_eq_true rfl)

set_option maxHeartbeats 4000000 in
set_option maxRecDepth 100000 in
theorem c_L_calls8 (l : Launch) (hl9 : l.stackTraces = false) (G : cG) (sa : Nat → Nat) (a : Nat → Nat) (σ ρ : cS) (n o v : Int32) (hc1 : ¬ cdW σ n o v = 1) : MetN l yL_calls wsL_calls rm_L_calls G sa (wO G a σ ρ) [.ref (a 0), .int 8, .int n, .int o, .int v] (fun u : cS × cS => wO G a u.1 u.2) (pC (cdW σ n o v) (fnR σ n o) (puS σ n o v) σ) 4 24 := by
  refine co_bodyNW (cc := cL_calls) (maxL := 6) (ret := some .int) (hh := [(0, 122, 123, 43)]) (by decide) rfl (Nat.le_of_ble_eq_true rfl) ?_
  intro p e s m args below meth c S hr hlocks htb hK A hA hP hD hS hX ls hl
  have S : CallFix p m c cL_calls 6 s args wsL_calls RL := S
  obtain ⟨hx, hb, hml, hown, hts⟩ := id S
  have hl : lv_has ls 6 [(0, .ref (a 0)), (1, .int 8), (2, .int n), (3, .int o), (4, .int v)] := hl
  refine lv_iload_n hx hb dL_calls_0 rfl (lv_at hl 1 rfl) ?_
  refine lv_if_ne (tgt := 12) hx hb dL_calls_1 (by decide) (fun _ => ?_) (fun c1 => absurd c1 (by decide))
  refine lv_iload_n hx hb dL_calls_12 rfl (lv_at hl 1 rfl) ?_
  refine lv_iconst (v := 1) hx hb dL_calls_13 (by decide) ?_
  refine lv_icmp_ne (tgt := 26) hx hb dL_calls_14 (by decide) (fun _ => ?_) (fun c1 => absurd c1 (by decide))
  refine lv_iload_n hx hb dL_calls_26 rfl (lv_at hl 1 rfl) ?_
  refine lv_iconst (v := 2) hx hb dL_calls_27 (by decide) ?_
  refine lv_icmp_ne (tgt := 39) hx hb dL_calls_28 (by decide) (fun _ => ?_) (fun c1 => absurd c1 (by decide))
  refine lv_iload_n hx hb dL_calls_39 rfl (lv_at hl 1 rfl) ?_
  refine lv_iconst (v := 3) hx hb dL_calls_40 (by decide) ?_
  refine lv_icmp_ne (tgt := 52) hx hb dL_calls_41 (by decide) (fun _ => ?_) (fun c1 => absurd c1 (by decide))
  refine lv_iload_n hx hb dL_calls_52 rfl (lv_at hl 1 rfl) ?_
  refine lv_iconst (v := 4) hx hb dL_calls_53 (by decide) ?_
  refine lv_icmp_ne (tgt := 73) hx hb dL_calls_54 (by decide) (fun _ => ?_) (fun c1 => absurd c1 (by decide))
  refine lv_iload_n hx hb dL_calls_73 rfl (lv_at hl 1 rfl) ?_
  refine lv_iconst (v := 5) hx hb dL_calls_74 (by decide) ?_
  refine lv_icmp_ne (tgt := 86) hx hb dL_calls_75 (by decide) (fun _ => ?_) (fun c1 => absurd c1 (by decide))
  refine lv_iload_n hx hb dL_calls_86 rfl (lv_at hl 1 rfl) ?_
  refine lv_bipush (v := 6) hx hb dL_calls_87 (by decide) ?_
  refine lv_icmp_ne (tgt := 100) hx hb dL_calls_89 (by decide) (fun _ => ?_) (fun c1 => absurd c1 (by decide))
  refine lv_iload_n hx hb dL_calls_100 rfl (lv_at hl 1 rfl) ?_
  refine lv_bipush (v := 7) hx hb dL_calls_101 (by decide) ?_
  refine lv_icmp_ne (tgt := 114) hx hb dL_calls_103 (by decide) (fun _ => ?_) (fun c1 => absurd c1 (by decide))
  refine lv_aload_n hx hb dL_calls_114 rfl (lv_at hl 0 rfl) ?_
  refine lv_iload_n hx hb dL_calls_115 rfl (lv_at hl 2 rfl) ?_
  refine lv_iload_n hx hb dL_calls_116 rfl (lv_at hl 3 rfl) ?_
  refine lv_iload hx hb dL_calls_117 (lv_at hl 4 rfl) ?_
  refine co_xViS (wr := []) (w' := fun u : cS × cS => wO G a u.1 u.2) (As := [.int n, .int o, .int v]) (rest := []) [0, 1, 2, 3, 4, 5, 6, 7, 8, 9, 10, 11, 12, 13, 14, 15, 16, 17, 18] [] [0, 1, 2, 3, 4, 5, 6, 7, 8, 9, 10, 11, 12, 13, 14, 15, 16, 17, 18] S (c_X2_put l hl9 G sa a σ ρ n o v) (cwV 3 hts gL_calls_X2_put rfl rfl rfl (by decide +kernel) ⟨(Nat.le_of_ble_eq_true rfl), (Nat.le_of_ble_eq_true rfl)⟩) hK hP hD hS hA hX rfl rfl (by decide) (by decide) (by decide) (by decide) (fun _ => rfl) (va_recv hK hP (ci := 1) (q0 := 0) rfl rfl) rfl hl.1 rfl (Nat.le_of_ble_eq_true rfl) dL_calls_119 ⟨(Nat.le_of_ble_eq_true rfl), (Nat.le_of_ble_eq_true rfl)⟩ (fun E ce q9 u H locs hp hP hD hS h1 h2 h3 => ?_) (fun r u H locs hp hP hD hS => ?_)
  · obtain ⟨hp, hu⟩ := hp
    rcases hp with ⟨k1, -⟩ | ⟨k2, e9⟩ | ⟨k3, -⟩
    · exact absurd k1 hc1
    · subst e9
      refine vx_catch (name := "java/lang/IllegalStateException") hown [] ⟨0, 122, 123, 43⟩ [] htb (fun z hz => by cases hz) rfl (by decide) (hts (.classLink RL 43 "java/lang/IllegalStateException") (by decide +kernel)) (va_Nw.use rfl hX.2.1.2.1) h1 h2 h3 ?_
      refine lv_astore (lv' := [(5, .ref q9), (0, .ref (a 0)), (1, .int 8), (2, .int n), (3, .int o), (4, .int v)]) hx hb dL_calls_123 hl (by decide) rfl (fun ls hl => ?_)
      refine lv_bipush (v := (-3)) hx hb dL_calls_125 (by decide) ?_
      exact co_endN u S hr hlocks dL_calls_127 hK hP hD hS (Or.inr ⟨k2, rfl, hu⟩) (Nat.le_of_ble_eq_true rfl) (Nat.le_of_ble_eq_true rfl)
    · exact absurd (cdW_le σ n o v) (by omega)
  · obtain ⟨w1, w2, w3⟩ := hp
    exact co_endN u S hr hlocks dL_calls_122 hK hP hD hS (Or.inl ⟨w1, w2, w3⟩) (Nat.le_of_ble_eq_true rfl) (Nat.le_of_ble_eq_true rfl)
