abbrev rm_L : Room := { frames := 9, cells := 4, slots := 24, locals := 180 }
set_option maxHeartbeats 4000000 in
set_option maxRecDepth 100000 in
theorem c_L_create (l : Launch) (hl9 : l.stackTraces = false) (G : cG) (sa : Nat → Nat) (a : Nat → Nat) (q : Nat) (σ ρ : cS) (o : Nat → Int64) (n : Int32) : MetL l yL_create wsL_create rm_L G sa (wL G a q (σ, ρ, o)) [.ref (a 0), .int n, .ref q] (fun u : lS => wL G a q u) (pL (cdC σ n) (cnt (blS σ n n n n 0) 64) (blS σ n n n n) σ) 4 24 := by
  refine co_bodyL (cc := cL_create) (maxL := 4) (ret := some .int) (hh := [(0, 9, 12, 13), (0, 9, 15, 15)]) (by decide) rfl (Nat.le_of_ble_eq_true rfl) ?_
  intro p e s m args below meth c S hr hlocks htb hK A hA hP hD hS hX hN ls hl
  have S : CallFix p m c cL_create 4 s args wsL_create RL := S
  obtain ⟨hx, hb, hml, hown, hts⟩ := id S
  have hl : lv_has ls 4 [(0, .ref (a 0)), (1, .int n), (2, .ref q)] := hl
  refine lv_aload_n hx hb dL_create_0 rfl (lv_at hl 2 rfl) ?_
  refine lv_iconst (v := 0) hx hb dL_create_1 (by decide) ?_
  refine lv_aload_n hx hb dL_create_2 rfl (lv_at hl 0 rfl) ?_
  refine lv_iload_n hx hb dL_create_3 rfl (lv_at hl 1 rfl) ?_
  refine co_xViS (wr := [(q, .inl (G.2.2.2, 1, .inr (.inl o)))]) (w' := fun u : cS × cS => wL G a q (u.1, u.2, o)) (As := [.int n]) (rest := [.int 0, .ref q]) [0, 1, 2, 3, 4, 5, 6, 7, 8, 9, 10, 11, 12, 13, 14, 15, 16, 17, 18] [19] [1, 2, 3, 4, 5, 6, 7, 8, 9, 10, 11, 12, 13, 14, 15, 16, 17, 18, 19, 0] S (c_X2_create l hl9 G sa a σ ρ n) (cwV 1 hts gL_create_X2_create rfl rfl rfl (by decide +kernel) ⟨(Nat.le_of_ble_eq_true rfl), (Nat.le_of_ble_eq_true rfl)⟩) hK hP hD hS hA hX rfl rfl (by decide) (by decide) (by decide) (by decide) (fun _ => rfl) (va_recv hK hP (ci := 1) (q0 := 0) rfl rfl) rfl hl.1 rfl (Nat.le_of_ble_eq_true rfl) dL_create_4 ⟨(Nat.le_of_ble_eq_true rfl), (Nat.le_of_ble_eq_true rfl)⟩ (fun E ce q9 u H locs hp hP hD hS h1 h2 h3 => ?_) (fun r u H locs hp hP hD hS => ?_)
  · obtain ⟨hp, hu⟩ := hp
    rcases hp with ⟨k9, rfl⟩ | ⟨k9, rfl⟩ | ⟨k9, rfl⟩
    · refine vx_catch (name := "java/lang/IllegalArgumentException") hown [] ⟨0, 9, 12, 13⟩ [⟨0, 9, 15, 15⟩] htb (fun z hz => by cases hz) rfl (by decide) (hts (.classLink RL 13 "java/lang/IllegalArgumentException") (by decide +kernel)) (va_Nw.use rfl hX.2.1.1) h1 h2 h3 ?_
      refine lv_astore_n (lv' := [(3, .ref q9), (0, .ref (a 0)), (1, .int n), (2, .ref q)]) hx hb dL_create_12 rfl hl (by decide) rfl (fun ls hl => ?_)
      refine lv_iconst (v := 1) hx hb dL_create_13 (by decide) ?_
      exact co_endL (u.1, u.2, o) S hr hlocks dL_create_14 hK hP hD hS (Or.inr ⟨by decide, by rw [k9]; rfl, by rw [k9]; decide, hu⟩) (Nat.le_of_ble_eq_true rfl) (Nat.le_of_ble_eq_true rfl)
    · refine vx_catch (name := "java/lang/IllegalStateException") hown [⟨0, 9, 12, 13⟩] ⟨0, 9, 15, 15⟩ [] htb (fun z hz => by obtain rfl := List.mem_singleton.mp hz; exact Or.inr ⟨by decide, "java/lang/IllegalArgumentException", hts (.classLink RL 13 "java/lang/IllegalArgumentException") (by decide +kernel), hN.1⟩) rfl (by decide) (hts (.classLink RL 15 "java/lang/IllegalStateException") (by decide +kernel)) (va_Nw.use rfl hX.2.1.2.1) h1 h2 h3 ?_
      refine lv_astore_n (lv' := [(3, .ref q9), (0, .ref (a 0)), (1, .int n), (2, .ref q)]) hx hb dL_create_15 rfl hl (by decide) rfl (fun ls hl => ?_)
      refine lv_iconst (v := 2) hx hb dL_create_16 (by decide) ?_
      exact co_endL (u.1, u.2, o) S hr hlocks dL_create_17 hK hP hD hS (Or.inr ⟨by decide, by rw [k9]; rfl, by rw [k9]; decide, hu⟩) (Nat.le_of_ble_eq_true rfl) (Nat.le_of_ble_eq_true rfl)
    · exact absurd (cdC_le σ n) (by omega)
  · obtain ⟨hc9, hr9, hu⟩ := hp
    refine lv_i2l (v := r.toInt64) hx hb dL_create_7 rfl ?_
    refine va_last (x := r.toInt64) hx hb hK hP hD hS 19 2 rfl rfl vin0 dL_create_8 (fun H locs hP hD hS => ?_)
    have hP : pG G (wL G a q (u.1, u.2, (vp_updL o (0 : Int32).toNatClampNeg r.toInt64))) H := hP
    have hD : va_D A (wL G a q (u.1, u.2, (vp_updL o (0 : Int32).toNatClampNeg r.toInt64))) := hD
    refine lv_goto (tgt := 18) hx hb dL_create_9 (by decide) ?_
    refine lv_iconst (v := 0) hx hb dL_create_18 (by decide) ?_
    exact co_endL (u.1, u.2, (vp_updL o (0 : Int32).toNatClampNeg r.toInt64)) S hr hlocks dL_create_19 hK hP hD hS (Or.inl ⟨rfl, hc9, by show vp_updL o (0 : Int32).toNatClampNeg r.toInt64 0 = _; rw [upL0, hr9], hu⟩) (Nat.le_of_ble_eq_true rfl) (Nat.le_of_ble_eq_true rfl)

set_option maxHeartbeats 4000000 in
set_option maxRecDepth 100000 in
theorem c_L_join (l : Launch) (hl9 : l.stackTraces = false) (G : cG) (sa : Nat → Nat) (a : Nat → Nat) (q : Nat) (σ ρ : cS) (o : Nat → Int64) (n v : Int32) : MetL l yL_join wsL_join rm_L G sa (wL G a q (σ, ρ, o)) [.ref (a 0), .int n, .int v, .ref q] (fun u : lS => wL G a q u) (pL (cdJ σ n v) (fnR σ v n) (jnS σ n v) σ) 4 24 := by
  refine co_bodyL (cc := cL_join) (maxL := 5) (ret := some .int) (hh := [(0, 10, 13, 13), (0, 10, 17, 15)]) (by decide) rfl (Nat.le_of_ble_eq_true rfl) ?_
  intro p e s m args below meth c S hr hlocks htb hK A hA hP hD hS hX hN ls hl
  have S : CallFix p m c cL_join 5 s args wsL_join RL := S
  obtain ⟨hx, hb, hml, hown, hts⟩ := id S
  have hl : lv_has ls 5 [(0, .ref (a 0)), (1, .int n), (2, .int v), (3, .ref q)] := hl
  refine lv_aload_n hx hb dL_join_0 rfl (lv_at hl 3 rfl) ?_
  refine lv_iconst (v := 0) hx hb dL_join_1 (by decide) ?_
  refine lv_aload_n hx hb dL_join_2 rfl (lv_at hl 0 rfl) ?_
  refine lv_iload_n hx hb dL_join_3 rfl (lv_at hl 1 rfl) ?_
  refine lv_iload_n hx hb dL_join_4 rfl (lv_at hl 2 rfl) ?_
  refine co_xViS (wr := [(q, .inl (G.2.2.2, 1, .inr (.inl o)))]) (w' := fun u : cS × cS => wL G a q (u.1, u.2, o)) (As := [.int n, .int v]) (rest := [.int 0, .ref q]) [0, 1, 2, 3, 4, 5, 6, 7, 8, 9, 10, 11, 12, 13, 14, 15, 16, 17, 18] [19] [1, 2, 3, 4, 5, 6, 7, 8, 9, 10, 11, 12, 13, 14, 15, 16, 17, 18, 19, 0] S (c_X2_join l hl9 G sa a σ ρ n v) (cwV 2 hts gL_join_X2_join rfl rfl rfl (by decide +kernel) ⟨(Nat.le_of_ble_eq_true rfl), (Nat.le_of_ble_eq_true rfl)⟩) hK hP hD hS hA hX rfl rfl (by decide) (by decide) (by decide) (by decide) (fun _ => rfl) (va_recv hK hP (ci := 1) (q0 := 0) rfl rfl) rfl hl.1 rfl (Nat.le_of_ble_eq_true rfl) dL_join_5 ⟨(Nat.le_of_ble_eq_true rfl), (Nat.le_of_ble_eq_true rfl)⟩ (fun E ce q9 u H locs hp hP hD hS h1 h2 h3 => ?_) (fun r u H locs hp hP hD hS => ?_)
  · obtain ⟨hp, hu⟩ := hp
    rcases hp with ⟨k9, rfl⟩ | ⟨k9, rfl⟩ | ⟨k9, rfl⟩
    · refine vx_catch (name := "java/lang/IllegalArgumentException") hown [] ⟨0, 10, 13, 13⟩ [⟨0, 10, 17, 15⟩] htb (fun z hz => by cases hz) rfl (by decide) (hts (.classLink RL 13 "java/lang/IllegalArgumentException") (by decide +kernel)) (va_Nw.use rfl hX.2.1.1) h1 h2 h3 ?_
      refine lv_astore (lv' := [(4, .ref q9), (0, .ref (a 0)), (1, .int n), (2, .int v), (3, .ref q)]) hx hb dL_join_13 hl (by decide) rfl (fun ls hl => ?_)
      refine lv_iconst (v := 1) hx hb dL_join_15 (by decide) ?_
      exact co_endL (u.1, u.2, o) S hr hlocks dL_join_16 hK hP hD hS (Or.inr ⟨by decide, by rw [k9]; rfl, by rw [k9]; decide, hu⟩) (Nat.le_of_ble_eq_true rfl) (Nat.le_of_ble_eq_true rfl)
    · refine vx_catch (name := "java/lang/IllegalStateException") hown [⟨0, 10, 13, 13⟩] ⟨0, 10, 17, 15⟩ [] htb (fun z hz => by obtain rfl := List.mem_singleton.mp hz; exact Or.inr ⟨by decide, "java/lang/IllegalArgumentException", hts (.classLink RL 13 "java/lang/IllegalArgumentException") (by decide +kernel), hN.1⟩) rfl (by decide) (hts (.classLink RL 15 "java/lang/IllegalStateException") (by decide +kernel)) (va_Nw.use rfl hX.2.1.2.1) h1 h2 h3 ?_
      refine lv_astore (lv' := [(4, .ref q9), (0, .ref (a 0)), (1, .int n), (2, .int v), (3, .ref q)]) hx hb dL_join_17 hl (by decide) rfl (fun ls hl => ?_)
      refine lv_iconst (v := 2) hx hb dL_join_19 (by decide) ?_
      exact co_endL (u.1, u.2, o) S hr hlocks dL_join_20 hK hP hD hS (Or.inr ⟨by decide, by rw [k9]; rfl, by rw [k9]; decide, hu⟩) (Nat.le_of_ble_eq_true rfl) (Nat.le_of_ble_eq_true rfl)
    · exact absurd (cdJ_le σ n v) (by omega)
  · obtain ⟨hc9, hr9, hu⟩ := hp
    refine lv_i2l (v := r.toInt64) hx hb dL_join_8 rfl ?_
    refine va_last (x := r.toInt64) hx hb hK hP hD hS 19 2 rfl rfl vin0 dL_join_9 (fun H locs hP hD hS => ?_)
    have hP : pG G (wL G a q (u.1, u.2, (vp_updL o (0 : Int32).toNatClampNeg r.toInt64))) H := hP
    have hD : va_D A (wL G a q (u.1, u.2, (vp_updL o (0 : Int32).toNatClampNeg r.toInt64))) := hD
    refine lv_goto (tgt := 21) hx hb dL_join_10 (by decide) ?_
    refine lv_iconst (v := 0) hx hb dL_join_21 (by decide) ?_
    exact co_endL (u.1, u.2, (vp_updL o (0 : Int32).toNatClampNeg r.toInt64)) S hr hlocks dL_join_22 hK hP hD hS (Or.inl ⟨rfl, hc9, by show vp_updL o (0 : Int32).toNatClampNeg r.toInt64 0 = _; rw [upL0, hr9], hu⟩) (Nat.le_of_ble_eq_true rfl) (Nat.le_of_ble_eq_true rfl)

set_option maxHeartbeats 4000000 in
set_option maxRecDepth 100000 in
theorem c_L_fail (l : Launch) (hl9 : l.stackTraces = false) (G : cG) (sa : Nat → Nat) (a : Nat → Nat) (q : Nat) (σ ρ : cS) (o : Nat → Int64) (n : Int32) : MetL l yL_fail wsL_fail rm_L G sa (wL G a q (σ, ρ, o)) [.ref (a 0), .int n, .ref q] (fun u : lS => wL G a q u) (pL (cdA σ n) (cnt (saS σ n 0 0) 64) (saS σ n 0) σ) 4 24 := by
  refine co_bodyL (cc := cL_fail) (maxL := 4) (ret := some .int) (hh := [(0, 9, 12, 13), (0, 9, 15, 15)]) (by decide) rfl (Nat.le_of_ble_eq_true rfl) ?_
  intro p e s m args below meth c S hr hlocks htb hK A hA hP hD hS hX hN ls hl
  have S : CallFix p m c cL_fail 4 s args wsL_fail RL := S
  obtain ⟨hx, hb, hml, hown, hts⟩ := id S
  have hl : lv_has ls 4 [(0, .ref (a 0)), (1, .int n), (2, .ref q)] := hl
  refine lv_aload_n hx hb dL_fail_0 rfl (lv_at hl 2 rfl) ?_
  refine lv_iconst (v := 0) hx hb dL_fail_1 (by decide) ?_
  refine lv_aload_n hx hb dL_fail_2 rfl (lv_at hl 0 rfl) ?_
  refine lv_iload_n hx hb dL_fail_3 rfl (lv_at hl 1 rfl) ?_
  refine co_xViS (wr := [(q, .inl (G.2.2.2, 1, .inr (.inl o)))]) (w' := fun u : cS × cS => wL G a q (u.1, u.2, o)) (As := [.int n]) (rest := [.int 0, .ref q]) [0, 1, 2, 3, 4, 5, 6, 7, 8, 9, 10, 11, 12, 13, 14, 15, 16, 17, 18] [19] [1, 2, 3, 4, 5, 6, 7, 8, 9, 10, 11, 12, 13, 14, 15, 16, 17, 18, 19, 0] S (c_X2_fail l hl9 G sa a σ ρ n) (cwV 1 hts gL_fail_X2_fail rfl rfl rfl (by decide +kernel) ⟨(Nat.le_of_ble_eq_true rfl), (Nat.le_of_ble_eq_true rfl)⟩) hK hP hD hS hA hX rfl rfl (by decide) (by decide) (by decide) (by decide) (fun _ => rfl) (va_recv hK hP (ci := 1) (q0 := 0) rfl rfl) rfl hl.1 rfl (Nat.le_of_ble_eq_true rfl) dL_fail_4 ⟨(Nat.le_of_ble_eq_true rfl), (Nat.le_of_ble_eq_true rfl)⟩ (fun E ce q9 u H locs hp hP hD hS h1 h2 h3 => ?_) (fun r u H locs hp hP hD hS => ?_)
  · obtain ⟨hp, hu⟩ := hp
    rcases hp with ⟨k9, rfl⟩ | ⟨k9, rfl⟩ | ⟨k9, rfl⟩
    · refine vx_catch (name := "java/lang/IllegalArgumentException") hown [] ⟨0, 9, 12, 13⟩ [⟨0, 9, 15, 15⟩] htb (fun z hz => by cases hz) rfl (by decide) (hts (.classLink RL 13 "java/lang/IllegalArgumentException") (by decide +kernel)) (va_Nw.use rfl hX.2.1.1) h1 h2 h3 ?_
      refine lv_astore_n (lv' := [(3, .ref q9), (0, .ref (a 0)), (1, .int n), (2, .ref q)]) hx hb dL_fail_12 rfl hl (by decide) rfl (fun ls hl => ?_)
      refine lv_iconst (v := 1) hx hb dL_fail_13 (by decide) ?_
      exact co_endL (u.1, u.2, o) S hr hlocks dL_fail_14 hK hP hD hS (Or.inr ⟨by decide, by rw [k9]; rfl, by rw [k9]; decide, hu⟩) (Nat.le_of_ble_eq_true rfl) (Nat.le_of_ble_eq_true rfl)
    · refine vx_catch (name := "java/lang/IllegalStateException") hown [⟨0, 9, 12, 13⟩] ⟨0, 9, 15, 15⟩ [] htb (fun z hz => by obtain rfl := List.mem_singleton.mp hz; exact Or.inr ⟨by decide, "java/lang/IllegalArgumentException", hts (.classLink RL 13 "java/lang/IllegalArgumentException") (by decide +kernel), hN.1⟩) rfl (by decide) (hts (.classLink RL 15 "java/lang/IllegalStateException") (by decide +kernel)) (va_Nw.use rfl hX.2.1.2.1) h1 h2 h3 ?_
      refine lv_astore_n (lv' := [(3, .ref q9), (0, .ref (a 0)), (1, .int n), (2, .ref q)]) hx hb dL_fail_15 rfl hl (by decide) rfl (fun ls hl => ?_)
      refine lv_iconst (v := 2) hx hb dL_fail_16 (by decide) ?_
      exact co_endL (u.1, u.2, o) S hr hlocks dL_fail_17 hK hP hD hS (Or.inr ⟨by decide, by rw [k9]; rfl, by rw [k9]; decide, hu⟩) (Nat.le_of_ble_eq_true rfl) (Nat.le_of_ble_eq_true rfl)
    · exact absurd (cdA_le σ n) (by omega)
  · obtain ⟨hc9, hr9, hu⟩ := hp
    refine lv_i2l (v := r.toInt64) hx hb dL_fail_7 rfl ?_
    refine va_last (x := r.toInt64) hx hb hK hP hD hS 19 2 rfl rfl vin0 dL_fail_8 (fun H locs hP hD hS => ?_)
    have hP : pG G (wL G a q (u.1, u.2, (vp_updL o (0 : Int32).toNatClampNeg r.toInt64))) H := hP
    have hD : va_D A (wL G a q (u.1, u.2, (vp_updL o (0 : Int32).toNatClampNeg r.toInt64))) := hD
    refine lv_goto (tgt := 18) hx hb dL_fail_9 (by decide) ?_
    refine lv_iconst (v := 0) hx hb dL_fail_18 (by decide) ?_
    exact co_endL (u.1, u.2, (vp_updL o (0 : Int32).toNatClampNeg r.toInt64)) S hr hlocks dL_fail_19 hK hP hD hS (Or.inl ⟨rfl, hc9, by show vp_updL o (0 : Int32).toNatClampNeg r.toInt64 0 = _; rw [upL0, hr9], hu⟩) (Nat.le_of_ble_eq_true rfl) (Nat.le_of_ble_eq_true rfl)

set_option maxHeartbeats 4000000 in
set_option maxRecDepth 100000 in
theorem c_L_leave (l : Launch) (hl9 : l.stackTraces = false) (G : cG) (sa : Nat → Nat) (a : Nat → Nat) (q : Nat) (σ ρ : cS) (o : Nat → Int64) (n : Int32) : MetL l yL_leave wsL_leave rm_L G sa (wL G a q (σ, ρ, o)) [.ref (a 0), .int n, .ref q] (fun u : lS => wL G a q u) (pL (cdA σ n) (cnt (lvS σ n 0) 64) (lvS σ n) σ) 4 24 := by
  refine co_bodyL (cc := cL_leave) (maxL := 4) (ret := some .int) (hh := [(0, 9, 12, 13), (0, 9, 15, 15)]) (by decide) rfl (Nat.le_of_ble_eq_true rfl) ?_
  intro p e s m args below meth c S hr hlocks htb hK A hA hP hD hS hX hN ls hl
  have S : CallFix p m c cL_leave 4 s args wsL_leave RL := S
  obtain ⟨hx, hb, hml, hown, hts⟩ := id S
  have hl : lv_has ls 4 [(0, .ref (a 0)), (1, .int n), (2, .ref q)] := hl
  refine lv_aload_n hx hb dL_leave_0 rfl (lv_at hl 2 rfl) ?_
  refine lv_iconst (v := 0) hx hb dL_leave_1 (by decide) ?_
  refine lv_aload_n hx hb dL_leave_2 rfl (lv_at hl 0 rfl) ?_
  refine lv_iload_n hx hb dL_leave_3 rfl (lv_at hl 1 rfl) ?_
  refine co_xViS (wr := [(q, .inl (G.2.2.2, 1, .inr (.inl o)))]) (w' := fun u : cS × cS => wL G a q (u.1, u.2, o)) (As := [.int n]) (rest := [.int 0, .ref q]) [0, 1, 2, 3, 4, 5, 6, 7, 8, 9, 10, 11, 12, 13, 14, 15, 16, 17, 18] [19] [1, 2, 3, 4, 5, 6, 7, 8, 9, 10, 11, 12, 13, 14, 15, 16, 17, 18, 19, 0] S (c_X2_leave l hl9 G sa a σ ρ n) (cwV 1 hts gL_leave_X2_leave rfl rfl rfl (by decide +kernel) ⟨(Nat.le_of_ble_eq_true rfl), (Nat.le_of_ble_eq_true rfl)⟩) hK hP hD hS hA hX rfl rfl (by decide) (by decide) (by decide) (by decide) (fun _ => rfl) (va_recv hK hP (ci := 1) (q0 := 0) rfl rfl) rfl hl.1 rfl (Nat.le_of_ble_eq_true rfl) dL_leave_4 ⟨(Nat.le_of_ble_eq_true rfl), (Nat.le_of_ble_eq_true rfl)⟩ (fun E ce q9 u H locs hp hP hD hS h1 h2 h3 => ?_) (fun r u H locs hp hP hD hS => ?_)
  · obtain ⟨hp, hu⟩ := hp
    rcases hp with ⟨k9, rfl⟩ | ⟨k9, rfl⟩ | ⟨k9, rfl⟩
    · refine vx_catch (name := "java/lang/IllegalArgumentException") hown [] ⟨0, 9, 12, 13⟩ [⟨0, 9, 15, 15⟩] htb (fun z hz => by cases hz) rfl (by decide) (hts (.classLink RL 13 "java/lang/IllegalArgumentException") (by decide +kernel)) (va_Nw.use rfl hX.2.1.1) h1 h2 h3 ?_
      refine lv_astore_n (lv' := [(3, .ref q9), (0, .ref (a 0)), (1, .int n), (2, .ref q)]) hx hb dL_leave_12 rfl hl (by decide) rfl (fun ls hl => ?_)
      refine lv_iconst (v := 1) hx hb dL_leave_13 (by decide) ?_
      exact co_endL (u.1, u.2, o) S hr hlocks dL_leave_14 hK hP hD hS (Or.inr ⟨by decide, by rw [k9]; rfl, by rw [k9]; decide, hu⟩) (Nat.le_of_ble_eq_true rfl) (Nat.le_of_ble_eq_true rfl)
    · refine vx_catch (name := "java/lang/IllegalStateException") hown [⟨0, 9, 12, 13⟩] ⟨0, 9, 15, 15⟩ [] htb (fun z hz => by obtain rfl := List.mem_singleton.mp hz; exact Or.inr ⟨by decide, "java/lang/IllegalArgumentException", hts (.classLink RL 13 "java/lang/IllegalArgumentException") (by decide +kernel), hN.1⟩) rfl (by decide) (hts (.classLink RL 15 "java/lang/IllegalStateException") (by decide +kernel)) (va_Nw.use rfl hX.2.1.2.1) h1 h2 h3 ?_
      refine lv_astore_n (lv' := [(3, .ref q9), (0, .ref (a 0)), (1, .int n), (2, .ref q)]) hx hb dL_leave_15 rfl hl (by decide) rfl (fun ls hl => ?_)
      refine lv_iconst (v := 2) hx hb dL_leave_16 (by decide) ?_
      exact co_endL (u.1, u.2, o) S hr hlocks dL_leave_17 hK hP hD hS (Or.inr ⟨by decide, by rw [k9]; rfl, by rw [k9]; decide, hu⟩) (Nat.le_of_ble_eq_true rfl) (Nat.le_of_ble_eq_true rfl)
    · exact absurd (cdA_le σ n) (by omega)
  · obtain ⟨hc9, hr9, hu⟩ := hp
    refine lv_i2l (v := r.toInt64) hx hb dL_leave_7 rfl ?_
    refine va_last (x := r.toInt64) hx hb hK hP hD hS 19 2 rfl rfl vin0 dL_leave_8 (fun H locs hP hD hS => ?_)
    have hP : pG G (wL G a q (u.1, u.2, (vp_updL o (0 : Int32).toNatClampNeg r.toInt64))) H := hP
    have hD : va_D A (wL G a q (u.1, u.2, (vp_updL o (0 : Int32).toNatClampNeg r.toInt64))) := hD
    refine lv_goto (tgt := 18) hx hb dL_leave_9 (by decide) ?_
    refine lv_iconst (v := 0) hx hb dL_leave_18 (by decide) ?_
    exact co_endL (u.1, u.2, (vp_updL o (0 : Int32).toNatClampNeg r.toInt64)) S hr hlocks dL_leave_19 hK hP hD hS (Or.inl ⟨rfl, hc9, by show vp_updL o (0 : Int32).toNatClampNeg r.toInt64 0 = _; rw [upL0, hr9], hu⟩) (Nat.le_of_ble_eq_true rfl) (Nat.le_of_ble_eq_true rfl)

set_option maxHeartbeats 4000000 in
set_option maxRecDepth 100000 in
theorem c_L_isLiving (l : Launch) (hl9 : l.stackTraces = false) (G : cG) (sa : Nat → Nat) (a : Nat → Nat) (q : Nat) (σ ρ : cS) (o : Nat → Int64) (n : Int32) : MetL l yL_isLiving wsL_isLiving rm_L G sa (wL G a q (σ, ρ, o)) [.ref (a 0), .int n, .ref q] (fun u : lS => wL G a q u) (pL (cd1 n 0 63) (bI (alv (σ 0) n)) (σ) σ) 4 24 := by
  refine co_bodyL (cc := cL_isLiving) (maxL := 4) (ret := some .int) (hh := [(0, 16, 19, 13)]) (by decide) rfl (Nat.le_of_ble_eq_true rfl) ?_
  intro p e s m args below meth c S hr hlocks htb hK A hA hP hD hS hX hN ls hl
  have S : CallFix p m c cL_isLiving 4 s args wsL_isLiving RL := S
  obtain ⟨hx, hb, hml, hown, hts⟩ := id S
  have hl : lv_has ls 4 [(0, .ref (a 0)), (1, .int n), (2, .ref q)] := hl
  refine lv_aload_n hx hb dL_isLiving_0 rfl (lv_at hl 2 rfl) ?_
  refine lv_iconst (v := 0) hx hb dL_isLiving_1 (by decide) ?_
  refine lv_aload_n hx hb dL_isLiving_2 rfl (lv_at hl 0 rfl) ?_
  refine lv_iload_n hx hb dL_isLiving_3 rfl (lv_at hl 1 rfl) ?_
  refine co_xViS (wr := [(q, .inl (G.2.2.2, 1, .inr (.inl o)))]) (w' := fun u : cS × cS => wL G a q (u.1, u.2, o)) (As := [.int n]) (rest := [.int 0, .ref q]) [0, 1, 2, 3, 4, 5, 6, 7, 8, 9, 10, 11, 12, 13, 14, 15, 16, 17, 18] [19] [1, 2, 3, 4, 5, 6, 7, 8, 9, 10, 11, 12, 13, 14, 15, 16, 17, 18, 19, 0] S (c_X2_isLiving l hl9 G sa a σ ρ n) (cwV 1 hts gL_isLiving_X2_isLiving rfl rfl rfl (by decide +kernel) ⟨(Nat.le_of_ble_eq_true rfl), (Nat.le_of_ble_eq_true rfl)⟩) hK hP hD hS hA hX rfl rfl (by decide) (by decide) (by decide) (by decide) (fun _ => rfl) (va_recv hK hP (ci := 1) (q0 := 0) rfl rfl) rfl hl.1 rfl (Nat.le_of_ble_eq_true rfl) dL_isLiving_4 ⟨(Nat.le_of_ble_eq_true rfl), (Nat.le_of_ble_eq_true rfl)⟩ (fun E ce q9 u H locs hp hP hD hS h1 h2 h3 => ?_) (fun r u H locs hp hP hD hS => ?_)
  · obtain ⟨hp, hu⟩ := hp
    rcases hp with ⟨k9, rfl⟩ | ⟨k9, rfl⟩ | ⟨k9, rfl⟩
    · refine vx_catch (name := "java/lang/IllegalArgumentException") hown [] ⟨0, 16, 19, 13⟩ [] htb (fun z hz => by cases hz) rfl (by decide) (hts (.classLink RL 13 "java/lang/IllegalArgumentException") (by decide +kernel)) (va_Nw.use rfl hX.2.1.1) h1 h2 h3 ?_
      refine lv_astore_n (lv' := [(3, .ref q9), (0, .ref (a 0)), (1, .int n), (2, .ref q)]) hx hb dL_isLiving_19 rfl hl (by decide) rfl (fun ls hl => ?_)
      refine lv_iconst (v := 1) hx hb dL_isLiving_20 (by decide) ?_
      exact co_endL (u.1, u.2, o) S hr hlocks dL_isLiving_21 hK hP hD hS (Or.inr ⟨by decide, by rw [k9]; rfl, by rw [k9]; decide, hu⟩) (Nat.le_of_ble_eq_true rfl) (Nat.le_of_ble_eq_true rfl)
    · exact absurd (cd1_le n 0 63) (by omega)
    · exact absurd (cd1_le n 0 63) (by omega)
  · obtain ⟨hc9, hr9, hu⟩ := hp
    subst hr9
    refine co_ifeq (tgt := 14) S dL_isLiving_7 (by decide) (fun c9 => ?_) (fun c9 => ?_)
    · refine lv_lconst (v := 0) hx hb dL_isLiving_14 (by decide) ?_
      refine va_last (x := 0) hx hb hK hP hD hS 19 2 rfl rfl vin0 dL_isLiving_15 (fun H locs hP hD hS => ?_)
      have hP : pG G (wL G a q (u.1, u.2, (vp_updL o (0 : Int32).toNatClampNeg 0))) H := hP
      have hD : va_D A (wL G a q (u.1, u.2, (vp_updL o (0 : Int32).toNatClampNeg 0))) := hD
      refine lv_goto (tgt := 22) hx hb dL_isLiving_16 (by decide) ?_
      refine lv_iconst (v := 0) hx hb dL_isLiving_22 (by decide) ?_
      exact co_endL (u.1, u.2, (vp_updL o (0 : Int32).toNatClampNeg 0)) S hr hlocks dL_isLiving_23 hK hP hD hS (Or.inl ⟨rfl, hc9, by show vp_updL o (0 : Int32).toNatClampNeg 0 0 = _; rw [upL0, c9]; rfl, hu⟩) (Nat.le_of_ble_eq_true rfl) (Nat.le_of_ble_eq_true rfl)
    · refine lv_lconst (v := 1) hx hb dL_isLiving_10 (by decide) ?_
      refine lv_goto (tgt := 15) hx hb dL_isLiving_11 (by decide) ?_
      refine va_last (x := 1) hx hb hK hP hD hS 19 2 rfl rfl vin0 dL_isLiving_15 (fun H locs hP hD hS => ?_)
      have hP : pG G (wL G a q (u.1, u.2, (vp_updL o (0 : Int32).toNatClampNeg 1))) H := hP
      have hD : va_D A (wL G a q (u.1, u.2, (vp_updL o (0 : Int32).toNatClampNeg 1))) := hD
      refine lv_goto (tgt := 22) hx hb dL_isLiving_16 (by decide) ?_
      refine lv_iconst (v := 0) hx hb dL_isLiving_22 (by decide) ?_
      exact co_endL (u.1, u.2, (vp_updL o (0 : Int32).toNatClampNeg 1)) S hr hlocks dL_isLiving_23 hK hP hD hS (Or.inl ⟨rfl, hc9, by show vp_updL o (0 : Int32).toNatClampNeg 1 0 = _; rw [upL0, c9]; rfl, hu⟩) (Nat.le_of_ble_eq_true rfl) (Nat.le_of_ble_eq_true rfl)

set_option maxHeartbeats 4000000 in
set_option maxRecDepth 100000 in
theorem c_L_successor (l : Launch) (hl9 : l.stackTraces = false) (G : cG) (sa : Nat → Nat) (a : Nat → Nat) (q : Nat) (σ ρ : cS) (o : Nat → Int64) (n i : Int32) : MetL l yL_successor wsL_successor rm_L G sa (wL G a q (σ, ρ, o)) [.ref (a 0), .int n, .int i, .ref q] (fun u : lS => wL G a q u) (pL (cdP σ n i 2) (tat 3 (σ 1) n i) (σ) σ) 4 24 := by
  refine co_bodyL (cc := cL_successor) (maxL := 5) (ret := some .int) (hh := [(0, 10, 13, 13), (0, 10, 17, 15)]) (by decide) rfl (Nat.le_of_ble_eq_true rfl) ?_
  intro p e s m args below meth c S hr hlocks htb hK A hA hP hD hS hX hN ls hl
  have S : CallFix p m c cL_successor 5 s args wsL_successor RL := S
  obtain ⟨hx, hb, hml, hown, hts⟩ := id S
  have hl : lv_has ls 5 [(0, .ref (a 0)), (1, .int n), (2, .int i), (3, .ref q)] := hl
  refine lv_aload_n hx hb dL_successor_0 rfl (lv_at hl 3 rfl) ?_
  refine lv_iconst (v := 0) hx hb dL_successor_1 (by decide) ?_
  refine lv_aload_n hx hb dL_successor_2 rfl (lv_at hl 0 rfl) ?_
  refine lv_iload_n hx hb dL_successor_3 rfl (lv_at hl 1 rfl) ?_
  refine lv_iload_n hx hb dL_successor_4 rfl (lv_at hl 2 rfl) ?_
  refine co_xViS (wr := [(q, .inl (G.2.2.2, 1, .inr (.inl o)))]) (w' := fun u : cS × cS => wL G a q (u.1, u.2, o)) (As := [.int n, .int i]) (rest := [.int 0, .ref q]) [0, 1, 2, 3, 4, 5, 6, 7, 8, 9, 10, 11, 12, 13, 14, 15, 16, 17, 18] [19] [1, 2, 3, 4, 5, 6, 7, 8, 9, 10, 11, 12, 13, 14, 15, 16, 17, 18, 19, 0] S (c_X2_successor l hl9 G sa a σ ρ n i) (cwV 2 hts gL_successor_X2_successor rfl rfl rfl (by decide +kernel) ⟨(Nat.le_of_ble_eq_true rfl), (Nat.le_of_ble_eq_true rfl)⟩) hK hP hD hS hA hX rfl rfl (by decide) (by decide) (by decide) (by decide) (fun _ => rfl) (va_recv hK hP (ci := 1) (q0 := 0) rfl rfl) rfl hl.1 rfl (Nat.le_of_ble_eq_true rfl) dL_successor_5 ⟨(Nat.le_of_ble_eq_true rfl), (Nat.le_of_ble_eq_true rfl)⟩ (fun E ce q9 u H locs hp hP hD hS h1 h2 h3 => ?_) (fun r u H locs hp hP hD hS => ?_)
  · obtain ⟨hp, hu⟩ := hp
    rcases hp with ⟨k9, rfl⟩ | ⟨k9, rfl⟩ | ⟨k9, rfl⟩
    · refine vx_catch (name := "java/lang/IllegalArgumentException") hown [] ⟨0, 10, 13, 13⟩ [⟨0, 10, 17, 15⟩] htb (fun z hz => by cases hz) rfl (by decide) (hts (.classLink RL 13 "java/lang/IllegalArgumentException") (by decide +kernel)) (va_Nw.use rfl hX.2.1.1) h1 h2 h3 ?_
      refine lv_astore (lv' := [(4, .ref q9), (0, .ref (a 0)), (1, .int n), (2, .int i), (3, .ref q)]) hx hb dL_successor_13 hl (by decide) rfl (fun ls hl => ?_)
      refine lv_iconst (v := 1) hx hb dL_successor_15 (by decide) ?_
      exact co_endL (u.1, u.2, o) S hr hlocks dL_successor_16 hK hP hD hS (Or.inr ⟨by decide, by rw [k9]; rfl, by rw [k9]; decide, hu⟩) (Nat.le_of_ble_eq_true rfl) (Nat.le_of_ble_eq_true rfl)
    · refine vx_catch (name := "java/lang/IllegalStateException") hown [⟨0, 10, 13, 13⟩] ⟨0, 10, 17, 15⟩ [] htb (fun z hz => by obtain rfl := List.mem_singleton.mp hz; exact Or.inr ⟨by decide, "java/lang/IllegalArgumentException", hts (.classLink RL 13 "java/lang/IllegalArgumentException") (by decide +kernel), hN.1⟩) rfl (by decide) (hts (.classLink RL 15 "java/lang/IllegalStateException") (by decide +kernel)) (va_Nw.use rfl hX.2.1.2.1) h1 h2 h3 ?_
      refine lv_astore (lv' := [(4, .ref q9), (0, .ref (a 0)), (1, .int n), (2, .int i), (3, .ref q)]) hx hb dL_successor_17 hl (by decide) rfl (fun ls hl => ?_)
      refine lv_iconst (v := 2) hx hb dL_successor_19 (by decide) ?_
      exact co_endL (u.1, u.2, o) S hr hlocks dL_successor_20 hK hP hD hS (Or.inr ⟨by decide, by rw [k9]; rfl, by rw [k9]; decide, hu⟩) (Nat.le_of_ble_eq_true rfl) (Nat.le_of_ble_eq_true rfl)
    · exact absurd (cdP_le σ n i 2) (by omega)
  · obtain ⟨hc9, hr9, hu⟩ := hp
    refine lv_i2l (v := r.toInt64) hx hb dL_successor_8 rfl ?_
    refine va_last (x := r.toInt64) hx hb hK hP hD hS 19 2 rfl rfl vin0 dL_successor_9 (fun H locs hP hD hS => ?_)
    have hP : pG G (wL G a q (u.1, u.2, (vp_updL o (0 : Int32).toNatClampNeg r.toInt64))) H := hP
    have hD : va_D A (wL G a q (u.1, u.2, (vp_updL o (0 : Int32).toNatClampNeg r.toInt64))) := hD
    refine lv_goto (tgt := 21) hx hb dL_successor_10 (by decide) ?_
    refine lv_iconst (v := 0) hx hb dL_successor_21 (by decide) ?_
    exact co_endL (u.1, u.2, (vp_updL o (0 : Int32).toNatClampNeg r.toInt64)) S hr hlocks dL_successor_22 hK hP hD hS (Or.inl ⟨rfl, hc9, by show vp_updL o (0 : Int32).toNatClampNeg r.toInt64 0 = _; rw [upL0, hr9], hu⟩) (Nat.le_of_ble_eq_true rfl) (Nat.le_of_ble_eq_true rfl)

set_option maxHeartbeats 4000000 in
set_option maxRecDepth 100000 in
theorem c_L_liveSuccessor (l : Launch) (hl9 : l.stackTraces = false) (G : cG) (sa : Nat → Nat) (a : Nat → Nat) (q : Nat) (σ ρ : cS) (o : Nat → Int64) (n : Int32) : MetL l yL_liveSuccessor wsL_liveSuccessor rm_L G sa (wL G a q (σ, ρ, o)) [.ref (a 0), .int n, .ref q] (fun u : lS => wL G a q u) (pL (cdA σ n) (lsF (σ 0) (σ 1) n) (σ) σ) 4 24 := by
  refine co_bodyL (cc := cL_liveSuccessor) (maxL := 4) (ret := some .int) (hh := [(0, 9, 12, 13), (0, 9, 15, 15)]) (by decide) rfl (Nat.le_of_ble_eq_true rfl) ?_
  intro p e s m args below meth c S hr hlocks htb hK A hA hP hD hS hX hN ls hl
  have S : CallFix p m c cL_liveSuccessor 4 s args wsL_liveSuccessor RL := S
  obtain ⟨hx, hb, hml, hown, hts⟩ := id S
  have hl : lv_has ls 4 [(0, .ref (a 0)), (1, .int n), (2, .ref q)] := hl
  refine lv_aload_n hx hb dL_liveSuccessor_0 rfl (lv_at hl 2 rfl) ?_
  refine lv_iconst (v := 0) hx hb dL_liveSuccessor_1 (by decide) ?_
  refine lv_aload_n hx hb dL_liveSuccessor_2 rfl (lv_at hl 0 rfl) ?_
  refine lv_iload_n hx hb dL_liveSuccessor_3 rfl (lv_at hl 1 rfl) ?_
  refine co_xViS (wr := [(q, .inl (G.2.2.2, 1, .inr (.inl o)))]) (w' := fun u : cS × cS => wL G a q (u.1, u.2, o)) (As := [.int n]) (rest := [.int 0, .ref q]) [0, 1, 2, 3, 4, 5, 6, 7, 8, 9, 10, 11, 12, 13, 14, 15, 16, 17, 18] [19] [1, 2, 3, 4, 5, 6, 7, 8, 9, 10, 11, 12, 13, 14, 15, 16, 17, 18, 19, 0] S (c_X2_liveSuccessor l hl9 G sa a σ ρ n) (cwV 1 hts gL_liveSuccessor_X2_liveSuccessor rfl rfl rfl (by decide +kernel) ⟨(Nat.le_of_ble_eq_true rfl), (Nat.le_of_ble_eq_true rfl)⟩) hK hP hD hS hA hX rfl rfl (by decide) (by decide) (by decide) (by decide) (fun _ => rfl) (va_recv hK hP (ci := 1) (q0 := 0) rfl rfl) rfl hl.1 rfl (Nat.le_of_ble_eq_true rfl) dL_liveSuccessor_4 ⟨(Nat.le_of_ble_eq_true rfl), (Nat.le_of_ble_eq_true rfl)⟩ (fun E ce q9 u H locs hp hP hD hS h1 h2 h3 => ?_) (fun r u H locs hp hP hD hS => ?_)
  · obtain ⟨hp, hu⟩ := hp
    rcases hp with ⟨k9, rfl⟩ | ⟨k9, rfl⟩ | ⟨k9, rfl⟩
    · refine vx_catch (name := "java/lang/IllegalArgumentException") hown [] ⟨0, 9, 12, 13⟩ [⟨0, 9, 15, 15⟩] htb (fun z hz => by cases hz) rfl (by decide) (hts (.classLink RL 13 "java/lang/IllegalArgumentException") (by decide +kernel)) (va_Nw.use rfl hX.2.1.1) h1 h2 h3 ?_
      refine lv_astore_n (lv' := [(3, .ref q9), (0, .ref (a 0)), (1, .int n), (2, .ref q)]) hx hb dL_liveSuccessor_12 rfl hl (by decide) rfl (fun ls hl => ?_)
      refine lv_iconst (v := 1) hx hb dL_liveSuccessor_13 (by decide) ?_
      exact co_endL (u.1, u.2, o) S hr hlocks dL_liveSuccessor_14 hK hP hD hS (Or.inr ⟨by decide, by rw [k9]; rfl, by rw [k9]; decide, hu⟩) (Nat.le_of_ble_eq_true rfl) (Nat.le_of_ble_eq_true rfl)
    · refine vx_catch (name := "java/lang/IllegalStateException") hown [⟨0, 9, 12, 13⟩] ⟨0, 9, 15, 15⟩ [] htb (fun z hz => by obtain rfl := List.mem_singleton.mp hz; exact Or.inr ⟨by decide, "java/lang/IllegalArgumentException", hts (.classLink RL 13 "java/lang/IllegalArgumentException") (by decide +kernel), hN.1⟩) rfl (by decide) (hts (.classLink RL 15 "java/lang/IllegalStateException") (by decide +kernel)) (va_Nw.use rfl hX.2.1.2.1) h1 h2 h3 ?_
      refine lv_astore_n (lv' := [(3, .ref q9), (0, .ref (a 0)), (1, .int n), (2, .ref q)]) hx hb dL_liveSuccessor_15 rfl hl (by decide) rfl (fun ls hl => ?_)
      refine lv_iconst (v := 2) hx hb dL_liveSuccessor_16 (by decide) ?_
      exact co_endL (u.1, u.2, o) S hr hlocks dL_liveSuccessor_17 hK hP hD hS (Or.inr ⟨by decide, by rw [k9]; rfl, by rw [k9]; decide, hu⟩) (Nat.le_of_ble_eq_true rfl) (Nat.le_of_ble_eq_true rfl)
    · exact absurd (cdA_le σ n) (by omega)
  · obtain ⟨hc9, hr9, hu⟩ := hp
    refine lv_i2l (v := r.toInt64) hx hb dL_liveSuccessor_7 rfl ?_
    refine va_last (x := r.toInt64) hx hb hK hP hD hS 19 2 rfl rfl vin0 dL_liveSuccessor_8 (fun H locs hP hD hS => ?_)
    have hP : pG G (wL G a q (u.1, u.2, (vp_updL o (0 : Int32).toNatClampNeg r.toInt64))) H := hP
    have hD : va_D A (wL G a q (u.1, u.2, (vp_updL o (0 : Int32).toNatClampNeg r.toInt64))) := hD
    refine lv_goto (tgt := 18) hx hb dL_liveSuccessor_9 (by decide) ?_
    refine lv_iconst (v := 0) hx hb dL_liveSuccessor_18 (by decide) ?_
    exact co_endL (u.1, u.2, (vp_updL o (0 : Int32).toNatClampNeg r.toInt64)) S hr hlocks dL_liveSuccessor_19 hK hP hD hS (Or.inl ⟨rfl, hc9, by show vp_updL o (0 : Int32).toNatClampNeg r.toInt64 0 = _; rw [upL0, hr9], hu⟩) (Nat.le_of_ble_eq_true rfl) (Nat.le_of_ble_eq_true rfl)

set_option maxHeartbeats 4000000 in
set_option maxRecDepth 100000 in
theorem c_L_predecessor (l : Launch) (hl9 : l.stackTraces = false) (G : cG) (sa : Nat → Nat) (a : Nat → Nat) (q : Nat) (σ ρ : cS) (o : Nat → Int64) (n : Int32) : MetL l yL_predecessor wsL_predecessor rm_L G sa (wL G a q (σ, ρ, o)) [.ref (a 0), .int n, .ref q] (fun u : lS => wL G a q u) (pL (cdA σ n) (tat 1 (σ 2) n 0) (σ) σ) 4 24 := by
  refine co_bodyL (cc := cL_predecessor) (maxL := 4) (ret := some .int) (hh := [(0, 9, 12, 13), (0, 9, 15, 15)]) (by decide) rfl (Nat.le_of_ble_eq_true rfl) ?_
  intro p e s m args below meth c S hr hlocks htb hK A hA hP hD hS hX hN ls hl
  have S : CallFix p m c cL_predecessor 4 s args wsL_predecessor RL := S
  obtain ⟨hx, hb, hml, hown, hts⟩ := id S
  have hl : lv_has ls 4 [(0, .ref (a 0)), (1, .int n), (2, .ref q)] := hl
  refine lv_aload_n hx hb dL_predecessor_0 rfl (lv_at hl 2 rfl) ?_
  refine lv_iconst (v := 0) hx hb dL_predecessor_1 (by decide) ?_
  refine lv_aload_n hx hb dL_predecessor_2 rfl (lv_at hl 0 rfl) ?_
  refine lv_iload_n hx hb dL_predecessor_3 rfl (lv_at hl 1 rfl) ?_
  refine co_xViS (wr := [(q, .inl (G.2.2.2, 1, .inr (.inl o)))]) (w' := fun u : cS × cS => wL G a q (u.1, u.2, o)) (As := [.int n]) (rest := [.int 0, .ref q]) [0, 1, 2, 3, 4, 5, 6, 7, 8, 9, 10, 11, 12, 13, 14, 15, 16, 17, 18] [19] [1, 2, 3, 4, 5, 6, 7, 8, 9, 10, 11, 12, 13, 14, 15, 16, 17, 18, 19, 0] S (c_X2_predecessor l hl9 G sa a σ ρ n) (cwV 1 hts gL_predecessor_X2_predecessor rfl rfl rfl (by decide +kernel) ⟨(Nat.le_of_ble_eq_true rfl), (Nat.le_of_ble_eq_true rfl)⟩) hK hP hD hS hA hX rfl rfl (by decide) (by decide) (by decide) (by decide) (fun _ => rfl) (va_recv hK hP (ci := 1) (q0 := 0) rfl rfl) rfl hl.1 rfl (Nat.le_of_ble_eq_true rfl) dL_predecessor_4 ⟨(Nat.le_of_ble_eq_true rfl), (Nat.le_of_ble_eq_true rfl)⟩ (fun E ce q9 u H locs hp hP hD hS h1 h2 h3 => ?_) (fun r u H locs hp hP hD hS => ?_)
  · obtain ⟨hp, hu⟩ := hp
    rcases hp with ⟨k9, rfl⟩ | ⟨k9, rfl⟩ | ⟨k9, rfl⟩
    · refine vx_catch (name := "java/lang/IllegalArgumentException") hown [] ⟨0, 9, 12, 13⟩ [⟨0, 9, 15, 15⟩] htb (fun z hz => by cases hz) rfl (by decide) (hts (.classLink RL 13 "java/lang/IllegalArgumentException") (by decide +kernel)) (va_Nw.use rfl hX.2.1.1) h1 h2 h3 ?_
      refine lv_astore_n (lv' := [(3, .ref q9), (0, .ref (a 0)), (1, .int n), (2, .ref q)]) hx hb dL_predecessor_12 rfl hl (by decide) rfl (fun ls hl => ?_)
      refine lv_iconst (v := 1) hx hb dL_predecessor_13 (by decide) ?_
      exact co_endL (u.1, u.2, o) S hr hlocks dL_predecessor_14 hK hP hD hS (Or.inr ⟨by decide, by rw [k9]; rfl, by rw [k9]; decide, hu⟩) (Nat.le_of_ble_eq_true rfl) (Nat.le_of_ble_eq_true rfl)
    · refine vx_catch (name := "java/lang/IllegalStateException") hown [⟨0, 9, 12, 13⟩] ⟨0, 9, 15, 15⟩ [] htb (fun z hz => by obtain rfl := List.mem_singleton.mp hz; exact Or.inr ⟨by decide, "java/lang/IllegalArgumentException", hts (.classLink RL 13 "java/lang/IllegalArgumentException") (by decide +kernel), hN.1⟩) rfl (by decide) (hts (.classLink RL 15 "java/lang/IllegalStateException") (by decide +kernel)) (va_Nw.use rfl hX.2.1.2.1) h1 h2 h3 ?_
      refine lv_astore_n (lv' := [(3, .ref q9), (0, .ref (a 0)), (1, .int n), (2, .ref q)]) hx hb dL_predecessor_15 rfl hl (by decide) rfl (fun ls hl => ?_)
      refine lv_iconst (v := 2) hx hb dL_predecessor_16 (by decide) ?_
      exact co_endL (u.1, u.2, o) S hr hlocks dL_predecessor_17 hK hP hD hS (Or.inr ⟨by decide, by rw [k9]; rfl, by rw [k9]; decide, hu⟩) (Nat.le_of_ble_eq_true rfl) (Nat.le_of_ble_eq_true rfl)
    · exact absurd (cdA_le σ n) (by omega)
  · obtain ⟨hc9, hr9, hu⟩ := hp
    refine lv_i2l (v := r.toInt64) hx hb dL_predecessor_7 rfl ?_
    refine va_last (x := r.toInt64) hx hb hK hP hD hS 19 2 rfl rfl vin0 dL_predecessor_8 (fun H locs hP hD hS => ?_)
    have hP : pG G (wL G a q (u.1, u.2, (vp_updL o (0 : Int32).toNatClampNeg r.toInt64))) H := hP
    have hD : va_D A (wL G a q (u.1, u.2, (vp_updL o (0 : Int32).toNatClampNeg r.toInt64))) := hD
    refine lv_goto (tgt := 18) hx hb dL_predecessor_9 (by decide) ?_
    refine lv_iconst (v := 0) hx hb dL_predecessor_18 (by decide) ?_
    exact co_endL (u.1, u.2, (vp_updL o (0 : Int32).toNatClampNeg r.toInt64)) S hr hlocks dL_predecessor_19 hK hP hD hS (Or.inl ⟨rfl, hc9, by show vp_updL o (0 : Int32).toNatClampNeg r.toInt64 0 = _; rw [upL0, hr9], hu⟩) (Nat.le_of_ble_eq_true rfl) (Nat.le_of_ble_eq_true rfl)

set_option maxHeartbeats 4000000 in
set_option maxRecDepth 100000 in
theorem c_L_finger (l : Launch) (hl9 : l.stackTraces = false) (G : cG) (sa : Nat → Nat) (a : Nat → Nat) (q : Nat) (σ ρ : cS) (o : Nat → Int64) (n i : Int32) : MetL l yL_finger wsL_finger rm_L G sa (wL G a q (σ, ρ, o)) [.ref (a 0), .int n, .int i, .ref q] (fun u : lS => wL G a q u) (pL (cdP σ n i 5) (tat 6 (σ 3) n i) (σ) σ) 4 24 := by
  refine co_bodyL (cc := cL_finger) (maxL := 5) (ret := some .int) (hh := [(0, 10, 13, 13), (0, 10, 17, 15)]) (by decide) rfl (Nat.le_of_ble_eq_true rfl) ?_
  intro p e s m args below meth c S hr hlocks htb hK A hA hP hD hS hX hN ls hl
  have S : CallFix p m c cL_finger 5 s args wsL_finger RL := S
  obtain ⟨hx, hb, hml, hown, hts⟩ := id S
  have hl : lv_has ls 5 [(0, .ref (a 0)), (1, .int n), (2, .int i), (3, .ref q)] := hl
  refine lv_aload_n hx hb dL_finger_0 rfl (lv_at hl 3 rfl) ?_
  refine lv_iconst (v := 0) hx hb dL_finger_1 (by decide) ?_
  refine lv_aload_n hx hb dL_finger_2 rfl (lv_at hl 0 rfl) ?_
  refine lv_iload_n hx hb dL_finger_3 rfl (lv_at hl 1 rfl) ?_
  refine lv_iload_n hx hb dL_finger_4 rfl (lv_at hl 2 rfl) ?_
  refine co_xViS (wr := [(q, .inl (G.2.2.2, 1, .inr (.inl o)))]) (w' := fun u : cS × cS => wL G a q (u.1, u.2, o)) (As := [.int n, .int i]) (rest := [.int 0, .ref q]) [0, 1, 2, 3, 4, 5, 6, 7, 8, 9, 10, 11, 12, 13, 14, 15, 16, 17, 18] [19] [1, 2, 3, 4, 5, 6, 7, 8, 9, 10, 11, 12, 13, 14, 15, 16, 17, 18, 19, 0] S (c_X2_finger l hl9 G sa a σ ρ n i) (cwV 2 hts gL_finger_X2_finger rfl rfl rfl (by decide +kernel) ⟨(Nat.le_of_ble_eq_true rfl), (Nat.le_of_ble_eq_true rfl)⟩) hK hP hD hS hA hX rfl rfl (by decide) (by decide) (by decide) (by decide) (fun _ => rfl) (va_recv hK hP (ci := 1) (q0 := 0) rfl rfl) rfl hl.1 rfl (Nat.le_of_ble_eq_true rfl) dL_finger_5 ⟨(Nat.le_of_ble_eq_true rfl), (Nat.le_of_ble_eq_true rfl)⟩ (fun E ce q9 u H locs hp hP hD hS h1 h2 h3 => ?_) (fun r u H locs hp hP hD hS => ?_)
  · obtain ⟨hp, hu⟩ := hp
    rcases hp with ⟨k9, rfl⟩ | ⟨k9, rfl⟩ | ⟨k9, rfl⟩
    · refine vx_catch (name := "java/lang/IllegalArgumentException") hown [] ⟨0, 10, 13, 13⟩ [⟨0, 10, 17, 15⟩] htb (fun z hz => by cases hz) rfl (by decide) (hts (.classLink RL 13 "java/lang/IllegalArgumentException") (by decide +kernel)) (va_Nw.use rfl hX.2.1.1) h1 h2 h3 ?_
      refine lv_astore (lv' := [(4, .ref q9), (0, .ref (a 0)), (1, .int n), (2, .int i), (3, .ref q)]) hx hb dL_finger_13 hl (by decide) rfl (fun ls hl => ?_)
      refine lv_iconst (v := 1) hx hb dL_finger_15 (by decide) ?_
      exact co_endL (u.1, u.2, o) S hr hlocks dL_finger_16 hK hP hD hS (Or.inr ⟨by decide, by rw [k9]; rfl, by rw [k9]; decide, hu⟩) (Nat.le_of_ble_eq_true rfl) (Nat.le_of_ble_eq_true rfl)
    · refine vx_catch (name := "java/lang/IllegalStateException") hown [⟨0, 10, 13, 13⟩] ⟨0, 10, 17, 15⟩ [] htb (fun z hz => by obtain rfl := List.mem_singleton.mp hz; exact Or.inr ⟨by decide, "java/lang/IllegalArgumentException", hts (.classLink RL 13 "java/lang/IllegalArgumentException") (by decide +kernel), hN.1⟩) rfl (by decide) (hts (.classLink RL 15 "java/lang/IllegalStateException") (by decide +kernel)) (va_Nw.use rfl hX.2.1.2.1) h1 h2 h3 ?_
      refine lv_astore (lv' := [(4, .ref q9), (0, .ref (a 0)), (1, .int n), (2, .int i), (3, .ref q)]) hx hb dL_finger_17 hl (by decide) rfl (fun ls hl => ?_)
      refine lv_iconst (v := 2) hx hb dL_finger_19 (by decide) ?_
      exact co_endL (u.1, u.2, o) S hr hlocks dL_finger_20 hK hP hD hS (Or.inr ⟨by decide, by rw [k9]; rfl, by rw [k9]; decide, hu⟩) (Nat.le_of_ble_eq_true rfl) (Nat.le_of_ble_eq_true rfl)
    · exact absurd (cdP_le σ n i 5) (by omega)
  · obtain ⟨hc9, hr9, hu⟩ := hp
    refine lv_i2l (v := r.toInt64) hx hb dL_finger_8 rfl ?_
    refine va_last (x := r.toInt64) hx hb hK hP hD hS 19 2 rfl rfl vin0 dL_finger_9 (fun H locs hP hD hS => ?_)
    have hP : pG G (wL G a q (u.1, u.2, (vp_updL o (0 : Int32).toNatClampNeg r.toInt64))) H := hP
    have hD : va_D A (wL G a q (u.1, u.2, (vp_updL o (0 : Int32).toNatClampNeg r.toInt64))) := hD
    refine lv_goto (tgt := 21) hx hb dL_finger_10 (by decide) ?_
    refine lv_iconst (v := 0) hx hb dL_finger_21 (by decide) ?_
    exact co_endL (u.1, u.2, (vp_updL o (0 : Int32).toNatClampNeg r.toInt64)) S hr hlocks dL_finger_22 hK hP hD hS (Or.inl ⟨rfl, hc9, by show vp_updL o (0 : Int32).toNatClampNeg r.toInt64 0 = _; rw [upL0, hr9], hu⟩) (Nat.le_of_ble_eq_true rfl) (Nat.le_of_ble_eq_true rfl)

set_option maxHeartbeats 4000000 in
set_option maxRecDepth 100000 in
theorem c_L_check (l : Launch) (hl9 : l.stackTraces = false) (G : cG) (sa : Nat → Nat) (a : Nat → Nat) (q : Nat) (σ ρ : cS) (o : Nat → Int64) (n : Int32) : MetL l yL_check wsL_check rm_L G sa (wL G a q (σ, ρ, o)) [.ref (a 0), .int n, .ref q] (fun u : lS => wL G a q u) (pL (cdA σ n) (bI (chB σ n)) (ddS σ n) σ) 4 24 := by
  refine co_bodyL (cc := cL_check) (maxL := 4) (ret := some .int) (hh := [(0, 16, 19, 13), (0, 16, 22, 15)]) (by decide) rfl (Nat.le_of_ble_eq_true rfl) ?_
  intro p e s m args below meth c S hr hlocks htb hK A hA hP hD hS hX hN ls hl
  have S : CallFix p m c cL_check 4 s args wsL_check RL := S
  obtain ⟨hx, hb, hml, hown, hts⟩ := id S
  have hl : lv_has ls 4 [(0, .ref (a 0)), (1, .int n), (2, .ref q)] := hl
  refine lv_aload_n hx hb dL_check_0 rfl (lv_at hl 2 rfl) ?_
  refine lv_iconst (v := 0) hx hb dL_check_1 (by decide) ?_
  refine lv_aload_n hx hb dL_check_2 rfl (lv_at hl 0 rfl) ?_
  refine lv_iload_n hx hb dL_check_3 rfl (lv_at hl 1 rfl) ?_
  refine co_xViS (wr := [(q, .inl (G.2.2.2, 1, .inr (.inl o)))]) (w' := fun u : cS × cS => wL G a q (u.1, u.2, o)) (As := [.int n]) (rest := [.int 0, .ref q]) [0, 1, 2, 3, 4, 5, 6, 7, 8, 9, 10, 11, 12, 13, 14, 15, 16, 17, 18] [19] [1, 2, 3, 4, 5, 6, 7, 8, 9, 10, 11, 12, 13, 14, 15, 16, 17, 18, 19, 0] S (c_X2_check l hl9 G sa a σ ρ n) (cwV 1 hts gL_check_X2_check rfl rfl rfl (by decide +kernel) ⟨(Nat.le_of_ble_eq_true rfl), (Nat.le_of_ble_eq_true rfl)⟩) hK hP hD hS hA hX rfl rfl (by decide) (by decide) (by decide) (by decide) (fun _ => rfl) (va_recv hK hP (ci := 1) (q0 := 0) rfl rfl) rfl hl.1 rfl (Nat.le_of_ble_eq_true rfl) dL_check_4 ⟨(Nat.le_of_ble_eq_true rfl), (Nat.le_of_ble_eq_true rfl)⟩ (fun E ce q9 u H locs hp hP hD hS h1 h2 h3 => ?_) (fun r u H locs hp hP hD hS => ?_)
  · obtain ⟨hp, hu⟩ := hp
    rcases hp with ⟨k9, rfl⟩ | ⟨k9, rfl⟩ | ⟨k9, rfl⟩
    · refine vx_catch (name := "java/lang/IllegalArgumentException") hown [] ⟨0, 16, 19, 13⟩ [⟨0, 16, 22, 15⟩] htb (fun z hz => by cases hz) rfl (by decide) (hts (.classLink RL 13 "java/lang/IllegalArgumentException") (by decide +kernel)) (va_Nw.use rfl hX.2.1.1) h1 h2 h3 ?_
      refine lv_astore_n (lv' := [(3, .ref q9), (0, .ref (a 0)), (1, .int n), (2, .ref q)]) hx hb dL_check_19 rfl hl (by decide) rfl (fun ls hl => ?_)
      refine lv_iconst (v := 1) hx hb dL_check_20 (by decide) ?_
      exact co_endL (u.1, u.2, o) S hr hlocks dL_check_21 hK hP hD hS (Or.inr ⟨by decide, by rw [k9]; rfl, by rw [k9]; decide, hu⟩) (Nat.le_of_ble_eq_true rfl) (Nat.le_of_ble_eq_true rfl)
    · refine vx_catch (name := "java/lang/IllegalStateException") hown [⟨0, 16, 19, 13⟩] ⟨0, 16, 22, 15⟩ [] htb (fun z hz => by obtain rfl := List.mem_singleton.mp hz; exact Or.inr ⟨by decide, "java/lang/IllegalArgumentException", hts (.classLink RL 13 "java/lang/IllegalArgumentException") (by decide +kernel), hN.1⟩) rfl (by decide) (hts (.classLink RL 15 "java/lang/IllegalStateException") (by decide +kernel)) (va_Nw.use rfl hX.2.1.2.1) h1 h2 h3 ?_
      refine lv_astore_n (lv' := [(3, .ref q9), (0, .ref (a 0)), (1, .int n), (2, .ref q)]) hx hb dL_check_22 rfl hl (by decide) rfl (fun ls hl => ?_)
      refine lv_iconst (v := 2) hx hb dL_check_23 (by decide) ?_
      exact co_endL (u.1, u.2, o) S hr hlocks dL_check_24 hK hP hD hS (Or.inr ⟨by decide, by rw [k9]; rfl, by rw [k9]; decide, hu⟩) (Nat.le_of_ble_eq_true rfl) (Nat.le_of_ble_eq_true rfl)
    · exact absurd (cdA_le σ n) (by omega)
  · obtain ⟨hc9, hr9, hu⟩ := hp
    subst hr9
    refine co_ifeq (tgt := 14) S dL_check_7 (by decide) (fun c9 => ?_) (fun c9 => ?_)
    · refine lv_lconst (v := 0) hx hb dL_check_14 (by decide) ?_
      refine va_last (x := 0) hx hb hK hP hD hS 19 2 rfl rfl vin0 dL_check_15 (fun H locs hP hD hS => ?_)
      have hP : pG G (wL G a q (u.1, u.2, (vp_updL o (0 : Int32).toNatClampNeg 0))) H := hP
      have hD : va_D A (wL G a q (u.1, u.2, (vp_updL o (0 : Int32).toNatClampNeg 0))) := hD
      refine lv_goto (tgt := 25) hx hb dL_check_16 (by decide) ?_
      refine lv_iconst (v := 0) hx hb dL_check_25 (by decide) ?_
      exact co_endL (u.1, u.2, (vp_updL o (0 : Int32).toNatClampNeg 0)) S hr hlocks dL_check_26 hK hP hD hS (Or.inl ⟨rfl, hc9, by show vp_updL o (0 : Int32).toNatClampNeg 0 0 = _; rw [upL0, c9]; rfl, hu⟩) (Nat.le_of_ble_eq_true rfl) (Nat.le_of_ble_eq_true rfl)
    · refine lv_lconst (v := 1) hx hb dL_check_10 (by decide) ?_
      refine lv_goto (tgt := 15) hx hb dL_check_11 (by decide) ?_
      refine va_last (x := 1) hx hb hK hP hD hS 19 2 rfl rfl vin0 dL_check_15 (fun H locs hP hD hS => ?_)
      have hP : pG G (wL G a q (u.1, u.2, (vp_updL o (0 : Int32).toNatClampNeg 1))) H := hP
      have hD : va_D A (wL G a q (u.1, u.2, (vp_updL o (0 : Int32).toNatClampNeg 1))) := hD
      refine lv_goto (tgt := 25) hx hb dL_check_16 (by decide) ?_
      refine lv_iconst (v := 0) hx hb dL_check_25 (by decide) ?_
      exact co_endL (u.1, u.2, (vp_updL o (0 : Int32).toNatClampNeg 1)) S hr hlocks dL_check_26 hK hP hD hS (Or.inl ⟨rfl, hc9, by show vp_updL o (0 : Int32).toNatClampNeg 1 0 = _; rw [upL0, c9]; rfl, hu⟩) (Nat.le_of_ble_eq_true rfl) (Nat.le_of_ble_eq_true rfl)

set_option maxHeartbeats 4000000 in
set_option maxRecDepth 100000 in
theorem c_L_stabilize (l : Launch) (hl9 : l.stackTraces = false) (G : cG) (sa : Nat → Nat) (a : Nat → Nat) (q : Nat) (σ ρ : cS) (o : Nat → Int64) (n : Int32) : MetL l yL_stabilize wsL_stabilize rm_L G sa (wL G a q (σ, ρ, o)) [.ref (a 0), .int n, .ref q] (fun u : lS => wL G a q u) (pL (cdA σ n) (tat 3 (msS σ n 1) n 0) (msS σ n) σ) 4 24 := by
  refine co_bodyL (cc := cL_stabilize) (maxL := 4) (ret := some .int) (hh := [(0, 9, 12, 13), (0, 9, 15, 15)]) (by decide) rfl (Nat.le_of_ble_eq_true rfl) ?_
  intro p e s m args below meth c S hr hlocks htb hK A hA hP hD hS hX hN ls hl
  have S : CallFix p m c cL_stabilize 4 s args wsL_stabilize RL := S
  obtain ⟨hx, hb, hml, hown, hts⟩ := id S
  have hl : lv_has ls 4 [(0, .ref (a 0)), (1, .int n), (2, .ref q)] := hl
  refine lv_aload_n hx hb dL_stabilize_0 rfl (lv_at hl 2 rfl) ?_
  refine lv_iconst (v := 0) hx hb dL_stabilize_1 (by decide) ?_
  refine lv_aload_n hx hb dL_stabilize_2 rfl (lv_at hl 0 rfl) ?_
  refine lv_iload_n hx hb dL_stabilize_3 rfl (lv_at hl 1 rfl) ?_
  refine co_xViS (wr := [(q, .inl (G.2.2.2, 1, .inr (.inl o)))]) (w' := fun u : cS × cS => wL G a q (u.1, u.2, o)) (As := [.int n]) (rest := [.int 0, .ref q]) [0, 1, 2, 3, 4, 5, 6, 7, 8, 9, 10, 11, 12, 13, 14, 15, 16, 17, 18] [19] [1, 2, 3, 4, 5, 6, 7, 8, 9, 10, 11, 12, 13, 14, 15, 16, 17, 18, 19, 0] S (c_X2_stabilize l hl9 G sa a σ ρ n) (cwV 1 hts gL_stabilize_X2_stabilize rfl rfl rfl (by decide +kernel) ⟨(Nat.le_of_ble_eq_true rfl), (Nat.le_of_ble_eq_true rfl)⟩) hK hP hD hS hA hX rfl rfl (by decide) (by decide) (by decide) (by decide) (fun _ => rfl) (va_recv hK hP (ci := 1) (q0 := 0) rfl rfl) rfl hl.1 rfl (Nat.le_of_ble_eq_true rfl) dL_stabilize_4 ⟨(Nat.le_of_ble_eq_true rfl), (Nat.le_of_ble_eq_true rfl)⟩ (fun E ce q9 u H locs hp hP hD hS h1 h2 h3 => ?_) (fun r u H locs hp hP hD hS => ?_)
  · obtain ⟨hp, hu⟩ := hp
    rcases hp with ⟨k9, rfl⟩ | ⟨k9, rfl⟩ | ⟨k9, rfl⟩
    · refine vx_catch (name := "java/lang/IllegalArgumentException") hown [] ⟨0, 9, 12, 13⟩ [⟨0, 9, 15, 15⟩] htb (fun z hz => by cases hz) rfl (by decide) (hts (.classLink RL 13 "java/lang/IllegalArgumentException") (by decide +kernel)) (va_Nw.use rfl hX.2.1.1) h1 h2 h3 ?_
      refine lv_astore_n (lv' := [(3, .ref q9), (0, .ref (a 0)), (1, .int n), (2, .ref q)]) hx hb dL_stabilize_12 rfl hl (by decide) rfl (fun ls hl => ?_)
      refine lv_iconst (v := 1) hx hb dL_stabilize_13 (by decide) ?_
      exact co_endL (u.1, u.2, o) S hr hlocks dL_stabilize_14 hK hP hD hS (Or.inr ⟨by decide, by rw [k9]; rfl, by rw [k9]; decide, hu⟩) (Nat.le_of_ble_eq_true rfl) (Nat.le_of_ble_eq_true rfl)
    · refine vx_catch (name := "java/lang/IllegalStateException") hown [⟨0, 9, 12, 13⟩] ⟨0, 9, 15, 15⟩ [] htb (fun z hz => by obtain rfl := List.mem_singleton.mp hz; exact Or.inr ⟨by decide, "java/lang/IllegalArgumentException", hts (.classLink RL 13 "java/lang/IllegalArgumentException") (by decide +kernel), hN.1⟩) rfl (by decide) (hts (.classLink RL 15 "java/lang/IllegalStateException") (by decide +kernel)) (va_Nw.use rfl hX.2.1.2.1) h1 h2 h3 ?_
      refine lv_astore_n (lv' := [(3, .ref q9), (0, .ref (a 0)), (1, .int n), (2, .ref q)]) hx hb dL_stabilize_15 rfl hl (by decide) rfl (fun ls hl => ?_)
      refine lv_iconst (v := 2) hx hb dL_stabilize_16 (by decide) ?_
      exact co_endL (u.1, u.2, o) S hr hlocks dL_stabilize_17 hK hP hD hS (Or.inr ⟨by decide, by rw [k9]; rfl, by rw [k9]; decide, hu⟩) (Nat.le_of_ble_eq_true rfl) (Nat.le_of_ble_eq_true rfl)
    · exact absurd (cdA_le σ n) (by omega)
  · obtain ⟨hc9, hr9, hu⟩ := hp
    refine lv_i2l (v := r.toInt64) hx hb dL_stabilize_7 rfl ?_
    refine va_last (x := r.toInt64) hx hb hK hP hD hS 19 2 rfl rfl vin0 dL_stabilize_8 (fun H locs hP hD hS => ?_)
    have hP : pG G (wL G a q (u.1, u.2, (vp_updL o (0 : Int32).toNatClampNeg r.toInt64))) H := hP
    have hD : va_D A (wL G a q (u.1, u.2, (vp_updL o (0 : Int32).toNatClampNeg r.toInt64))) := hD
    refine lv_goto (tgt := 18) hx hb dL_stabilize_9 (by decide) ?_
    refine lv_iconst (v := 0) hx hb dL_stabilize_18 (by decide) ?_
    exact co_endL (u.1, u.2, (vp_updL o (0 : Int32).toNatClampNeg r.toInt64)) S hr hlocks dL_stabilize_19 hK hP hD hS (Or.inl ⟨rfl, hc9, by show vp_updL o (0 : Int32).toNatClampNeg r.toInt64 0 = _; rw [upL0, hr9], hu⟩) (Nat.le_of_ble_eq_true rfl) (Nat.le_of_ble_eq_true rfl)

set_option maxHeartbeats 4000000 in
set_option maxRecDepth 100000 in
theorem c_L_fix (l : Launch) (hl9 : l.stackTraces = false) (G : cG) (sa : Nat → Nat) (a : Nat → Nat) (q : Nat) (σ ρ : cS) (o : Nat → Int64) (n : Int32) : MetL l yL_fix wsL_fix rm_L G sa (wL G a q (σ, ρ, o)) [.ref (a 0), .int n, .ref q] (fun u : lS => wL G a q u) (pL (cdA σ n) (rfC σ n 6) (rfS σ n 6) σ) 4 24 := by
  refine co_bodyL (cc := cL_fix) (maxL := 4) (ret := some .int) (hh := [(0, 9, 12, 13), (0, 9, 15, 15)]) (by decide) rfl (Nat.le_of_ble_eq_true rfl) ?_
  intro p e s m args below meth c S hr hlocks htb hK A hA hP hD hS hX hN ls hl
  have S : CallFix p m c cL_fix 4 s args wsL_fix RL := S
  obtain ⟨hx, hb, hml, hown, hts⟩ := id S
  have hl : lv_has ls 4 [(0, .ref (a 0)), (1, .int n), (2, .ref q)] := hl
  refine lv_aload_n hx hb dL_fix_0 rfl (lv_at hl 2 rfl) ?_
  refine lv_iconst (v := 0) hx hb dL_fix_1 (by decide) ?_
  refine lv_aload_n hx hb dL_fix_2 rfl (lv_at hl 0 rfl) ?_
  refine lv_iload_n hx hb dL_fix_3 rfl (lv_at hl 1 rfl) ?_
  refine co_xViS (wr := [(q, .inl (G.2.2.2, 1, .inr (.inl o)))]) (w' := fun u : cS × cS => wL G a q (u.1, u.2, o)) (As := [.int n]) (rest := [.int 0, .ref q]) [0, 1, 2, 3, 4, 5, 6, 7, 8, 9, 10, 11, 12, 13, 14, 15, 16, 17, 18] [19] [1, 2, 3, 4, 5, 6, 7, 8, 9, 10, 11, 12, 13, 14, 15, 16, 17, 18, 19, 0] S (c_X2_fix l hl9 G sa a σ ρ n) (cwV 1 hts gL_fix_X2_fix rfl rfl rfl (by decide +kernel) ⟨(Nat.le_of_ble_eq_true rfl), (Nat.le_of_ble_eq_true rfl)⟩) hK hP hD hS hA hX rfl rfl (by decide) (by decide) (by decide) (by decide) (fun _ => rfl) (va_recv hK hP (ci := 1) (q0 := 0) rfl rfl) rfl hl.1 rfl (Nat.le_of_ble_eq_true rfl) dL_fix_4 ⟨(Nat.le_of_ble_eq_true rfl), (Nat.le_of_ble_eq_true rfl)⟩ (fun E ce q9 u H locs hp hP hD hS h1 h2 h3 => ?_) (fun r u H locs hp hP hD hS => ?_)
  · obtain ⟨hp, hu⟩ := hp
    rcases hp with ⟨k9, rfl⟩ | ⟨k9, rfl⟩ | ⟨k9, rfl⟩
    · refine vx_catch (name := "java/lang/IllegalArgumentException") hown [] ⟨0, 9, 12, 13⟩ [⟨0, 9, 15, 15⟩] htb (fun z hz => by cases hz) rfl (by decide) (hts (.classLink RL 13 "java/lang/IllegalArgumentException") (by decide +kernel)) (va_Nw.use rfl hX.2.1.1) h1 h2 h3 ?_
      refine lv_astore_n (lv' := [(3, .ref q9), (0, .ref (a 0)), (1, .int n), (2, .ref q)]) hx hb dL_fix_12 rfl hl (by decide) rfl (fun ls hl => ?_)
      refine lv_iconst (v := 1) hx hb dL_fix_13 (by decide) ?_
      exact co_endL (u.1, u.2, o) S hr hlocks dL_fix_14 hK hP hD hS (Or.inr ⟨by decide, by rw [k9]; rfl, by rw [k9]; decide, hu⟩) (Nat.le_of_ble_eq_true rfl) (Nat.le_of_ble_eq_true rfl)
    · refine vx_catch (name := "java/lang/IllegalStateException") hown [⟨0, 9, 12, 13⟩] ⟨0, 9, 15, 15⟩ [] htb (fun z hz => by obtain rfl := List.mem_singleton.mp hz; exact Or.inr ⟨by decide, "java/lang/IllegalArgumentException", hts (.classLink RL 13 "java/lang/IllegalArgumentException") (by decide +kernel), hN.1⟩) rfl (by decide) (hts (.classLink RL 15 "java/lang/IllegalStateException") (by decide +kernel)) (va_Nw.use rfl hX.2.1.2.1) h1 h2 h3 ?_
      refine lv_astore_n (lv' := [(3, .ref q9), (0, .ref (a 0)), (1, .int n), (2, .ref q)]) hx hb dL_fix_15 rfl hl (by decide) rfl (fun ls hl => ?_)
      refine lv_iconst (v := 2) hx hb dL_fix_16 (by decide) ?_
      exact co_endL (u.1, u.2, o) S hr hlocks dL_fix_17 hK hP hD hS (Or.inr ⟨by decide, by rw [k9]; rfl, by rw [k9]; decide, hu⟩) (Nat.le_of_ble_eq_true rfl) (Nat.le_of_ble_eq_true rfl)
    · exact absurd (cdA_le σ n) (by omega)
  · obtain ⟨hc9, hr9, hu⟩ := hp
    refine lv_i2l (v := r.toInt64) hx hb dL_fix_7 rfl ?_
    refine va_last (x := r.toInt64) hx hb hK hP hD hS 19 2 rfl rfl vin0 dL_fix_8 (fun H locs hP hD hS => ?_)
    have hP : pG G (wL G a q (u.1, u.2, (vp_updL o (0 : Int32).toNatClampNeg r.toInt64))) H := hP
    have hD : va_D A (wL G a q (u.1, u.2, (vp_updL o (0 : Int32).toNatClampNeg r.toInt64))) := hD
    refine lv_goto (tgt := 18) hx hb dL_fix_9 (by decide) ?_
    refine lv_iconst (v := 0) hx hb dL_fix_18 (by decide) ?_
    exact co_endL (u.1, u.2, (vp_updL o (0 : Int32).toNatClampNeg r.toInt64)) S hr hlocks dL_fix_19 hK hP hD hS (Or.inl ⟨rfl, hc9, by show vp_updL o (0 : Int32).toNatClampNeg r.toInt64 0 = _; rw [upL0, hr9], hu⟩) (Nat.le_of_ble_eq_true rfl) (Nat.le_of_ble_eq_true rfl)

set_option maxHeartbeats 4000000 in
set_option maxRecDepth 100000 in
theorem c_L_replicate (l : Launch) (hl9 : l.stackTraces = false) (G : cG) (sa : Nat → Nat) (a : Nat → Nat) (q : Nat) (σ ρ : cS) (o : Nat → Int64) (n : Int32) : MetL l yL_replicate wsL_replicate rm_L G sa (wL G a q (σ, ρ, o)) [.ref (a 0), .int n, .ref q] (fun u : lS => wL G a q u) (pL (cdA σ n) (svC σ n 64) (svS σ n 64) σ) 4 24 := by
  refine co_bodyL (cc := cL_replicate) (maxL := 4) (ret := some .int) (hh := [(0, 9, 12, 13), (0, 9, 15, 15)]) (by decide) rfl (Nat.le_of_ble_eq_true rfl) ?_
  intro p e s m args below meth c S hr hlocks htb hK A hA hP hD hS hX hN ls hl
  have S : CallFix p m c cL_replicate 4 s args wsL_replicate RL := S
  obtain ⟨hx, hb, hml, hown, hts⟩ := id S
  have hl : lv_has ls 4 [(0, .ref (a 0)), (1, .int n), (2, .ref q)] := hl
  refine lv_aload_n hx hb dL_replicate_0 rfl (lv_at hl 2 rfl) ?_
  refine lv_iconst (v := 0) hx hb dL_replicate_1 (by decide) ?_
  refine lv_aload_n hx hb dL_replicate_2 rfl (lv_at hl 0 rfl) ?_
  refine lv_iload_n hx hb dL_replicate_3 rfl (lv_at hl 1 rfl) ?_
  refine co_xViS (wr := [(q, .inl (G.2.2.2, 1, .inr (.inl o)))]) (w' := fun u : cS × cS => wL G a q (u.1, u.2, o)) (As := [.int n]) (rest := [.int 0, .ref q]) [0, 1, 2, 3, 4, 5, 6, 7, 8, 9, 10, 11, 12, 13, 14, 15, 16, 17, 18] [19] [1, 2, 3, 4, 5, 6, 7, 8, 9, 10, 11, 12, 13, 14, 15, 16, 17, 18, 19, 0] S (c_X2_replicate l hl9 G sa a σ ρ n) (cwV 1 hts gL_replicate_X2_replicate rfl rfl rfl (by decide +kernel) ⟨(Nat.le_of_ble_eq_true rfl), (Nat.le_of_ble_eq_true rfl)⟩) hK hP hD hS hA hX rfl rfl (by decide) (by decide) (by decide) (by decide) (fun _ => rfl) (va_recv hK hP (ci := 1) (q0 := 0) rfl rfl) rfl hl.1 rfl (Nat.le_of_ble_eq_true rfl) dL_replicate_4 ⟨(Nat.le_of_ble_eq_true rfl), (Nat.le_of_ble_eq_true rfl)⟩ (fun E ce q9 u H locs hp hP hD hS h1 h2 h3 => ?_) (fun r u H locs hp hP hD hS => ?_)
  · obtain ⟨hp, hu⟩ := hp
    rcases hp with ⟨k9, rfl⟩ | ⟨k9, rfl⟩ | ⟨k9, rfl⟩
    · refine vx_catch (name := "java/lang/IllegalArgumentException") hown [] ⟨0, 9, 12, 13⟩ [⟨0, 9, 15, 15⟩] htb (fun z hz => by cases hz) rfl (by decide) (hts (.classLink RL 13 "java/lang/IllegalArgumentException") (by decide +kernel)) (va_Nw.use rfl hX.2.1.1) h1 h2 h3 ?_
      refine lv_astore_n (lv' := [(3, .ref q9), (0, .ref (a 0)), (1, .int n), (2, .ref q)]) hx hb dL_replicate_12 rfl hl (by decide) rfl (fun ls hl => ?_)
      refine lv_iconst (v := 1) hx hb dL_replicate_13 (by decide) ?_
      exact co_endL (u.1, u.2, o) S hr hlocks dL_replicate_14 hK hP hD hS (Or.inr ⟨by decide, by rw [k9]; rfl, by rw [k9]; decide, hu⟩) (Nat.le_of_ble_eq_true rfl) (Nat.le_of_ble_eq_true rfl)
    · refine vx_catch (name := "java/lang/IllegalStateException") hown [⟨0, 9, 12, 13⟩] ⟨0, 9, 15, 15⟩ [] htb (fun z hz => by obtain rfl := List.mem_singleton.mp hz; exact Or.inr ⟨by decide, "java/lang/IllegalArgumentException", hts (.classLink RL 13 "java/lang/IllegalArgumentException") (by decide +kernel), hN.1⟩) rfl (by decide) (hts (.classLink RL 15 "java/lang/IllegalStateException") (by decide +kernel)) (va_Nw.use rfl hX.2.1.2.1) h1 h2 h3 ?_
      refine lv_astore_n (lv' := [(3, .ref q9), (0, .ref (a 0)), (1, .int n), (2, .ref q)]) hx hb dL_replicate_15 rfl hl (by decide) rfl (fun ls hl => ?_)
      refine lv_iconst (v := 2) hx hb dL_replicate_16 (by decide) ?_
      exact co_endL (u.1, u.2, o) S hr hlocks dL_replicate_17 hK hP hD hS (Or.inr ⟨by decide, by rw [k9]; rfl, by rw [k9]; decide, hu⟩) (Nat.le_of_ble_eq_true rfl) (Nat.le_of_ble_eq_true rfl)
    · exact absurd (cdA_le σ n) (by omega)
  · obtain ⟨hc9, hr9, hu⟩ := hp
    refine lv_i2l (v := r.toInt64) hx hb dL_replicate_7 rfl ?_
    refine va_last (x := r.toInt64) hx hb hK hP hD hS 19 2 rfl rfl vin0 dL_replicate_8 (fun H locs hP hD hS => ?_)
    have hP : pG G (wL G a q (u.1, u.2, (vp_updL o (0 : Int32).toNatClampNeg r.toInt64))) H := hP
    have hD : va_D A (wL G a q (u.1, u.2, (vp_updL o (0 : Int32).toNatClampNeg r.toInt64))) := hD
    refine lv_goto (tgt := 18) hx hb dL_replicate_9 (by decide) ?_
    refine lv_iconst (v := 0) hx hb dL_replicate_18 (by decide) ?_
    exact co_endL (u.1, u.2, (vp_updL o (0 : Int32).toNatClampNeg r.toInt64)) S hr hlocks dL_replicate_19 hK hP hD hS (Or.inl ⟨rfl, hc9, by show vp_updL o (0 : Int32).toNatClampNeg r.toInt64 0 = _; rw [upL0, hr9], hu⟩) (Nat.le_of_ble_eq_true rfl) (Nat.le_of_ble_eq_true rfl)

set_option maxHeartbeats 4000000 in
set_option maxRecDepth 100000 in
theorem c_L_goRounds (l : Launch) (hl9 : l.stackTraces = false) (G : cG) (sa : Nat → Nat) (a : Nat → Nat) (q : Nat) (σ ρ : cS) (o : Nat → Int64) (x : Int32) : MetL l yL_goRounds wsL_goRounds rm_L G sa (wL G a q (σ, ρ, o)) [.ref (a 0), .int x, .ref q] (fun u : lS => wL G a q u) (pL (cd1 x 1 20) (cwp (lrI true σ x.toNatClampNeg) 64) (lrI true σ x.toNatClampNeg) σ) 4 24 := by
  refine co_bodyL (cc := cL_goRounds) (maxL := 4) (ret := some .int) (hh := [(0, 9, 12, 13)]) (by decide) rfl (Nat.le_of_ble_eq_true rfl) ?_
  intro p e s m args below meth c S hr hlocks htb hK A hA hP hD hS hX hN ls hl
  have S : CallFix p m c cL_goRounds 4 s args wsL_goRounds RL := S
  obtain ⟨hx, hb, hml, hown, hts⟩ := id S
  have hl : lv_has ls 4 [(0, .ref (a 0)), (1, .int x), (2, .ref q)] := hl
  refine lv_aload_n hx hb dL_goRounds_0 rfl (lv_at hl 2 rfl) ?_
  refine lv_iconst (v := 0) hx hb dL_goRounds_1 (by decide) ?_
  refine lv_aload_n hx hb dL_goRounds_2 rfl (lv_at hl 0 rfl) ?_
  refine lv_iload_n hx hb dL_goRounds_3 rfl (lv_at hl 1 rfl) ?_
  refine co_xViS (wr := [(q, .inl (G.2.2.2, 1, .inr (.inl o)))]) (w' := fun u : cS × cS => wL G a q (u.1, u.2, o)) (As := [.int x]) (rest := [.int 0, .ref q]) [0, 1, 2, 3, 4, 5, 6, 7, 8, 9, 10, 11, 12, 13, 14, 15, 16, 17, 18] [19] [1, 2, 3, 4, 5, 6, 7, 8, 9, 10, 11, 12, 13, 14, 15, 16, 17, 18, 19, 0] S (c_X2_goRounds l hl9 G sa a σ ρ x) (cwV 1 hts gL_goRounds_X2_goRounds rfl rfl rfl (by decide +kernel) ⟨(Nat.le_of_ble_eq_true rfl), (Nat.le_of_ble_eq_true rfl)⟩) hK hP hD hS hA hX rfl rfl (by decide) (by decide) (by decide) (by decide) (fun _ => rfl) (va_recv hK hP (ci := 1) (q0 := 0) rfl rfl) rfl hl.1 rfl (Nat.le_of_ble_eq_true rfl) dL_goRounds_4 ⟨(Nat.le_of_ble_eq_true rfl), (Nat.le_of_ble_eq_true rfl)⟩ (fun E ce q9 u H locs hp hP hD hS h1 h2 h3 => ?_) (fun r u H locs hp hP hD hS => ?_)
  · obtain ⟨hp, hu⟩ := hp
    rcases hp with ⟨k9, rfl⟩ | ⟨k9, rfl⟩ | ⟨k9, rfl⟩
    · refine vx_catch (name := "java/lang/IllegalArgumentException") hown [] ⟨0, 9, 12, 13⟩ [] htb (fun z hz => by cases hz) rfl (by decide) (hts (.classLink RL 13 "java/lang/IllegalArgumentException") (by decide +kernel)) (va_Nw.use rfl hX.2.1.1) h1 h2 h3 ?_
      refine lv_astore_n (lv' := [(3, .ref q9), (0, .ref (a 0)), (1, .int x), (2, .ref q)]) hx hb dL_goRounds_12 rfl hl (by decide) rfl (fun ls hl => ?_)
      refine lv_iconst (v := 1) hx hb dL_goRounds_13 (by decide) ?_
      exact co_endL (u.1, u.2, o) S hr hlocks dL_goRounds_14 hK hP hD hS (Or.inr ⟨by decide, by rw [k9]; rfl, by rw [k9]; decide, hu⟩) (Nat.le_of_ble_eq_true rfl) (Nat.le_of_ble_eq_true rfl)
    · exact absurd (cd1_le x 1 20) (by omega)
    · exact absurd (cd1_le x 1 20) (by omega)
  · obtain ⟨hc9, hr9, hu⟩ := hp
    refine lv_i2l (v := r.toInt64) hx hb dL_goRounds_7 rfl ?_
    refine va_last (x := r.toInt64) hx hb hK hP hD hS 19 2 rfl rfl vin0 dL_goRounds_8 (fun H locs hP hD hS => ?_)
    have hP : pG G (wL G a q (u.1, u.2, (vp_updL o (0 : Int32).toNatClampNeg r.toInt64))) H := hP
    have hD : va_D A (wL G a q (u.1, u.2, (vp_updL o (0 : Int32).toNatClampNeg r.toInt64))) := hD
    refine lv_goto (tgt := 15) hx hb dL_goRounds_9 (by decide) ?_
    refine lv_iconst (v := 0) hx hb dL_goRounds_15 (by decide) ?_
    exact co_endL (u.1, u.2, (vp_updL o (0 : Int32).toNatClampNeg r.toInt64)) S hr hlocks dL_goRounds_16 hK hP hD hS (Or.inl ⟨rfl, hc9, by show vp_updL o (0 : Int32).toNatClampNeg r.toInt64 0 = _; rw [upL0, hr9], hu⟩) (Nat.le_of_ble_eq_true rfl) (Nat.le_of_ble_eq_true rfl)

set_option maxHeartbeats 4000000 in
set_option maxRecDepth 100000 in
theorem c_L_lookup (l : Launch) (hl9 : l.stackTraces = false) (G : cG) (sa : Nat → Nat) (a : Nat → Nat) (q : Nat) (σ ρ : cS) (o : Nat → Int64) (n key : Int32) : MetL l yL_lookup wsL_lookup rm_L G sa (wL G a q (σ, ρ, o)) [.ref (a 0), .int n, .int key, .ref q] (fun u : lS => wL G a q u) (pL (cdP σ n key 63) (fnR σ n key) (σ) σ) 4 24 := by
  refine co_bodyL (cc := cL_lookup) (maxL := 5) (ret := some .int) (hh := [(0, 10, 13, 13), (0, 10, 17, 15)]) (by decide) rfl (Nat.le_of_ble_eq_true rfl) ?_
  intro p e s m args below meth c S hr hlocks htb hK A hA hP hD hS hX hN ls hl
  have S : CallFix p m c cL_lookup 5 s args wsL_lookup RL := S
  obtain ⟨hx, hb, hml, hown, hts⟩ := id S
  have hl : lv_has ls 5 [(0, .ref (a 0)), (1, .int n), (2, .int key), (3, .ref q)] := hl
  refine lv_aload_n hx hb dL_lookup_0 rfl (lv_at hl 3 rfl) ?_
  refine lv_iconst (v := 0) hx hb dL_lookup_1 (by decide) ?_
  refine lv_aload_n hx hb dL_lookup_2 rfl (lv_at hl 0 rfl) ?_
  refine lv_iload_n hx hb dL_lookup_3 rfl (lv_at hl 1 rfl) ?_
  refine lv_iload_n hx hb dL_lookup_4 rfl (lv_at hl 2 rfl) ?_
  refine co_xViS (wr := [(q, .inl (G.2.2.2, 1, .inr (.inl o)))]) (w' := fun u : cS × cS => wL G a q (u.1, u.2, o)) (As := [.int n, .int key]) (rest := [.int 0, .ref q]) [0, 1, 2, 3, 4, 5, 6, 7, 8, 9, 10, 11, 12, 13, 14, 15, 16, 17, 18] [19] [1, 2, 3, 4, 5, 6, 7, 8, 9, 10, 11, 12, 13, 14, 15, 16, 17, 18, 19, 0] S (c_X2_lookup l hl9 G sa a σ ρ n key) (cwV 2 hts gL_lookup_X2_lookup rfl rfl rfl (by decide +kernel) ⟨(Nat.le_of_ble_eq_true rfl), (Nat.le_of_ble_eq_true rfl)⟩) hK hP hD hS hA hX rfl rfl (by decide) (by decide) (by decide) (by decide) (fun _ => rfl) (va_recv hK hP (ci := 1) (q0 := 0) rfl rfl) rfl hl.1 rfl (Nat.le_of_ble_eq_true rfl) dL_lookup_5 ⟨(Nat.le_of_ble_eq_true rfl), (Nat.le_of_ble_eq_true rfl)⟩ (fun E ce q9 u H locs hp hP hD hS h1 h2 h3 => ?_) (fun r u H locs hp hP hD hS => ?_)
  · obtain ⟨hp, hu⟩ := hp
    rcases hp with ⟨k9, rfl⟩ | ⟨k9, rfl⟩ | ⟨k9, rfl⟩
    · refine vx_catch (name := "java/lang/IllegalArgumentException") hown [] ⟨0, 10, 13, 13⟩ [⟨0, 10, 17, 15⟩] htb (fun z hz => by cases hz) rfl (by decide) (hts (.classLink RL 13 "java/lang/IllegalArgumentException") (by decide +kernel)) (va_Nw.use rfl hX.2.1.1) h1 h2 h3 ?_
      refine lv_astore (lv' := [(4, .ref q9), (0, .ref (a 0)), (1, .int n), (2, .int key), (3, .ref q)]) hx hb dL_lookup_13 hl (by decide) rfl (fun ls hl => ?_)
      refine lv_iconst (v := 1) hx hb dL_lookup_15 (by decide) ?_
      exact co_endL (u.1, u.2, o) S hr hlocks dL_lookup_16 hK hP hD hS (Or.inr ⟨by decide, by rw [k9]; rfl, by rw [k9]; decide, hu⟩) (Nat.le_of_ble_eq_true rfl) (Nat.le_of_ble_eq_true rfl)
    · refine vx_catch (name := "java/lang/IllegalStateException") hown [⟨0, 10, 13, 13⟩] ⟨0, 10, 17, 15⟩ [] htb (fun z hz => by obtain rfl := List.mem_singleton.mp hz; exact Or.inr ⟨by decide, "java/lang/IllegalArgumentException", hts (.classLink RL 13 "java/lang/IllegalArgumentException") (by decide +kernel), hN.1⟩) rfl (by decide) (hts (.classLink RL 15 "java/lang/IllegalStateException") (by decide +kernel)) (va_Nw.use rfl hX.2.1.2.1) h1 h2 h3 ?_
      refine lv_astore (lv' := [(4, .ref q9), (0, .ref (a 0)), (1, .int n), (2, .int key), (3, .ref q)]) hx hb dL_lookup_17 hl (by decide) rfl (fun ls hl => ?_)
      refine lv_iconst (v := 2) hx hb dL_lookup_19 (by decide) ?_
      exact co_endL (u.1, u.2, o) S hr hlocks dL_lookup_20 hK hP hD hS (Or.inr ⟨by decide, by rw [k9]; rfl, by rw [k9]; decide, hu⟩) (Nat.le_of_ble_eq_true rfl) (Nat.le_of_ble_eq_true rfl)
    · exact absurd (cdP_le σ n key 63) (by omega)
  · obtain ⟨hc9, hr9, hu⟩ := hp
    refine lv_i2l (v := r.toInt64) hx hb dL_lookup_8 rfl ?_
    refine va_last (x := r.toInt64) hx hb hK hP hD hS 19 2 rfl rfl vin0 dL_lookup_9 (fun H locs hP hD hS => ?_)
    have hP : pG G (wL G a q (u.1, u.2, (vp_updL o (0 : Int32).toNatClampNeg r.toInt64))) H := hP
    have hD : va_D A (wL G a q (u.1, u.2, (vp_updL o (0 : Int32).toNatClampNeg r.toInt64))) := hD
    refine lv_goto (tgt := 21) hx hb dL_lookup_10 (by decide) ?_
    refine lv_iconst (v := 0) hx hb dL_lookup_21 (by decide) ?_
    exact co_endL (u.1, u.2, (vp_updL o (0 : Int32).toNatClampNeg r.toInt64)) S hr hlocks dL_lookup_22 hK hP hD hS (Or.inl ⟨rfl, hc9, by show vp_updL o (0 : Int32).toNatClampNeg r.toInt64 0 = _; rw [upL0, hr9], hu⟩) (Nat.le_of_ble_eq_true rfl) (Nat.le_of_ble_eq_true rfl)

set_option maxHeartbeats 4000000 in
set_option maxRecDepth 100000 in
theorem c_L_hops (l : Launch) (hl9 : l.stackTraces = false) (G : cG) (sa : Nat → Nat) (a : Nat → Nat) (q : Nat) (σ ρ : cS) (o : Nat → Int64) (n key : Int32) (hh9 : cdP σ n key 63 = 0 → hpc (σ 0) (σ 1) (σ 3) key 64 n < 64) : MetL l yL_hops wsL_hops rm_L G sa (wL G a q (σ, ρ, o)) [.ref (a 0), .int n, .int key, .ref q] (fun u : lS => wL G a q u) (pL (cdP σ n key 63) (nI (hpc (σ 0) (σ 1) (σ 3) key 64 n)) (σ) σ) 4 24 := by
  refine co_bodyL (cc := cL_hops) (maxL := 5) (ret := some .int) (hh := [(0, 10, 13, 13), (0, 10, 17, 15)]) (by decide) rfl (Nat.le_of_ble_eq_true rfl) ?_
  intro p e s m args below meth c S hr hlocks htb hK A hA hP hD hS hX hN ls hl
  have S : CallFix p m c cL_hops 5 s args wsL_hops RL := S
  obtain ⟨hx, hb, hml, hown, hts⟩ := id S
  have hl : lv_has ls 5 [(0, .ref (a 0)), (1, .int n), (2, .int key), (3, .ref q)] := hl
  refine lv_aload_n hx hb dL_hops_0 rfl (lv_at hl 3 rfl) ?_
  refine lv_iconst (v := 0) hx hb dL_hops_1 (by decide) ?_
  refine lv_aload_n hx hb dL_hops_2 rfl (lv_at hl 0 rfl) ?_
  refine lv_iload_n hx hb dL_hops_3 rfl (lv_at hl 1 rfl) ?_
  refine lv_iload_n hx hb dL_hops_4 rfl (lv_at hl 2 rfl) ?_
  refine co_xViS (wr := [(q, .inl (G.2.2.2, 1, .inr (.inl o)))]) (w' := fun u : cS × cS => wL G a q (u.1, u.2, o)) (As := [.int n, .int key]) (rest := [.int 0, .ref q]) [0, 1, 2, 3, 4, 5, 6, 7, 8, 9, 10, 11, 12, 13, 14, 15, 16, 17, 18] [19] [1, 2, 3, 4, 5, 6, 7, 8, 9, 10, 11, 12, 13, 14, 15, 16, 17, 18, 19, 0] S (c_X2_hops l hl9 G sa a σ ρ n key) (cwV 2 hts gL_hops_X2_hops rfl rfl rfl (by decide +kernel) ⟨(Nat.le_of_ble_eq_true rfl), (Nat.le_of_ble_eq_true rfl)⟩) hK hP hD hS hA hX rfl rfl (by decide) (by decide) (by decide) (by decide) (fun _ => rfl) (va_recv hK hP (ci := 1) (q0 := 0) rfl rfl) rfl hl.1 rfl (Nat.le_of_ble_eq_true rfl) dL_hops_5 ⟨(Nat.le_of_ble_eq_true rfl), (Nat.le_of_ble_eq_true rfl)⟩ (fun E ce q9 u H locs hp hP hD hS h1 h2 h3 => ?_) (fun r u H locs hp hP hD hS => ?_)
  · obtain ⟨hp, hu⟩ := hp
    rcases hp with ⟨k9, rfl⟩ | ⟨k9, rfl⟩ | ⟨k9, rfl⟩
    · refine vx_catch (name := "java/lang/IllegalArgumentException") hown [] ⟨0, 10, 13, 13⟩ [⟨0, 10, 17, 15⟩] htb (fun z hz => by cases hz) rfl (by decide) (hts (.classLink RL 13 "java/lang/IllegalArgumentException") (by decide +kernel)) (va_Nw.use rfl hX.2.1.1) h1 h2 h3 ?_
      refine lv_astore (lv' := [(4, .ref q9), (0, .ref (a 0)), (1, .int n), (2, .int key), (3, .ref q)]) hx hb dL_hops_13 hl (by decide) rfl (fun ls hl => ?_)
      refine lv_iconst (v := 1) hx hb dL_hops_15 (by decide) ?_
      exact co_endL (u.1, u.2, o) S hr hlocks dL_hops_16 hK hP hD hS (Or.inr ⟨by decide, by rw [k9]; rfl, by rw [k9]; decide, hu⟩) (Nat.le_of_ble_eq_true rfl) (Nat.le_of_ble_eq_true rfl)
    · refine vx_catch (name := "java/lang/IllegalStateException") hown [⟨0, 10, 13, 13⟩] ⟨0, 10, 17, 15⟩ [] htb (fun z hz => by obtain rfl := List.mem_singleton.mp hz; exact Or.inr ⟨by decide, "java/lang/IllegalArgumentException", hts (.classLink RL 13 "java/lang/IllegalArgumentException") (by decide +kernel), hN.1⟩) rfl (by decide) (hts (.classLink RL 15 "java/lang/IllegalStateException") (by decide +kernel)) (va_Nw.use rfl hX.2.1.2.1) h1 h2 h3 ?_
      refine lv_astore (lv' := [(4, .ref q9), (0, .ref (a 0)), (1, .int n), (2, .int key), (3, .ref q)]) hx hb dL_hops_17 hl (by decide) rfl (fun ls hl => ?_)
      refine lv_iconst (v := 2) hx hb dL_hops_19 (by decide) ?_
      exact co_endL (u.1, u.2, o) S hr hlocks dL_hops_20 hK hP hD hS (Or.inr ⟨by decide, by rw [k9]; rfl, by rw [k9]; decide, hu⟩) (Nat.le_of_ble_eq_true rfl) (Nat.le_of_ble_eq_true rfl)
    · exact absurd (cdP_le σ n key 63) (by omega)
  · obtain ⟨hc9, hr9, hu⟩ := hp
    have hr9 := hr9 (hh9 hc9)
    refine lv_i2l (v := r.toInt64) hx hb dL_hops_8 rfl ?_
    refine va_last (x := r.toInt64) hx hb hK hP hD hS 19 2 rfl rfl vin0 dL_hops_9 (fun H locs hP hD hS => ?_)
    have hP : pG G (wL G a q (u.1, u.2, (vp_updL o (0 : Int32).toNatClampNeg r.toInt64))) H := hP
    have hD : va_D A (wL G a q (u.1, u.2, (vp_updL o (0 : Int32).toNatClampNeg r.toInt64))) := hD
    refine lv_goto (tgt := 21) hx hb dL_hops_10 (by decide) ?_
    refine lv_iconst (v := 0) hx hb dL_hops_21 (by decide) ?_
    exact co_endL (u.1, u.2, (vp_updL o (0 : Int32).toNatClampNeg r.toInt64)) S hr hlocks dL_hops_22 hK hP hD hS (Or.inl ⟨rfl, hc9, by show vp_updL o (0 : Int32).toNatClampNeg r.toInt64 0 = _; rw [upL0, hr9], hu⟩) (Nat.le_of_ble_eq_true rfl) (Nat.le_of_ble_eq_true rfl)

set_option maxHeartbeats 4000000 in
set_option maxRecDepth 100000 in
theorem c_L_hopAt (l : Launch) (hl9 : l.stackTraces = false) (G : cG) (sa : Nat → Nat) (a : Nat → Nat) (q : Nat) (σ ρ : cS) (o : Nat → Int64) (n key h : Int32) (hh9 : cdP σ n key 63 = 0 → hpc (σ 0) (σ 1) (σ 3) key 64 n < 64) : MetL l yL_hopAt wsL_hopAt rm_L G sa (wL G a q (σ, ρ, o)) [.ref (a 0), .int n, .int key, .int h, .ref q] (fun u : lS => wL G a q u) (pL (cdH σ n key h) (pth (σ 0) (σ 1) (σ 3) key n h.toNatClampNeg) (σ) σ) 4 24 := by
  refine co_bodyL (cc := cL_hopAt) (maxL := 6) (ret := some .int) (hh := [(0, 12, 15, 13), (0, 12, 19, 15), (0, 12, 23, 68)]) (by decide) rfl (Nat.le_of_ble_eq_true rfl) ?_
  intro p e s m args below meth c S hr hlocks htb hK A hA hP hD hS hX hN ls hl
  have S : CallFix p m c cL_hopAt 6 s args wsL_hopAt RL := S
  obtain ⟨hx, hb, hml, hown, hts⟩ := id S
  have hl : lv_has ls 6 [(0, .ref (a 0)), (1, .int n), (2, .int key), (3, .int h), (4, .ref q)] := hl
  refine lv_aload hx hb dL_hopAt_0 (lv_at hl 4 rfl) ?_
  refine lv_iconst (v := 0) hx hb dL_hopAt_2 (by decide) ?_
  refine lv_aload_n hx hb dL_hopAt_3 rfl (lv_at hl 0 rfl) ?_
  refine lv_iload_n hx hb dL_hopAt_4 rfl (lv_at hl 1 rfl) ?_
  refine lv_iload_n hx hb dL_hopAt_5 rfl (lv_at hl 2 rfl) ?_
  refine lv_iload_n hx hb dL_hopAt_6 rfl (lv_at hl 3 rfl) ?_
  refine co_xViS (wr := [(q, .inl (G.2.2.2, 1, .inr (.inl o)))]) (w' := fun u : cS × cS => wL G a q (u.1, u.2, o)) (As := [.int n, .int key, .int h]) (rest := [.int 0, .ref q]) [0, 1, 2, 3, 4, 5, 6, 7, 8, 9, 10, 11, 12, 13, 14, 15, 16, 17, 18] [19] [1, 2, 3, 4, 5, 6, 7, 8, 9, 10, 11, 12, 13, 14, 15, 16, 17, 18, 19, 0] S (c_X2_hopAt l hl9 G sa a σ ρ n key h) (cwV 3 hts gL_hopAt_X2_hopAt rfl rfl rfl (by decide +kernel) ⟨(Nat.le_of_ble_eq_true rfl), (Nat.le_of_ble_eq_true rfl)⟩) hK hP hD hS hA hX rfl rfl (by decide) (by decide) (by decide) (by decide) (fun _ => rfl) (va_recv hK hP (ci := 1) (q0 := 0) rfl rfl) rfl hl.1 rfl (Nat.le_of_ble_eq_true rfl) dL_hopAt_7 ⟨(Nat.le_of_ble_eq_true rfl), (Nat.le_of_ble_eq_true rfl)⟩ (fun E ce q9 u H locs hp hP hD hS h1 h2 h3 => ?_) (fun r u H locs hp hP hD hS => ?_)
  · obtain ⟨hp, hu⟩ := hp
    rcases hp with (⟨k9, rfl⟩ | ⟨k9, rfl⟩ | ⟨k9, rfl⟩) | ⟨rfl, k9, k8⟩
    · refine vx_catch (name := "java/lang/IllegalArgumentException") hown [] ⟨0, 12, 15, 13⟩ [⟨0, 12, 19, 15⟩, ⟨0, 12, 23, 68⟩] htb (fun z hz => by cases hz) rfl (by decide) (hts (.classLink RL 13 "java/lang/IllegalArgumentException") (by decide +kernel)) (va_Nw.use rfl hX.2.1.1) h1 h2 h3 ?_
      refine lv_astore (lv' := [(5, .ref q9), (0, .ref (a 0)), (1, .int n), (2, .int key), (3, .int h), (4, .ref q)]) hx hb dL_hopAt_15 hl (by decide) rfl (fun ls hl => ?_)
      refine lv_iconst (v := 1) hx hb dL_hopAt_17 (by decide) ?_
      exact co_endL (u.1, u.2, o) S hr hlocks dL_hopAt_18 hK hP hD hS (Or.inr ⟨by decide, by rw [(cdH_b (c := 0) k9)]; rfl, by rw [(cdH_b (c := 0) k9)]; decide, hu⟩) (Nat.le_of_ble_eq_true rfl) (Nat.le_of_ble_eq_true rfl)
    · refine vx_catch (name := "java/lang/IllegalStateException") hown [⟨0, 12, 15, 13⟩] ⟨0, 12, 19, 15⟩ [⟨0, 12, 23, 68⟩] htb (fun z hz => by obtain rfl := List.mem_singleton.mp hz; exact Or.inr ⟨by decide, "java/lang/IllegalArgumentException", hts (.classLink RL 13 "java/lang/IllegalArgumentException") (by decide +kernel), hN.1⟩) rfl (by decide) (hts (.classLink RL 15 "java/lang/IllegalStateException") (by decide +kernel)) (va_Nw.use rfl hX.2.1.2.1) h1 h2 h3 ?_
      refine lv_astore (lv' := [(5, .ref q9), (0, .ref (a 0)), (1, .int n), (2, .int key), (3, .int h), (4, .ref q)]) hx hb dL_hopAt_19 hl (by decide) rfl (fun ls hl => ?_)
      refine lv_iconst (v := 2) hx hb dL_hopAt_21 (by decide) ?_
      exact co_endL (u.1, u.2, o) S hr hlocks dL_hopAt_22 hK hP hD hS (Or.inr ⟨by decide, by rw [(cdH_b (c := 1) k9)]; rfl, by rw [(cdH_b (c := 1) k9)]; decide, hu⟩) (Nat.le_of_ble_eq_true rfl) (Nat.le_of_ble_eq_true rfl)
    · exact absurd (cdP_le σ n key 63) (by omega)
    · have k7 : cdH σ n key h = 3 := by
        rcases k8 (hh9 k9) with k8 | k8
        · exact cdH_1 k9 k8
        · by_cases k6 : h < 0
          · exact cdH_1 k9 k6
          · exact cdH_2 k9 k6 k8
      refine vx_catch (name := "java/lang/IndexOutOfBoundsException") hown [⟨0, 12, 15, 13⟩, ⟨0, 12, 19, 15⟩] ⟨0, 12, 23, 68⟩ [] htb (fun z hz => (List.mem_cons.mp hz).elim (fun e9 => by subst e9; exact Or.inr ⟨by decide, "java/lang/IllegalArgumentException", hts (.classLink RL 13 "java/lang/IllegalArgumentException") (by decide +kernel), hN.2.1⟩) (fun hz => by obtain rfl := List.mem_singleton.mp hz; exact Or.inr ⟨by decide, "java/lang/IllegalStateException", hts (.classLink RL 15 "java/lang/IllegalStateException") (by decide +kernel), hN.2.2⟩)) rfl (by decide) (hts (.classLink RL 68 "java/lang/IndexOutOfBoundsException") (by decide +kernel)) (va_Nw.use rfl hX.2.1.2.2.1) h1 h2 h3 ?_
      refine lv_astore (lv' := [(5, .ref q9), (0, .ref (a 0)), (1, .int n), (2, .int key), (3, .int h), (4, .ref q)]) hx hb dL_hopAt_23 hl (by decide) rfl (fun ls hl => ?_)
      refine lv_iconst (v := 3) hx hb dL_hopAt_25 (by decide) ?_
      exact co_endL (u.1, u.2, o) S hr hlocks dL_hopAt_26 hK hP hD hS (Or.inr ⟨by decide, by rw [k7]; rfl, by rw [k7]; decide, hu⟩) (Nat.le_of_ble_eq_true rfl) (Nat.le_of_ble_eq_true rfl)
  · obtain ⟨hd9, hr9, hu⟩ := hp
    obtain ⟨g1, g2, hr9⟩ := hr9 (hh9 hd9)
    have hc9 := cdH_3 hd9 g1 g2
    refine lv_i2l (v := r.toInt64) hx hb dL_hopAt_10 rfl ?_
    refine va_last (x := r.toInt64) hx hb hK hP hD hS 19 2 rfl rfl vin0 dL_hopAt_11 (fun H locs hP hD hS => ?_)
    have hP : pG G (wL G a q (u.1, u.2, (vp_updL o (0 : Int32).toNatClampNeg r.toInt64))) H := hP
    have hD : va_D A (wL G a q (u.1, u.2, (vp_updL o (0 : Int32).toNatClampNeg r.toInt64))) := hD
    refine lv_goto (tgt := 27) hx hb dL_hopAt_12 (by decide) ?_
    refine lv_iconst (v := 0) hx hb dL_hopAt_27 (by decide) ?_
    exact co_endL (u.1, u.2, (vp_updL o (0 : Int32).toNatClampNeg r.toInt64)) S hr hlocks dL_hopAt_28 hK hP hD hS (Or.inl ⟨rfl, hc9, by show vp_updL o (0 : Int32).toNatClampNeg r.toInt64 0 = _; rw [upL0, hr9], hu⟩) (Nat.le_of_ble_eq_true rfl) (Nat.le_of_ble_eq_true rfl)

set_option maxHeartbeats 4000000 in
set_option maxRecDepth 100000 in
theorem c_L_put (l : Launch) (hl9 : l.stackTraces = false) (G : cG) (sa : Nat → Nat) (a : Nat → Nat) (q : Nat) (σ ρ : cS) (o : Nat → Int64) (n key v : Int32) : MetL l yL_put wsL_put rm_L G sa (wL G a q (σ, ρ, o)) [.ref (a 0), .int n, .int key, .int v, .ref q] (fun u : lS => wL G a q u) (pL (cdW σ n key v) (fnR σ n key) (puS σ n key v) σ) 4 24 := by
  refine co_bodyL (cc := cL_put) (maxL := 6) (ret := some .int) (hh := [(0, 12, 15, 13), (0, 12, 19, 15)]) (by decide) rfl (Nat.le_of_ble_eq_true rfl) ?_
  intro p e s m args below meth c S hr hlocks htb hK A hA hP hD hS hX hN ls hl
  have S : CallFix p m c cL_put 6 s args wsL_put RL := S
  obtain ⟨hx, hb, hml, hown, hts⟩ := id S
  have hl : lv_has ls 6 [(0, .ref (a 0)), (1, .int n), (2, .int key), (3, .int v), (4, .ref q)] := hl
  refine lv_aload hx hb dL_put_0 (lv_at hl 4 rfl) ?_
  refine lv_iconst (v := 0) hx hb dL_put_2 (by decide) ?_
  refine lv_aload_n hx hb dL_put_3 rfl (lv_at hl 0 rfl) ?_
  refine lv_iload_n hx hb dL_put_4 rfl (lv_at hl 1 rfl) ?_
  refine lv_iload_n hx hb dL_put_5 rfl (lv_at hl 2 rfl) ?_
  refine lv_iload_n hx hb dL_put_6 rfl (lv_at hl 3 rfl) ?_
  refine co_xViS (wr := [(q, .inl (G.2.2.2, 1, .inr (.inl o)))]) (w' := fun u : cS × cS => wL G a q (u.1, u.2, o)) (As := [.int n, .int key, .int v]) (rest := [.int 0, .ref q]) [0, 1, 2, 3, 4, 5, 6, 7, 8, 9, 10, 11, 12, 13, 14, 15, 16, 17, 18] [19] [1, 2, 3, 4, 5, 6, 7, 8, 9, 10, 11, 12, 13, 14, 15, 16, 17, 18, 19, 0] S (c_X2_put l hl9 G sa a σ ρ n key v) (cwV 3 hts gL_put_X2_put rfl rfl rfl (by decide +kernel) ⟨(Nat.le_of_ble_eq_true rfl), (Nat.le_of_ble_eq_true rfl)⟩) hK hP hD hS hA hX rfl rfl (by decide) (by decide) (by decide) (by decide) (fun _ => rfl) (va_recv hK hP (ci := 1) (q0 := 0) rfl rfl) rfl hl.1 rfl (Nat.le_of_ble_eq_true rfl) dL_put_7 ⟨(Nat.le_of_ble_eq_true rfl), (Nat.le_of_ble_eq_true rfl)⟩ (fun E ce q9 u H locs hp hP hD hS h1 h2 h3 => ?_) (fun r u H locs hp hP hD hS => ?_)
  · obtain ⟨hp, hu⟩ := hp
    rcases hp with ⟨k9, rfl⟩ | ⟨k9, rfl⟩ | ⟨k9, rfl⟩
    · refine vx_catch (name := "java/lang/IllegalArgumentException") hown [] ⟨0, 12, 15, 13⟩ [⟨0, 12, 19, 15⟩] htb (fun z hz => by cases hz) rfl (by decide) (hts (.classLink RL 13 "java/lang/IllegalArgumentException") (by decide +kernel)) (va_Nw.use rfl hX.2.1.1) h1 h2 h3 ?_
      refine lv_astore (lv' := [(5, .ref q9), (0, .ref (a 0)), (1, .int n), (2, .int key), (3, .int v), (4, .ref q)]) hx hb dL_put_15 hl (by decide) rfl (fun ls hl => ?_)
      refine lv_iconst (v := 1) hx hb dL_put_17 (by decide) ?_
      exact co_endL (u.1, u.2, o) S hr hlocks dL_put_18 hK hP hD hS (Or.inr ⟨by decide, by rw [k9]; rfl, by rw [k9]; decide, hu⟩) (Nat.le_of_ble_eq_true rfl) (Nat.le_of_ble_eq_true rfl)
    · refine vx_catch (name := "java/lang/IllegalStateException") hown [⟨0, 12, 15, 13⟩] ⟨0, 12, 19, 15⟩ [] htb (fun z hz => by obtain rfl := List.mem_singleton.mp hz; exact Or.inr ⟨by decide, "java/lang/IllegalArgumentException", hts (.classLink RL 13 "java/lang/IllegalArgumentException") (by decide +kernel), hN.1⟩) rfl (by decide) (hts (.classLink RL 15 "java/lang/IllegalStateException") (by decide +kernel)) (va_Nw.use rfl hX.2.1.2.1) h1 h2 h3 ?_
      refine lv_astore (lv' := [(5, .ref q9), (0, .ref (a 0)), (1, .int n), (2, .int key), (3, .int v), (4, .ref q)]) hx hb dL_put_19 hl (by decide) rfl (fun ls hl => ?_)
      refine lv_iconst (v := 2) hx hb dL_put_21 (by decide) ?_
      exact co_endL (u.1, u.2, o) S hr hlocks dL_put_22 hK hP hD hS (Or.inr ⟨by decide, by rw [k9]; rfl, by rw [k9]; decide, hu⟩) (Nat.le_of_ble_eq_true rfl) (Nat.le_of_ble_eq_true rfl)
    · exact absurd (cdW_le σ n key v) (by omega)
  · obtain ⟨hc9, hr9, hu⟩ := hp
    refine lv_i2l (v := r.toInt64) hx hb dL_put_10 rfl ?_
    refine va_last (x := r.toInt64) hx hb hK hP hD hS 19 2 rfl rfl vin0 dL_put_11 (fun H locs hP hD hS => ?_)
    have hP : pG G (wL G a q (u.1, u.2, (vp_updL o (0 : Int32).toNatClampNeg r.toInt64))) H := hP
    have hD : va_D A (wL G a q (u.1, u.2, (vp_updL o (0 : Int32).toNatClampNeg r.toInt64))) := hD
    refine lv_goto (tgt := 23) hx hb dL_put_12 (by decide) ?_
    refine lv_iconst (v := 0) hx hb dL_put_23 (by decide) ?_
    exact co_endL (u.1, u.2, (vp_updL o (0 : Int32).toNatClampNeg r.toInt64)) S hr hlocks dL_put_24 hK hP hD hS (Or.inl ⟨rfl, hc9, by show vp_updL o (0 : Int32).toNatClampNeg r.toInt64 0 = _; rw [upL0, hr9], hu⟩) (Nat.le_of_ble_eq_true rfl) (Nat.le_of_ble_eq_true rfl)

set_option maxHeartbeats 4000000 in
set_option maxRecDepth 100000 in
theorem c_L_get (l : Launch) (hl9 : l.stackTraces = false) (G : cG) (sa : Nat → Nat) (a : Nat → Nat) (q : Nat) (σ ρ : cS) (o : Nat → Int64) (n key : Int32) : MetL l yL_get wsL_get rm_L G sa (wL G a q (σ, ρ, o)) [.ref (a 0), .int n, .int key, .ref q] (fun u : lS => wL G a q u) (pL (cdP σ n key 63) (tat 64 (σ 4) (fnR σ n key) key) (σ) σ) 4 24 := by
  refine co_bodyL (cc := cL_get) (maxL := 5) (ret := some .int) (hh := [(0, 10, 13, 13), (0, 10, 17, 15)]) (by decide) rfl (Nat.le_of_ble_eq_true rfl) ?_
  intro p e s m args below meth c S hr hlocks htb hK A hA hP hD hS hX hN ls hl
  have S : CallFix p m c cL_get 5 s args wsL_get RL := S
  obtain ⟨hx, hb, hml, hown, hts⟩ := id S
  have hl : lv_has ls 5 [(0, .ref (a 0)), (1, .int n), (2, .int key), (3, .ref q)] := hl
  refine lv_aload_n hx hb dL_get_0 rfl (lv_at hl 3 rfl) ?_
  refine lv_iconst (v := 0) hx hb dL_get_1 (by decide) ?_
  refine lv_aload_n hx hb dL_get_2 rfl (lv_at hl 0 rfl) ?_
  refine lv_iload_n hx hb dL_get_3 rfl (lv_at hl 1 rfl) ?_
  refine lv_iload_n hx hb dL_get_4 rfl (lv_at hl 2 rfl) ?_
  refine co_xViS (wr := [(q, .inl (G.2.2.2, 1, .inr (.inl o)))]) (w' := fun u : cS × cS => wL G a q (u.1, u.2, o)) (As := [.int n, .int key]) (rest := [.int 0, .ref q]) [0, 1, 2, 3, 4, 5, 6, 7, 8, 9, 10, 11, 12, 13, 14, 15, 16, 17, 18] [19] [1, 2, 3, 4, 5, 6, 7, 8, 9, 10, 11, 12, 13, 14, 15, 16, 17, 18, 19, 0] S (c_X2_get l hl9 G sa a σ ρ n key) (cwV 2 hts gL_get_X2_get rfl rfl rfl (by decide +kernel) ⟨(Nat.le_of_ble_eq_true rfl), (Nat.le_of_ble_eq_true rfl)⟩) hK hP hD hS hA hX rfl rfl (by decide) (by decide) (by decide) (by decide) (fun _ => rfl) (va_recv hK hP (ci := 1) (q0 := 0) rfl rfl) rfl hl.1 rfl (Nat.le_of_ble_eq_true rfl) dL_get_5 ⟨(Nat.le_of_ble_eq_true rfl), (Nat.le_of_ble_eq_true rfl)⟩ (fun E ce q9 u H locs hp hP hD hS h1 h2 h3 => ?_) (fun r u H locs hp hP hD hS => ?_)
  · obtain ⟨hp, hu⟩ := hp
    rcases hp with ⟨k9, rfl⟩ | ⟨k9, rfl⟩ | ⟨k9, rfl⟩
    · refine vx_catch (name := "java/lang/IllegalArgumentException") hown [] ⟨0, 10, 13, 13⟩ [⟨0, 10, 17, 15⟩] htb (fun z hz => by cases hz) rfl (by decide) (hts (.classLink RL 13 "java/lang/IllegalArgumentException") (by decide +kernel)) (va_Nw.use rfl hX.2.1.1) h1 h2 h3 ?_
      refine lv_astore (lv' := [(4, .ref q9), (0, .ref (a 0)), (1, .int n), (2, .int key), (3, .ref q)]) hx hb dL_get_13 hl (by decide) rfl (fun ls hl => ?_)
      refine lv_iconst (v := 1) hx hb dL_get_15 (by decide) ?_
      exact co_endL (u.1, u.2, o) S hr hlocks dL_get_16 hK hP hD hS (Or.inr ⟨by decide, by rw [k9]; rfl, by rw [k9]; decide, hu⟩) (Nat.le_of_ble_eq_true rfl) (Nat.le_of_ble_eq_true rfl)
    · refine vx_catch (name := "java/lang/IllegalStateException") hown [⟨0, 10, 13, 13⟩] ⟨0, 10, 17, 15⟩ [] htb (fun z hz => by obtain rfl := List.mem_singleton.mp hz; exact Or.inr ⟨by decide, "java/lang/IllegalArgumentException", hts (.classLink RL 13 "java/lang/IllegalArgumentException") (by decide +kernel), hN.1⟩) rfl (by decide) (hts (.classLink RL 15 "java/lang/IllegalStateException") (by decide +kernel)) (va_Nw.use rfl hX.2.1.2.1) h1 h2 h3 ?_
      refine lv_astore (lv' := [(4, .ref q9), (0, .ref (a 0)), (1, .int n), (2, .int key), (3, .ref q)]) hx hb dL_get_17 hl (by decide) rfl (fun ls hl => ?_)
      refine lv_iconst (v := 2) hx hb dL_get_19 (by decide) ?_
      exact co_endL (u.1, u.2, o) S hr hlocks dL_get_20 hK hP hD hS (Or.inr ⟨by decide, by rw [k9]; rfl, by rw [k9]; decide, hu⟩) (Nat.le_of_ble_eq_true rfl) (Nat.le_of_ble_eq_true rfl)
    · exact absurd (cdP_le σ n key 63) (by omega)
  · obtain ⟨hc9, hr9, hu⟩ := hp
    refine lv_i2l (v := r.toInt64) hx hb dL_get_8 rfl ?_
    refine va_last (x := r.toInt64) hx hb hK hP hD hS 19 2 rfl rfl vin0 dL_get_9 (fun H locs hP hD hS => ?_)
    have hP : pG G (wL G a q (u.1, u.2, (vp_updL o (0 : Int32).toNatClampNeg r.toInt64))) H := hP
    have hD : va_D A (wL G a q (u.1, u.2, (vp_updL o (0 : Int32).toNatClampNeg r.toInt64))) := hD
    refine lv_goto (tgt := 21) hx hb dL_get_10 (by decide) ?_
    refine lv_iconst (v := 0) hx hb dL_get_21 (by decide) ?_
    exact co_endL (u.1, u.2, (vp_updL o (0 : Int32).toNatClampNeg r.toInt64)) S hr hlocks dL_get_22 hK hP hD hS (Or.inl ⟨rfl, hc9, by show vp_updL o (0 : Int32).toNatClampNeg r.toInt64 0 = _; rw [upL0, hr9], hu⟩) (Nat.le_of_ble_eq_true rfl) (Nat.le_of_ble_eq_true rfl)

set_option maxHeartbeats 4000000 in
set_option maxRecDepth 100000 in
theorem c_L_kept (l : Launch) (hl9 : l.stackTraces = false) (G : cG) (sa : Nat → Nat) (a : Nat → Nat) (q : Nat) (σ ρ : cS) (o : Nat → Int64) (n key : Int32) : MetL l yL_kept wsL_kept rm_L G sa (wL G a q (σ, ρ, o)) [.ref (a 0), .int n, .int key, .ref q] (fun u : lS => wL G a q u) (pL (cdP σ n key 63) (tat 64 (σ 4) n key) (σ) σ) 4 24 := by
  refine co_bodyL (cc := cL_kept) (maxL := 5) (ret := some .int) (hh := [(0, 10, 13, 13), (0, 10, 17, 15)]) (by decide) rfl (Nat.le_of_ble_eq_true rfl) ?_
  intro p e s m args below meth c S hr hlocks htb hK A hA hP hD hS hX hN ls hl
  have S : CallFix p m c cL_kept 5 s args wsL_kept RL := S
  obtain ⟨hx, hb, hml, hown, hts⟩ := id S
  have hl : lv_has ls 5 [(0, .ref (a 0)), (1, .int n), (2, .int key), (3, .ref q)] := hl
  refine lv_aload_n hx hb dL_kept_0 rfl (lv_at hl 3 rfl) ?_
  refine lv_iconst (v := 0) hx hb dL_kept_1 (by decide) ?_
  refine lv_aload_n hx hb dL_kept_2 rfl (lv_at hl 0 rfl) ?_
  refine lv_iload_n hx hb dL_kept_3 rfl (lv_at hl 1 rfl) ?_
  refine lv_iload_n hx hb dL_kept_4 rfl (lv_at hl 2 rfl) ?_
  refine co_xViS (wr := [(q, .inl (G.2.2.2, 1, .inr (.inl o)))]) (w' := fun u : cS × cS => wL G a q (u.1, u.2, o)) (As := [.int n, .int key]) (rest := [.int 0, .ref q]) [0, 1, 2, 3, 4, 5, 6, 7, 8, 9, 10, 11, 12, 13, 14, 15, 16, 17, 18] [19] [1, 2, 3, 4, 5, 6, 7, 8, 9, 10, 11, 12, 13, 14, 15, 16, 17, 18, 19, 0] S (c_X2_kept l hl9 G sa a σ ρ n key) (cwV 2 hts gL_kept_X2_kept rfl rfl rfl (by decide +kernel) ⟨(Nat.le_of_ble_eq_true rfl), (Nat.le_of_ble_eq_true rfl)⟩) hK hP hD hS hA hX rfl rfl (by decide) (by decide) (by decide) (by decide) (fun _ => rfl) (va_recv hK hP (ci := 1) (q0 := 0) rfl rfl) rfl hl.1 rfl (Nat.le_of_ble_eq_true rfl) dL_kept_5 ⟨(Nat.le_of_ble_eq_true rfl), (Nat.le_of_ble_eq_true rfl)⟩ (fun E ce q9 u H locs hp hP hD hS h1 h2 h3 => ?_) (fun r u H locs hp hP hD hS => ?_)
  · obtain ⟨hp, hu⟩ := hp
    rcases hp with ⟨k9, rfl⟩ | ⟨k9, rfl⟩ | ⟨k9, rfl⟩
    · refine vx_catch (name := "java/lang/IllegalArgumentException") hown [] ⟨0, 10, 13, 13⟩ [⟨0, 10, 17, 15⟩] htb (fun z hz => by cases hz) rfl (by decide) (hts (.classLink RL 13 "java/lang/IllegalArgumentException") (by decide +kernel)) (va_Nw.use rfl hX.2.1.1) h1 h2 h3 ?_
      refine lv_astore (lv' := [(4, .ref q9), (0, .ref (a 0)), (1, .int n), (2, .int key), (3, .ref q)]) hx hb dL_kept_13 hl (by decide) rfl (fun ls hl => ?_)
      refine lv_iconst (v := 1) hx hb dL_kept_15 (by decide) ?_
      exact co_endL (u.1, u.2, o) S hr hlocks dL_kept_16 hK hP hD hS (Or.inr ⟨by decide, by rw [k9]; rfl, by rw [k9]; decide, hu⟩) (Nat.le_of_ble_eq_true rfl) (Nat.le_of_ble_eq_true rfl)
    · refine vx_catch (name := "java/lang/IllegalStateException") hown [⟨0, 10, 13, 13⟩] ⟨0, 10, 17, 15⟩ [] htb (fun z hz => by obtain rfl := List.mem_singleton.mp hz; exact Or.inr ⟨by decide, "java/lang/IllegalArgumentException", hts (.classLink RL 13 "java/lang/IllegalArgumentException") (by decide +kernel), hN.1⟩) rfl (by decide) (hts (.classLink RL 15 "java/lang/IllegalStateException") (by decide +kernel)) (va_Nw.use rfl hX.2.1.2.1) h1 h2 h3 ?_
      refine lv_astore (lv' := [(4, .ref q9), (0, .ref (a 0)), (1, .int n), (2, .int key), (3, .ref q)]) hx hb dL_kept_17 hl (by decide) rfl (fun ls hl => ?_)
      refine lv_iconst (v := 2) hx hb dL_kept_19 (by decide) ?_
      exact co_endL (u.1, u.2, o) S hr hlocks dL_kept_20 hK hP hD hS (Or.inr ⟨by decide, by rw [k9]; rfl, by rw [k9]; decide, hu⟩) (Nat.le_of_ble_eq_true rfl) (Nat.le_of_ble_eq_true rfl)
    · exact absurd (cdP_le σ n key 63) (by omega)
  · obtain ⟨hc9, hr9, hu⟩ := hp
    refine lv_i2l (v := r.toInt64) hx hb dL_kept_8 rfl ?_
    refine va_last (x := r.toInt64) hx hb hK hP hD hS 19 2 rfl rfl vin0 dL_kept_9 (fun H locs hP hD hS => ?_)
    have hP : pG G (wL G a q (u.1, u.2, (vp_updL o (0 : Int32).toNatClampNeg r.toInt64))) H := hP
    have hD : va_D A (wL G a q (u.1, u.2, (vp_updL o (0 : Int32).toNatClampNeg r.toInt64))) := hD
    refine lv_goto (tgt := 21) hx hb dL_kept_10 (by decide) ?_
    refine lv_iconst (v := 0) hx hb dL_kept_21 (by decide) ?_
    exact co_endL (u.1, u.2, (vp_updL o (0 : Int32).toNatClampNeg r.toInt64)) S hr hlocks dL_kept_22 hK hP hD hS (Or.inl ⟨rfl, hc9, by show vp_updL o (0 : Int32).toNatClampNeg r.toInt64 0 = _; rw [upL0, hr9], hu⟩) (Nat.le_of_ble_eq_true rfl) (Nat.le_of_ble_eq_true rfl)

set_option maxHeartbeats 4000000 in
set_option maxRecDepth 100000 in
theorem c_L_keepers (l : Launch) (hl9 : l.stackTraces = false) (G : cG) (sa : Nat → Nat) (a : Nat → Nat) (q : Nat) (σ ρ : cS) (o : Nat → Int64) (key : Int32) : MetL l yL_keepers wsL_keepers rm_L G sa (wL G a q (σ, ρ, o)) [.ref (a 0), .int key, .ref q] (fun u : lS => wL G a q u) (pL (cd1 key 0 63) (kpC σ key 64) (σ) σ) 4 24 := by
  refine co_bodyL (cc := cL_keepers) (maxL := 4) (ret := some .int) (hh := [(0, 9, 12, 13)]) (by decide) rfl (Nat.le_of_ble_eq_true rfl) ?_
  intro p e s m args below meth c S hr hlocks htb hK A hA hP hD hS hX hN ls hl
  have S : CallFix p m c cL_keepers 4 s args wsL_keepers RL := S
  obtain ⟨hx, hb, hml, hown, hts⟩ := id S
  have hl : lv_has ls 4 [(0, .ref (a 0)), (1, .int key), (2, .ref q)] := hl
  refine lv_aload_n hx hb dL_keepers_0 rfl (lv_at hl 2 rfl) ?_
  refine lv_iconst (v := 0) hx hb dL_keepers_1 (by decide) ?_
  refine lv_aload_n hx hb dL_keepers_2 rfl (lv_at hl 0 rfl) ?_
  refine lv_iload_n hx hb dL_keepers_3 rfl (lv_at hl 1 rfl) ?_
  refine co_xViS (wr := [(q, .inl (G.2.2.2, 1, .inr (.inl o)))]) (w' := fun u : cS × cS => wL G a q (u.1, u.2, o)) (As := [.int key]) (rest := [.int 0, .ref q]) [0, 1, 2, 3, 4, 5, 6, 7, 8, 9, 10, 11, 12, 13, 14, 15, 16, 17, 18] [19] [1, 2, 3, 4, 5, 6, 7, 8, 9, 10, 11, 12, 13, 14, 15, 16, 17, 18, 19, 0] S (c_X2_keepers l hl9 G sa a σ ρ key) (cwV 1 hts gL_keepers_X2_keepers rfl rfl rfl (by decide +kernel) ⟨(Nat.le_of_ble_eq_true rfl), (Nat.le_of_ble_eq_true rfl)⟩) hK hP hD hS hA hX rfl rfl (by decide) (by decide) (by decide) (by decide) (fun _ => rfl) (va_recv hK hP (ci := 1) (q0 := 0) rfl rfl) rfl hl.1 rfl (Nat.le_of_ble_eq_true rfl) dL_keepers_4 ⟨(Nat.le_of_ble_eq_true rfl), (Nat.le_of_ble_eq_true rfl)⟩ (fun E ce q9 u H locs hp hP hD hS h1 h2 h3 => ?_) (fun r u H locs hp hP hD hS => ?_)
  · obtain ⟨hp, hu⟩ := hp
    rcases hp with ⟨k9, rfl⟩ | ⟨k9, rfl⟩ | ⟨k9, rfl⟩
    · refine vx_catch (name := "java/lang/IllegalArgumentException") hown [] ⟨0, 9, 12, 13⟩ [] htb (fun z hz => by cases hz) rfl (by decide) (hts (.classLink RL 13 "java/lang/IllegalArgumentException") (by decide +kernel)) (va_Nw.use rfl hX.2.1.1) h1 h2 h3 ?_
      refine lv_astore_n (lv' := [(3, .ref q9), (0, .ref (a 0)), (1, .int key), (2, .ref q)]) hx hb dL_keepers_12 rfl hl (by decide) rfl (fun ls hl => ?_)
      refine lv_iconst (v := 1) hx hb dL_keepers_13 (by decide) ?_
      exact co_endL (u.1, u.2, o) S hr hlocks dL_keepers_14 hK hP hD hS (Or.inr ⟨by decide, by rw [k9]; rfl, by rw [k9]; decide, hu⟩) (Nat.le_of_ble_eq_true rfl) (Nat.le_of_ble_eq_true rfl)
    · exact absurd (cd1_le key 0 63) (by omega)
    · exact absurd (cd1_le key 0 63) (by omega)
  · obtain ⟨hc9, hr9, hu⟩ := hp
    refine lv_i2l (v := r.toInt64) hx hb dL_keepers_7 rfl ?_
    refine va_last (x := r.toInt64) hx hb hK hP hD hS 19 2 rfl rfl vin0 dL_keepers_8 (fun H locs hP hD hS => ?_)
    have hP : pG G (wL G a q (u.1, u.2, (vp_updL o (0 : Int32).toNatClampNeg r.toInt64))) H := hP
    have hD : va_D A (wL G a q (u.1, u.2, (vp_updL o (0 : Int32).toNatClampNeg r.toInt64))) := hD
    refine lv_goto (tgt := 15) hx hb dL_keepers_9 (by decide) ?_
    refine lv_iconst (v := 0) hx hb dL_keepers_15 (by decide) ?_
    exact co_endL (u.1, u.2, (vp_updL o (0 : Int32).toNatClampNeg r.toInt64)) S hr hlocks dL_keepers_16 hK hP hD hS (Or.inl ⟨rfl, hc9, by show vp_updL o (0 : Int32).toNatClampNeg r.toInt64 0 = _; rw [upL0, hr9], hu⟩) (Nat.le_of_ble_eq_true rfl) (Nat.le_of_ble_eq_true rfl)

set_option maxHeartbeats 4000000 in
set_option maxRecDepth 100000 in
theorem c_L_owner (l : Launch) (hl9 : l.stackTraces = false) (G : cG) (sa : Nat → Nat) (a : Nat → Nat) (q : Nat) (σ ρ : cS) (o : Nat → Int64) (key : Int32) : MetL l yL_owner wsL_owner rm_L G sa (wL G a q (σ, ρ, o)) [.ref (a 0), .int key, .ref q] (fun u : lS => wL G a q u) (pL (cd1 key 0 63) (upF (σ 0) key 64 0) (σ) σ) 4 24 := by
  refine co_bodyL (cc := cL_owner) (maxL := 4) (ret := some .int) (hh := [(0, 9, 12, 13)]) (by decide) rfl (Nat.le_of_ble_eq_true rfl) ?_
  intro p e s m args below meth c S hr hlocks htb hK A hA hP hD hS hX hN ls hl
  have S : CallFix p m c cL_owner 4 s args wsL_owner RL := S
  obtain ⟨hx, hb, hml, hown, hts⟩ := id S
  have hl : lv_has ls 4 [(0, .ref (a 0)), (1, .int key), (2, .ref q)] := hl
  refine lv_aload_n hx hb dL_owner_0 rfl (lv_at hl 2 rfl) ?_
  refine lv_iconst (v := 0) hx hb dL_owner_1 (by decide) ?_
  refine lv_aload_n hx hb dL_owner_2 rfl (lv_at hl 0 rfl) ?_
  refine lv_iload_n hx hb dL_owner_3 rfl (lv_at hl 1 rfl) ?_
  refine co_xViS (wr := [(q, .inl (G.2.2.2, 1, .inr (.inl o)))]) (w' := fun u : cS × cS => wL G a q (u.1, u.2, o)) (As := [.int key]) (rest := [.int 0, .ref q]) [0, 1, 2, 3, 4, 5, 6, 7, 8, 9, 10, 11, 12, 13, 14, 15, 16, 17, 18] [19] [1, 2, 3, 4, 5, 6, 7, 8, 9, 10, 11, 12, 13, 14, 15, 16, 17, 18, 19, 0] S (c_X2_owner l hl9 G sa a σ ρ key) (cwV 1 hts gL_owner_X2_owner rfl rfl rfl (by decide +kernel) ⟨(Nat.le_of_ble_eq_true rfl), (Nat.le_of_ble_eq_true rfl)⟩) hK hP hD hS hA hX rfl rfl (by decide) (by decide) (by decide) (by decide) (fun _ => rfl) (va_recv hK hP (ci := 1) (q0 := 0) rfl rfl) rfl hl.1 rfl (Nat.le_of_ble_eq_true rfl) dL_owner_4 ⟨(Nat.le_of_ble_eq_true rfl), (Nat.le_of_ble_eq_true rfl)⟩ (fun E ce q9 u H locs hp hP hD hS h1 h2 h3 => ?_) (fun r u H locs hp hP hD hS => ?_)
  · obtain ⟨hp, hu⟩ := hp
    rcases hp with ⟨k9, rfl⟩ | ⟨k9, rfl⟩ | ⟨k9, rfl⟩
    · refine vx_catch (name := "java/lang/IllegalArgumentException") hown [] ⟨0, 9, 12, 13⟩ [] htb (fun z hz => by cases hz) rfl (by decide) (hts (.classLink RL 13 "java/lang/IllegalArgumentException") (by decide +kernel)) (va_Nw.use rfl hX.2.1.1) h1 h2 h3 ?_
      refine lv_astore_n (lv' := [(3, .ref q9), (0, .ref (a 0)), (1, .int key), (2, .ref q)]) hx hb dL_owner_12 rfl hl (by decide) rfl (fun ls hl => ?_)
      refine lv_iconst (v := 1) hx hb dL_owner_13 (by decide) ?_
      exact co_endL (u.1, u.2, o) S hr hlocks dL_owner_14 hK hP hD hS (Or.inr ⟨by decide, by rw [k9]; rfl, by rw [k9]; decide, hu⟩) (Nat.le_of_ble_eq_true rfl) (Nat.le_of_ble_eq_true rfl)
    · exact absurd (cd1_le key 0 63) (by omega)
    · exact absurd (cd1_le key 0 63) (by omega)
  · obtain ⟨hc9, hr9, hu⟩ := hp
    refine lv_i2l (v := r.toInt64) hx hb dL_owner_7 rfl ?_
    refine va_last (x := r.toInt64) hx hb hK hP hD hS 19 2 rfl rfl vin0 dL_owner_8 (fun H locs hP hD hS => ?_)
    have hP : pG G (wL G a q (u.1, u.2, (vp_updL o (0 : Int32).toNatClampNeg r.toInt64))) H := hP
    have hD : va_D A (wL G a q (u.1, u.2, (vp_updL o (0 : Int32).toNatClampNeg r.toInt64))) := hD
    refine lv_goto (tgt := 15) hx hb dL_owner_9 (by decide) ?_
    refine lv_iconst (v := 0) hx hb dL_owner_15 (by decide) ?_
    exact co_endL (u.1, u.2, (vp_updL o (0 : Int32).toNatClampNeg r.toInt64)) S hr hlocks dL_owner_16 hK hP hD hS (Or.inl ⟨rfl, hc9, by show vp_updL o (0 : Int32).toNatClampNeg r.toInt64 0 = _; rw [upL0, hr9], hu⟩) (Nat.le_of_ble_eq_true rfl) (Nat.le_of_ble_eq_true rfl)

set_option maxHeartbeats 4000000 in
set_option maxRecDepth 100000 in
theorem c_L_roundsToRight (l : Launch) (hl9 : l.stackTraces = false) (G : cG) (sa : Nat → Nat) (a : Nat → Nat) (q : Nat) (σ ρ : cS) (o : Nat → Int64) (x : Int32) : MetL l yL_roundsToRight wsL_roundsToRight rm_L G sa (wL G a q (σ, ρ, o)) [.ref (a 0), .int x, .ref q] (fun u : lS => wL G a q u) (pL (cd1 x 1 30) (if rtK (lpS σ) (x.toNatClampNeg + 1) 0 ≤ x.toNatClampNeg then nI (rtK (lpS σ) (x.toNatClampNeg + 1) 0) else -1) (tbS (rtS (lpS σ) (x.toNatClampNeg + 1))) σ) 4 24 := by
  refine co_bodyL (cc := cL_roundsToRight) (maxL := 4) (ret := some .int) (hh := [(0, 9, 12, 13)]) (by decide) rfl (Nat.le_of_ble_eq_true rfl) ?_
  intro p e s m args below meth c S hr hlocks htb hK A hA hP hD hS hX hN ls hl
  have S : CallFix p m c cL_roundsToRight 4 s args wsL_roundsToRight RL := S
  obtain ⟨hx, hb, hml, hown, hts⟩ := id S
  have hl : lv_has ls 4 [(0, .ref (a 0)), (1, .int x), (2, .ref q)] := hl
  refine lv_aload_n hx hb dL_roundsToRight_0 rfl (lv_at hl 2 rfl) ?_
  refine lv_iconst (v := 0) hx hb dL_roundsToRight_1 (by decide) ?_
  refine lv_aload_n hx hb dL_roundsToRight_2 rfl (lv_at hl 0 rfl) ?_
  refine lv_iload_n hx hb dL_roundsToRight_3 rfl (lv_at hl 1 rfl) ?_
  refine co_xViS (wr := [(q, .inl (G.2.2.2, 1, .inr (.inl o)))]) (w' := fun u : cS × cS => wL G a q (u.1, u.2, o)) (As := [.int x]) (rest := [.int 0, .ref q]) [0, 1, 2, 3, 4, 5, 6, 7, 8, 9, 10, 11, 12, 13, 14, 15, 16, 17, 18] [19] [1, 2, 3, 4, 5, 6, 7, 8, 9, 10, 11, 12, 13, 14, 15, 16, 17, 18, 19, 0] S (c_X2_roundsToRight l hl9 G sa a σ ρ x) (cwV 1 hts gL_roundsToRight_X2_roundsToRight rfl rfl rfl (by decide +kernel) ⟨(Nat.le_of_ble_eq_true rfl), (Nat.le_of_ble_eq_true rfl)⟩) hK hP hD hS hA hX rfl rfl (by decide) (by decide) (by decide) (by decide) (fun _ => rfl) (va_recv hK hP (ci := 1) (q0 := 0) rfl rfl) rfl hl.1 rfl (Nat.le_of_ble_eq_true rfl) dL_roundsToRight_4 ⟨(Nat.le_of_ble_eq_true rfl), (Nat.le_of_ble_eq_true rfl)⟩ (fun E ce q9 u H locs hp hP hD hS h1 h2 h3 => ?_) (fun r u H locs hp hP hD hS => ?_)
  · obtain ⟨hp, hu⟩ := hp
    rcases hp with ⟨k9, rfl⟩ | ⟨k9, rfl⟩ | ⟨k9, rfl⟩
    · refine vx_catch (name := "java/lang/IllegalArgumentException") hown [] ⟨0, 9, 12, 13⟩ [] htb (fun z hz => by cases hz) rfl (by decide) (hts (.classLink RL 13 "java/lang/IllegalArgumentException") (by decide +kernel)) (va_Nw.use rfl hX.2.1.1) h1 h2 h3 ?_
      refine lv_astore_n (lv' := [(3, .ref q9), (0, .ref (a 0)), (1, .int x), (2, .ref q)]) hx hb dL_roundsToRight_12 rfl hl (by decide) rfl (fun ls hl => ?_)
      refine lv_iconst (v := 1) hx hb dL_roundsToRight_13 (by decide) ?_
      exact co_endL (u.1, u.2, o) S hr hlocks dL_roundsToRight_14 hK hP hD hS (Or.inr ⟨by decide, by rw [k9]; rfl, by rw [k9]; decide, hu⟩) (Nat.le_of_ble_eq_true rfl) (Nat.le_of_ble_eq_true rfl)
    · exact absurd (cd1_le x 1 30) (by omega)
    · exact absurd (cd1_le x 1 30) (by omega)
  · obtain ⟨hc9, hr9, hu⟩ := hp
    refine lv_i2l (v := r.toInt64) hx hb dL_roundsToRight_7 rfl ?_
    refine va_last (x := r.toInt64) hx hb hK hP hD hS 19 2 rfl rfl vin0 dL_roundsToRight_8 (fun H locs hP hD hS => ?_)
    have hP : pG G (wL G a q (u.1, u.2, (vp_updL o (0 : Int32).toNatClampNeg r.toInt64))) H := hP
    have hD : va_D A (wL G a q (u.1, u.2, (vp_updL o (0 : Int32).toNatClampNeg r.toInt64))) := hD
    refine lv_goto (tgt := 15) hx hb dL_roundsToRight_9 (by decide) ?_
    refine lv_iconst (v := 0) hx hb dL_roundsToRight_15 (by decide) ?_
    exact co_endL (u.1, u.2, (vp_updL o (0 : Int32).toNatClampNeg r.toInt64)) S hr hlocks dL_roundsToRight_16 hK hP hD hS (Or.inl ⟨rfl, hc9, by show vp_updL o (0 : Int32).toNatClampNeg r.toInt64 0 = _; rw [upL0, hr9], hu⟩) (Nat.le_of_ble_eq_true rfl) (Nat.le_of_ble_eq_true rfl)
