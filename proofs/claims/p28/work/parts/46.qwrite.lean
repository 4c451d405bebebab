/-! the law's writers: adopt, give, spread, begin -/
theorem foS_2 {σ : cS} {n x : Int32} : foS σ n x 2 = σ 2 := ssS_n (by decide)
theorem foS_3 {σ : cS} {n x : Int32} : foS σ n x 3 = σ 3 := ssS_n (by decide)

abbrev rm_L_adopt : Room := { frames := 0, cells := 0, slots := 0, locals := 0 }
set_option maxHeartbeats 4000000 in
set_option maxRecDepth 100000 in
theorem c_L_adopt (l : Launch) (G : cG) (Z : Nat) (q ν δ κ : Nat → Nat) (σ τ : cS) (hR : Rq Z ν δ κ σ τ)(n x : Nat) (hn : Lv σ n) (hx0 : Lv σ x) : MetV l yL_adopt wsL_adopt rm_L_adopt G (wQ G q τ) [.int (nI n), .int (nI x), .ref (q 0), .ref (q 2)] (fun u : cS => wQ G q u) (fun u => Rq Z ν δ κ (foS σ (nI n) (nI x)) u) := by
  refine co_bodyV (cc := cL_adopt) (maxL := 5) (ret := none) (by decide) rfl (Nat.le_of_ble_eq_true rfl) ?_
  intro p e s m args below meth c S hr hlocks hK A hA hP hD hS ls hl
  have S : CallFix p m c cL_adopt 5 s args wsL_adopt RL := S
  obtain ⟨hx, hb, hml, hown, hts⟩ := id S
  have hl : lv_has ls 5 [(0, .int (nI n)), (1, .int (nI x)), (2, .ref (q 0)), (3, .ref (q 2))] := hl
  have hn0 : n < 64 := hn.1
  have tx0 : x < 64 := hx0.1
  refine lv_aload_n hx hb dL_adopt_0 rfl (lv_at hl 3 rfl) ?_
  refine lv_iconst (v := 4) hx hb dL_adopt_1 (by decide) ?_
  refine lv_aload_n hx hb dL_adopt_2 rfl (lv_at hl 2 rfl) ?_
  refine lv_iload_n hx hb dL_adopt_3 rfl (lv_at hl 1 rfl) ?_
  refine va_iald hx hb hK hP 0 0 rfl rfl (vp_in_nI (n := x) (N := 64) (by omega) (by decide)) dL_adopt_4 ?_
  have d9n_1 : δ x < 10 := Rq.d9 hR hx0
  refine co_eq (rq_d hR tx0 d9n_1) ?_
  refine lv_imul hx hb dL_adopt_5 ?_
  refine co_eq (show (4 : Int32) * (nI (δ x)) = (nI (4 * (δ x))) from pk_mul 4 (δ x)) ?_
  refine va_iald hx hb hK hP 2 0 rfl rfl (vp_in_nI (n := (4 * (δ x))) (N := 40) (by omega) (by decide)) dL_adopt_6 ?_
  obtain ⟨j_2, hj_2, ej_2, mj_2⟩ := rq_s hR hx0 rfl 0 (by decide) (i := 4 * (δ x)) (by omega)
  have ej_2 : tat 3 (σ 1) (nI x) 0 = nI j_2 := ej_2
  refine co_eq mj_2 ?_
  refine lv_istore (lv' := [(4, .int (nI j_2)), (0, .int (nI n)), (1, .int (nI x)), (2, .ref (q 0)), (3, .ref (q 2))]) hx hb dL_adopt_7 hl (by decide) rfl (fun ls hl => ?_)
  refine lv_aload_n hx hb dL_adopt_9 rfl (lv_at hl 4 rfl) ?_
  refine lv_iconst (v := 4) hx hb dL_adopt_10 (by decide) ?_
  refine lv_aload_n hx hb dL_adopt_11 rfl (lv_at hl 3 rfl) ?_
  refine lv_iload_n hx hb dL_adopt_12 rfl (lv_at hl 1 rfl) ?_
  refine va_iald hx hb hK hP 0 0 rfl rfl (vp_in_nI (n := n) (N := 64) (by omega) (by decide)) dL_adopt_13 ?_
  have d9n_3 : δ n < 10 := Rq.d9 hR hn
  refine co_eq (rq_d hR hn0 d9n_3) ?_
  refine lv_imul hx hb dL_adopt_14 ?_
  refine co_eq (show (4 : Int32) * (nI (δ n)) = (nI (4 * (δ n))) from pk_mul 4 (δ n)) ?_
  refine lv_iconst (v := 2) hx hb dL_adopt_15 (by decide) ?_
  refine lv_iadd hx hb dL_adopt_16 ?_
  refine co_eq (show (nI (4 * (δ n))) + (2 : Int32) = (nI ((4 * (δ n)) + 2)) from nI_add (4 * (δ n)) 2) ?_
  refine lv_aload_n hx hb dL_adopt_17 rfl (lv_at hl 4 rfl) ?_
  refine lv_iconst (v := 4) hx hb dL_adopt_18 (by decide) ?_
  refine lv_aload_n hx hb dL_adopt_19 rfl (lv_at hl 3 rfl) ?_
  refine lv_iload_n hx hb dL_adopt_20 rfl (lv_at hl 2 rfl) ?_
  refine va_iald hx hb hK hP 0 0 rfl rfl (vp_in_nI (n := x) (N := 64) (by omega) (by decide)) dL_adopt_21 ?_
  refine co_eq (rq_d hR tx0 d9n_1) ?_
  refine lv_imul hx hb dL_adopt_22 ?_
  refine co_eq (show (4 : Int32) * (nI (δ x)) = (nI (4 * (δ x))) from pk_mul 4 (δ x)) ?_
  refine lv_iconst (v := 1) hx hb dL_adopt_23 (by decide) ?_
  refine lv_iadd hx hb dL_adopt_24 ?_
  refine co_eq (show (nI (4 * (δ x))) + (1 : Int32) = (nI ((4 * (δ x)) + 1)) from nI_add (4 * (δ x)) 1) ?_
  refine va_iald hx hb hK hP 2 0 rfl rfl (vp_in_nI (n := ((4 * (δ x)) + 1)) (N := 40) (by omega) (by decide)) dL_adopt_25 ?_
  obtain ⟨j_4, hj_4, ej_4, mj_4⟩ := rq_s hR hx0 rfl 1 (by decide) (i := (4 * (δ x)) + 1) (by omega)
  have ej_4 : tat 3 (σ 1) (nI x) 1 = nI j_4 := ej_4
  refine co_eq mj_4 ?_
  refine va_iast hx hb hK hP hD hS 2 0 (f := (τ 2)) rfl rfl (vp_in_nI (n := ((4 * (δ n)) + 2)) (N := 40) (by omega) (by decide)) dL_adopt_26 (fun H locs hP hD hS => ?_)
  obtain ⟨f_5, ef_5⟩ : ∃ z9, z9 = (upd (τ 2) (nI ((4 * (δ n)) + 2)).toNatClampNeg (nI j_4)) := ⟨_, rfl⟩
  rw [← ef_5] at hP hD
  have hP : pG G (wQ G q (va_up τ 2 f_5)) H := hP
  have hD : va_D A (wQ G q (va_up τ 2 f_5)) := hD
  refine lv_aload_n hx hb dL_adopt_27 rfl (lv_at hl 4 rfl) ?_
  refine lv_iconst (v := 4) hx hb dL_adopt_28 (by decide) ?_
  refine lv_aload_n hx hb dL_adopt_29 rfl (lv_at hl 3 rfl) ?_
  refine lv_iload_n hx hb dL_adopt_30 rfl (lv_at hl 1 rfl) ?_
  refine va_iald hx hb hK hP 0 0 rfl rfl (vp_in_nI (n := n) (N := 64) (by omega) (by decide)) dL_adopt_31 ?_
  refine co_eq (show (τ 0) (nI n).toNatClampNeg = (nI (δ n)) from (rq_d hR hn0 d9n_3)) ?_
  refine lv_imul hx hb dL_adopt_32 ?_
  refine co_eq (show (4 : Int32) * (nI (δ n)) = (nI (4 * (δ n))) from pk_mul 4 (δ n)) ?_
  refine lv_iconst (v := 1) hx hb dL_adopt_33 (by decide) ?_
  refine lv_iadd hx hb dL_adopt_34 ?_
  refine co_eq (show (nI (4 * (δ n))) + (1 : Int32) = (nI ((4 * (δ n)) + 1)) from nI_add (4 * (δ n)) 1) ?_
  refine lv_iload hx hb dL_adopt_35 (lv_at hl 0 rfl) ?_
  refine va_iast hx hb hK hP hD hS 2 0 (f := f_5) rfl rfl (vp_in_nI (n := ((4 * (δ n)) + 1)) (N := 40) (by omega) (by decide)) dL_adopt_37 (fun H locs hP hD hS => ?_)
  obtain ⟨f_6, ef_6⟩ : ∃ z9, z9 = (upd f_5 (nI ((4 * (δ n)) + 1)).toNatClampNeg (nI j_2)) := ⟨_, rfl⟩
  rw [← ef_6] at hP hD
  have hP : pG G (wQ G q (va_up τ 2 f_6)) H := hP
  have hD : va_D A (wQ G q (va_up τ 2 f_6)) := hD
  refine lv_aload_n hx hb dL_adopt_38 rfl (lv_at hl 4 rfl) ?_
  refine lv_iconst (v := 4) hx hb dL_adopt_39 (by decide) ?_
  refine lv_aload_n hx hb dL_adopt_40 rfl (lv_at hl 3 rfl) ?_
  refine lv_iload_n hx hb dL_adopt_41 rfl (lv_at hl 1 rfl) ?_
  refine va_iald hx hb hK hP 0 0 rfl rfl (vp_in_nI (n := n) (N := 64) (by omega) (by decide)) dL_adopt_42 ?_
  refine co_eq (show (τ 0) (nI n).toNatClampNeg = (nI (δ n)) from (rq_d hR hn0 d9n_3)) ?_
  refine lv_imul hx hb dL_adopt_43 ?_
  refine co_eq (show (4 : Int32) * (nI (δ n)) = (nI (4 * (δ n))) from pk_mul 4 (δ n)) ?_
  refine lv_iload_n hx hb dL_adopt_44 rfl (lv_at hl 2 rfl) ?_
  refine va_iast hx hb hK hP hD hS 2 0 (f := f_6) rfl rfl (vp_in_nI (n := (4 * (δ n))) (N := 40) (by omega) (by decide)) dL_adopt_45 (fun H locs hP hD hS => ?_)
  obtain ⟨f_7, ef_7⟩ : ∃ z9, z9 = (upd f_6 (nI (4 * (δ n))).toNatClampNeg (nI x)) := ⟨_, rfl⟩
  rw [← ef_7] at hP hD
  have hP : pG G (wQ G q (va_up τ 2 f_7)) H := hP
  have hD : va_D A (wQ G q (va_up τ 2 f_7)) := hD
  exact co_endV (va_up τ 2 f_7) S hr hlocks dL_adopt_46 hK hP hD hS (by subst ef_7; subst ef_6; subst ef_5; exact rq_fol hR hn hx0.1 hj_2 hj_4 ej_2 ej_4 rfl rfl rfl)

abbrev rm_L_give : Room := { frames := 0, cells := 0, slots := 0, locals := 0 }
set_option maxHeartbeats 4000000 in
set_option maxRecDepth 100000 in
theorem c_L_give (l : Launch) (G : cG) (Z : Nat) (q ν δ κ : Nat → Nat) (σ τ : cS) (hR : Rq Z ν δ κ σ τ)(v : Int32) (f c₀ t : Nat) (hf : Lv σ f) (hc0 : c₀ < 6) (ht : Lv σ t) (hv : v = tat 64 (σ 5) (nI f) (nI (κ c₀))) : MetI l yL_give wsL_give rm_L_give G (wQ G q τ) [.int v, .int (nI c₀), .int (nI t), .ref (q 0), .ref (q 4)] (fun u : cS => wQ G q u) (fun r u => r = (gcC σ (nI f) (nI t) (nI (κ c₀))) ∧ Rq Z ν δ κ (gcS σ (nI f) (nI t) (nI (κ c₀))) u) := by
  refine co_bodyI (cc := cL_give) (maxL := 7) (ret := (some .int)) (by decide) rfl (Nat.le_of_ble_eq_true rfl) ?_
  intro p e s m args below meth c S hr hlocks hK A hA hP hD hS ls hl
  have S : CallFix p m c cL_give 7 s args wsL_give RL := S
  obtain ⟨hx, hb, hml, hown, hts⟩ := id S
  have hl : lv_has ls 7 [(0, .int v), (1, .int (nI c₀)), (2, .int (nI t)), (3, .ref (q 0)), (4, .ref (q 4))] := hl
  have ht0 : t < 64 := ht.1
  have d90 : δ t < 10 := Rq.d9 hR ht
  refine lv_bipush (v := 6) hx hb dL_give_0 (by decide) ?_
  refine lv_aload_n hx hb dL_give_2 rfl (lv_at hl 3 rfl) ?_
  refine lv_iload_n hx hb dL_give_3 rfl (lv_at hl 2 rfl) ?_
  refine va_iald hx hb hK hP 0 0 rfl rfl (vp_in_nI (n := t) (N := 64) (by omega) (by decide)) dL_give_4 ?_
  refine co_eq (rq_d hR ht0 d90) ?_
  refine lv_imul hx hb dL_give_5 ?_
  refine co_eq (show (6 : Int32) * (nI (δ t)) = (nI (6 * (δ t))) from pk_mul 6 (δ t)) ?_
  refine lv_iload_n hx hb dL_give_6 rfl (lv_at hl 1 rfl) ?_
  refine lv_iadd hx hb dL_give_7 ?_
  refine co_eq (show (nI (6 * (δ t))) + (nI c₀) = (nI ((6 * (δ t)) + c₀)) from nI_add (6 * (δ t)) c₀) ?_
  refine lv_istore (lv' := [(5, .int (nI ((6 * (δ t)) + c₀))), (0, .int v), (1, .int (nI c₀)), (2, .int (nI t)), (3, .ref (q 0)), (4, .ref (q 4))]) hx hb dL_give_8 hl (by decide) rfl (fun ls hl => ?_)
  refine lv_aload hx hb dL_give_10 (lv_at hl 5 rfl) ?_
  refine lv_iload hx hb dL_give_12 (lv_at hl 0 rfl) ?_
  refine va_iald hx hb hK hP 4 0 rfl rfl (vp_in_nI (n := ((6 * (δ t)) + c₀)) (N := 60) (by omega) (by decide)) dL_give_14 ?_
  refine lv_iload_n hx hb dL_give_15 rfl (lv_at hl 1 rfl) ?_
  refine lv_icmp_ge (tgt := 23) hx hb dL_give_16 (by decide) (fun c_1 => ?_) (fun c_1 => ?_)
  · refine lv_iconst (v := 0) hx hb dL_give_23 (by decide) ?_
    refine lv_istore (lv' := [(6, .int 0), (5, .int (nI ((6 * (δ t)) + c₀))), (0, .int v), (1, .int (nI c₀)), (2, .int (nI t)), (3, .ref (q 0)), (4, .ref (q 4))]) hx hb dL_give_24 hl (by decide) rfl (fun ls hl => ?_)
    refine lv_aload hx hb dL_give_26 (lv_at hl 6 rfl) ?_
    refine lv_iload hx hb dL_give_28 (lv_at hl 1 rfl) ?_
    refine lv_aload hx hb dL_give_30 (lv_at hl 6 rfl) ?_
    refine lv_iload hx hb dL_give_32 (lv_at hl 1 rfl) ?_
    refine va_iald hx hb hK hP 4 0 rfl rfl (vp_in_nI (n := ((6 * (δ t)) + c₀)) (N := 60) (by omega) (by decide)) dL_give_34 ?_
    refine lv_iload_n hx hb dL_give_35 rfl (lv_at hl 2 rfl) ?_
    refine lv_icmp_ge (tgt := 43) hx hb dL_give_36 (by decide) (fun c_2 => ?_) (fun c_2 => ?_)
    · refine lv_aload hx hb dL_give_43 (lv_at hl 6 rfl) ?_
      refine lv_iload hx hb dL_give_45 (lv_at hl 1 rfl) ?_
      refine va_iald hx hb hK hP 4 0 rfl rfl (vp_in_nI (n := ((6 * (δ t)) + c₀)) (N := 60) (by omega) (by decide)) dL_give_47 ?_
      refine va_iast hx hb hK hP hD hS 4 0 (f := (τ 4)) rfl rfl (vp_in_nI (n := ((6 * (δ t)) + c₀)) (N := 60) (by omega) (by decide)) dL_give_48 (fun H locs hP hD hS => ?_)
      have hP : pG G (wQ G q (va_up τ 4 (upd (τ 4) (nI ((6 * (δ t)) + c₀)).toNatClampNeg ((τ 4) (nI ((6 * (δ t)) + c₀)).toNatClampNeg)))) H := hP
      have hD : va_D A (wQ G q (va_up τ 4 (upd (τ 4) (nI ((6 * (δ t)) + c₀)).toNatClampNeg ((τ 4) (nI ((6 * (δ t)) + c₀)).toNatClampNeg)))) := hD
      refine lv_iload hx hb dL_give_49 (lv_at hl 0 rfl) ?_
      exact co_endI (va_up τ 4 (upd (τ 4) (nI ((6 * (δ t)) + c₀)).toNatClampNeg ((τ 4) (nI ((6 * (δ t)) + c₀)).toNatClampNeg))) S hr hlocks dL_give_51 hK hP hD hS (by (exact ⟨(rq_gc0 hR hf ht hc0 hv rfl c_1).1.symm, (rq_gc0 hR hf ht hc0 hv rfl c_1).2.2⟩))
    · exact absurd c_1 c_2
  · refine lv_iconst (v := 1) hx hb dL_give_19 (by decide) ?_
    refine lv_goto (tgt := 24) hx hb dL_give_20 (by decide) ?_
    refine lv_istore (lv' := [(6, .int 1), (5, .int (nI ((6 * (δ t)) + c₀))), (0, .int v), (1, .int (nI c₀)), (2, .int (nI t)), (3, .ref (q 0)), (4, .ref (q 4))]) hx hb dL_give_24 hl (by decide) rfl (fun ls hl => ?_)
    refine lv_aload hx hb dL_give_26 (lv_at hl 6 rfl) ?_
    refine lv_iload hx hb dL_give_28 (lv_at hl 1 rfl) ?_
    refine lv_aload hx hb dL_give_30 (lv_at hl 6 rfl) ?_
    refine lv_iload hx hb dL_give_32 (lv_at hl 1 rfl) ?_
    refine va_iald hx hb hK hP 4 0 rfl rfl (vp_in_nI (n := ((6 * (δ t)) + c₀)) (N := 60) (by omega) (by decide)) dL_give_34 ?_
    refine lv_iload_n hx hb dL_give_35 rfl (lv_at hl 2 rfl) ?_
    refine lv_icmp_ge (tgt := 43) hx hb dL_give_36 (by decide) (fun c_3 => ?_) (fun c_3 => ?_)
    · exact absurd c_3 c_1
    · refine lv_iload_n hx hb dL_give_39 rfl (lv_at hl 2 rfl) ?_
      refine lv_goto (tgt := 48) hx hb dL_give_40 (by decide) ?_
      refine va_iast hx hb hK hP hD hS 4 0 (f := (τ 4)) rfl rfl (vp_in_nI (n := ((6 * (δ t)) + c₀)) (N := 60) (by omega) (by decide)) dL_give_48 (fun H locs hP hD hS => ?_)
      have hP : pG G (wQ G q (va_up τ 4 (upd (τ 4) (nI ((6 * (δ t)) + c₀)).toNatClampNeg v))) H := hP
      have hD : va_D A (wQ G q (va_up τ 4 (upd (τ 4) (nI ((6 * (δ t)) + c₀)).toNatClampNeg v))) := hD
      refine lv_iload hx hb dL_give_49 (lv_at hl 0 rfl) ?_
      exact co_endI (va_up τ 4 (upd (τ 4) (nI ((6 * (δ t)) + c₀)).toNatClampNeg v)) S hr hlocks dL_give_51 hK hP hD hS (by (exact ⟨(rq_gc1 hR hf ht hc0 hv rfl c_1).1.symm, (rq_gc1 hR hf ht hc0 hv rfl c_1).2⟩))

abbrev rm_L_begin : Room := { frames := 0, cells := 0, slots := 0, locals := 0 }
set_option maxHeartbeats 4000000 in
set_option maxRecDepth 100000 in
theorem c_L_begin (l : Launch) (G : cG) (Z : Nat) (q ν δ κ : Nat → Nat) (σ τ : cS) (hR : Rq Z ν δ κ σ τ)(n x y z : Nat) (hn0 : n < 64) (hd : δ n < 10) (hx0 : x < 64) (hy0 : y < 64) (hz0 : z < 64) : MetV l yL_begin wsL_begin rm_L_begin G (wQ G q τ) [.int (nI n), .int (nI x), .int (nI y), .int (nI z), .ref (q 0), .ref (q 1), .ref (q 2), .ref (q 3), .ref (q 4)] (fun u : cS => wQ G q u) (fun u => Rq Z ν δ κ (blS σ (nI n) (nI x) (nI y) (nI z)) u) := by
  refine co_bodyV (cc := cL_begin) (maxL := 11) (ret := none) (by decide) rfl (Nat.le_of_ble_eq_true rfl) ?_
  intro p e s m args below meth c S hr hlocks hK A hA hP hD hS ls hl
  have S : CallFix p m c cL_begin 11 s args wsL_begin RL := S
  obtain ⟨hx, hb, hml, hown, hts⟩ := id S
  have hl : lv_has ls 11 [(0, .int (nI n)), (1, .int (nI x)), (2, .int (nI y)), (3, .int (nI z)), (4, .ref (q 0)), (5, .ref (q 1)), (6, .ref (q 2)), (7, .ref (q 3)), (8, .ref (q 4))] := hl
  refine lv_aload hx hb dL_begin_0 (lv_at hl 4 rfl) ?_
  refine lv_iload_n hx hb dL_begin_2 rfl (lv_at hl 0 rfl) ?_
  refine va_iald hx hb hK hP 0 0 rfl rfl (vp_in_nI (n := n) (N := 64) (by omega) (by decide)) dL_begin_3 ?_
  refine co_eq (rq_d hR hn0 hd) ?_
  refine lv_istore (lv' := [(9, .int (nI (δ n))), (0, .int (nI n)), (1, .int (nI x)), (2, .int (nI y)), (3, .int (nI z)), (4, .ref (q 0)), (5, .ref (q 1)), (6, .ref (q 2)), (7, .ref (q 3)), (8, .ref (q 4))]) hx hb dL_begin_4 hl (by decide) rfl (fun ls hl => ?_)
  refine lv_aload hx hb dL_begin_6 (lv_at hl 6 rfl) ?_
  refine lv_bipush (v := 10) hx hb dL_begin_8 (by decide) ?_
  refine lv_iload hx hb dL_begin_10 (lv_at hl 0 rfl) ?_
  refine lv_iadd hx hb dL_begin_12 ?_
  refine co_eq (show (10 : Int32) + (nI (δ n)) = (nI (10 + (δ n))) from nI_add 10 (δ n)) ?_
  refine lv_iconst (v := 1) hx hb dL_begin_13 (by decide) ?_
  refine va_iast hx hb hK hP hD hS 1 0 (f := (τ 1)) rfl rfl (vp_in_nI (n := (10 + (δ n))) (N := 27) (by omega) (by decide)) dL_begin_14 (fun H locs hP hD hS => ?_)
  obtain ⟨f_1, ef_1⟩ : ∃ z9, z9 = (upd (τ 1) (nI (10 + (δ n))).toNatClampNeg 1) := ⟨_, rfl⟩
  rw [← ef_1] at hP hD
  have hP : pG G (wQ G q (va_up τ 1 f_1)) H := hP
  have hD : va_D A (wQ G q (va_up τ 1 f_1)) := hD
  refine lv_aload hx hb dL_begin_15 (lv_at hl 7 rfl) ?_
  refine lv_iconst (v := 4) hx hb dL_begin_17 (by decide) ?_
  refine lv_iload hx hb dL_begin_18 (lv_at hl 0 rfl) ?_
  refine lv_imul hx hb dL_begin_20 ?_
  refine co_eq (show (4 : Int32) * (nI (δ n)) = (nI (4 * (δ n))) from pk_mul 4 (δ n)) ?_
  refine lv_iload_n hx hb dL_begin_21 rfl (lv_at hl 2 rfl) ?_
  refine va_iast hx hb hK hP hD hS 2 0 (f := (τ 2)) rfl rfl (vp_in_nI (n := (4 * (δ n))) (N := 40) (by omega) (by decide)) dL_begin_22 (fun H locs hP hD hS => ?_)
  obtain ⟨f_2, ef_2⟩ : ∃ z9, z9 = (upd (τ 2) (nI (4 * (δ n))).toNatClampNeg (nI x)) := ⟨_, rfl⟩
  rw [← ef_2] at hP hD
  have hP : pG G (wQ G q (va_up (va_up τ 1 f_1) 2 f_2)) H := hP
  have hD : va_D A (wQ G q (va_up (va_up τ 1 f_1) 2 f_2)) := hD
  refine lv_aload hx hb dL_begin_23 (lv_at hl 7 rfl) ?_
  refine lv_iconst (v := 4) hx hb dL_begin_25 (by decide) ?_
  refine lv_iload hx hb dL_begin_26 (lv_at hl 0 rfl) ?_
  refine lv_imul hx hb dL_begin_28 ?_
  refine co_eq (show (4 : Int32) * (nI (δ n)) = (nI (4 * (δ n))) from pk_mul 4 (δ n)) ?_
  refine lv_iconst (v := 1) hx hb dL_begin_29 (by decide) ?_
  refine lv_iadd hx hb dL_begin_30 ?_
  refine co_eq (show (nI (4 * (δ n))) + (1 : Int32) = (nI ((4 * (δ n)) + 1)) from nI_add (4 * (δ n)) 1) ?_
  refine lv_iload_n hx hb dL_begin_31 rfl (lv_at hl 3 rfl) ?_
  refine va_iast hx hb hK hP hD hS 2 0 (f := f_2) rfl rfl (vp_in_nI (n := ((4 * (δ n)) + 1)) (N := 40) (by omega) (by decide)) dL_begin_32 (fun H locs hP hD hS => ?_)
  obtain ⟨f_3, ef_3⟩ : ∃ z9, z9 = (upd f_2 (nI ((4 * (δ n)) + 1)).toNatClampNeg (nI y)) := ⟨_, rfl⟩
  rw [← ef_3] at hP hD
  have hP : pG G (wQ G q (va_up (va_up τ 1 f_1) 2 f_3)) H := hP
  have hD : va_D A (wQ G q (va_up (va_up τ 1 f_1) 2 f_3)) := hD
  refine lv_aload hx hb dL_begin_33 (lv_at hl 7 rfl) ?_
  refine lv_iconst (v := 4) hx hb dL_begin_35 (by decide) ?_
  refine lv_iload hx hb dL_begin_36 (lv_at hl 0 rfl) ?_
  refine lv_imul hx hb dL_begin_38 ?_
  refine co_eq (show (4 : Int32) * (nI (δ n)) = (nI (4 * (δ n))) from pk_mul 4 (δ n)) ?_
  refine lv_iconst (v := 2) hx hb dL_begin_39 (by decide) ?_
  refine lv_iadd hx hb dL_begin_40 ?_
  refine co_eq (show (nI (4 * (δ n))) + (2 : Int32) = (nI ((4 * (δ n)) + 2)) from nI_add (4 * (δ n)) 2) ?_
  refine lv_iload_n hx hb dL_begin_41 rfl (lv_at hl 4 rfl) ?_
  refine va_iast hx hb hK hP hD hS 2 0 (f := f_3) rfl rfl (vp_in_nI (n := ((4 * (δ n)) + 2)) (N := 40) (by omega) (by decide)) dL_begin_42 (fun H locs hP hD hS => ?_)
  obtain ⟨f_4, ef_4⟩ : ∃ z9, z9 = (upd f_3 (nI ((4 * (δ n)) + 2)).toNatClampNeg (nI z)) := ⟨_, rfl⟩
  rw [← ef_4] at hP hD
  have hP : pG G (wQ G q (va_up (va_up τ 1 f_1) 2 f_4)) H := hP
  have hD : va_D A (wQ G q (va_up (va_up τ 1 f_1) 2 f_4)) := hD
  refine lv_aload hx hb dL_begin_43 (lv_at hl 7 rfl) ?_
  refine lv_iconst (v := 4) hx hb dL_begin_45 (by decide) ?_
  refine lv_iload hx hb dL_begin_46 (lv_at hl 0 rfl) ?_
  refine lv_imul hx hb dL_begin_48 ?_
  refine co_eq (show (4 : Int32) * (nI (δ n)) = (nI (4 * (δ n))) from pk_mul 4 (δ n)) ?_
  refine lv_iconst (v := 3) hx hb dL_begin_49 (by decide) ?_
  refine lv_iadd hx hb dL_begin_50 ?_
  refine co_eq (show (nI (4 * (δ n))) + (3 : Int32) = (nI ((4 * (δ n)) + 3)) from nI_add (4 * (δ n)) 3) ?_
  refine lv_iconst (v := (-1)) hx hb dL_begin_51 (by decide) ?_
  refine va_iast hx hb hK hP hD hS 2 0 (f := f_4) rfl rfl (vp_in_nI (n := ((4 * (δ n)) + 3)) (N := 40) (by omega) (by decide)) dL_begin_52 (fun H locs hP hD hS => ?_)
  obtain ⟨f_5, ef_5⟩ : ∃ z9, z9 = (upd f_4 (nI ((4 * (δ n)) + 3)).toNatClampNeg (-1)) := ⟨_, rfl⟩
  rw [← ef_5] at hP hD
  have hP : pG G (wQ G q (va_up (va_up τ 1 f_1) 2 f_5)) H := hP
  have hD : va_D A (wQ G q (va_up (va_up τ 1 f_1) 2 f_5)) := hD
  refine lv_iconst (v := 0) hx hb dL_begin_53 (by decide) ?_
  refine lv_istore (lv' := [(10, .int 0), (9, .int (nI (δ n))), (0, .int (nI n)), (1, .int (nI x)), (2, .int (nI y)), (3, .int (nI z)), (4, .ref (q 0)), (5, .ref (q 1)), (6, .ref (q 2)), (7, .ref (q 3)), (8, .ref (q 4))]) hx hb dL_begin_54 hl (by decide) rfl (fun ls hl => ?_)
  have LP : ∀ (d : Nat) (k : Nat) (f' g' : Nat → Int32), k + d = 6 → f' = qclr (τ 3) (δ n) k → g' = qclr (τ 4) (δ n) k → ∀ (H : Heap) (locs : List Loc), pG G (wQ G q (va_up (va_up (va_up (va_up τ 1 f_1) 2 f_5) 3 f') 4 g')) H → va_D A (wQ G q (va_up (va_up (va_up (va_up τ 1 f_1) 2 f_5) 3 f') 4 g')) → va_S A s.heap H locs → ∀ ls : Array Slot, lv_has ls 11 [(4, .ref (q 0)), (5, .ref (q 1)), (6, .ref (q 2)), (7, .ref (q 3)), (8, .ref (q 4)), (9, .int (nI (δ n))), (10, .int (nI k))] → W p l e rm_L_begin s m args below meth c H locs 0 0 (QV below G A (fun u : cS => wQ G q u) (fun u => Rq Z ν δ κ (blS σ (nI n) (nI x) (nI y) (nI z)) u) args s) (F0 m 56 ls []) := by
    intro d
    induction d with
    | zero =>
      intro k f' g' hk h9 h8 H locs hP hD hS ls hl
      have h9a : f' = qclr (τ 3) (δ n) 6 := (by rw [h9, show k = 6 by omega])
      have h8a : g' = qclr (τ 4) (δ n) 6 := (by rw [h8, show k = 6 by omega])
      refine lv_iload hx hb dL_begin_56 (lv_at hl 6 rfl) ?_
      refine lv_bipush (v := 6) hx hb dL_begin_58 (by decide) ?_
      refine lv_icmp_ge (tgt := 93) hx hb dL_begin_60 (by decide) (fun c_6 => ?_) (fun c_6 => ?_)
      · exact co_endV (va_up (va_up (va_up (va_up τ 1 f_1) 2 f_5) 3 f') 4 g') S hr hlocks dL_begin_93 hK hP hD hS (by exact rq_beg hR hn0 hd hx0 hy0 hz0 rfl (by show f_1 = _; rw [ef_1]) (by show f_5 = _; rw [ef_5, ef_4, ef_3, ef_2]) h9a h8a)
      · exact absurd (nI_le (a := 6) (b := k) (by omega) (by omega)) c_6
    | succ d ih =>
      intro k f' g' hk h9 h8 H locs hP hD hS ls hl
      refine lv_iload hx hb dL_begin_56 (lv_at hl 6 rfl) ?_
      refine lv_bipush (v := 6) hx hb dL_begin_58 (by decide) ?_
      refine lv_icmp_ge (tgt := 93) hx hb dL_begin_60 (by decide) (fun c_7 => ?_) (fun c_7 => ?_)
      · exact absurd c_7 (nI_ge (a := k) (b := 6) (by omega) (by omega))
      · refine lv_aload hx hb dL_begin_63 (lv_at hl 3 rfl) ?_
        refine lv_bipush (v := 6) hx hb dL_begin_65 (by decide) ?_
        refine lv_iload hx hb dL_begin_67 (lv_at hl 5 rfl) ?_
        refine lv_imul hx hb dL_begin_69 ?_
        refine co_eq (show (6 : Int32) * (nI (δ n)) = (nI (6 * (δ n))) from pk_mul 6 (δ n)) ?_
        refine lv_iload hx hb dL_begin_70 (lv_at hl 6 rfl) ?_
        refine lv_iadd hx hb dL_begin_72 ?_
        refine co_eq (show (nI (6 * (δ n))) + (nI k) = (nI ((6 * (δ n)) + k)) from nI_add (6 * (δ n)) k) ?_
        refine lv_iconst (v := (-1)) hx hb dL_begin_73 (by decide) ?_
        refine va_iast hx hb hK hP hD hS 3 0 (f := f') rfl rfl (vp_in_nI (n := ((6 * (δ n)) + k)) (N := 60) (by omega) (by decide)) dL_begin_74 (fun H locs hP hD hS => ?_)
        obtain ⟨f_8, ef_8⟩ : ∃ z9, z9 = (upd f' (nI ((6 * (δ n)) + k)).toNatClampNeg (-1)) := ⟨_, rfl⟩
        rw [← ef_8] at hP hD
        have hP : pG G (wQ G q (va_up (va_up (va_up (va_up τ 1 f_1) 2 f_5) 3 f_8) 4 g')) H := hP
        have hD : va_D A (wQ G q (va_up (va_up (va_up (va_up τ 1 f_1) 2 f_5) 3 f_8) 4 g')) := hD
        refine lv_aload hx hb dL_begin_75 (lv_at hl 4 rfl) ?_
        refine lv_bipush (v := 6) hx hb dL_begin_77 (by decide) ?_
        refine lv_iload hx hb dL_begin_79 (lv_at hl 5 rfl) ?_
        refine lv_imul hx hb dL_begin_81 ?_
        refine co_eq (show (6 : Int32) * (nI (δ n)) = (nI (6 * (δ n))) from pk_mul 6 (δ n)) ?_
        refine lv_iload hx hb dL_begin_82 (lv_at hl 6 rfl) ?_
        refine lv_iadd hx hb dL_begin_84 ?_
        refine co_eq (show (nI (6 * (δ n))) + (nI k) = (nI ((6 * (δ n)) + k)) from nI_add (6 * (δ n)) k) ?_
        refine lv_iconst (v := (-1)) hx hb dL_begin_85 (by decide) ?_
        refine va_iast hx hb hK hP hD hS 4 0 (f := g') rfl rfl (vp_in_nI (n := ((6 * (δ n)) + k)) (N := 60) (by omega) (by decide)) dL_begin_86 (fun H locs hP hD hS => ?_)
        obtain ⟨f_9, ef_9⟩ : ∃ z9, z9 = (upd g' (nI ((6 * (δ n)) + k)).toNatClampNeg (-1)) := ⟨_, rfl⟩
        rw [← ef_9] at hP hD
        have hP : pG G (wQ G q (va_up (va_up (va_up (va_up τ 1 f_1) 2 f_5) 3 f_8) 4 f_9)) H := hP
        have hD : va_D A (wQ G q (va_up (va_up (va_up (va_up τ 1 f_1) 2 f_5) 3 f_8) 4 f_9)) := hD
        refine lv_iinc (v := (nI (k + 1))) (lv' := [(10, .int (nI (k + 1))), (4, .ref (q 0)), (5, .ref (q 1)), (6, .ref (q 2)), (7, .ref (q 3)), (8, .ref (q 4)), (9, .int (nI (δ n)))]) hx hb dL_begin_87 hl (k := 6) rfl (nI_1 k) (by decide) rfl (fun ls hl => ?_)
        refine lv_goto (tgt := 56) hx hb dL_begin_90 (by decide) ?_
        exact ih (k + 1) f_8 f_9 (by omega) (by rw [ef_8, h9]; rfl) (by rw [ef_9, h8]; rfl) _ _ hP hD hS ls (lv_sub hl [1, 2, 3, 4, 5, 6, 0] rfl)
  exact LP 6 0 (τ 3) (τ 4) rfl rfl rfl _ _ hP hD hS ls (lv_sub hl [6, 7, 8, 9, 10, 1, 0] rfl)

abbrev rm_L_spread : Room := { frames := 1, cells := 0, slots := 0, locals := 26 }
set_option maxHeartbeats 4000000 in
set_option maxRecDepth 100000 in
theorem c_L_spread (l : Launch) (G : cG) (Z : Nat) (q ν δ κ : Nat → Nat) (σ τ : cS) (hR : Rq Z ν δ κ σ τ)(n c₀ : Nat) (hn : Lv σ n) (hc0 : c₀ < 6) : MetI l yL_spread wsL_spread rm_L_spread G (wQ G q τ) [.int (nI n), .int (nI c₀), .ref (q 0), .ref (q 1), .ref (q 2), .ref (q 4)] (fun u : cS => wQ G q u) (fun r u => r = (chC σ (nI n) (nI (κ c₀))) ∧ Rq Z ν δ κ (chS σ (nI n) (nI (κ c₀))) u) := by
  refine co_bodyI (cc := cL_spread) (maxL := 12) (ret := (some .int)) (by decide) rfl (Nat.le_of_ble_eq_true rfl) ?_
  intro p e s m args below meth c S hr hlocks hK A hA hP hD hS ls hl
  have S : CallFix p m c cL_spread 12 s args wsL_spread RL := S
  obtain ⟨hx, hb, hml, hown, hts⟩ := id S
  have hl : lv_has ls 12 [(0, .int (nI n)), (1, .int (nI c₀)), (2, .ref (q 0)), (3, .ref (q 1)), (4, .ref (q 2)), (5, .ref (q 4))] := hl
  have hn0 : n < 64 := hn.1
  have d90 : δ n < 10 := Rq.d9 hR hn
  refine lv_aload hx hb dL_spread_0 (lv_at hl 5 rfl) ?_
  refine lv_bipush (v := 6) hx hb dL_spread_2 (by decide) ?_
  refine lv_aload_n hx hb dL_spread_4 rfl (lv_at hl 2 rfl) ?_
  refine lv_iload_n hx hb dL_spread_5 rfl (lv_at hl 0 rfl) ?_
  refine va_iald hx hb hK hP 0 0 rfl rfl (vp_in_nI (n := n) (N := 64) (by omega) (by decide)) dL_spread_6 ?_
  refine co_eq (rq_d hR hn0 d90) ?_
  refine lv_imul hx hb dL_spread_7 ?_
  refine co_eq (show (6 : Int32) * (nI (δ n)) = (nI (6 * (δ n))) from pk_mul 6 (δ n)) ?_
  refine lv_iload_n hx hb dL_spread_8 rfl (lv_at hl 1 rfl) ?_
  refine lv_iadd hx hb dL_spread_9 ?_
  refine co_eq (show (nI (6 * (δ n))) + (nI c₀) = (nI ((6 * (δ n)) + c₀)) from nI_add (6 * (δ n)) c₀) ?_
  refine va_iald hx hb hK hP 4 0 rfl rfl (vp_in_nI (n := ((6 * (δ n)) + c₀)) (N := 60) (by omega) (by decide)) dL_spread_10 ?_
  refine co_eq (rq_w hR hn rfl c₀ (by omega) (i := (6 * (δ n)) + c₀) (by omega)) ?_
  refine lv_istore (lv' := [(6, .int (tat 64 (σ 5) (nI n) (nI (κ c₀)))), (0, .int (nI n)), (1, .int (nI c₀)), (2, .ref (q 0)), (3, .ref (q 1)), (4, .ref (q 2)), (5, .ref (q 4))]) hx hb dL_spread_11 hl (by decide) rfl (fun ls hl => ?_)
  refine lv_iconst (v := (-1)) hx hb dL_spread_13 (by decide) ?_
  refine lv_istore (lv' := [(7, .int (-1)), (6, .int (tat 64 (σ 5) (nI n) (nI (κ c₀)))), (0, .int (nI n)), (1, .int (nI c₀)), (2, .ref (q 0)), (3, .ref (q 1)), (4, .ref (q 2)), (5, .ref (q 4))]) hx hb dL_spread_14 hl (by decide) rfl (fun ls hl => ?_)
  refine lv_iconst (v := (-1)) hx hb dL_spread_16 (by decide) ?_
  refine lv_istore (lv' := [(8, .int (-1)), (7, .int (-1)), (6, .int (tat 64 (σ 5) (nI n) (nI (κ c₀)))), (0, .int (nI n)), (1, .int (nI c₀)), (2, .ref (q 0)), (3, .ref (q 1)), (4, .ref (q 2)), (5, .ref (q 4))]) hx hb dL_spread_17 hl (by decide) rfl (fun ls hl => ?_)
  refine lv_iconst (v := 0) hx hb dL_spread_19 (by decide) ?_
  refine lv_istore (lv' := [(9, .int 0), (8, .int (-1)), (7, .int (-1)), (6, .int (tat 64 (σ 5) (nI n) (nI (κ c₀)))), (0, .int (nI n)), (1, .int (nI c₀)), (2, .ref (q 0)), (3, .ref (q 1)), (4, .ref (q 2)), (5, .ref (q 4))]) hx hb dL_spread_20 hl (by decide) rfl (fun ls hl => ?_)
  have LP : ∀ (d : Nat) (k : Nat) (x1 x2 : Int32), k + d = 3 → x1 = h1S (σ 0) (σ 1) (nI n) k → x2 = h2S (σ 0) (σ 1) (nI n) k → ∀ (H : Heap) (locs : List Loc), pG G (wQ G q τ) H → va_D A (wQ G q τ) → va_S A s.heap H locs → ∀ ls : Array Slot, lv_has ls 12 [(0, .int (nI n)), (1, .int (nI c₀)), (2, .ref (q 0)), (3, .ref (q 1)), (4, .ref (q 2)), (5, .ref (q 4)), (6, .int (tat 64 (σ 5) (nI n) (nI (κ c₀)))), (7, .int x1), (8, .int x2), (9, .int (nI k))] → W p l e rm_L_spread s m args below meth c H locs 0 0 (QI below G A (fun u : cS => wQ G q u) (fun r u => r = (chC σ (nI n) (nI (κ c₀))) ∧ Rq Z ν δ κ (chS σ (nI n) (nI (κ c₀))) u) args s) (F0 m 22 ls []) := by
    intro d
    induction d with
    | zero =>
      intro k x1 x2 hk hx1 hx2 H locs hP hD hS ls hl
      obtain ⟨q1, q2⟩ := hs_ok hR hn 3 (Nat.le_refl 3)
      obtain ⟨w1, w2⟩ := hs_3 hR hn
      rw [show k = 3 by omega] at hx1 hx2
      rw [← hx1] at q1 w1
      rw [← hx2] at q2 w2
      rcases q1 with ef1 | ⟨f1, ef1, lf1, nf1⟩
      · subst ef1
        rcases q2 with ef2 | ⟨f2, ef2, lf2, nf2⟩
        · subst ef2
          have E1 : heir (σ 0) (σ 1) (nI n) (-1) = -1 := w1.symm
          rw [E1] at w2
          have E2 : heir (σ 0) (σ 1) (nI n) (-1) = -1 := w2.symm
          refine lv_iload hx hb dL_spread_22 (lv_at hl 9 rfl) ?_
          refine lv_iconst (v := 3) hx hb dL_spread_24 (by decide) ?_
          refine lv_icmp_ge (tgt := 120) hx hb dL_spread_25 (by decide) (fun c_1 => ?_) (fun c_1 => ?_)
          · refine lv_iload hx hb dL_spread_120 (lv_at hl 7 rfl) ?_
            refine lv_if_ge (tgt := 129) hx hb dL_spread_122 (by decide) (fun c_2 => ?_) (fun c_2 => ?_)
            · exact absurd c_2 (by decide)
            · refine lv_iconst (v := 0) hx hb dL_spread_125 (by decide) ?_
              refine lv_goto (tgt := 140) hx hb dL_spread_126 (by decide) ?_
              refine lv_iload hx hb dL_spread_140 (lv_at hl 8 rfl) ?_
              refine lv_if_ge (tgt := 149) hx hb dL_spread_142 (by decide) (fun c_3 => ?_) (fun c_3 => ?_)
              · exact absurd c_3 (by decide)
              · refine lv_iconst (v := 0) hx hb dL_spread_145 (by decide) ?_
                refine lv_goto (tgt := 160) hx hb dL_spread_146 (by decide) ?_
                refine lv_iadd hx hb dL_spread_160 ?_
                exact co_endI τ S hr hlocks dL_spread_161 hK hP hD hS (by refine ⟨?_, ?_⟩; (simp only [chC, ccA, chA, E1, E2, Int32.zero_add, Int32.add_zero, eq_self, ↓reduceIte]); (rw [show chS σ (nI n) (nI (κ c₀)) = σ from by simp only [chS, chA, E1, E2, eq_self, ↓reduceIte]]; exact hR))
          · exact absurd (nI_le (a := 3) (b := k) (by omega) (by omega)) c_1
        · subst ef2
          have tf2 : f2 < 64 := lf2.1
          have E1 : heir (σ 0) (σ 1) (nI n) (-1) = -1 := w1.symm
          rw [E1] at w2
          have E2 : heir (σ 0) (σ 1) (nI n) (-1) = nI f2 := w2.symm
          exact absurd (E2.symm.trans E1) (nI_nem tf2)
      · subst ef1
        have tf1 : f1 < 64 := lf1.1
        rcases q2 with ef2 | ⟨f2, ef2, lf2, nf2⟩
        · subst ef2
          have E1 : heir (σ 0) (σ 1) (nI n) (-1) = nI f1 := w1.symm
          rw [E1] at w2
          have E2 : heir (σ 0) (σ 1) (nI n) (nI f1) = -1 := w2.symm
          refine lv_iload hx hb dL_spread_22 (lv_at hl 9 rfl) ?_
          refine lv_iconst (v := 3) hx hb dL_spread_24 (by decide) ?_
          refine lv_icmp_ge (tgt := 120) hx hb dL_spread_25 (by decide) (fun c_4 => ?_) (fun c_4 => ?_)
          · refine lv_iload hx hb dL_spread_120 (lv_at hl 7 rfl) ?_
            refine lv_if_ge (tgt := 129) hx hb dL_spread_122 (by decide) (fun c_5 => ?_) (fun c_5 => ?_)
            · refine lv_iload hx hb dL_spread_129 (lv_at hl 6 rfl) ?_
              refine lv_iload_n hx hb dL_spread_131 rfl (lv_at hl 1 rfl) ?_
              refine lv_iload hx hb dL_spread_132 (lv_at hl 7 rfl) ?_
              refine lv_aload_n hx hb dL_spread_134 rfl (lv_at hl 2 rfl) ?_
              refine lv_aload hx hb dL_spread_135 (lv_at hl 5 rfl) ?_
              refine co_mSi (As := [.int (tat 64 (σ 5) (nI n) (nI (κ c₀))), .int (nI c₀), .int (nI f1), .ref (q 0), .ref (q 4)]) (rest := []) S (c_L_give l G Z q ν δ κ σ τ hR (tat 64 (σ 5) (nI n) (nI (κ c₀))) n c₀ f1 hn hc0 lf1 rfl) (va_cwS 5 hts gL_spread_L_give rfl rfl rfl (by decide +kernel) ⟨Nat.le_of_ble_eq_true rfl, Nat.le_of_ble_eq_true rfl⟩) hK hP hD hS hA rfl hl.1 rfl (Nat.le_of_ble_eq_true rfl) dL_spread_137 ⟨Nat.zero_le _, Nat.zero_le _⟩ (fun r_6 u_6 H locs hu_6 hP hD hS => ?_)
              obtain ⟨hr_6, hq_6⟩ := hu_6
              have hr_6 : r_6 = (gcC σ (nI n) (nI f1) (nI (κ c₀))) := hr_6
              obtain ⟨σ_6, eσ_6⟩ : ∃ z9, z9 = (gcS σ (nI n) (nI f1) (nI (κ c₀))) := ⟨_, rfl⟩
              have hq_6 : Rq Z ν δ κ σ_6 u_6 := (by rw [eσ_6]; exact hq_6)
              have hc0_6 : σ_6 0 = (σ 0) := (by rw [eσ_6]; exact gcS_0)
              have hc1_6 : σ_6 1 = (σ 1) := (by rw [eσ_6]; exact gcS_1)
              have hc2_6 : σ_6 2 = (σ 2) := (by rw [eσ_6]; exact gcS_2)
              have hc3_6 : σ_6 3 = (σ 3) := (by rw [eσ_6]; exact gcS_3)
              have hP : pG G (wQ G q u_6) H := hP
              have hD : va_D A (wQ G q u_6) := hD
              refine lv_iload hx hb dL_spread_140 (lv_at hl 8 rfl) ?_
              refine lv_if_ge (tgt := 149) hx hb dL_spread_142 (by decide) (fun c_7 => ?_) (fun c_7 => ?_)
              · exact absurd c_7 (by decide)
              · refine lv_iconst (v := 0) hx hb dL_spread_145 (by decide) ?_
                refine lv_goto (tgt := 160) hx hb dL_spread_146 (by decide) ?_
                refine lv_iadd hx hb dL_spread_160 ?_
                exact co_endI u_6 S hr hlocks dL_spread_161 hK hP hD hS (by refine ⟨?_, ?_⟩; (subst eσ_6; subst hr_6; simp only [chC, ccA, chA, E1, E2, nI_nem tf1, Int32.zero_add, Int32.add_zero, eq_self, ↓reduceIte]); (rw [show chS σ (nI n) (nI (κ c₀)) = σ_6 from by subst eσ_6; subst hr_6; simp only [chS, chA, E1, E2, nI_nem tf1, eq_self, ↓reduceIte]]; exact hq_6))
            · exact absurd (nI_pos' (by omega)) c_5
          · exact absurd (nI_le (a := 3) (b := k) (by omega) (by omega)) c_4
        · subst ef2
          have tf2 : f2 < 64 := lf2.1
          have E1 : heir (σ 0) (σ 1) (nI n) (-1) = nI f1 := w1.symm
          rw [E1] at w2
          have E2 : heir (σ 0) (σ 1) (nI n) (nI f1) = nI f2 := w2.symm
          refine lv_iload hx hb dL_spread_22 (lv_at hl 9 rfl) ?_
          refine lv_iconst (v := 3) hx hb dL_spread_24 (by decide) ?_
          refine lv_icmp_ge (tgt := 120) hx hb dL_spread_25 (by decide) (fun c_8 => ?_) (fun c_8 => ?_)
          · refine lv_iload hx hb dL_spread_120 (lv_at hl 7 rfl) ?_
            refine lv_if_ge (tgt := 129) hx hb dL_spread_122 (by decide) (fun c_9 => ?_) (fun c_9 => ?_)
            · refine lv_iload hx hb dL_spread_129 (lv_at hl 6 rfl) ?_
              refine lv_iload_n hx hb dL_spread_131 rfl (lv_at hl 1 rfl) ?_
              refine lv_iload hx hb dL_spread_132 (lv_at hl 7 rfl) ?_
              refine lv_aload_n hx hb dL_spread_134 rfl (lv_at hl 2 rfl) ?_
              refine lv_aload hx hb dL_spread_135 (lv_at hl 5 rfl) ?_
              refine co_mSi (As := [.int (tat 64 (σ 5) (nI n) (nI (κ c₀))), .int (nI c₀), .int (nI f1), .ref (q 0), .ref (q 4)]) (rest := []) S (c_L_give l G Z q ν δ κ σ τ hR (tat 64 (σ 5) (nI n) (nI (κ c₀))) n c₀ f1 hn hc0 lf1 rfl) (va_cwS 5 hts gL_spread_L_give rfl rfl rfl (by decide +kernel) ⟨Nat.le_of_ble_eq_true rfl, Nat.le_of_ble_eq_true rfl⟩) hK hP hD hS hA rfl hl.1 rfl (Nat.le_of_ble_eq_true rfl) dL_spread_137 ⟨Nat.zero_le _, Nat.zero_le _⟩ (fun r_10 u_10 H locs hu_10 hP hD hS => ?_)
              obtain ⟨hr_10, hq_10⟩ := hu_10
              have hr_10 : r_10 = (gcC σ (nI n) (nI f1) (nI (κ c₀))) := hr_10
              obtain ⟨σ_10, eσ_10⟩ : ∃ z9, z9 = (gcS σ (nI n) (nI f1) (nI (κ c₀))) := ⟨_, rfl⟩
              have hq_10 : Rq Z ν δ κ σ_10 u_10 := (by rw [eσ_10]; exact hq_10)
              have hc0_10 : σ_10 0 = (σ 0) := (by rw [eσ_10]; exact gcS_0)
              have hc1_10 : σ_10 1 = (σ 1) := (by rw [eσ_10]; exact gcS_1)
              have hc2_10 : σ_10 2 = (σ 2) := (by rw [eσ_10]; exact gcS_2)
              have hc3_10 : σ_10 3 = (σ 3) := (by rw [eσ_10]; exact gcS_3)
              have hP : pG G (wQ G q u_10) H := hP
              have hD : va_D A (wQ G q u_10) := hD
              refine lv_iload hx hb dL_spread_140 (lv_at hl 8 rfl) ?_
              refine lv_if_ge (tgt := 149) hx hb dL_spread_142 (by decide) (fun c_11 => ?_) (fun c_11 => ?_)
              · refine lv_iload hx hb dL_spread_149 (lv_at hl 6 rfl) ?_
                refine lv_iload_n hx hb dL_spread_151 rfl (lv_at hl 1 rfl) ?_
                refine lv_iload hx hb dL_spread_152 (lv_at hl 8 rfl) ?_
                refine lv_aload_n hx hb dL_spread_154 rfl (lv_at hl 2 rfl) ?_
                refine lv_aload hx hb dL_spread_155 (lv_at hl 5 rfl) ?_
                refine co_mSi (As := [.int (tat 64 (σ 5) (nI n) (nI (κ c₀))), .int (nI c₀), .int (nI f2), .ref (q 0), .ref (q 4)]) (rest := [.int r_10]) S (c_L_give l G Z q ν δ κ σ_10 u_10 hq_10 (tat 64 (σ 5) (nI n) (nI (κ c₀))) n c₀ f2 (Lv.tr hc0_10 hn) hc0 (Lv.tr hc0_10 lf2) (by rw [eσ_10]; exact (gc_own hn0 tf1 (Rq.ka hR hc0) nf1).symm)) (va_cwS 5 hts gL_spread_L_give rfl rfl rfl (by decide +kernel) ⟨Nat.le_of_ble_eq_true rfl, Nat.le_of_ble_eq_true rfl⟩) hK hP hD hS hA rfl hl.1 rfl (Nat.le_of_ble_eq_true rfl) dL_spread_157 ⟨Nat.zero_le _, Nat.zero_le _⟩ (fun r_12 u_12 H locs hu_12 hP hD hS => ?_)
                obtain ⟨hr_12, hq_12⟩ := hu_12
                have hr_12 : r_12 = (gcC σ_10 (nI n) (nI f2) (nI (κ c₀))) := hr_12
                obtain ⟨σ_12, eσ_12⟩ : ∃ z9, z9 = (gcS σ_10 (nI n) (nI f2) (nI (κ c₀))) := ⟨_, rfl⟩
                have hq_12 : Rq Z ν δ κ σ_12 u_12 := (by rw [eσ_12]; exact hq_12)
                have hc0_12 : σ_12 0 = (σ 0) := (by rw [eσ_12]; exact (gcS_0).trans hc0_10)
                have hc1_12 : σ_12 1 = (σ 1) := (by rw [eσ_12]; exact (gcS_1).trans hc1_10)
                have hc2_12 : σ_12 2 = (σ 2) := (by rw [eσ_12]; exact (gcS_2).trans hc2_10)
                have hc3_12 : σ_12 3 = (σ 3) := (by rw [eσ_12]; exact (gcS_3).trans hc3_10)
                have hP : pG G (wQ G q u_12) H := hP
                have hD : va_D A (wQ G q u_12) := hD
                refine lv_iadd hx hb dL_spread_160 ?_
                exact co_endI u_12 S hr hlocks dL_spread_161 hK hP hD hS (by refine ⟨?_, ?_⟩; (subst eσ_12; subst hr_12; subst eσ_10; subst hr_10; simp only [chC, ccA, chA, E1, E2, nI_nem tf1, nI_nem tf2, Int32.zero_add, Int32.add_zero, eq_self, ↓reduceIte]); (rw [show chS σ (nI n) (nI (κ c₀)) = σ_12 from by subst eσ_12; subst hr_12; subst eσ_10; subst hr_10; simp only [chS, chA, E1, E2, nI_nem tf1, nI_nem tf2, eq_self, ↓reduceIte]]; exact hq_12))
              · exact absurd (nI_pos' (by omega)) c_11
            · exact absurd (nI_pos' (by omega)) c_9
          · exact absurd (nI_le (a := 3) (b := k) (by omega) (by omega)) c_8
    | succ d ih =>
      intro k x1 x2 hk hx1 hx2 H locs hP hD hS ls hl
      refine lv_iload hx hb dL_spread_22 (lv_at hl 9 rfl) ?_
      refine lv_iconst (v := 3) hx hb dL_spread_24 (by decide) ?_
      refine lv_icmp_ge (tgt := 120) hx hb dL_spread_25 (by decide) (fun c_13 => ?_) (fun c_13 => ?_)
      · exact absurd c_13 (nI_ge (a := k) (b := 3) (by omega) (by omega))
      · refine lv_aload hx hb dL_spread_28 (lv_at hl 4 rfl) ?_
        refine lv_iconst (v := 4) hx hb dL_spread_30 (by decide) ?_
        refine lv_aload_n hx hb dL_spread_31 rfl (lv_at hl 2 rfl) ?_
        refine lv_iload_n hx hb dL_spread_32 rfl (lv_at hl 0 rfl) ?_
        refine va_iald hx hb hK hP 0 0 rfl rfl (vp_in_nI (n := n) (N := 64) (by omega) (by decide)) dL_spread_33 ?_
        refine co_eq (rq_d hR hn0 d90) ?_
        refine lv_imul hx hb dL_spread_34 ?_
        refine co_eq (show (4 : Int32) * (nI (δ n)) = (nI (4 * (δ n))) from pk_mul 4 (δ n)) ?_
        refine lv_iload hx hb dL_spread_35 (lv_at hl 9 rfl) ?_
        refine lv_iadd hx hb dL_spread_37 ?_
        refine co_eq (show (nI (4 * (δ n))) + (nI k) = (nI ((4 * (δ n)) + k)) from nI_add (4 * (δ n)) k) ?_
        refine va_iald hx hb hK hP 2 0 rfl rfl (vp_in_nI (n := ((4 * (δ n)) + k)) (N := 40) (by omega) (by decide)) dL_spread_38 ?_
        obtain ⟨j_14, hj_14, ej_14, mj_14⟩ := rq_s hR hn rfl k (by omega) (i := (4 * (δ n)) + k) (by omega)
        have ej_14 : tat 3 (σ 1) (nI n) (nI k) = nI j_14 := ej_14
        refine co_eq mj_14 ?_
        refine lv_istore (lv' := [(10, .int (nI j_14)), (0, .int (nI n)), (1, .int (nI c₀)), (2, .ref (q 0)), (3, .ref (q 1)), (4, .ref (q 2)), (5, .ref (q 4)), (6, .int (tat 64 (σ 5) (nI n) (nI (κ c₀)))), (7, .int x1), (8, .int x2), (9, .int (nI k))]) hx hb dL_spread_39 hl (by decide) rfl (fun ls hl => ?_)
        refine lv_iload hx hb dL_spread_41 (lv_at hl 0 rfl) ?_
        refine lv_aload_n hx hb dL_spread_43 rfl (lv_at hl 3 rfl) ?_
        refine lv_aload_n hx hb dL_spread_44 rfl (lv_at hl 4 rfl) ?_
        refine co_rS (As := [.int (nI j_14), .ref (q 0), .ref (q 1)]) (rest := []) S (c_L_lives l G Z q ν δ κ σ τ hR j_14 hj_14) (va_cwS 3 hts gL_spread_L_lives rfl rfl rfl (by decide +kernel) ⟨Nat.le_of_ble_eq_true rfl, Nat.le_of_ble_eq_true rfl⟩) hK hP rfl hl.1 rfl (Nat.le_of_ble_eq_true rfl) dL_spread_45 ⟨Nat.zero_le _, Nat.zero_le _⟩ ?_
        refine co_ifeq (tgt := 61) S dL_spread_48 (by decide) (fun c_15 => ?_) (fun c_15 => ?_)
        · refine lv_iconst (v := 0) hx hb dL_spread_61 (by decide) ?_
          refine lv_istore (lv' := [(11, .int 0), (10, .int (nI j_14)), (0, .int (nI n)), (1, .int (nI c₀)), (2, .ref (q 0)), (3, .ref (q 1)), (4, .ref (q 2)), (5, .ref (q 4)), (6, .int (tat 64 (σ 5) (nI n) (nI (κ c₀)))), (7, .int x1), (8, .int x2), (9, .int (nI k))]) hx hb dL_spread_62 hl (by decide) rfl (fun ls hl => ?_)
          refine lv_iload hx hb dL_spread_64 (lv_at hl 0 rfl) ?_
          refine lv_if_eq (tgt := 91) hx hb dL_spread_66 (by decide) (fun c_16 => ?_) (fun c_16 => ?_)
          · refine lv_iload hx hb dL_spread_91 (lv_at hl 10 rfl) ?_
            refine lv_istore (lv' := [(8, .int x2), (11, .int 0), (10, .int (nI j_14)), (0, .int (nI n)), (1, .int (nI c₀)), (2, .ref (q 0)), (3, .ref (q 1)), (4, .ref (q 2)), (5, .ref (q 4)), (6, .int (tat 64 (σ 5) (nI n) (nI (κ c₀)))), (7, .int x1), (9, .int (nI k))]) hx hb dL_spread_93 hl (by decide) rfl (fun ls hl => ?_)
            refine lv_iload hx hb dL_spread_95 (lv_at hl 1 rfl) ?_
            refine lv_if_eq (tgt := 110) hx hb dL_spread_97 (by decide) (fun c_17 => ?_) (fun c_17 => ?_)
            · refine lv_iload hx hb dL_spread_110 (lv_at hl 10 rfl) ?_
              refine lv_istore (lv' := [(7, .int x1), (8, .int x2), (11, .int 0), (10, .int (nI j_14)), (0, .int (nI n)), (1, .int (nI c₀)), (2, .ref (q 0)), (3, .ref (q 1)), (4, .ref (q 2)), (5, .ref (q 4)), (6, .int (tat 64 (σ 5) (nI n) (nI (κ c₀)))), (9, .int (nI k))]) hx hb dL_spread_112 hl (by decide) rfl (fun ls hl => ?_)
              refine lv_iinc (v := (nI (k + 1))) (lv' := [(9, .int (nI (k + 1))), (7, .int x1), (8, .int x2), (11, .int 0), (10, .int (nI j_14)), (0, .int (nI n)), (1, .int (nI c₀)), (2, .ref (q 0)), (3, .ref (q 1)), (4, .ref (q 2)), (5, .ref (q 4)), (6, .int (tat 64 (σ 5) (nI n) (nI (κ c₀))))]) hx hb dL_spread_114 hl (k := 11) rfl (nI_1 k) (by decide) rfl (fun ls hl => ?_)
              refine lv_goto (tgt := 22) hx hb dL_spread_117 (by decide) ?_
              exact ih (k + 1) _ _ (by omega) (by simp only [h1S, ← hx1, ej_14, c_13, c_15, (eq_true c_16), (eq_true c_17), eq_self, Bool.false_eq_true, ↓reduceIte]) (by simp only [h2S, ← hx1, ← hx2, ej_14, c_13, c_15, (eq_true c_16), (eq_true c_17), eq_self, Bool.false_eq_true, ↓reduceIte]) _ _ hP hD hS ls (lv_sub hl [5, 6, 7, 8, 9, 10, 11, 1, 2, 0] rfl)
            · exact absurd (by decide) c_17
          · exact absurd (by decide) c_16
        · refine lv_iload hx hb dL_spread_51 (lv_at hl 0 rfl) ?_
          refine lv_iload_n hx hb dL_spread_53 rfl (lv_at hl 1 rfl) ?_
          refine lv_icmp_eq (tgt := 61) hx hb dL_spread_54 (by decide) (fun c_18 => ?_) (fun c_18 => ?_)
          · refine lv_iconst (v := 0) hx hb dL_spread_61 (by decide) ?_
            refine lv_istore (lv' := [(11, .int 0), (10, .int (nI j_14)), (0, .int (nI n)), (1, .int (nI c₀)), (2, .ref (q 0)), (3, .ref (q 1)), (4, .ref (q 2)), (5, .ref (q 4)), (6, .int (tat 64 (σ 5) (nI n) (nI (κ c₀)))), (7, .int x1), (8, .int x2), (9, .int (nI k))]) hx hb dL_spread_62 hl (by decide) rfl (fun ls hl => ?_)
            refine lv_iload hx hb dL_spread_64 (lv_at hl 0 rfl) ?_
            refine lv_if_eq (tgt := 91) hx hb dL_spread_66 (by decide) (fun c_19 => ?_) (fun c_19 => ?_)
            · refine lv_iload hx hb dL_spread_91 (lv_at hl 10 rfl) ?_
              refine lv_istore (lv' := [(8, .int x2), (11, .int 0), (10, .int (nI j_14)), (0, .int (nI n)), (1, .int (nI c₀)), (2, .ref (q 0)), (3, .ref (q 1)), (4, .ref (q 2)), (5, .ref (q 4)), (6, .int (tat 64 (σ 5) (nI n) (nI (κ c₀)))), (7, .int x1), (9, .int (nI k))]) hx hb dL_spread_93 hl (by decide) rfl (fun ls hl => ?_)
              refine lv_iload hx hb dL_spread_95 (lv_at hl 1 rfl) ?_
              refine lv_if_eq (tgt := 110) hx hb dL_spread_97 (by decide) (fun c_20 => ?_) (fun c_20 => ?_)
              · refine lv_iload hx hb dL_spread_110 (lv_at hl 10 rfl) ?_
                refine lv_istore (lv' := [(7, .int x1), (8, .int x2), (11, .int 0), (10, .int (nI j_14)), (0, .int (nI n)), (1, .int (nI c₀)), (2, .ref (q 0)), (3, .ref (q 1)), (4, .ref (q 2)), (5, .ref (q 4)), (6, .int (tat 64 (σ 5) (nI n) (nI (κ c₀)))), (9, .int (nI k))]) hx hb dL_spread_112 hl (by decide) rfl (fun ls hl => ?_)
                refine lv_iinc (v := (nI (k + 1))) (lv' := [(9, .int (nI (k + 1))), (7, .int x1), (8, .int x2), (11, .int 0), (10, .int (nI j_14)), (0, .int (nI n)), (1, .int (nI c₀)), (2, .ref (q 0)), (3, .ref (q 1)), (4, .ref (q 2)), (5, .ref (q 4)), (6, .int (tat 64 (σ 5) (nI n) (nI (κ c₀))))]) hx hb dL_spread_114 hl (k := 11) rfl (nI_1 k) (by decide) rfl (fun ls hl => ?_)
                refine lv_goto (tgt := 22) hx hb dL_spread_117 (by decide) ?_
                exact ih (k + 1) _ _ (by omega) (by simp only [h1S, ← hx1, ej_14, c_13, c_15, (eq_true c_18), (eq_true c_19), (eq_true c_20), eq_self, Bool.false_eq_true, ↓reduceIte]) (by simp only [h2S, ← hx1, ← hx2, ej_14, c_13, c_15, (eq_true c_18), (eq_true c_19), (eq_true c_20), eq_self, Bool.false_eq_true, ↓reduceIte]) _ _ hP hD hS ls (lv_sub hl [5, 6, 7, 8, 9, 10, 11, 1, 2, 0] rfl)
              · exact absurd (by decide) c_20
            · exact absurd (by decide) c_19
          · refine lv_iconst (v := 1) hx hb dL_spread_57 (by decide) ?_
            refine lv_goto (tgt := 62) hx hb dL_spread_58 (by decide) ?_
            refine lv_istore (lv' := [(11, .int 1), (10, .int (nI j_14)), (0, .int (nI n)), (1, .int (nI c₀)), (2, .ref (q 0)), (3, .ref (q 1)), (4, .ref (q 2)), (5, .ref (q 4)), (6, .int (tat 64 (σ 5) (nI n) (nI (κ c₀)))), (7, .int x1), (8, .int x2), (9, .int (nI k))]) hx hb dL_spread_62 hl (by decide) rfl (fun ls hl => ?_)
            refine lv_iload hx hb dL_spread_64 (lv_at hl 0 rfl) ?_
            refine lv_if_eq (tgt := 91) hx hb dL_spread_66 (by decide) (fun c_21 => ?_) (fun c_21 => ?_)
            · exact absurd c_21 (by decide)
            · refine lv_iload hx hb dL_spread_69 (lv_at hl 9 rfl) ?_
              refine lv_if_lt (tgt := 91) hx hb dL_spread_71 (by decide) (fun c_22 => ?_) (fun c_22 => ?_)
              · refine lv_iload hx hb dL_spread_91 (lv_at hl 10 rfl) ?_
                refine lv_istore (lv' := [(8, .int x2), (11, .int 1), (10, .int (nI j_14)), (0, .int (nI n)), (1, .int (nI c₀)), (2, .ref (q 0)), (3, .ref (q 1)), (4, .ref (q 2)), (5, .ref (q 4)), (6, .int (tat 64 (σ 5) (nI n) (nI (κ c₀)))), (7, .int x1), (9, .int (nI k))]) hx hb dL_spread_93 hl (by decide) rfl (fun ls hl => ?_)
                refine lv_iload hx hb dL_spread_95 (lv_at hl 1 rfl) ?_
                refine lv_if_eq (tgt := 110) hx hb dL_spread_97 (by decide) (fun c_23 => ?_) (fun c_23 => ?_)
                · exact absurd c_23 (by decide)
                · refine lv_iload hx hb dL_spread_100 (lv_at hl 10 rfl) ?_
                  refine lv_if_ge (tgt := 110) hx hb dL_spread_102 (by decide) (fun c_24 => ?_) (fun c_24 => ?_)
                  · exact absurd c_22 (Int32.not_lt.mpr c_24)
                  · refine lv_iload hx hb dL_spread_105 (lv_at hl 2 rfl) ?_
                    refine lv_goto (tgt := 112) hx hb dL_spread_107 (by decide) ?_
                    refine lv_istore (lv' := [(7, .int (nI j_14)), (8, .int x2), (11, .int 1), (10, .int (nI j_14)), (0, .int (nI n)), (1, .int (nI c₀)), (2, .ref (q 0)), (3, .ref (q 1)), (4, .ref (q 2)), (5, .ref (q 4)), (6, .int (tat 64 (σ 5) (nI n) (nI (κ c₀)))), (9, .int (nI k))]) hx hb dL_spread_112 hl (by decide) rfl (fun ls hl => ?_)
                    refine lv_iinc (v := (nI (k + 1))) (lv' := [(9, .int (nI (k + 1))), (7, .int (nI j_14)), (8, .int x2), (11, .int 1), (10, .int (nI j_14)), (0, .int (nI n)), (1, .int (nI c₀)), (2, .ref (q 0)), (3, .ref (q 1)), (4, .ref (q 2)), (5, .ref (q 4)), (6, .int (tat 64 (σ 5) (nI n) (nI (κ c₀))))]) hx hb dL_spread_114 hl (k := 11) rfl (nI_1 k) (by decide) rfl (fun ls hl => ?_)
                    refine lv_goto (tgt := 22) hx hb dL_spread_117 (by decide) ?_
                    exact ih (k + 1) _ _ (by omega) (by simp only [h1S, ← hx1, ej_14, c_13, c_15, c_18, c_21, c_22, c_23, (Int32.not_le.mp c_24), eq_self, Bool.false_eq_true, ↓reduceIte]) (by simp only [h2S, ← hx1, ← hx2, ej_14, c_13, c_15, c_18, c_21, c_22, c_23, (Int32.not_le.mp c_24), eq_self, Bool.false_eq_true, ↓reduceIte]) _ _ hP hD hS ls (lv_sub hl [5, 6, 7, 8, 9, 10, 11, 1, 2, 0] rfl)
              · refine lv_iload hx hb dL_spread_74 (lv_at hl 10 rfl) ?_
                refine lv_if_ge (tgt := 91) hx hb dL_spread_76 (by decide) (fun c_25 => ?_) (fun c_25 => ?_)
                · refine lv_iload hx hb dL_spread_91 (lv_at hl 10 rfl) ?_
                  refine lv_istore (lv' := [(8, .int x2), (11, .int 1), (10, .int (nI j_14)), (0, .int (nI n)), (1, .int (nI c₀)), (2, .ref (q 0)), (3, .ref (q 1)), (4, .ref (q 2)), (5, .ref (q 4)), (6, .int (tat 64 (σ 5) (nI n) (nI (κ c₀)))), (7, .int x1), (9, .int (nI k))]) hx hb dL_spread_93 hl (by decide) rfl (fun ls hl => ?_)
                  refine lv_iload hx hb dL_spread_95 (lv_at hl 1 rfl) ?_
                  refine lv_if_eq (tgt := 110) hx hb dL_spread_97 (by decide) (fun c_26 => ?_) (fun c_26 => ?_)
                  · exact absurd c_26 (by decide)
                  · refine lv_iload hx hb dL_spread_100 (lv_at hl 10 rfl) ?_
                    refine lv_if_ge (tgt := 110) hx hb dL_spread_102 (by decide) (fun c_27 => ?_) (fun c_27 => ?_)
                    · refine lv_iload hx hb dL_spread_110 (lv_at hl 10 rfl) ?_
                      refine lv_istore (lv' := [(7, .int x1), (8, .int x2), (11, .int 1), (10, .int (nI j_14)), (0, .int (nI n)), (1, .int (nI c₀)), (2, .ref (q 0)), (3, .ref (q 1)), (4, .ref (q 2)), (5, .ref (q 4)), (6, .int (tat 64 (σ 5) (nI n) (nI (κ c₀)))), (9, .int (nI k))]) hx hb dL_spread_112 hl (by decide) rfl (fun ls hl => ?_)
                      refine lv_iinc (v := (nI (k + 1))) (lv' := [(9, .int (nI (k + 1))), (7, .int x1), (8, .int x2), (11, .int 1), (10, .int (nI j_14)), (0, .int (nI n)), (1, .int (nI c₀)), (2, .ref (q 0)), (3, .ref (q 1)), (4, .ref (q 2)), (5, .ref (q 4)), (6, .int (tat 64 (σ 5) (nI n) (nI (κ c₀))))]) hx hb dL_spread_114 hl (k := 11) rfl (nI_1 k) (by decide) rfl (fun ls hl => ?_)
                      refine lv_goto (tgt := 22) hx hb dL_spread_117 (by decide) ?_
                      exact ih (k + 1) _ _ (by omega) (by simp only [h1S, ← hx1, ej_14, c_13, c_15, c_18, c_21, c_22, (Int32.not_lt.mpr c_25), c_26, (Int32.not_lt.mpr c_27), eq_self, Bool.false_eq_true, ↓reduceIte]) (by simp only [h2S, ← hx1, ← hx2, ej_14, c_13, c_15, c_18, c_21, c_22, (Int32.not_lt.mpr c_25), c_26, (Int32.not_lt.mpr c_27), eq_self, Bool.false_eq_true, ↓reduceIte]) _ _ hP hD hS ls (lv_sub hl [5, 6, 7, 8, 9, 10, 11, 1, 2, 0] rfl)
                    · exact absurd (Int32.not_lt.mp c_22) c_27
                · refine lv_iload hx hb dL_spread_79 (lv_at hl 1 rfl) ?_
                  refine lv_iload hx hb dL_spread_81 (lv_at hl 9 rfl) ?_
                  refine lv_icmp_eq (tgt := 91) hx hb dL_spread_83 (by decide) (fun c_28 => ?_) (fun c_28 => ?_)
                  · refine lv_iload hx hb dL_spread_91 (lv_at hl 10 rfl) ?_
                    refine lv_istore (lv' := [(8, .int x2), (11, .int 1), (10, .int (nI j_14)), (0, .int (nI n)), (1, .int (nI c₀)), (2, .ref (q 0)), (3, .ref (q 1)), (4, .ref (q 2)), (5, .ref (q 4)), (6, .int (tat 64 (σ 5) (nI n) (nI (κ c₀)))), (7, .int x1), (9, .int (nI k))]) hx hb dL_spread_93 hl (by decide) rfl (fun ls hl => ?_)
                    refine lv_iload hx hb dL_spread_95 (lv_at hl 1 rfl) ?_
                    refine lv_if_eq (tgt := 110) hx hb dL_spread_97 (by decide) (fun c_29 => ?_) (fun c_29 => ?_)
                    · exact absurd c_29 (by decide)
                    · refine lv_iload hx hb dL_spread_100 (lv_at hl 10 rfl) ?_
                      refine lv_if_ge (tgt := 110) hx hb dL_spread_102 (by decide) (fun c_30 => ?_) (fun c_30 => ?_)
                      · refine lv_iload hx hb dL_spread_110 (lv_at hl 10 rfl) ?_
                        refine lv_istore (lv' := [(7, .int x1), (8, .int x2), (11, .int 1), (10, .int (nI j_14)), (0, .int (nI n)), (1, .int (nI c₀)), (2, .ref (q 0)), (3, .ref (q 1)), (4, .ref (q 2)), (5, .ref (q 4)), (6, .int (tat 64 (σ 5) (nI n) (nI (κ c₀)))), (9, .int (nI k))]) hx hb dL_spread_112 hl (by decide) rfl (fun ls hl => ?_)
                        refine lv_iinc (v := (nI (k + 1))) (lv' := [(9, .int (nI (k + 1))), (7, .int x1), (8, .int x2), (11, .int 1), (10, .int (nI j_14)), (0, .int (nI n)), (1, .int (nI c₀)), (2, .ref (q 0)), (3, .ref (q 1)), (4, .ref (q 2)), (5, .ref (q 4)), (6, .int (tat 64 (σ 5) (nI n) (nI (κ c₀))))]) hx hb dL_spread_114 hl (k := 11) rfl (nI_1 k) (by decide) rfl (fun ls hl => ?_)
                        refine lv_goto (tgt := 22) hx hb dL_spread_117 (by decide) ?_
                        exact ih (k + 1) _ _ (by omega) (by simp only [h1S, ← hx1, ej_14, c_13, c_15, c_18, c_21, c_22, (Int32.not_le.mp c_25), (eq_true c_28), c_29, (Int32.not_lt.mpr c_30), eq_self, Bool.false_eq_true, ↓reduceIte]) (by simp only [h2S, ← hx1, ← hx2, ej_14, c_13, c_15, c_18, c_21, c_22, (Int32.not_le.mp c_25), (eq_true c_28), c_29, (Int32.not_lt.mpr c_30), eq_self, Bool.false_eq_true, ↓reduceIte]) _ _ hP hD hS ls (lv_sub hl [5, 6, 7, 8, 9, 10, 11, 1, 2, 0] rfl)
                      · exact absurd (Int32.not_lt.mp c_22) c_30
                  · refine lv_iload hx hb dL_spread_86 (lv_at hl 1 rfl) ?_
                    refine lv_goto (tgt := 93) hx hb dL_spread_88 (by decide) ?_
                    refine lv_istore (lv' := [(8, .int (nI j_14)), (11, .int 1), (10, .int (nI j_14)), (0, .int (nI n)), (1, .int (nI c₀)), (2, .ref (q 0)), (3, .ref (q 1)), (4, .ref (q 2)), (5, .ref (q 4)), (6, .int (tat 64 (σ 5) (nI n) (nI (κ c₀)))), (7, .int x1), (9, .int (nI k))]) hx hb dL_spread_93 hl (by decide) rfl (fun ls hl => ?_)
                    refine lv_iload hx hb dL_spread_95 (lv_at hl 1 rfl) ?_
                    refine lv_if_eq (tgt := 110) hx hb dL_spread_97 (by decide) (fun c_31 => ?_) (fun c_31 => ?_)
                    · exact absurd c_31 (by decide)
                    · refine lv_iload hx hb dL_spread_100 (lv_at hl 10 rfl) ?_
                      refine lv_if_ge (tgt := 110) hx hb dL_spread_102 (by decide) (fun c_32 => ?_) (fun c_32 => ?_)
                      · refine lv_iload hx hb dL_spread_110 (lv_at hl 10 rfl) ?_
                        refine lv_istore (lv' := [(7, .int x1), (8, .int (nI j_14)), (11, .int 1), (10, .int (nI j_14)), (0, .int (nI n)), (1, .int (nI c₀)), (2, .ref (q 0)), (3, .ref (q 1)), (4, .ref (q 2)), (5, .ref (q 4)), (6, .int (tat 64 (σ 5) (nI n) (nI (κ c₀)))), (9, .int (nI k))]) hx hb dL_spread_112 hl (by decide) rfl (fun ls hl => ?_)
                        refine lv_iinc (v := (nI (k + 1))) (lv' := [(9, .int (nI (k + 1))), (7, .int x1), (8, .int (nI j_14)), (11, .int 1), (10, .int (nI j_14)), (0, .int (nI n)), (1, .int (nI c₀)), (2, .ref (q 0)), (3, .ref (q 1)), (4, .ref (q 2)), (5, .ref (q 4)), (6, .int (tat 64 (σ 5) (nI n) (nI (κ c₀))))]) hx hb dL_spread_114 hl (k := 11) rfl (nI_1 k) (by decide) rfl (fun ls hl => ?_)
                        refine lv_goto (tgt := 22) hx hb dL_spread_117 (by decide) ?_
                        exact ih (k + 1) _ _ (by omega) (by simp only [h1S, ← hx1, ej_14, c_13, c_15, c_18, c_21, c_22, (Int32.not_le.mp c_25), c_28, c_31, (Int32.not_lt.mpr c_32), eq_self, Bool.false_eq_true, ↓reduceIte]) (by simp only [h2S, ← hx1, ← hx2, ej_14, c_13, c_15, c_18, c_21, c_22, (Int32.not_le.mp c_25), c_28, c_31, (Int32.not_lt.mpr c_32), eq_self, Bool.false_eq_true, ↓reduceIte]) _ _ hP hD hS ls (lv_sub hl [5, 6, 7, 8, 9, 10, 11, 1, 2, 0] rfl)
                      · exact absurd (Int32.not_lt.mp c_22) c_32
  exact LP 3 0 (-1) (-1) rfl rfl rfl _ _ hP hD hS ls (lv_sub hl [4, 5, 6, 7, 8, 9, 3, 2, 1, 0] rfl)
