/-! the law's writers: leave, the steps of stabilization; what is wrong -/
theorem hoL_n {σ : cS} {n x : Int32} {i : Nat} (h4 : i ≠ 4) (h5 : i ≠ 5) (k : Nat) (hk : k ≤ 64) : hoL σ n x k i = σ i := by
  rw [hoL_q]
  exact seq_n (ho_Loc n x) h4 h5 k (fun j hj => by show j < 64; omega)
theorem ho_s {σ σ' σ9 : cS} {n x : Int32} {κ : nF} {k : Nat} (h9 : σ' = seqA (hoA n x) κ σ k) (e : σ9 = gcS σ' n x (nI (κ k))) : σ9 = seqA (hoA n x) κ σ (k + 1) := by
  rw [seqA, ← h9]; exact e
theorem tat_ts1 {f : Nat → Int32} {n : Nat} {v : Int32} (hn : n < 64) : tat 1 (tset 1 f (nI n) 0 v) (nI n) 0 = v := by
  rw [show tset 1 f (nI n) 0 v = upd f (n * 1 + 0) v from tset_nI (w := 1) (c := 0) (by decide) hn (by decide)]
  rw [show tat 1 (upd f (n * 1 + 0) v) (nI n) 0 = upd f (n * 1 + 0) v (n * 1 + 0) from tat_nI (w := 1) (c := 0) (by decide) hn (by decide), pk_us]
theorem ms_r {σ : cS} {n s : Nat} (hn : n < 64) (hm : mdN σ (nI n) = nI s) : tat 3 (msS σ (nI n) 1) (nI n) 0 = nI s := by
  have nt : ∀ (τ : cS) (m x : Int32), ntS τ m x 1 = τ 1 := by
    intro τ m x
    rw [ntS]
    split
    · split
      · rw [vu_ne (by decide)]
      · rfl
    · rw [vu_ne (by decide)]
  rw [msS, hm, nt, foS, ssS_1]
  rw [show ∀ x, tset 3 (σ 1) (nI n) 0 x = upd (σ 1) (n * 3 + 0) x from fun x => tset_nI (w := 3) (c := 0) (by decide) hn (by decide)]
  rw [show ∀ (f : Nat → Int32) x, tset 3 f (nI n) 1 x = upd f (n * 3 + 1) x from fun f x => tset_nI (w := 3) (c := 1) (by decide) hn (by decide)]
  rw [show ∀ (f : Nat → Int32) x, tset 3 f (nI n) 2 x = upd f (n * 3 + 2) x from fun f x => tset_nI (w := 3) (c := 2) (by decide) hn (by decide)]
  rw [show ∀ f : Nat → Int32, tat 3 f (nI n) 0 = f (n * 3 + 0) from fun f => tat_nI (w := 3) (c := 0) (by decide) hn (by decide)]
  rw [pk_un (by omega), pk_un (by omega), pk_us]
theorem chB_t {σ : cS} {n p : Nat} (ha : alv (σ 0) (nI p) = true) (hp : p < 64) (e : tat 1 (σ 2) (nI n) 0 = nI p) : ddS σ (nI n) = σ ∧ chB σ (nI n) = true := by
  have q : ddS σ (nI n) = σ := by rw [ddS, e, if_pos ha]
  exact ⟨q, by rw [chB, q, e, if_neg (nI_nem hp)]⟩
theorem chB_f {σ : cS} {n : Nat} (hn : n < 64) (ha : alv (σ 0) (tat 1 (σ 2) (nI n) 0) = false) : ddS σ (nI n) = va_up σ 2 (tset 1 (σ 2) (nI n) 0 (-1)) ∧ chB σ (nI n) = false := by
  have q : ddS σ (nI n) = va_up σ 2 (tset 1 (σ 2) (nI n) 0 (-1)) := by rw [ddS, if_neg (by rw [ha]; decide)]
  exact ⟨q, by rw [chB, q, vu_eq, tat_ts1 hn, if_pos rfl]⟩

abbrev rm_L_leaves : Room := { frames := 2, cells := 0, slots := 0, locals := 46 }
set_option maxHeartbeats 4000000 in
set_option maxRecDepth 100000 in
theorem c_L_leaves (l : Launch) (G : cG) (Z : Nat) (q ν δ κ : Nat → Nat) (σ τ : cS) (hR : Rq Z ν δ κ σ τ)(n : Nat) (hn : Lv σ n) : MetI l yL_leaves wsL_leaves rm_L_leaves G (wQ G q τ) [.int (nI n), .ref (q 0), .ref (q 1), .ref (q 2), .ref (q 4)] (fun u : cS => wQ G q u) (fun r u => r = (cnt (lvS σ (nI n) 0) 64) ∧ Rq Z ν δ κ (lvS σ (nI n)) u) := by
  refine co_bodyI (cc := cL_leaves) (maxL := 9) (ret := (some .int)) (by decide) rfl (Nat.le_of_ble_eq_true rfl) ?_
  intro p e s m args below meth c S hr hlocks hK A hA hP hD hS ls hl
  have S : CallFix p m c cL_leaves 9 s args wsL_leaves RL := S
  obtain ⟨hx, hb, hml, hown, hts⟩ := id S
  have hl : lv_has ls 9 [(0, .int (nI n)), (1, .ref (q 0)), (2, .ref (q 1)), (3, .ref (q 2)), (4, .ref (q 4))] := hl
  have hn0 : n < 64 := hn.1
  have d90 : δ n < 10 := Rq.d9 hR hn
  refine lv_iload_n hx hb dL_leaves_0 rfl (lv_at hl 0 rfl) ?_
  refine lv_aload_n hx hb dL_leaves_1 rfl (lv_at hl 1 rfl) ?_
  refine lv_aload_n hx hb dL_leaves_2 rfl (lv_at hl 2 rfl) ?_
  refine lv_aload_n hx hb dL_leaves_3 rfl (lv_at hl 3 rfl) ?_
  obtain ⟨j_1, ej_1, lj_1⟩ := Rq.ls hR hn
  have tj_1 : j_1 < 64 := lj_1.1
  refine co_rS (As := [.int (nI n), .ref (q 0), .ref (q 1), .ref (q 2)]) (rest := []) S (c_L_next l G Z q ν δ κ σ τ hR n hn) (va_cwS 4 hts gL_leaves_L_next rfl rfl rfl (by decide +kernel) ⟨Nat.le_of_ble_eq_true rfl, Nat.le_of_ble_eq_true rfl⟩) hK hP rfl hl.1 rfl (Nat.le_of_ble_eq_true rfl) dL_leaves_4 ⟨Nat.zero_le _, Nat.zero_le _⟩ ?_
  refine co_eq ej_1 ?_
  refine lv_istore (lv' := [(5, .int (nI j_1)), (0, .int (nI n)), (1, .ref (q 0)), (2, .ref (q 1)), (3, .ref (q 2)), (4, .ref (q 4))]) hx hb dL_leaves_7 hl (by decide) rfl (fun ls hl => ?_)
  refine lv_aload_n hx hb dL_leaves_9 rfl (lv_at hl 4 rfl) ?_
  refine lv_iconst (v := 4) hx hb dL_leaves_10 (by decide) ?_
  refine lv_aload_n hx hb dL_leaves_11 rfl (lv_at hl 2 rfl) ?_
  refine lv_iload_n hx hb dL_leaves_12 rfl (lv_at hl 1 rfl) ?_
  refine va_iald hx hb hK hP 0 0 rfl rfl (vp_in_nI (n := n) (N := 64) (by omega) (by decide)) dL_leaves_13 ?_
  refine co_eq (rq_d hR hn0 d90) ?_
  refine lv_imul hx hb dL_leaves_14 ?_
  refine co_eq (show (4 : Int32) * (nI (δ n)) = (nI (4 * (δ n))) from pk_mul 4 (δ n)) ?_
  refine lv_iconst (v := 3) hx hb dL_leaves_15 (by decide) ?_
  refine lv_iadd hx hb dL_leaves_16 ?_
  refine co_eq (show (nI (4 * (δ n))) + (3 : Int32) = (nI ((4 * (δ n)) + 3)) from nI_add (4 * (δ n)) 3) ?_
  refine va_iald hx hb hK hP 2 0 rfl rfl (vp_in_nI (n := ((4 * (δ n)) + 3)) (N := 40) (by omega) (by decide)) dL_leaves_17 ?_
  rcases rq_p hR hn rfl (i := (4 * (δ n)) + 3) (by omega) with ⟨ej_2, mj_2⟩ | ⟨j_2, hj_2, ej_2, mj_2⟩
  · have ej_2 : tat 1 (σ 2) (nI n) 0 = (-1) := ej_2
    refine co_eq mj_2 ?_
    refine lv_istore (lv' := [(6, .int (-1)), (5, .int (nI j_1)), (0, .int (nI n)), (1, .ref (q 0)), (2, .ref (q 1)), (3, .ref (q 2)), (4, .ref (q 4))]) hx hb dL_leaves_18 hl (by decide) rfl (fun ls hl => ?_)
    refine lv_iload hx hb dL_leaves_20 (lv_at hl 1 rfl) ?_
    refine lv_iload_n hx hb dL_leaves_22 rfl (lv_at hl 2 rfl) ?_
    refine lv_icmp_eq (tgt := 103) hx hb dL_leaves_23 (by decide) (fun c_3 => ?_) (fun c_3 => ?_)
    · have eA : lvA σ (nI n) = σ := (by rw [lvA, if_pos (by rw [ej_1]; exact c_3)])
      refine lv_aload_n hx hb dL_leaves_103 rfl (lv_at hl 4 rfl) ?_
      refine lv_bipush (v := 10) hx hb dL_leaves_104 (by decide) ?_
      refine lv_aload_n hx hb dL_leaves_106 rfl (lv_at hl 3 rfl) ?_
      refine lv_iload_n hx hb dL_leaves_107 rfl (lv_at hl 2 rfl) ?_
      refine va_iald hx hb hK hP 0 0 rfl rfl (vp_in_nI (n := n) (N := 64) (by omega) (by decide)) dL_leaves_108 ?_
      refine co_eq (rq_d hR hn0 d90) ?_
      refine lv_iadd hx hb dL_leaves_109 ?_
      refine co_eq (show (10 : Int32) + (nI (δ n)) = (nI (10 + (δ n))) from nI_add 10 (δ n)) ?_
      refine lv_iconst (v := 0) hx hb dL_leaves_110 (by decide) ?_
      refine va_iast hx hb hK hP hD hS 1 0 (f := (τ 1)) rfl rfl (vp_in_nI (n := (10 + (δ n))) (N := 27) (by omega) (by decide)) dL_leaves_111 (fun H locs hP hD hS => ?_)
      obtain ⟨f_4, ef_4⟩ : ∃ z9, z9 = (upd (τ 1) (nI (10 + (δ n))).toNatClampNeg 0) := ⟨_, rfl⟩
      rw [← ef_4] at hP hD
      have hP : pG G (wQ G q (va_up τ 1 f_4)) H := hP
      have hD : va_D A (wQ G q (va_up τ 1 f_4)) := hD
      obtain ⟨σd, ed⟩ : ∃ z9, z9 = saS σ (nI n) 0 := ⟨_, rfl⟩
      have hRd : Rq Z ν δ κ σd (va_up τ 1 f_4) := (by rw [ed, ef_4]; exact rq_die hR hn0 d90 rfl)
      refine lv_aload_n hx hb dL_leaves_112 rfl (lv_at hl 4 rfl) ?_
      refine co_rS (As := [.ref (q 1)]) (rest := []) S (c_L_count l G Z q ν δ κ σd (va_up τ 1 f_4) hRd) (va_cwS 1 hts gL_leaves_L_count rfl rfl rfl (by decide +kernel) ⟨Nat.le_of_ble_eq_true rfl, Nat.le_of_ble_eq_true rfl⟩) hK hP rfl hl.1 rfl (Nat.le_of_ble_eq_true rfl) dL_leaves_113 ⟨Nat.zero_le _, Nat.zero_le _⟩ ?_
      exact co_endI (va_up τ 1 f_4) S hr hlocks dL_leaves_116 hK hP hD hS (by rw [lvS, eA, ← ed]; exact ⟨rfl, hRd⟩)
    · refine lv_iconst (v := 0) hx hb dL_leaves_26 (by decide) ?_
      refine lv_istore (lv' := [(7, .int 0), (6, .int (-1)), (5, .int (nI j_1)), (0, .int (nI n)), (1, .ref (q 0)), (2, .ref (q 1)), (3, .ref (q 2)), (4, .ref (q 4))]) hx hb dL_leaves_27 hl (by decide) rfl (fun ls hl => ?_)
      have LP : ∀ (d : Nat) (k : Nat) (σ' τ' : cS), k + d = 6 → Rq Z ν δ κ σ' τ' → σ' = seqA (hoA (nI n) (nI j_1)) κ σ k → ∀ (H : Heap) (locs : List Loc), pG G (wQ G q τ') H → va_D A (wQ G q τ') → va_S A s.heap H locs → ∀ ls : Array Slot, lv_has ls 9 [(0, .int (nI n)), (1, .ref (q 0)), (2, .ref (q 1)), (3, .ref (q 2)), (4, .ref (q 4)), (5, .int (nI j_1)), (6, .int (-1)), (7, .int (nI k))] → W p l e rm_L_leaves s m args below meth c H locs 0 0 (QI below G A (fun u : cS => wQ G q u) (fun r u => r = (cnt (lvS σ (nI n) 0) 64) ∧ Rq Z ν δ κ (lvS σ (nI n)) u) args s) (F0 m 29 ls []) := by
        intro d
        induction d with
        | zero =>
          intro k σ' τ' hk hR9 h9 H locs hP hD hS ls hl
          have hk6 : k = 6 := (by omega)
          rw [h9, hk6] at hR9
          have hR8 := rq_ho hR hn lj_1 hR9
          obtain ⟨σ8, e8⟩ : ∃ z9, z9 = hoL σ (nI n) (nI j_1) 64 := ⟨_, rfl⟩
          have hR8 : Rq Z ν δ κ σ8 τ' := (by rw [e8]; exact hR8)
          have k0 : σ8 0 = σ 0 := (by rw [e8]; exact hoL_n (by decide) (by decide) 64 (Nat.le_refl 64))
          have k1 : σ8 1 = σ 1 := (by rw [e8]; exact hoL_n (by decide) (by decide) 64 (Nat.le_refl 64))
          have k2 : σ8 2 = σ 2 := (by rw [e8]; exact hoL_n (by decide) (by decide) 64 (Nat.le_refl 64))
          refine lv_iload hx hb dL_leaves_29 (lv_at hl 7 rfl) ?_
          refine lv_bipush (v := 6) hx hb dL_leaves_31 (by decide) ?_
          refine lv_icmp_ge (tgt := 66) hx hb dL_leaves_33 (by decide) (fun c_5 => ?_) (fun c_5 => ?_)
          · refine lv_aload_n hx hb dL_leaves_66 rfl (lv_at hl 3 rfl) ?_
            refine lv_iconst (v := 4) hx hb dL_leaves_67 (by decide) ?_
            refine lv_aload_n hx hb dL_leaves_68 rfl (lv_at hl 1 rfl) ?_
            refine lv_iload hx hb dL_leaves_69 (lv_at hl 5 rfl) ?_
            refine va_iald hx hb hK hP 0 0 rfl rfl (vp_in_nI (n := j_1) (N := 64) (by omega) (by decide)) dL_leaves_71 ?_
            have d9n_6 : δ j_1 < 10 := Rq.d9 hR8 (Lv.tr k0 lj_1)
            refine co_eq (rq_d hR8 tj_1 d9n_6) ?_
            refine lv_imul hx hb dL_leaves_72 ?_
            refine co_eq (show (4 : Int32) * (nI (δ j_1)) = (nI (4 * (δ j_1))) from pk_mul 4 (δ j_1)) ?_
            refine lv_iconst (v := 3) hx hb dL_leaves_73 (by decide) ?_
            refine lv_iadd hx hb dL_leaves_74 ?_
            refine co_eq (show (nI (4 * (δ j_1))) + (3 : Int32) = (nI ((4 * (δ j_1)) + 3)) from nI_add (4 * (δ j_1)) 3) ?_
            refine lv_iload hx hb dL_leaves_75 (lv_at hl 6 rfl) ?_
            refine va_iast hx hb hK hP hD hS 2 0 (f := (τ' 2)) rfl rfl (vp_in_nI (n := ((4 * (δ j_1)) + 3)) (N := 40) (by omega) (by decide)) dL_leaves_77 (fun H locs hP hD hS => ?_)
            obtain ⟨f_7, ef_7⟩ : ∃ z9, z9 = (upd (τ' 2) (nI ((4 * (δ j_1)) + 3)).toNatClampNeg (-1)) := ⟨_, rfl⟩
            rw [← ef_7] at hP hD
            have hP : pG G (wQ G q (va_up τ' 2 f_7)) H := hP
            have hD : va_D A (wQ G q (va_up τ' 2 f_7)) := hD
            have ev : tat 1 (σ8 2) (nI n) 0 = (-1) := (by rw [k2]; exact ej_2)
            obtain ⟨σq, eq_⟩ : ∃ z9, z9 = hoP σ8 (nI n) (nI j_1) := ⟨_, rfl⟩
            have hRq : Rq Z ν δ κ σq (va_up τ' 2 f_7) := (by rw [eq_, hoP, ev, ef_7]; exact rq_pre hR8 tj_1 d9n_6 okP.m1 rfl)
            have kq0 : σq 0 = σ 0 := (by rw [eq_]; exact k0)
            refine lv_iload hx hb dL_leaves_78 (lv_at hl 6 rfl) ?_
            refine lv_iload_n hx hb dL_leaves_80 rfl (lv_at hl 0 rfl) ?_
            refine lv_icmp_eq (tgt := 103) hx hb dL_leaves_81 (by decide) (fun c_8 => ?_) (fun c_8 => ?_)
            · exact absurd c_8.symm (nI_ne1 (by omega))
            · refine lv_iload hx hb dL_leaves_84 (lv_at hl 6 rfl) ?_
              refine lv_aload_n hx hb dL_leaves_86 rfl (lv_at hl 1 rfl) ?_
              refine lv_aload_n hx hb dL_leaves_87 rfl (lv_at hl 2 rfl) ?_
              refine co_rS (As := [.int (-1), .ref (q 0), .ref (q 1)]) (rest := []) S (c_L_lives0 l G Z q ν δ κ σq (va_up τ' 2 f_7) hRq) (va_cwS 3 hts gL_leaves_L_lives rfl rfl rfl (by decide +kernel) ⟨Nat.le_of_ble_eq_true rfl, Nat.le_of_ble_eq_true rfl⟩) hK hP rfl hl.1 rfl (Nat.le_of_ble_eq_true rfl) dL_leaves_88 ⟨Nat.zero_le _, Nat.zero_le _⟩ ?_
              refine co_eq (show bI false = 0 from rfl) ?_
              refine lv_if_eq (tgt := 103) hx hb dL_leaves_91 (by decide) (fun c_9 => ?_) (fun c_9 => ?_)
              · have eA : lvA σ (nI n) = σq := (by rw [lvA, if_neg (by rw [ej_1]; exact c_3), ej_1, hoS_q e8 eq_, ev]; rw [if_neg (fun z => nI_ne1 (v := n) (by omega) z.symm), if_neg (by rw [alv_m1]; decide)])
                refine lv_aload_n hx hb dL_leaves_103 rfl (lv_at hl 2 rfl) ?_
                refine lv_bipush (v := 10) hx hb dL_leaves_104 (by decide) ?_
                refine lv_aload_n hx hb dL_leaves_106 rfl (lv_at hl 1 rfl) ?_
                refine lv_iload_n hx hb dL_leaves_107 rfl (lv_at hl 0 rfl) ?_
                refine va_iald hx hb hK hP 0 0 rfl rfl (vp_in_nI (n := n) (N := 64) (by omega) (by decide)) dL_leaves_108 ?_
                refine co_eq (rq_d hRq hn0 d90) ?_
                refine lv_iadd hx hb dL_leaves_109 ?_
                refine co_eq (show (10 : Int32) + (nI (δ n)) = (nI (10 + (δ n))) from nI_add 10 (δ n)) ?_
                refine lv_iconst (v := 0) hx hb dL_leaves_110 (by decide) ?_
                refine va_iast hx hb hK hP hD hS 1 0 (f := (τ' 1)) rfl rfl (vp_in_nI (n := (10 + (δ n))) (N := 27) (by omega) (by decide)) dL_leaves_111 (fun H locs hP hD hS => ?_)
                obtain ⟨f_10, ef_10⟩ : ∃ z9, z9 = (upd (τ' 1) (nI (10 + (δ n))).toNatClampNeg 0) := ⟨_, rfl⟩
                rw [← ef_10] at hP hD
                have hP : pG G (wQ G q (va_up (va_up τ' 2 f_7) 1 f_10)) H := hP
                have hD : va_D A (wQ G q (va_up (va_up τ' 2 f_7) 1 f_10)) := hD
                obtain ⟨σd, ed⟩ : ∃ z9, z9 = saS σq (nI n) 0 := ⟨_, rfl⟩
                have hRd : Rq Z ν δ κ σd (va_up (va_up τ' 2 f_7) 1 f_10) := (by rw [ed, ef_10]; exact rq_die hRq hn0 d90 rfl)
                refine lv_aload_n hx hb dL_leaves_112 rfl (lv_at hl 2 rfl) ?_
                refine co_rS (As := [.ref (q 1)]) (rest := []) S (c_L_count l G Z q ν δ κ σd (va_up (va_up τ' 2 f_7) 1 f_10) hRd) (va_cwS 1 hts gL_leaves_L_count rfl rfl rfl (by decide +kernel) ⟨Nat.le_of_ble_eq_true rfl, Nat.le_of_ble_eq_true rfl⟩) hK hP rfl hl.1 rfl (Nat.le_of_ble_eq_true rfl) dL_leaves_113 ⟨Nat.zero_le _, Nat.zero_le _⟩ ?_
                exact co_endI (va_up (va_up τ' 2 f_7) 1 f_10) S hr hlocks dL_leaves_116 hK hP hD hS (by rw [lvS, eA, ← ed]; exact ⟨rfl, hRd⟩)
              · exact absurd (by decide) c_9
          · exact absurd (nI_le (a := 6) (b := k) (by omega) (by omega)) c_5
        | succ d ih =>
          intro k σ' τ' hk hR9 h9 H locs hP hD hS ls hl
          have e09 : σ' 0 = σ 0 := (by rw [h9]; exact seq_n (ho_Loc _ _) (by decide) (by decide) k (fun i hi => Rq.ka hR (by omega)))
          have hn9 : Lv σ' n := Lv.tr e09 hn
          have lJ9 : Lv σ' j_1 := Lv.tr e09 lj_1
          refine lv_iload hx hb dL_leaves_29 (lv_at hl 7 rfl) ?_
          refine lv_bipush (v := 6) hx hb dL_leaves_31 (by decide) ?_
          refine lv_icmp_ge (tgt := 66) hx hb dL_leaves_33 (by decide) (fun c_11 => ?_) (fun c_11 => ?_)
          · exact absurd c_11 (nI_ge (a := k) (b := 6) (by omega) (by omega))
          · refine lv_aload hx hb dL_leaves_36 (lv_at hl 4 rfl) ?_
            refine lv_bipush (v := 6) hx hb dL_leaves_38 (by decide) ?_
            refine lv_aload_n hx hb dL_leaves_40 rfl (lv_at hl 1 rfl) ?_
            refine lv_iload_n hx hb dL_leaves_41 rfl (lv_at hl 0 rfl) ?_
            refine va_iald hx hb hK hP 0 0 rfl rfl (vp_in_nI (n := n) (N := 64) (by omega) (by decide)) dL_leaves_42 ?_
            refine co_eq (rq_d hR9 hn0 d90) ?_
            refine lv_imul hx hb dL_leaves_43 ?_
            refine co_eq (show (6 : Int32) * (nI (δ n)) = (nI (6 * (δ n))) from pk_mul 6 (δ n)) ?_
            refine lv_iload hx hb dL_leaves_44 (lv_at hl 7 rfl) ?_
            refine lv_iadd hx hb dL_leaves_46 ?_
            refine co_eq (show (nI (6 * (δ n))) + (nI k) = (nI ((6 * (δ n)) + k)) from nI_add (6 * (δ n)) k) ?_
            refine va_iald hx hb hK hP 4 0 rfl rfl (vp_in_nI (n := ((6 * (δ n)) + k)) (N := 60) (by omega) (by decide)) dL_leaves_47 ?_
            refine co_eq (rq_w hR9 hn9 rfl k (by omega) (i := (6 * (δ n)) + k) (by omega)) ?_
            refine lv_iload hx hb dL_leaves_48 (lv_at hl 7 rfl) ?_
            refine lv_iload hx hb dL_leaves_50 (lv_at hl 5 rfl) ?_
            refine lv_aload_n hx hb dL_leaves_52 rfl (lv_at hl 1 rfl) ?_
            refine lv_aload hx hb dL_leaves_53 (lv_at hl 4 rfl) ?_
            refine co_mSi (As := [.int (tat 64 (σ' 5) (nI n) (nI (κ k))), .int (nI k), .int (nI j_1), .ref (q 0), .ref (q 4)]) (rest := []) S (c_L_give l G Z q ν δ κ σ' τ' hR9 (tat 64 (σ' 5) (nI n) (nI (κ k))) n k j_1 hn9 (show k < 6 by omega) lJ9 rfl) (va_cwS 5 hts gL_leaves_L_give rfl rfl rfl (by decide +kernel) ⟨Nat.le_of_ble_eq_true rfl, Nat.le_of_ble_eq_true rfl⟩) hK hP hD hS hA rfl hl.1 rfl (Nat.le_of_ble_eq_true rfl) dL_leaves_55 ⟨Nat.zero_le _, Nat.zero_le _⟩ (fun r_12 u_12 H locs hu_12 hP hD hS => ?_)
            obtain ⟨hr_12, hq_12⟩ := hu_12
            have hr_12 : r_12 = (gcC σ' (nI n) (nI j_1) (nI (κ k))) := hr_12
            obtain ⟨σ_12, eσ_12⟩ : ∃ z9, z9 = (gcS σ' (nI n) (nI j_1) (nI (κ k))) := ⟨_, rfl⟩
            have hq_12 : Rq Z ν δ κ σ_12 u_12 := (by rw [eσ_12]; exact hq_12)
            have hc0_12 : σ_12 0 = (σ' 0) := (by rw [eσ_12]; exact gcS_0)
            have hc1_12 : σ_12 1 = (σ' 1) := (by rw [eσ_12]; exact gcS_1)
            have hc2_12 : σ_12 2 = (σ' 2) := (by rw [eσ_12]; exact gcS_2)
            have hc3_12 : σ_12 3 = (σ' 3) := (by rw [eσ_12]; exact gcS_3)
            have hP : pG G (wQ G q u_12) H := hP
            have hD : va_D A (wQ G q u_12) := hD
            refine lv_istore (lv' := [(8, .int r_12), (0, .int (nI n)), (1, .ref (q 0)), (2, .ref (q 1)), (3, .ref (q 2)), (4, .ref (q 4)), (5, .int (nI j_1)), (6, .int (-1)), (7, .int (nI k))]) hx hb dL_leaves_58 hl (by decide) rfl (fun ls hl => ?_)
            refine lv_iinc (v := (nI (k + 1))) (lv' := [(7, .int (nI (k + 1))), (8, .int r_12), (0, .int (nI n)), (1, .ref (q 0)), (2, .ref (q 1)), (3, .ref (q 2)), (4, .ref (q 4)), (5, .int (nI j_1)), (6, .int (-1))]) hx hb dL_leaves_60 hl (k := 8) rfl (nI_1 k) (by decide) rfl (fun ls hl => ?_)
            refine lv_goto (tgt := 29) hx hb dL_leaves_63 (by decide) ?_
            exact ih (k + 1) σ_12 u_12 (by omega) hq_12 (ho_s h9 eσ_12) _ _ hP hD hS ls (lv_sub hl [2, 3, 4, 5, 6, 7, 8, 0] rfl)
      exact LP 6 0 _ _ rfl hR rfl _ _ hP hD hS ls (lv_sub hl [3, 4, 5, 6, 7, 2, 1, 0] rfl)
  · have ej_2 : tat 1 (σ 2) (nI n) 0 = (nI j_2) := ej_2
    refine co_eq mj_2 ?_
    refine lv_istore (lv' := [(6, .int (nI j_2)), (5, .int (nI j_1)), (0, .int (nI n)), (1, .ref (q 0)), (2, .ref (q 1)), (3, .ref (q 2)), (4, .ref (q 4))]) hx hb dL_leaves_18 hl (by decide) rfl (fun ls hl => ?_)
    refine lv_iload hx hb dL_leaves_20 (lv_at hl 1 rfl) ?_
    refine lv_iload_n hx hb dL_leaves_22 rfl (lv_at hl 2 rfl) ?_
    refine lv_icmp_eq (tgt := 103) hx hb dL_leaves_23 (by decide) (fun c_13 => ?_) (fun c_13 => ?_)
    · have eA : lvA σ (nI n) = σ := (by rw [lvA, if_pos (by rw [ej_1]; exact c_13)])
      refine lv_aload_n hx hb dL_leaves_103 rfl (lv_at hl 4 rfl) ?_
      refine lv_bipush (v := 10) hx hb dL_leaves_104 (by decide) ?_
      refine lv_aload_n hx hb dL_leaves_106 rfl (lv_at hl 3 rfl) ?_
      refine lv_iload_n hx hb dL_leaves_107 rfl (lv_at hl 2 rfl) ?_
      refine va_iald hx hb hK hP 0 0 rfl rfl (vp_in_nI (n := n) (N := 64) (by omega) (by decide)) dL_leaves_108 ?_
      refine co_eq (rq_d hR hn0 d90) ?_
      refine lv_iadd hx hb dL_leaves_109 ?_
      refine co_eq (show (10 : Int32) + (nI (δ n)) = (nI (10 + (δ n))) from nI_add 10 (δ n)) ?_
      refine lv_iconst (v := 0) hx hb dL_leaves_110 (by decide) ?_
      refine va_iast hx hb hK hP hD hS 1 0 (f := (τ 1)) rfl rfl (vp_in_nI (n := (10 + (δ n))) (N := 27) (by omega) (by decide)) dL_leaves_111 (fun H locs hP hD hS => ?_)
      obtain ⟨f_14, ef_14⟩ : ∃ z9, z9 = (upd (τ 1) (nI (10 + (δ n))).toNatClampNeg 0) := ⟨_, rfl⟩
      rw [← ef_14] at hP hD
      have hP : pG G (wQ G q (va_up τ 1 f_14)) H := hP
      have hD : va_D A (wQ G q (va_up τ 1 f_14)) := hD
      obtain ⟨σd, ed⟩ : ∃ z9, z9 = saS σ (nI n) 0 := ⟨_, rfl⟩
      have hRd : Rq Z ν δ κ σd (va_up τ 1 f_14) := (by rw [ed, ef_14]; exact rq_die hR hn0 d90 rfl)
      refine lv_aload_n hx hb dL_leaves_112 rfl (lv_at hl 4 rfl) ?_
      refine co_rS (As := [.ref (q 1)]) (rest := []) S (c_L_count l G Z q ν δ κ σd (va_up τ 1 f_14) hRd) (va_cwS 1 hts gL_leaves_L_count rfl rfl rfl (by decide +kernel) ⟨Nat.le_of_ble_eq_true rfl, Nat.le_of_ble_eq_true rfl⟩) hK hP rfl hl.1 rfl (Nat.le_of_ble_eq_true rfl) dL_leaves_113 ⟨Nat.zero_le _, Nat.zero_le _⟩ ?_
      exact co_endI (va_up τ 1 f_14) S hr hlocks dL_leaves_116 hK hP hD hS (by rw [lvS, eA, ← ed]; exact ⟨rfl, hRd⟩)
    · refine lv_iconst (v := 0) hx hb dL_leaves_26 (by decide) ?_
      refine lv_istore (lv' := [(7, .int 0), (6, .int (nI j_2)), (5, .int (nI j_1)), (0, .int (nI n)), (1, .ref (q 0)), (2, .ref (q 1)), (3, .ref (q 2)), (4, .ref (q 4))]) hx hb dL_leaves_27 hl (by decide) rfl (fun ls hl => ?_)
      have LP : ∀ (d : Nat) (k : Nat) (σ' τ' : cS), k + d = 6 → Rq Z ν δ κ σ' τ' → σ' = seqA (hoA (nI n) (nI j_1)) κ σ k → ∀ (H : Heap) (locs : List Loc), pG G (wQ G q τ') H → va_D A (wQ G q τ') → va_S A s.heap H locs → ∀ ls : Array Slot, lv_has ls 9 [(0, .int (nI n)), (1, .ref (q 0)), (2, .ref (q 1)), (3, .ref (q 2)), (4, .ref (q 4)), (5, .int (nI j_1)), (6, .int (nI j_2)), (7, .int (nI k))] → W p l e rm_L_leaves s m args below meth c H locs 0 0 (QI below G A (fun u : cS => wQ G q u) (fun r u => r = (cnt (lvS σ (nI n) 0) 64) ∧ Rq Z ν δ κ (lvS σ (nI n)) u) args s) (F0 m 29 ls []) := by
        intro d
        induction d with
        | zero =>
          intro k σ' τ' hk hR9 h9 H locs hP hD hS ls hl
          have hk6 : k = 6 := (by omega)
          rw [h9, hk6] at hR9
          have hR8 := rq_ho hR hn lj_1 hR9
          obtain ⟨σ8, e8⟩ : ∃ z9, z9 = hoL σ (nI n) (nI j_1) 64 := ⟨_, rfl⟩
          have hR8 : Rq Z ν δ κ σ8 τ' := (by rw [e8]; exact hR8)
          have k0 : σ8 0 = σ 0 := (by rw [e8]; exact hoL_n (by decide) (by decide) 64 (Nat.le_refl 64))
          have k1 : σ8 1 = σ 1 := (by rw [e8]; exact hoL_n (by decide) (by decide) 64 (Nat.le_refl 64))
          have k2 : σ8 2 = σ 2 := (by rw [e8]; exact hoL_n (by decide) (by decide) 64 (Nat.le_refl 64))
          refine lv_iload hx hb dL_leaves_29 (lv_at hl 7 rfl) ?_
          refine lv_bipush (v := 6) hx hb dL_leaves_31 (by decide) ?_
          refine lv_icmp_ge (tgt := 66) hx hb dL_leaves_33 (by decide) (fun c_15 => ?_) (fun c_15 => ?_)
          · refine lv_aload_n hx hb dL_leaves_66 rfl (lv_at hl 3 rfl) ?_
            refine lv_iconst (v := 4) hx hb dL_leaves_67 (by decide) ?_
            refine lv_aload_n hx hb dL_leaves_68 rfl (lv_at hl 1 rfl) ?_
            refine lv_iload hx hb dL_leaves_69 (lv_at hl 5 rfl) ?_
            refine va_iald hx hb hK hP 0 0 rfl rfl (vp_in_nI (n := j_1) (N := 64) (by omega) (by decide)) dL_leaves_71 ?_
            have d9n_16 : δ j_1 < 10 := Rq.d9 hR8 (Lv.tr k0 lj_1)
            refine co_eq (rq_d hR8 tj_1 d9n_16) ?_
            refine lv_imul hx hb dL_leaves_72 ?_
            refine co_eq (show (4 : Int32) * (nI (δ j_1)) = (nI (4 * (δ j_1))) from pk_mul 4 (δ j_1)) ?_
            refine lv_iconst (v := 3) hx hb dL_leaves_73 (by decide) ?_
            refine lv_iadd hx hb dL_leaves_74 ?_
            refine co_eq (show (nI (4 * (δ j_1))) + (3 : Int32) = (nI ((4 * (δ j_1)) + 3)) from nI_add (4 * (δ j_1)) 3) ?_
            refine lv_iload hx hb dL_leaves_75 (lv_at hl 6 rfl) ?_
            refine va_iast hx hb hK hP hD hS 2 0 (f := (τ' 2)) rfl rfl (vp_in_nI (n := ((4 * (δ j_1)) + 3)) (N := 40) (by omega) (by decide)) dL_leaves_77 (fun H locs hP hD hS => ?_)
            obtain ⟨f_17, ef_17⟩ : ∃ z9, z9 = (upd (τ' 2) (nI ((4 * (δ j_1)) + 3)).toNatClampNeg (nI j_2)) := ⟨_, rfl⟩
            rw [← ef_17] at hP hD
            have hP : pG G (wQ G q (va_up τ' 2 f_17)) H := hP
            have hD : va_D A (wQ G q (va_up τ' 2 f_17)) := hD
            have ev : tat 1 (σ8 2) (nI n) 0 = (nI j_2) := (by rw [k2]; exact ej_2)
            obtain ⟨σq, eq_⟩ : ∃ z9, z9 = hoP σ8 (nI n) (nI j_1) := ⟨_, rfl⟩
            have hRq : Rq Z ν δ κ σq (va_up τ' 2 f_17) := (by rw [eq_, hoP, ev, ef_17]; exact rq_pre hR8 tj_1 d9n_16 (okP.nI hj_2) rfl)
            have kq0 : σq 0 = σ 0 := (by rw [eq_]; exact k0)
            refine lv_iload hx hb dL_leaves_78 (lv_at hl 6 rfl) ?_
            refine lv_iload_n hx hb dL_leaves_80 rfl (lv_at hl 0 rfl) ?_
            refine lv_icmp_eq (tgt := 103) hx hb dL_leaves_81 (by decide) (fun c_18 => ?_) (fun c_18 => ?_)
            · have eA : lvA σ (nI n) = σq := (by rw [lvA, if_neg (by rw [ej_1]; exact c_13), ej_1, hoS_q e8 eq_, ev]; rw [if_pos c_18])
              refine lv_aload_n hx hb dL_leaves_103 rfl (lv_at hl 2 rfl) ?_
              refine lv_bipush (v := 10) hx hb dL_leaves_104 (by decide) ?_
              refine lv_aload_n hx hb dL_leaves_106 rfl (lv_at hl 1 rfl) ?_
              refine lv_iload_n hx hb dL_leaves_107 rfl (lv_at hl 0 rfl) ?_
              refine va_iald hx hb hK hP 0 0 rfl rfl (vp_in_nI (n := n) (N := 64) (by omega) (by decide)) dL_leaves_108 ?_
              refine co_eq (rq_d hRq hn0 d90) ?_
              refine lv_iadd hx hb dL_leaves_109 ?_
              refine co_eq (show (10 : Int32) + (nI (δ n)) = (nI (10 + (δ n))) from nI_add 10 (δ n)) ?_
              refine lv_iconst (v := 0) hx hb dL_leaves_110 (by decide) ?_
              refine va_iast hx hb hK hP hD hS 1 0 (f := (τ' 1)) rfl rfl (vp_in_nI (n := (10 + (δ n))) (N := 27) (by omega) (by decide)) dL_leaves_111 (fun H locs hP hD hS => ?_)
              obtain ⟨f_19, ef_19⟩ : ∃ z9, z9 = (upd (τ' 1) (nI (10 + (δ n))).toNatClampNeg 0) := ⟨_, rfl⟩
              rw [← ef_19] at hP hD
              have hP : pG G (wQ G q (va_up (va_up τ' 2 f_17) 1 f_19)) H := hP
              have hD : va_D A (wQ G q (va_up (va_up τ' 2 f_17) 1 f_19)) := hD
              obtain ⟨σd, ed⟩ : ∃ z9, z9 = saS σq (nI n) 0 := ⟨_, rfl⟩
              have hRd : Rq Z ν δ κ σd (va_up (va_up τ' 2 f_17) 1 f_19) := (by rw [ed, ef_19]; exact rq_die hRq hn0 d90 rfl)
              refine lv_aload_n hx hb dL_leaves_112 rfl (lv_at hl 2 rfl) ?_
              refine co_rS (As := [.ref (q 1)]) (rest := []) S (c_L_count l G Z q ν δ κ σd (va_up (va_up τ' 2 f_17) 1 f_19) hRd) (va_cwS 1 hts gL_leaves_L_count rfl rfl rfl (by decide +kernel) ⟨Nat.le_of_ble_eq_true rfl, Nat.le_of_ble_eq_true rfl⟩) hK hP rfl hl.1 rfl (Nat.le_of_ble_eq_true rfl) dL_leaves_113 ⟨Nat.zero_le _, Nat.zero_le _⟩ ?_
              exact co_endI (va_up (va_up τ' 2 f_17) 1 f_19) S hr hlocks dL_leaves_116 hK hP hD hS (by rw [lvS, eA, ← ed]; exact ⟨rfl, hRd⟩)
            · refine lv_iload hx hb dL_leaves_84 (lv_at hl 6 rfl) ?_
              refine lv_aload_n hx hb dL_leaves_86 rfl (lv_at hl 1 rfl) ?_
              refine lv_aload_n hx hb dL_leaves_87 rfl (lv_at hl 2 rfl) ?_
              refine co_rS (As := [.int (nI j_2), .ref (q 0), .ref (q 1)]) (rest := []) S (c_L_lives l G Z q ν δ κ σq (va_up τ' 2 f_17) hRq j_2 hj_2) (va_cwS 3 hts gL_leaves_L_lives rfl rfl rfl (by decide +kernel) ⟨Nat.le_of_ble_eq_true rfl, Nat.le_of_ble_eq_true rfl⟩) hK hP rfl hl.1 rfl (Nat.le_of_ble_eq_true rfl) dL_leaves_88 ⟨Nat.zero_le _, Nat.zero_le _⟩ ?_
              refine co_eq (show bI (alv (σq 0) (nI j_2)) = bI (alv (σ 0) (nI j_2)) by rw [kq0]) ?_
              refine co_ifeq (tgt := 103) S dL_leaves_91 (by decide) (fun c_20 => ?_) (fun c_20 => ?_)
              · have eA : lvA σ (nI n) = σq := (by rw [lvA, if_neg (by rw [ej_1]; exact c_13), ej_1, hoS_q e8 eq_, ev]; rw [if_neg c_18, if_neg (by rw [kq0, c_20]; decide)])
                refine lv_aload_n hx hb dL_leaves_103 rfl (lv_at hl 2 rfl) ?_
                refine lv_bipush (v := 10) hx hb dL_leaves_104 (by decide) ?_
                refine lv_aload_n hx hb dL_leaves_106 rfl (lv_at hl 1 rfl) ?_
                refine lv_iload_n hx hb dL_leaves_107 rfl (lv_at hl 0 rfl) ?_
                refine va_iald hx hb hK hP 0 0 rfl rfl (vp_in_nI (n := n) (N := 64) (by omega) (by decide)) dL_leaves_108 ?_
                refine co_eq (rq_d hRq hn0 d90) ?_
                refine lv_iadd hx hb dL_leaves_109 ?_
                refine co_eq (show (10 : Int32) + (nI (δ n)) = (nI (10 + (δ n))) from nI_add 10 (δ n)) ?_
                refine lv_iconst (v := 0) hx hb dL_leaves_110 (by decide) ?_
                refine va_iast hx hb hK hP hD hS 1 0 (f := (τ' 1)) rfl rfl (vp_in_nI (n := (10 + (δ n))) (N := 27) (by omega) (by decide)) dL_leaves_111 (fun H locs hP hD hS => ?_)
                obtain ⟨f_21, ef_21⟩ : ∃ z9, z9 = (upd (τ' 1) (nI (10 + (δ n))).toNatClampNeg 0) := ⟨_, rfl⟩
                rw [← ef_21] at hP hD
                have hP : pG G (wQ G q (va_up (va_up τ' 2 f_17) 1 f_21)) H := hP
                have hD : va_D A (wQ G q (va_up (va_up τ' 2 f_17) 1 f_21)) := hD
                obtain ⟨σd, ed⟩ : ∃ z9, z9 = saS σq (nI n) 0 := ⟨_, rfl⟩
                have hRd : Rq Z ν δ κ σd (va_up (va_up τ' 2 f_17) 1 f_21) := (by rw [ed, ef_21]; exact rq_die hRq hn0 d90 rfl)
                refine lv_aload_n hx hb dL_leaves_112 rfl (lv_at hl 2 rfl) ?_
                refine co_rS (As := [.ref (q 1)]) (rest := []) S (c_L_count l G Z q ν δ κ σd (va_up (va_up τ' 2 f_17) 1 f_21) hRd) (va_cwS 1 hts gL_leaves_L_count rfl rfl rfl (by decide +kernel) ⟨Nat.le_of_ble_eq_true rfl, Nat.le_of_ble_eq_true rfl⟩) hK hP rfl hl.1 rfl (Nat.le_of_ble_eq_true rfl) dL_leaves_113 ⟨Nat.zero_le _, Nat.zero_le _⟩ ?_
                exact co_endI (va_up (va_up τ' 2 f_17) 1 f_21) S hr hlocks dL_leaves_116 hK hP hD hS (by rw [lvS, eA, ← ed]; exact ⟨rfl, hRd⟩)
              · refine lv_iload hx hb dL_leaves_94 (lv_at hl 6 rfl) ?_
                refine lv_iload hx hb dL_leaves_96 (lv_at hl 5 rfl) ?_
                refine lv_aload_n hx hb dL_leaves_98 rfl (lv_at hl 1 rfl) ?_
                refine lv_aload_n hx hb dL_leaves_99 rfl (lv_at hl 3 rfl) ?_
                refine co_mSv (As := [.int (nI j_2), .int (nI j_1), .ref (q 0), .ref (q 2)]) (rest := []) S (c_L_adopt l G Z q ν δ κ σq (va_up τ' 2 f_17) hRq j_2 j_1 (Lv.tr kq0 ⟨hj_2, c_20⟩) (Lv.tr kq0 lj_1)) (va_cwS 4 hts gL_leaves_L_adopt rfl rfl rfl (by decide +kernel) ⟨Nat.le_of_ble_eq_true rfl, Nat.le_of_ble_eq_true rfl⟩) hK hP hD hS hA rfl hl.1 rfl (Nat.le_of_ble_eq_true rfl) dL_leaves_100 ⟨Nat.zero_le _, Nat.zero_le _⟩ (fun u_22 H locs hu_22 hP hD hS => ?_)
                have hq_22 := hu_22
                obtain ⟨σ_22, eσ_22⟩ : ∃ z9, z9 = (foS σq (nI j_2) (nI j_1)) := ⟨_, rfl⟩
                have hq_22 : Rq Z ν δ κ σ_22 u_22 := (by rw [eσ_22]; exact hq_22)
                have hc0_22 : σ_22 0 = (σ 0) := (by rw [eσ_22]; exact (foS_0).trans kq0)
                have hc2_22 : σ_22 2 = (σq 2) := (by rw [eσ_22]; exact foS_2)
                have hc3_22 : σ_22 3 = (σq 3) := (by rw [eσ_22]; exact foS_3)
                have hP : pG G (wQ G q u_22) H := hP
                have hD : va_D A (wQ G q u_22) := hD
                have eA : lvA σ (nI n) = σ_22 := (by rw [lvA, if_neg (by rw [ej_1]; exact c_13), ej_1, hoS_q e8 eq_, ev]; rw [if_neg c_18, if_pos (by rw [kq0]; exact c_20)]; exact eσ_22.symm)
                refine lv_aload_n hx hb dL_leaves_103 rfl (lv_at hl 2 rfl) ?_
                refine lv_bipush (v := 10) hx hb dL_leaves_104 (by decide) ?_
                refine lv_aload_n hx hb dL_leaves_106 rfl (lv_at hl 1 rfl) ?_
                refine lv_iload_n hx hb dL_leaves_107 rfl (lv_at hl 0 rfl) ?_
                refine va_iald hx hb hK hP 0 0 rfl rfl (vp_in_nI (n := n) (N := 64) (by omega) (by decide)) dL_leaves_108 ?_
                refine co_eq (rq_d hq_22 hn0 d90) ?_
                refine lv_iadd hx hb dL_leaves_109 ?_
                refine co_eq (show (10 : Int32) + (nI (δ n)) = (nI (10 + (δ n))) from nI_add 10 (δ n)) ?_
                refine lv_iconst (v := 0) hx hb dL_leaves_110 (by decide) ?_
                refine va_iast hx hb hK hP hD hS 1 0 (f := (u_22 1)) rfl rfl (vp_in_nI (n := (10 + (δ n))) (N := 27) (by omega) (by decide)) dL_leaves_111 (fun H locs hP hD hS => ?_)
                obtain ⟨f_23, ef_23⟩ : ∃ z9, z9 = (upd (u_22 1) (nI (10 + (δ n))).toNatClampNeg 0) := ⟨_, rfl⟩
                rw [← ef_23] at hP hD
                have hP : pG G (wQ G q (va_up u_22 1 f_23)) H := hP
                have hD : va_D A (wQ G q (va_up u_22 1 f_23)) := hD
                obtain ⟨σd, ed⟩ : ∃ z9, z9 = saS σ_22 (nI n) 0 := ⟨_, rfl⟩
                have hRd : Rq Z ν δ κ σd (va_up u_22 1 f_23) := (by rw [ed, ef_23]; exact rq_die hq_22 hn0 d90 rfl)
                refine lv_aload_n hx hb dL_leaves_112 rfl (lv_at hl 2 rfl) ?_
                refine co_rS (As := [.ref (q 1)]) (rest := []) S (c_L_count l G Z q ν δ κ σd (va_up u_22 1 f_23) hRd) (va_cwS 1 hts gL_leaves_L_count rfl rfl rfl (by decide +kernel) ⟨Nat.le_of_ble_eq_true rfl, Nat.le_of_ble_eq_true rfl⟩) hK hP rfl hl.1 rfl (Nat.le_of_ble_eq_true rfl) dL_leaves_113 ⟨Nat.zero_le _, Nat.zero_le _⟩ ?_
                exact co_endI (va_up u_22 1 f_23) S hr hlocks dL_leaves_116 hK hP hD hS (by rw [lvS, eA, ← ed]; exact ⟨rfl, hRd⟩)
          · exact absurd (nI_le (a := 6) (b := k) (by omega) (by omega)) c_15
        | succ d ih =>
          intro k σ' τ' hk hR9 h9 H locs hP hD hS ls hl
          have e09 : σ' 0 = σ 0 := (by rw [h9]; exact seq_n (ho_Loc _ _) (by decide) (by decide) k (fun i hi => Rq.ka hR (by omega)))
          have hn9 : Lv σ' n := Lv.tr e09 hn
          have lJ9 : Lv σ' j_1 := Lv.tr e09 lj_1
          refine lv_iload hx hb dL_leaves_29 (lv_at hl 7 rfl) ?_
          refine lv_bipush (v := 6) hx hb dL_leaves_31 (by decide) ?_
          refine lv_icmp_ge (tgt := 66) hx hb dL_leaves_33 (by decide) (fun c_24 => ?_) (fun c_24 => ?_)
          · exact absurd c_24 (nI_ge (a := k) (b := 6) (by omega) (by omega))
          · refine lv_aload hx hb dL_leaves_36 (lv_at hl 4 rfl) ?_
            refine lv_bipush (v := 6) hx hb dL_leaves_38 (by decide) ?_
            refine lv_aload_n hx hb dL_leaves_40 rfl (lv_at hl 1 rfl) ?_
            refine lv_iload_n hx hb dL_leaves_41 rfl (lv_at hl 0 rfl) ?_
            refine va_iald hx hb hK hP 0 0 rfl rfl (vp_in_nI (n := n) (N := 64) (by omega) (by decide)) dL_leaves_42 ?_
            refine co_eq (rq_d hR9 hn0 d90) ?_
            refine lv_imul hx hb dL_leaves_43 ?_
            refine co_eq (show (6 : Int32) * (nI (δ n)) = (nI (6 * (δ n))) from pk_mul 6 (δ n)) ?_
            refine lv_iload hx hb dL_leaves_44 (lv_at hl 7 rfl) ?_
            refine lv_iadd hx hb dL_leaves_46 ?_
            refine co_eq (show (nI (6 * (δ n))) + (nI k) = (nI ((6 * (δ n)) + k)) from nI_add (6 * (δ n)) k) ?_
            refine va_iald hx hb hK hP 4 0 rfl rfl (vp_in_nI (n := ((6 * (δ n)) + k)) (N := 60) (by omega) (by decide)) dL_leaves_47 ?_
            refine co_eq (rq_w hR9 hn9 rfl k (by omega) (i := (6 * (δ n)) + k) (by omega)) ?_
            refine lv_iload hx hb dL_leaves_48 (lv_at hl 7 rfl) ?_
            refine lv_iload hx hb dL_leaves_50 (lv_at hl 5 rfl) ?_
            refine lv_aload_n hx hb dL_leaves_52 rfl (lv_at hl 1 rfl) ?_
            refine lv_aload hx hb dL_leaves_53 (lv_at hl 4 rfl) ?_
            refine co_mSi (As := [.int (tat 64 (σ' 5) (nI n) (nI (κ k))), .int (nI k), .int (nI j_1), .ref (q 0), .ref (q 4)]) (rest := []) S (c_L_give l G Z q ν δ κ σ' τ' hR9 (tat 64 (σ' 5) (nI n) (nI (κ k))) n k j_1 hn9 (show k < 6 by omega) lJ9 rfl) (va_cwS 5 hts gL_leaves_L_give rfl rfl rfl (by decide +kernel) ⟨Nat.le_of_ble_eq_true rfl, Nat.le_of_ble_eq_true rfl⟩) hK hP hD hS hA rfl hl.1 rfl (Nat.le_of_ble_eq_true rfl) dL_leaves_55 ⟨Nat.zero_le _, Nat.zero_le _⟩ (fun r_25 u_25 H locs hu_25 hP hD hS => ?_)
            obtain ⟨hr_25, hq_25⟩ := hu_25
            have hr_25 : r_25 = (gcC σ' (nI n) (nI j_1) (nI (κ k))) := hr_25
            obtain ⟨σ_25, eσ_25⟩ : ∃ z9, z9 = (gcS σ' (nI n) (nI j_1) (nI (κ k))) := ⟨_, rfl⟩
            have hq_25 : Rq Z ν δ κ σ_25 u_25 := (by rw [eσ_25]; exact hq_25)
            have hc0_25 : σ_25 0 = (σ' 0) := (by rw [eσ_25]; exact gcS_0)
            have hc1_25 : σ_25 1 = (σ' 1) := (by rw [eσ_25]; exact gcS_1)
            have hc2_25 : σ_25 2 = (σ' 2) := (by rw [eσ_25]; exact gcS_2)
            have hc3_25 : σ_25 3 = (σ' 3) := (by rw [eσ_25]; exact gcS_3)
            have hP : pG G (wQ G q u_25) H := hP
            have hD : va_D A (wQ G q u_25) := hD
            refine lv_istore (lv' := [(8, .int r_25), (0, .int (nI n)), (1, .ref (q 0)), (2, .ref (q 1)), (3, .ref (q 2)), (4, .ref (q 4)), (5, .int (nI j_1)), (6, .int (nI j_2)), (7, .int (nI k))]) hx hb dL_leaves_58 hl (by decide) rfl (fun ls hl => ?_)
            refine lv_iinc (v := (nI (k + 1))) (lv' := [(7, .int (nI (k + 1))), (8, .int r_25), (0, .int (nI n)), (1, .ref (q 0)), (2, .ref (q 1)), (3, .ref (q 2)), (4, .ref (q 4)), (5, .int (nI j_1)), (6, .int (nI j_2))]) hx hb dL_leaves_60 hl (k := 8) rfl (nI_1 k) (by decide) rfl (fun ls hl => ?_)
            refine lv_goto (tgt := 29) hx hb dL_leaves_63 (by decide) ?_
            exact ih (k + 1) σ_25 u_25 (by omega) hq_25 (ho_s h9 eσ_25) _ _ hP hD hS ls (lv_sub hl [2, 3, 4, 5, 6, 7, 8, 0] rfl)
      exact LP 6 0 _ _ rfl hR rfl _ _ hP hD hS ls (lv_sub hl [3, 4, 5, 6, 7, 2, 1, 0] rfl)

abbrev rm_L_step : Room := { frames := 4, cells := 0, slots := 0, locals := 103 }
set_option maxHeartbeats 4000000 in
set_option maxRecDepth 100000 in
theorem c_L_step4 (l : Launch) (G : cG) (Z : Nat) (q ν δ κ : Nat → Nat) (σ τ : cS) (hR : Rq Z ν δ κ σ τ)(n : Nat) (hn : Lv σ n) : MetI l yL_step wsL_step rm_L_step G (wQ G q τ) [.int 4, .int (nI n), .ref (q 0), .ref (q 1), .ref (q 2), .ref (q 3), .ref (q 4)] (fun u : cS => wQ G q u) (fun r u => r = (bI (chB σ (nI n))) ∧ Rq Z ν δ κ (ddS σ (nI n)) u) := by
  refine co_bodyI (cc := cL_step) (maxL := 12) (ret := (some .int)) (by decide) rfl (Nat.le_of_ble_eq_true rfl) ?_
  intro p e s m args below meth c S hr hlocks hK A hA hP hD hS ls hl
  have S : CallFix p m c cL_step 12 s args wsL_step RL := S
  obtain ⟨hx, hb, hml, hown, hts⟩ := id S
  have hl : lv_has ls 12 [(0, .int 4), (1, .int (nI n)), (2, .ref (q 0)), (3, .ref (q 1)), (4, .ref (q 2)), (5, .ref (q 3)), (6, .ref (q 4))] := hl
  have hn0 : n < 64 := hn.1
  have d90 : δ n < 10 := Rq.d9 hR hn
  refine lv_aload_n hx hb dL_step_0 rfl (lv_at hl 2 rfl) ?_
  refine lv_iload_n hx hb dL_step_1 rfl (lv_at hl 1 rfl) ?_
  refine va_iald hx hb hK hP 0 0 rfl rfl (vp_in_nI (n := n) (N := 64) (by omega) (by decide)) dL_step_2 ?_
  refine co_eq (rq_d hR hn0 d90) ?_
  refine lv_istore (lv' := [(7, .int (nI (δ n))), (0, .int 4), (1, .int (nI n)), (2, .ref (q 0)), (3, .ref (q 1)), (4, .ref (q 2)), (5, .ref (q 3)), (6, .ref (q 4))]) hx hb dL_step_3 hl (by decide) rfl (fun ls hl => ?_)
  refine lv_iconst (v := 0) hx hb dL_step_5 (by decide) ?_
  refine lv_istore (lv' := [(8, .int 0), (7, .int (nI (δ n))), (0, .int 4), (1, .int (nI n)), (2, .ref (q 0)), (3, .ref (q 1)), (4, .ref (q 2)), (5, .ref (q 3)), (6, .ref (q 4))]) hx hb dL_step_6 hl (by decide) rfl (fun ls hl => ?_)
  refine lv_iload_n hx hb dL_step_8 rfl (lv_at hl 2 rfl) ?_
  refine lv_iconst (v := 4) hx hb dL_step_9 (by decide) ?_
  refine lv_icmp_ne (tgt := 70) hx hb dL_step_10 (by decide) (fun c_1 => ?_) (fun c_1 => ?_)
  · exact absurd (by decide) c_1
  · refine lv_aload hx hb dL_step_13 (lv_at hl 6 rfl) ?_
    refine lv_iconst (v := 4) hx hb dL_step_15 (by decide) ?_
    refine lv_iload hx hb dL_step_16 (lv_at hl 1 rfl) ?_
    refine lv_imul hx hb dL_step_18 ?_
    refine co_eq (show (4 : Int32) * (nI (δ n)) = (nI (4 * (δ n))) from pk_mul 4 (δ n)) ?_
    refine lv_iconst (v := 3) hx hb dL_step_19 (by decide) ?_
    refine lv_iadd hx hb dL_step_20 ?_
    refine co_eq (show (nI (4 * (δ n))) + (3 : Int32) = (nI ((4 * (δ n)) + 3)) from nI_add (4 * (δ n)) 3) ?_
    refine lv_aload hx hb dL_step_21 (lv_at hl 6 rfl) ?_
    refine lv_iconst (v := 4) hx hb dL_step_23 (by decide) ?_
    refine lv_iload hx hb dL_step_24 (lv_at hl 1 rfl) ?_
    refine lv_imul hx hb dL_step_26 ?_
    refine co_eq (show (4 : Int32) * (nI (δ n)) = (nI (4 * (δ n))) from pk_mul 4 (δ n)) ?_
    refine lv_iconst (v := 3) hx hb dL_step_27 (by decide) ?_
    refine lv_iadd hx hb dL_step_28 ?_
    refine co_eq (show (nI (4 * (δ n))) + (3 : Int32) = (nI ((4 * (δ n)) + 3)) from nI_add (4 * (δ n)) 3) ?_
    refine va_iald hx hb hK hP 2 0 rfl rfl (vp_in_nI (n := ((4 * (δ n)) + 3)) (N := 40) (by omega) (by decide)) dL_step_29 ?_
    rcases rq_p hR hn rfl (i := (4 * (δ n)) + 3) (by omega) with ⟨ej_2, mj_2⟩ | ⟨j_2, hj_2, ej_2, mj_2⟩
    · have ej_2 : tat 1 (σ 2) (nI n) 0 = (-1) := ej_2
      refine co_eq mj_2 ?_
      refine lv_aload_n hx hb dL_step_30 rfl (lv_at hl 4 rfl) ?_
      refine lv_aload_n hx hb dL_step_31 rfl (lv_at hl 5 rfl) ?_
      refine co_rS (As := [.int (-1), .ref (q 0), .ref (q 1)]) (rest := [.int (nI ((4 * (δ n)) + 3)), .ref (q 2)]) S (c_L_lives0 l G Z q ν δ κ σ τ hR) (va_cwS 3 hts gL_step_L_lives rfl rfl rfl (by decide +kernel) ⟨Nat.le_of_ble_eq_true rfl, Nat.le_of_ble_eq_true rfl⟩) hK hP rfl hl.1 rfl (Nat.le_of_ble_eq_true rfl) dL_step_32 ⟨Nat.zero_le _, Nat.zero_le _⟩ ?_
      refine co_eq (show bI false = 0 from rfl) ?_
      refine lv_if_eq (tgt := 50) hx hb dL_step_35 (by decide) (fun c_3 => ?_) (fun c_3 => ?_)
      · refine lv_iconst (v := (-1)) hx hb dL_step_50 (by decide) ?_
        refine va_iast hx hb hK hP hD hS 2 0 (f := (τ 2)) rfl rfl (vp_in_nI (n := ((4 * (δ n)) + 3)) (N := 40) (by omega) (by decide)) dL_step_51 (fun H locs hP hD hS => ?_)
        have hP : pG G (wQ G q (va_up τ 2 (upd (τ 2) (nI ((4 * (δ n)) + 3)).toNatClampNeg (-1)))) H := hP
        have hD : va_D A (wQ G q (va_up τ 2 (upd (τ 2) (nI ((4 * (δ n)) + 3)).toNatClampNeg (-1)))) := hD
        refine lv_aload hx hb dL_step_52 (lv_at hl 6 rfl) ?_
        refine lv_iconst (v := 4) hx hb dL_step_54 (by decide) ?_
        refine lv_iload hx hb dL_step_55 (lv_at hl 1 rfl) ?_
        refine lv_imul hx hb dL_step_57 ?_
        refine co_eq (show (4 : Int32) * (nI (δ n)) = (nI (4 * (δ n))) from pk_mul 4 (δ n)) ?_
        refine lv_iconst (v := 3) hx hb dL_step_58 (by decide) ?_
        refine lv_iadd hx hb dL_step_59 ?_
        refine co_eq (show (nI (4 * (δ n))) + (3 : Int32) = (nI ((4 * (δ n)) + 3)) from nI_add (4 * (δ n)) 3) ?_
        refine va_iald hx hb hK hP 2 0 rfl rfl (vp_in_nI (n := ((4 * (δ n)) + 3)) (N := 40) (by omega) (by decide)) dL_step_60 ?_
        refine co_eq (pk_us) ?_
        refine lv_if_ge (tgt := 68) hx hb dL_step_61 (by decide) (fun c_4 => ?_) (fun c_4 => ?_)
        · exact absurd c_4 (by decide)
        · refine lv_iconst (v := 0) hx hb dL_step_64 (by decide) ?_
          refine lv_goto (tgt := 69) hx hb dL_step_65 (by decide) ?_
          exact co_endI (va_up τ 2 (upd (τ 2) (nI ((4 * (δ n)) + 3)).toNatClampNeg (-1))) S hr hlocks dL_step_69 hK hP hD hS (by (obtain ⟨w1, w2⟩ := chB_f (σ := σ) hn0 (by rw [ej_2]; exact alv_m1); rw [w1, w2]; exact ⟨rfl, rq_pre hR hn0 d90 okP.m1 rfl⟩))
      · exact absurd (by decide) c_3
    · have ej_2 : tat 1 (σ 2) (nI n) 0 = (nI j_2) := ej_2
      refine co_eq mj_2 ?_
      refine lv_aload_n hx hb dL_step_30 rfl (lv_at hl 4 rfl) ?_
      refine lv_aload_n hx hb dL_step_31 rfl (lv_at hl 5 rfl) ?_
      refine co_rS (As := [.int (nI j_2), .ref (q 0), .ref (q 1)]) (rest := [.int (nI ((4 * (δ n)) + 3)), .ref (q 2)]) S (c_L_lives l G Z q ν δ κ σ τ hR j_2 hj_2) (va_cwS 3 hts gL_step_L_lives rfl rfl rfl (by decide +kernel) ⟨Nat.le_of_ble_eq_true rfl, Nat.le_of_ble_eq_true rfl⟩) hK hP rfl hl.1 rfl (Nat.le_of_ble_eq_true rfl) dL_step_32 ⟨Nat.zero_le _, Nat.zero_le _⟩ ?_
      refine co_ifeq (tgt := 50) S dL_step_35 (by decide) (fun c_5 => ?_) (fun c_5 => ?_)
      · refine lv_iconst (v := (-1)) hx hb dL_step_50 (by decide) ?_
        refine va_iast hx hb hK hP hD hS 2 0 (f := (τ 2)) rfl rfl (vp_in_nI (n := ((4 * (δ n)) + 3)) (N := 40) (by omega) (by decide)) dL_step_51 (fun H locs hP hD hS => ?_)
        have hP : pG G (wQ G q (va_up τ 2 (upd (τ 2) (nI ((4 * (δ n)) + 3)).toNatClampNeg (-1)))) H := hP
        have hD : va_D A (wQ G q (va_up τ 2 (upd (τ 2) (nI ((4 * (δ n)) + 3)).toNatClampNeg (-1)))) := hD
        refine lv_aload hx hb dL_step_52 (lv_at hl 6 rfl) ?_
        refine lv_iconst (v := 4) hx hb dL_step_54 (by decide) ?_
        refine lv_iload hx hb dL_step_55 (lv_at hl 1 rfl) ?_
        refine lv_imul hx hb dL_step_57 ?_
        refine co_eq (show (4 : Int32) * (nI (δ n)) = (nI (4 * (δ n))) from pk_mul 4 (δ n)) ?_
        refine lv_iconst (v := 3) hx hb dL_step_58 (by decide) ?_
        refine lv_iadd hx hb dL_step_59 ?_
        refine co_eq (show (nI (4 * (δ n))) + (3 : Int32) = (nI ((4 * (δ n)) + 3)) from nI_add (4 * (δ n)) 3) ?_
        refine va_iald hx hb hK hP 2 0 rfl rfl (vp_in_nI (n := ((4 * (δ n)) + 3)) (N := 40) (by omega) (by decide)) dL_step_60 ?_
        refine co_eq (pk_us) ?_
        refine lv_if_ge (tgt := 68) hx hb dL_step_61 (by decide) (fun c_6 => ?_) (fun c_6 => ?_)
        · exact absurd c_6 (by decide)
        · refine lv_iconst (v := 0) hx hb dL_step_64 (by decide) ?_
          refine lv_goto (tgt := 69) hx hb dL_step_65 (by decide) ?_
          exact co_endI (va_up τ 2 (upd (τ 2) (nI ((4 * (δ n)) + 3)).toNatClampNeg (-1))) S hr hlocks dL_step_69 hK hP hD hS (by (obtain ⟨w1, w2⟩ := chB_f (σ := σ) hn0 (by rw [ej_2]; exact c_5); rw [w1, w2]; exact ⟨rfl, rq_pre hR hn0 d90 okP.m1 rfl⟩))
      · refine lv_aload hx hb dL_step_38 (lv_at hl 6 rfl) ?_
        refine lv_iconst (v := 4) hx hb dL_step_40 (by decide) ?_
        refine lv_iload hx hb dL_step_41 (lv_at hl 1 rfl) ?_
        refine lv_imul hx hb dL_step_43 ?_
        refine co_eq (show (4 : Int32) * (nI (δ n)) = (nI (4 * (δ n))) from pk_mul 4 (δ n)) ?_
        refine lv_iconst (v := 3) hx hb dL_step_44 (by decide) ?_
        refine lv_iadd hx hb dL_step_45 ?_
        refine co_eq (show (nI (4 * (δ n))) + (3 : Int32) = (nI ((4 * (δ n)) + 3)) from nI_add (4 * (δ n)) 3) ?_
        refine va_iald hx hb hK hP 2 0 rfl rfl (vp_in_nI (n := ((4 * (δ n)) + 3)) (N := 40) (by omega) (by decide)) dL_step_46 ?_
        refine co_eq mj_2 ?_
        refine lv_goto (tgt := 51) hx hb dL_step_47 (by decide) ?_
        refine va_iast hx hb hK hP hD hS 2 0 (f := (τ 2)) rfl rfl (vp_in_nI (n := ((4 * (δ n)) + 3)) (N := 40) (by omega) (by decide)) dL_step_51 (fun H locs hP hD hS => ?_)
        have hP : pG G (wQ G q (va_up τ 2 (upd (τ 2) (nI ((4 * (δ n)) + 3)).toNatClampNeg (nI j_2)))) H := hP
        have hD : va_D A (wQ G q (va_up τ 2 (upd (τ 2) (nI ((4 * (δ n)) + 3)).toNatClampNeg (nI j_2)))) := hD
        refine lv_aload hx hb dL_step_52 (lv_at hl 6 rfl) ?_
        refine lv_iconst (v := 4) hx hb dL_step_54 (by decide) ?_
        refine lv_iload hx hb dL_step_55 (lv_at hl 1 rfl) ?_
        refine lv_imul hx hb dL_step_57 ?_
        refine co_eq (show (4 : Int32) * (nI (δ n)) = (nI (4 * (δ n))) from pk_mul 4 (δ n)) ?_
        refine lv_iconst (v := 3) hx hb dL_step_58 (by decide) ?_
        refine lv_iadd hx hb dL_step_59 ?_
        refine co_eq (show (nI (4 * (δ n))) + (3 : Int32) = (nI ((4 * (δ n)) + 3)) from nI_add (4 * (δ n)) 3) ?_
        refine va_iald hx hb hK hP 2 0 rfl rfl (vp_in_nI (n := ((4 * (δ n)) + 3)) (N := 40) (by omega) (by decide)) dL_step_60 ?_
        refine co_eq (pk_us) ?_
        refine lv_if_ge (tgt := 68) hx hb dL_step_61 (by decide) (fun c_7 => ?_) (fun c_7 => ?_)
        · refine lv_iconst (v := 1) hx hb dL_step_68 (by decide) ?_
          exact co_endI (va_up τ 2 (upd (τ 2) (nI ((4 * (δ n)) + 3)).toNatClampNeg (nI j_2))) S hr hlocks dL_step_69 hK hP hD hS (by (obtain ⟨w1, w2⟩ := chB_t c_5 hj_2 ej_2; rw [w1, w2, va_upr mj_2]; exact ⟨rfl, hR⟩))
        · exact absurd (nI_pos' (by omega)) c_7

set_option maxHeartbeats 4000000 in
set_option maxRecDepth 100000 in
theorem c_L_step5 (l : Launch) (G : cG) (Z : Nat) (q ν δ κ : Nat → Nat) (σ τ : cS) (hR : Rq Z ν δ κ σ τ)(n : Nat) (hn : Lv σ n) : MetI l yL_step wsL_step rm_L_step G (wQ G q τ) [.int 5, .int (nI n), .ref (q 0), .ref (q 1), .ref (q 2), .ref (q 3), .ref (q 4)] (fun u : cS => wQ G q u) (fun r u => r = (tat 3 (msS σ (nI n) 1) (nI n) 0) ∧ Rq Z ν δ κ (msS σ (nI n)) u) := by
  refine co_bodyI (cc := cL_step) (maxL := 12) (ret := (some .int)) (by decide) rfl (Nat.le_of_ble_eq_true rfl) ?_
  intro p e s m args below meth c S hr hlocks hK A hA hP hD hS ls hl
  have S : CallFix p m c cL_step 12 s args wsL_step RL := S
  obtain ⟨hx, hb, hml, hown, hts⟩ := id S
  have hl : lv_has ls 12 [(0, .int 5), (1, .int (nI n)), (2, .ref (q 0)), (3, .ref (q 1)), (4, .ref (q 2)), (5, .ref (q 3)), (6, .ref (q 4))] := hl
  have hn0 : n < 64 := hn.1
  have d90 : δ n < 10 := Rq.d9 hR hn
  refine lv_aload_n hx hb dL_step_0 rfl (lv_at hl 2 rfl) ?_
  refine lv_iload_n hx hb dL_step_1 rfl (lv_at hl 1 rfl) ?_
  refine va_iald hx hb hK hP 0 0 rfl rfl (vp_in_nI (n := n) (N := 64) (by omega) (by decide)) dL_step_2 ?_
  refine co_eq (rq_d hR hn0 d90) ?_
  refine lv_istore (lv' := [(7, .int (nI (δ n))), (0, .int 5), (1, .int (nI n)), (2, .ref (q 0)), (3, .ref (q 1)), (4, .ref (q 2)), (5, .ref (q 3)), (6, .ref (q 4))]) hx hb dL_step_3 hl (by decide) rfl (fun ls hl => ?_)
  refine lv_iconst (v := 0) hx hb dL_step_5 (by decide) ?_
  refine lv_istore (lv' := [(8, .int 0), (7, .int (nI (δ n))), (0, .int 5), (1, .int (nI n)), (2, .ref (q 0)), (3, .ref (q 1)), (4, .ref (q 2)), (5, .ref (q 3)), (6, .ref (q 4))]) hx hb dL_step_6 hl (by decide) rfl (fun ls hl => ?_)
  refine lv_iload_n hx hb dL_step_8 rfl (lv_at hl 2 rfl) ?_
  refine lv_iconst (v := 4) hx hb dL_step_9 (by decide) ?_
  refine lv_icmp_ne (tgt := 70) hx hb dL_step_10 (by decide) (fun c_1 => ?_) (fun c_1 => ?_)
  · refine lv_iload_n hx hb dL_step_70 rfl (lv_at hl 2 rfl) ?_
    refine lv_iconst (v := 5) hx hb dL_step_71 (by decide) ?_
    refine lv_icmp_ne (tgt := 204) hx hb dL_step_72 (by decide) (fun c_2 => ?_) (fun c_2 => ?_)
    · exact absurd (by decide) c_2
    · refine lv_iload_n hx hb dL_step_75 rfl (lv_at hl 3 rfl) ?_
      refine lv_aload_n hx hb dL_step_76 rfl (lv_at hl 4 rfl) ?_
      refine lv_aload_n hx hb dL_step_77 rfl (lv_at hl 5 rfl) ?_
      refine lv_aload hx hb dL_step_78 (lv_at hl 6 rfl) ?_
      obtain ⟨j_3, ej_3, lj_3⟩ := Rq.ls hR hn
      have tj_3 : j_3 < 64 := lj_3.1
      refine co_rS (As := [.int (nI n), .ref (q 0), .ref (q 1), .ref (q 2)]) (rest := []) S (c_L_next l G Z q ν δ κ σ τ hR n hn) (va_cwS 4 hts gL_step_L_next rfl rfl rfl (by decide +kernel) ⟨Nat.le_of_ble_eq_true rfl, Nat.le_of_ble_eq_true rfl⟩) hK hP rfl hl.1 rfl (Nat.le_of_ble_eq_true rfl) dL_step_80 ⟨Nat.zero_le _, Nat.zero_le _⟩ ?_
      refine co_eq ej_3 ?_
      refine lv_istore (lv' := [(9, .int (nI j_3)), (8, .int 0), (7, .int (nI (δ n))), (0, .int 5), (1, .int (nI n)), (2, .ref (q 0)), (3, .ref (q 1)), (4, .ref (q 2)), (5, .ref (q 3)), (6, .ref (q 4))]) hx hb dL_step_83 hl (by decide) rfl (fun ls hl => ?_)
      refine lv_aload hx hb dL_step_85 (lv_at hl 7 rfl) ?_
      refine lv_iconst (v := 4) hx hb dL_step_87 (by decide) ?_
      refine lv_aload_n hx hb dL_step_88 rfl (lv_at hl 5 rfl) ?_
      refine lv_iload hx hb dL_step_89 (lv_at hl 0 rfl) ?_
      refine va_iald hx hb hK hP 0 0 rfl rfl (vp_in_nI (n := j_3) (N := 64) (by omega) (by decide)) dL_step_91 ?_
      have d9n_4 : δ j_3 < 10 := Rq.d9 hR lj_3
      refine co_eq (rq_d hR tj_3 d9n_4) ?_
      refine lv_imul hx hb dL_step_92 ?_
      refine co_eq (show (4 : Int32) * (nI (δ j_3)) = (nI (4 * (δ j_3))) from pk_mul 4 (δ j_3)) ?_
      refine lv_iconst (v := 3) hx hb dL_step_93 (by decide) ?_
      refine lv_iadd hx hb dL_step_94 ?_
      refine co_eq (show (nI (4 * (δ j_3))) + (3 : Int32) = (nI ((4 * (δ j_3)) + 3)) from nI_add (4 * (δ j_3)) 3) ?_
      refine va_iald hx hb hK hP 2 0 rfl rfl (vp_in_nI (n := ((4 * (δ j_3)) + 3)) (N := 40) (by omega) (by decide)) dL_step_95 ?_
      rcases rq_p hR lj_3 rfl (i := (4 * (δ j_3)) + 3) (by omega) with ⟨ej_5, mj_5⟩ | ⟨j_5, hj_5, ej_5, mj_5⟩
      · have ej_5 : tat 1 (σ 2) (nI j_3) 0 = (-1) := ej_5
        refine co_eq mj_5 ?_
        refine lv_istore (lv' := [(10, .int (-1)), (9, .int (nI j_3)), (8, .int 0), (7, .int (nI (δ n))), (0, .int 5), (1, .int (nI n)), (2, .ref (q 0)), (3, .ref (q 1)), (4, .ref (q 2)), (5, .ref (q 3)), (6, .ref (q 4))]) hx hb dL_step_96 hl (by decide) rfl (fun ls hl => ?_)
        refine lv_iload hx hb dL_step_98 (lv_at hl 0 rfl) ?_
        refine lv_aload_n hx hb dL_step_100 rfl (lv_at hl 6 rfl) ?_
        refine lv_aload_n hx hb dL_step_101 rfl (lv_at hl 7 rfl) ?_
        refine co_rS (As := [.int (-1), .ref (q 0), .ref (q 1)]) (rest := []) S (c_L_lives0 l G Z q ν δ κ σ τ hR) (va_cwS 3 hts gL_step_L_lives rfl rfl rfl (by decide +kernel) ⟨Nat.le_of_ble_eq_true rfl, Nat.le_of_ble_eq_true rfl⟩) hK hP rfl hl.1 rfl (Nat.le_of_ble_eq_true rfl) dL_step_102 ⟨Nat.zero_le _, Nat.zero_le _⟩ ?_
        refine co_eq (show bI false = 0 from rfl) ?_
        refine lv_if_eq (tgt := 131) hx hb dL_step_105 (by decide) (fun c_6 => ?_) (fun c_6 => ?_)
        · refine lv_iload hx hb dL_step_131 (lv_at hl 1 rfl) ?_
          refine lv_istore (lv' := [(9, .int (nI j_3)), (10, .int (-1)), (8, .int 0), (7, .int (nI (δ n))), (0, .int 5), (1, .int (nI n)), (2, .ref (q 0)), (3, .ref (q 1)), (4, .ref (q 2)), (5, .ref (q 3)), (6, .ref (q 4))]) hx hb dL_step_133 hl (by decide) rfl (fun ls hl => ?_)
          have hm9 : mdN σ (nI n) = nI j_3 := (by simp only [mdN, alv_m1, ej_3, ej_5, c_1, (eq_true c_2), (eq_true c_6), eq_self, Bool.false_eq_true, ↓reduceIte])
          refine lv_iload_n hx hb dL_step_135 rfl (lv_at hl 5 rfl) ?_
          refine lv_iload hx hb dL_step_136 (lv_at hl 0 rfl) ?_
          refine lv_aload_n hx hb dL_step_138 rfl (lv_at hl 6 rfl) ?_
          refine lv_aload hx hb dL_step_139 (lv_at hl 8 rfl) ?_
          refine co_mSv (As := [.int (nI n), .int (nI j_3), .ref (q 0), .ref (q 2)]) (rest := []) S (c_L_adopt l G Z q ν δ κ σ τ hR n j_3 hn lj_3) (va_cwS 4 hts gL_step_L_adopt rfl rfl rfl (by decide +kernel) ⟨Nat.le_of_ble_eq_true rfl, Nat.le_of_ble_eq_true rfl⟩) hK hP hD hS hA rfl hl.1 rfl (Nat.le_of_ble_eq_true rfl) dL_step_141 ⟨Nat.zero_le _, Nat.zero_le _⟩ (fun u_7 H locs hu_7 hP hD hS => ?_)
          have hq_7 := hu_7
          obtain ⟨σ_7, eσ_7⟩ : ∃ z9, z9 = (foS σ (nI n) (nI j_3)) := ⟨_, rfl⟩
          have hq_7 : Rq Z ν δ κ σ_7 u_7 := (by rw [eσ_7]; exact hq_7)
          have hc0_7 : σ_7 0 = (σ 0) := (by rw [eσ_7]; exact foS_0)
          have hc2_7 : σ_7 2 = (σ 2) := (by rw [eσ_7]; exact foS_2)
          have hc3_7 : σ_7 3 = (σ 3) := (by rw [eσ_7]; exact foS_3)
          have hP : pG G (wQ G q u_7) H := hP
          have hD : va_D A (wQ G q u_7) := hD
          refine lv_aload hx hb dL_step_144 (lv_at hl 8 rfl) ?_
          refine lv_iconst (v := 4) hx hb dL_step_146 (by decide) ?_
          refine lv_aload_n hx hb dL_step_147 rfl (lv_at hl 6 rfl) ?_
          refine lv_iload hx hb dL_step_148 (lv_at hl 0 rfl) ?_
          refine va_iald hx hb hK hP 0 0 rfl rfl (vp_in_nI (n := j_3) (N := 64) (by omega) (by decide)) dL_step_150 ?_
          refine co_eq (rq_d hq_7 tj_3 d9n_4) ?_
          refine lv_imul hx hb dL_step_151 ?_
          refine co_eq (show (4 : Int32) * (nI (δ j_3)) = (nI (4 * (δ j_3))) from pk_mul 4 (δ j_3)) ?_
          refine lv_iconst (v := 3) hx hb dL_step_152 (by decide) ?_
          refine lv_iadd hx hb dL_step_153 ?_
          refine co_eq (show (nI (4 * (δ j_3))) + (3 : Int32) = (nI ((4 * (δ j_3)) + 3)) from nI_add (4 * (δ j_3)) 3) ?_
          refine va_iald hx hb hK hP 2 0 rfl rfl (vp_in_nI (n := ((4 * (δ j_3)) + 3)) (N := 40) (by omega) (by decide)) dL_step_154 ?_
          have mj_8 : (u_7 2) (nI ((4 * (δ j_3)) + 3)).toNatClampNeg = (-1) := (rq_p1 hq_7 (Lv.tr hc0_7 lj_3) rfl (i := (4 * (δ j_3)) + 3) (by omega)).trans (by rw [hc2_7, ej_5])
          refine co_eq mj_8 ?_
          refine lv_istore (lv' := [(11, .int (-1)), (9, .int (nI j_3)), (10, .int (-1)), (8, .int 0), (7, .int (nI (δ n))), (0, .int 5), (1, .int (nI n)), (2, .ref (q 0)), (3, .ref (q 1)), (4, .ref (q 2)), (5, .ref (q 3)), (6, .ref (q 4))]) hx hb dL_step_155 hl (by decide) rfl (fun ls hl => ?_)
          refine lv_aload hx hb dL_step_157 (lv_at hl 9 rfl) ?_
          refine lv_iconst (v := 4) hx hb dL_step_159 (by decide) ?_
          refine lv_aload_n hx hb dL_step_160 rfl (lv_at hl 7 rfl) ?_
          refine lv_iload hx hb dL_step_161 (lv_at hl 1 rfl) ?_
          refine va_iald hx hb hK hP 0 0 rfl rfl (vp_in_nI (n := j_3) (N := 64) (by omega) (by decide)) dL_step_163 ?_
          refine co_eq (rq_d hq_7 tj_3 d9n_4) ?_
          refine lv_imul hx hb dL_step_164 ?_
          refine co_eq (show (4 : Int32) * (nI (δ j_3)) = (nI (4 * (δ j_3))) from pk_mul 4 (δ j_3)) ?_
          refine lv_iconst (v := 3) hx hb dL_step_165 (by decide) ?_
          refine lv_iadd hx hb dL_step_166 ?_
          refine co_eq (show (nI (4 * (δ j_3))) + (3 : Int32) = (nI ((4 * (δ j_3)) + 3)) from nI_add (4 * (δ j_3)) 3) ?_
          refine lv_iload hx hb dL_step_167 (lv_at hl 0 rfl) ?_
          refine lv_aload_n hx hb dL_step_169 rfl (lv_at hl 7 rfl) ?_
          refine lv_aload_n hx hb dL_step_170 rfl (lv_at hl 8 rfl) ?_
          refine co_rS (As := [.int (-1), .ref (q 0), .ref (q 1)]) (rest := [.int (nI ((4 * (δ j_3)) + 3)), .ref (q 2)]) S (c_L_lives0 l G Z q ν δ κ σ_7 u_7 hq_7) (va_cwS 3 hts gL_step_L_lives rfl rfl rfl (by decide +kernel) ⟨Nat.le_of_ble_eq_true rfl, Nat.le_of_ble_eq_true rfl⟩) hK hP rfl hl.1 rfl (Nat.le_of_ble_eq_true rfl) dL_step_171 ⟨Nat.zero_le _, Nat.zero_le _⟩ ?_
          refine co_eq (show bI false = 0 from rfl) ?_
          refine lv_if_eq (tgt := 194) hx hb dL_step_174 (by decide) (fun c_9 => ?_) (fun c_9 => ?_)
          · refine lv_iload_n hx hb dL_step_194 rfl (lv_at hl 6 rfl) ?_
            refine lv_goto (tgt := 200) hx hb dL_step_195 (by decide) ?_
            refine va_iast hx hb hK hP hD hS 2 0 (f := (u_7 2)) rfl rfl (vp_in_nI (n := ((4 * (δ j_3)) + 3)) (N := 40) (by omega) (by decide)) dL_step_200 (fun H locs hP hD hS => ?_)
            have hP : pG G (wQ G q (va_up u_7 2 (upd (u_7 2) (nI ((4 * (δ j_3)) + 3)).toNatClampNeg (nI n)))) H := hP
            have hD : va_D A (wQ G q (va_up u_7 2 (upd (u_7 2) (nI ((4 * (δ j_3)) + 3)).toNatClampNeg (nI n)))) := hD
            refine lv_iload hx hb dL_step_201 (lv_at hl 1 rfl) ?_
            exact co_endI (va_up u_7 2 (upd (u_7 2) (nI ((4 * (δ j_3)) + 3)).toNatClampNeg (nI n))) S hr hlocks dL_step_203 hK hP hD hS (by (refine ⟨(ms_r hn0 hm9).symm, ?_⟩; rw [ms_nt hm9 eσ_7, show ntS σ_7 (nI n) (nI j_3) = va_up σ_7 2 (tset 1 (σ_7 2) (nI j_3) 0 (nI n)) from by simp only [ntS, alv_m1, hc0_7, hc2_7, ej_3, ej_5, c_1, (eq_true c_2), (eq_true c_6), (eq_true c_9), eq_self, Bool.false_eq_true, ↓reduceIte]]; exact rq_pre hq_7 tj_3 d9n_4 (okP.nI hn0) rfl))
          · exact absurd (by decide) c_9
        · exact absurd (by decide) c_6
      · have ej_5 : tat 1 (σ 2) (nI j_3) 0 = (nI j_5) := ej_5
        refine co_eq mj_5 ?_
        refine lv_istore (lv' := [(10, .int (nI j_5)), (9, .int (nI j_3)), (8, .int 0), (7, .int (nI (δ n))), (0, .int 5), (1, .int (nI n)), (2, .ref (q 0)), (3, .ref (q 1)), (4, .ref (q 2)), (5, .ref (q 3)), (6, .ref (q 4))]) hx hb dL_step_96 hl (by decide) rfl (fun ls hl => ?_)
        refine lv_iload hx hb dL_step_98 (lv_at hl 0 rfl) ?_
        refine lv_aload_n hx hb dL_step_100 rfl (lv_at hl 6 rfl) ?_
        refine lv_aload_n hx hb dL_step_101 rfl (lv_at hl 7 rfl) ?_
        refine co_rS (As := [.int (nI j_5), .ref (q 0), .ref (q 1)]) (rest := []) S (c_L_lives l G Z q ν δ κ σ τ hR j_5 hj_5) (va_cwS 3 hts gL_step_L_lives rfl rfl rfl (by decide +kernel) ⟨Nat.le_of_ble_eq_true rfl, Nat.le_of_ble_eq_true rfl⟩) hK hP rfl hl.1 rfl (Nat.le_of_ble_eq_true rfl) dL_step_102 ⟨Nat.zero_le _, Nat.zero_le _⟩ ?_
        refine co_ifeq (tgt := 131) S dL_step_105 (by decide) (fun c_10 => ?_) (fun c_10 => ?_)
        · refine lv_iload hx hb dL_step_131 (lv_at hl 1 rfl) ?_
          refine lv_istore (lv' := [(9, .int (nI j_3)), (10, .int (nI j_5)), (8, .int 0), (7, .int (nI (δ n))), (0, .int 5), (1, .int (nI n)), (2, .ref (q 0)), (3, .ref (q 1)), (4, .ref (q 2)), (5, .ref (q 3)), (6, .ref (q 4))]) hx hb dL_step_133 hl (by decide) rfl (fun ls hl => ?_)
          have hm9 : mdN σ (nI n) = nI j_3 := (by simp only [mdN, alv_m1, ej_3, ej_5, c_1, (eq_true c_2), c_10, eq_self, Bool.false_eq_true, ↓reduceIte])
          refine lv_iload_n hx hb dL_step_135 rfl (lv_at hl 5 rfl) ?_
          refine lv_iload hx hb dL_step_136 (lv_at hl 0 rfl) ?_
          refine lv_aload_n hx hb dL_step_138 rfl (lv_at hl 6 rfl) ?_
          refine lv_aload hx hb dL_step_139 (lv_at hl 8 rfl) ?_
          refine co_mSv (As := [.int (nI n), .int (nI j_3), .ref (q 0), .ref (q 2)]) (rest := []) S (c_L_adopt l G Z q ν δ κ σ τ hR n j_3 hn lj_3) (va_cwS 4 hts gL_step_L_adopt rfl rfl rfl (by decide +kernel) ⟨Nat.le_of_ble_eq_true rfl, Nat.le_of_ble_eq_true rfl⟩) hK hP hD hS hA rfl hl.1 rfl (Nat.le_of_ble_eq_true rfl) dL_step_141 ⟨Nat.zero_le _, Nat.zero_le _⟩ (fun u_11 H locs hu_11 hP hD hS => ?_)
          have hq_11 := hu_11
          obtain ⟨σ_11, eσ_11⟩ : ∃ z9, z9 = (foS σ (nI n) (nI j_3)) := ⟨_, rfl⟩
          have hq_11 : Rq Z ν δ κ σ_11 u_11 := (by rw [eσ_11]; exact hq_11)
          have hc0_11 : σ_11 0 = (σ 0) := (by rw [eσ_11]; exact foS_0)
          have hc2_11 : σ_11 2 = (σ 2) := (by rw [eσ_11]; exact foS_2)
          have hc3_11 : σ_11 3 = (σ 3) := (by rw [eσ_11]; exact foS_3)
          have hP : pG G (wQ G q u_11) H := hP
          have hD : va_D A (wQ G q u_11) := hD
          refine lv_aload hx hb dL_step_144 (lv_at hl 8 rfl) ?_
          refine lv_iconst (v := 4) hx hb dL_step_146 (by decide) ?_
          refine lv_aload_n hx hb dL_step_147 rfl (lv_at hl 6 rfl) ?_
          refine lv_iload hx hb dL_step_148 (lv_at hl 0 rfl) ?_
          refine va_iald hx hb hK hP 0 0 rfl rfl (vp_in_nI (n := j_3) (N := 64) (by omega) (by decide)) dL_step_150 ?_
          refine co_eq (rq_d hq_11 tj_3 d9n_4) ?_
          refine lv_imul hx hb dL_step_151 ?_
          refine co_eq (show (4 : Int32) * (nI (δ j_3)) = (nI (4 * (δ j_3))) from pk_mul 4 (δ j_3)) ?_
          refine lv_iconst (v := 3) hx hb dL_step_152 (by decide) ?_
          refine lv_iadd hx hb dL_step_153 ?_
          refine co_eq (show (nI (4 * (δ j_3))) + (3 : Int32) = (nI ((4 * (δ j_3)) + 3)) from nI_add (4 * (δ j_3)) 3) ?_
          refine va_iald hx hb hK hP 2 0 rfl rfl (vp_in_nI (n := ((4 * (δ j_3)) + 3)) (N := 40) (by omega) (by decide)) dL_step_154 ?_
          have mj_12 : (u_11 2) (nI ((4 * (δ j_3)) + 3)).toNatClampNeg = (nI j_5) := (rq_p1 hq_11 (Lv.tr hc0_11 lj_3) rfl (i := (4 * (δ j_3)) + 3) (by omega)).trans (by rw [hc2_11, ej_5])
          refine co_eq mj_12 ?_
          refine lv_istore (lv' := [(11, .int (nI j_5)), (9, .int (nI j_3)), (10, .int (nI j_5)), (8, .int 0), (7, .int (nI (δ n))), (0, .int 5), (1, .int (nI n)), (2, .ref (q 0)), (3, .ref (q 1)), (4, .ref (q 2)), (5, .ref (q 3)), (6, .ref (q 4))]) hx hb dL_step_155 hl (by decide) rfl (fun ls hl => ?_)
          refine lv_aload hx hb dL_step_157 (lv_at hl 9 rfl) ?_
          refine lv_iconst (v := 4) hx hb dL_step_159 (by decide) ?_
          refine lv_aload_n hx hb dL_step_160 rfl (lv_at hl 7 rfl) ?_
          refine lv_iload hx hb dL_step_161 (lv_at hl 1 rfl) ?_
          refine va_iald hx hb hK hP 0 0 rfl rfl (vp_in_nI (n := j_3) (N := 64) (by omega) (by decide)) dL_step_163 ?_
          refine co_eq (rq_d hq_11 tj_3 d9n_4) ?_
          refine lv_imul hx hb dL_step_164 ?_
          refine co_eq (show (4 : Int32) * (nI (δ j_3)) = (nI (4 * (δ j_3))) from pk_mul 4 (δ j_3)) ?_
          refine lv_iconst (v := 3) hx hb dL_step_165 (by decide) ?_
          refine lv_iadd hx hb dL_step_166 ?_
          refine co_eq (show (nI (4 * (δ j_3))) + (3 : Int32) = (nI ((4 * (δ j_3)) + 3)) from nI_add (4 * (δ j_3)) 3) ?_
          refine lv_iload hx hb dL_step_167 (lv_at hl 0 rfl) ?_
          refine lv_aload_n hx hb dL_step_169 rfl (lv_at hl 7 rfl) ?_
          refine lv_aload_n hx hb dL_step_170 rfl (lv_at hl 8 rfl) ?_
          refine co_rS (As := [.int (nI j_5), .ref (q 0), .ref (q 1)]) (rest := [.int (nI ((4 * (δ j_3)) + 3)), .ref (q 2)]) S (c_L_lives l G Z q ν δ κ σ_11 u_11 hq_11 j_5 hj_5) (va_cwS 3 hts gL_step_L_lives rfl rfl rfl (by decide +kernel) ⟨Nat.le_of_ble_eq_true rfl, Nat.le_of_ble_eq_true rfl⟩) hK hP rfl hl.1 rfl (Nat.le_of_ble_eq_true rfl) dL_step_171 ⟨Nat.zero_le _, Nat.zero_le _⟩ ?_
          refine co_eq (show bI (alv (σ_11 0) (nI j_5)) = bI (alv (σ 0) (nI j_5)) by rw [hc0_11]) ?_
          refine co_ifeq (tgt := 194) S dL_step_174 (by decide) (fun c_13 => ?_) (fun c_13 => ?_)
          · refine lv_iload_n hx hb dL_step_194 rfl (lv_at hl 6 rfl) ?_
            refine lv_goto (tgt := 200) hx hb dL_step_195 (by decide) ?_
            refine va_iast hx hb hK hP hD hS 2 0 (f := (u_11 2)) rfl rfl (vp_in_nI (n := ((4 * (δ j_3)) + 3)) (N := 40) (by omega) (by decide)) dL_step_200 (fun H locs hP hD hS => ?_)
            have hP : pG G (wQ G q (va_up u_11 2 (upd (u_11 2) (nI ((4 * (δ j_3)) + 3)).toNatClampNeg (nI n)))) H := hP
            have hD : va_D A (wQ G q (va_up u_11 2 (upd (u_11 2) (nI ((4 * (δ j_3)) + 3)).toNatClampNeg (nI n)))) := hD
            refine lv_iload hx hb dL_step_201 (lv_at hl 1 rfl) ?_
            exact co_endI (va_up u_11 2 (upd (u_11 2) (nI ((4 * (δ j_3)) + 3)).toNatClampNeg (nI n))) S hr hlocks dL_step_203 hK hP hD hS (by (refine ⟨(ms_r hn0 hm9).symm, ?_⟩; rw [ms_nt hm9 eσ_11, show ntS σ_11 (nI n) (nI j_3) = va_up σ_11 2 (tset 1 (σ_11 2) (nI j_3) 0 (nI n)) from by simp only [ntS, alv_m1, hc0_11, hc2_11, ej_3, ej_5, c_1, (eq_true c_2), c_10, c_13, eq_self, Bool.false_eq_true, ↓reduceIte]]; exact rq_pre hq_11 tj_3 d9n_4 (okP.nI hn0) rfl))
          · exact absurd (c_13.symm.trans c_10) (by decide)
        · refine lv_iload hx hb dL_step_108 (lv_at hl 0 rfl) ?_
          refine lv_iload hx hb dL_step_110 (lv_at hl 1 rfl) ?_
          refine lv_icmp_eq (tgt := 131) hx hb dL_step_112 (by decide) (fun c_14 => ?_) (fun c_14 => ?_)
          · refine lv_iload hx hb dL_step_131 (lv_at hl 1 rfl) ?_
            refine lv_istore (lv' := [(9, .int (nI j_3)), (10, .int (nI j_5)), (8, .int 0), (7, .int (nI (δ n))), (0, .int 5), (1, .int (nI n)), (2, .ref (q 0)), (3, .ref (q 1)), (4, .ref (q 2)), (5, .ref (q 3)), (6, .ref (q 4))]) hx hb dL_step_133 hl (by decide) rfl (fun ls hl => ?_)
            have hm9 : mdN σ (nI n) = nI j_3 := (by simp only [mdN, alv_m1, ej_3, ej_5, c_1, (eq_true c_2), c_10, (eq_true c_14), (bt_eq hj_5 hn0 tj_3 c_14), eq_self, Bool.false_eq_true, ↓reduceIte])
            refine lv_iload_n hx hb dL_step_135 rfl (lv_at hl 5 rfl) ?_
            refine lv_iload hx hb dL_step_136 (lv_at hl 0 rfl) ?_
            refine lv_aload_n hx hb dL_step_138 rfl (lv_at hl 6 rfl) ?_
            refine lv_aload hx hb dL_step_139 (lv_at hl 8 rfl) ?_
            refine co_mSv (As := [.int (nI n), .int (nI j_3), .ref (q 0), .ref (q 2)]) (rest := []) S (c_L_adopt l G Z q ν δ κ σ τ hR n j_3 hn lj_3) (va_cwS 4 hts gL_step_L_adopt rfl rfl rfl (by decide +kernel) ⟨Nat.le_of_ble_eq_true rfl, Nat.le_of_ble_eq_true rfl⟩) hK hP hD hS hA rfl hl.1 rfl (Nat.le_of_ble_eq_true rfl) dL_step_141 ⟨Nat.zero_le _, Nat.zero_le _⟩ (fun u_15 H locs hu_15 hP hD hS => ?_)
            have hq_15 := hu_15
            obtain ⟨σ_15, eσ_15⟩ : ∃ z9, z9 = (foS σ (nI n) (nI j_3)) := ⟨_, rfl⟩
            have hq_15 : Rq Z ν δ κ σ_15 u_15 := (by rw [eσ_15]; exact hq_15)
            have hc0_15 : σ_15 0 = (σ 0) := (by rw [eσ_15]; exact foS_0)
            have hc2_15 : σ_15 2 = (σ 2) := (by rw [eσ_15]; exact foS_2)
            have hc3_15 : σ_15 3 = (σ 3) := (by rw [eσ_15]; exact foS_3)
            have hP : pG G (wQ G q u_15) H := hP
            have hD : va_D A (wQ G q u_15) := hD
            refine lv_aload hx hb dL_step_144 (lv_at hl 8 rfl) ?_
            refine lv_iconst (v := 4) hx hb dL_step_146 (by decide) ?_
            refine lv_aload_n hx hb dL_step_147 rfl (lv_at hl 6 rfl) ?_
            refine lv_iload hx hb dL_step_148 (lv_at hl 0 rfl) ?_
            refine va_iald hx hb hK hP 0 0 rfl rfl (vp_in_nI (n := j_3) (N := 64) (by omega) (by decide)) dL_step_150 ?_
            refine co_eq (rq_d hq_15 tj_3 d9n_4) ?_
            refine lv_imul hx hb dL_step_151 ?_
            refine co_eq (show (4 : Int32) * (nI (δ j_3)) = (nI (4 * (δ j_3))) from pk_mul 4 (δ j_3)) ?_
            refine lv_iconst (v := 3) hx hb dL_step_152 (by decide) ?_
            refine lv_iadd hx hb dL_step_153 ?_
            refine co_eq (show (nI (4 * (δ j_3))) + (3 : Int32) = (nI ((4 * (δ j_3)) + 3)) from nI_add (4 * (δ j_3)) 3) ?_
            refine va_iald hx hb hK hP 2 0 rfl rfl (vp_in_nI (n := ((4 * (δ j_3)) + 3)) (N := 40) (by omega) (by decide)) dL_step_154 ?_
            have mj_16 : (u_15 2) (nI ((4 * (δ j_3)) + 3)).toNatClampNeg = (nI j_5) := (rq_p1 hq_15 (Lv.tr hc0_15 lj_3) rfl (i := (4 * (δ j_3)) + 3) (by omega)).trans (by rw [hc2_15, ej_5])
            refine co_eq mj_16 ?_
            refine lv_istore (lv' := [(11, .int (nI j_5)), (9, .int (nI j_3)), (10, .int (nI j_5)), (8, .int 0), (7, .int (nI (δ n))), (0, .int 5), (1, .int (nI n)), (2, .ref (q 0)), (3, .ref (q 1)), (4, .ref (q 2)), (5, .ref (q 3)), (6, .ref (q 4))]) hx hb dL_step_155 hl (by decide) rfl (fun ls hl => ?_)
            refine lv_aload hx hb dL_step_157 (lv_at hl 9 rfl) ?_
            refine lv_iconst (v := 4) hx hb dL_step_159 (by decide) ?_
            refine lv_aload_n hx hb dL_step_160 rfl (lv_at hl 7 rfl) ?_
            refine lv_iload hx hb dL_step_161 (lv_at hl 1 rfl) ?_
            refine va_iald hx hb hK hP 0 0 rfl rfl (vp_in_nI (n := j_3) (N := 64) (by omega) (by decide)) dL_step_163 ?_
            refine co_eq (rq_d hq_15 tj_3 d9n_4) ?_
            refine lv_imul hx hb dL_step_164 ?_
            refine co_eq (show (4 : Int32) * (nI (δ j_3)) = (nI (4 * (δ j_3))) from pk_mul 4 (δ j_3)) ?_
            refine lv_iconst (v := 3) hx hb dL_step_165 (by decide) ?_
            refine lv_iadd hx hb dL_step_166 ?_
            refine co_eq (show (nI (4 * (δ j_3))) + (3 : Int32) = (nI ((4 * (δ j_3)) + 3)) from nI_add (4 * (δ j_3)) 3) ?_
            refine lv_iload hx hb dL_step_167 (lv_at hl 0 rfl) ?_
            refine lv_aload_n hx hb dL_step_169 rfl (lv_at hl 7 rfl) ?_
            refine lv_aload_n hx hb dL_step_170 rfl (lv_at hl 8 rfl) ?_
            refine co_rS (As := [.int (nI j_5), .ref (q 0), .ref (q 1)]) (rest := [.int (nI ((4 * (δ j_3)) + 3)), .ref (q 2)]) S (c_L_lives l G Z q ν δ κ σ_15 u_15 hq_15 j_5 hj_5) (va_cwS 3 hts gL_step_L_lives rfl rfl rfl (by decide +kernel) ⟨Nat.le_of_ble_eq_true rfl, Nat.le_of_ble_eq_true rfl⟩) hK hP rfl hl.1 rfl (Nat.le_of_ble_eq_true rfl) dL_step_171 ⟨Nat.zero_le _, Nat.zero_le _⟩ ?_
            refine co_eq (show bI (alv (σ_15 0) (nI j_5)) = bI (alv (σ 0) (nI j_5)) by rw [hc0_15]) ?_
            refine co_ifeq (tgt := 194) S dL_step_174 (by decide) (fun c_17 => ?_) (fun c_17 => ?_)
            · exact absurd (c_17.symm.trans c_10) (by decide)
            · refine lv_iload_n hx hb dL_step_177 rfl (lv_at hl 6 rfl) ?_
              refine lv_iload hx hb dL_step_178 (lv_at hl 1 rfl) ?_
              refine lv_icmp_eq (tgt := 198) hx hb dL_step_180 (by decide) (fun c_18 => ?_) (fun c_18 => ?_)
              · refine lv_iload hx hb dL_step_198 (lv_at hl 0 rfl) ?_
                refine va_iast hx hb hK hP hD hS 2 0 (f := (u_15 2)) rfl rfl (vp_in_nI (n := ((4 * (δ j_3)) + 3)) (N := 40) (by omega) (by decide)) dL_step_200 (fun H locs hP hD hS => ?_)
                have hP : pG G (wQ G q (va_up u_15 2 (upd (u_15 2) (nI ((4 * (δ j_3)) + 3)).toNatClampNeg (nI j_5)))) H := hP
                have hD : va_D A (wQ G q (va_up u_15 2 (upd (u_15 2) (nI ((4 * (δ j_3)) + 3)).toNatClampNeg (nI j_5)))) := hD
                refine lv_iload hx hb dL_step_201 (lv_at hl 1 rfl) ?_
                exact co_endI (va_up u_15 2 (upd (u_15 2) (nI ((4 * (δ j_3)) + 3)).toNatClampNeg (nI j_5))) S hr hlocks dL_step_203 hK hP hD hS (by (refine ⟨(ms_r hn0 hm9).symm, ?_⟩; rw [ms_nt hm9 eσ_15, show ntS σ_15 (nI n) (nI j_3) = σ_15 from by simp only [ntS, alv_m1, hc0_15, hc2_15, ej_3, ej_5, c_1, (eq_true c_2), c_10, (eq_true c_14), c_17, (eq_true c_18), (bt_eq hn0 hj_5 tj_3 c_18), eq_self, Bool.false_eq_true, ↓reduceIte], va_upr mj_16]; exact hq_15))
              · refine lv_iload_n hx hb dL_step_183 rfl (lv_at hl 6 rfl) ?_
                refine lv_iload hx hb dL_step_184 (lv_at hl 0 rfl) ?_
                refine lv_iload hx hb dL_step_186 (lv_at hl 1 rfl) ?_
                refine co_rS (As := [.int (nI n), .int (nI j_5), .int (nI j_3)]) (rest := [.int (nI ((4 * (δ j_3)) + 3)), .ref (q 2)]) S (c_L_isIn l G n j_5 j_3 hn0 hj_5 tj_3) (va_cwS 3 hts gL_step_L_isIn rfl rfl rfl (by decide +kernel) ⟨Nat.le_of_ble_eq_true rfl, Nat.le_of_ble_eq_true rfl⟩) hK (pG_nil) rfl hl.1 rfl (Nat.le_of_ble_eq_true rfl) dL_step_188 ⟨Nat.zero_le _, Nat.zero_le _⟩ ?_
                refine co_ifeq (tgt := 198) S dL_step_191 (by decide) (fun c_19 => ?_) (fun c_19 => ?_)
                · refine lv_iload hx hb dL_step_198 (lv_at hl 0 rfl) ?_
                  refine va_iast hx hb hK hP hD hS 2 0 (f := (u_15 2)) rfl rfl (vp_in_nI (n := ((4 * (δ j_3)) + 3)) (N := 40) (by omega) (by decide)) dL_step_200 (fun H locs hP hD hS => ?_)
                  have hP : pG G (wQ G q (va_up u_15 2 (upd (u_15 2) (nI ((4 * (δ j_3)) + 3)).toNatClampNeg (nI j_5)))) H := hP
                  have hD : va_D A (wQ G q (va_up u_15 2 (upd (u_15 2) (nI ((4 * (δ j_3)) + 3)).toNatClampNeg (nI j_5)))) := hD
                  refine lv_iload hx hb dL_step_201 (lv_at hl 1 rfl) ?_
                  exact co_endI (va_up u_15 2 (upd (u_15 2) (nI ((4 * (δ j_3)) + 3)).toNatClampNeg (nI j_5))) S hr hlocks dL_step_203 hK hP hD hS (by (refine ⟨(ms_r hn0 hm9).symm, ?_⟩; rw [ms_nt hm9 eσ_15, show ntS σ_15 (nI n) (nI j_3) = σ_15 from by simp only [ntS, alv_m1, hc0_15, hc2_15, ej_3, ej_5, c_1, (eq_true c_2), c_10, (eq_true c_14), c_17, c_18, c_19, (bt_f hn0 hj_5 tj_3 c_19), eq_self, Bool.false_eq_true, ↓reduceIte], va_upr mj_16]; exact hq_15))
                · refine lv_iload_n hx hb dL_step_194 rfl (lv_at hl 6 rfl) ?_
                  refine lv_goto (tgt := 200) hx hb dL_step_195 (by decide) ?_
                  refine va_iast hx hb hK hP hD hS 2 0 (f := (u_15 2)) rfl rfl (vp_in_nI (n := ((4 * (δ j_3)) + 3)) (N := 40) (by omega) (by decide)) dL_step_200 (fun H locs hP hD hS => ?_)
                  have hP : pG G (wQ G q (va_up u_15 2 (upd (u_15 2) (nI ((4 * (δ j_3)) + 3)).toNatClampNeg (nI n)))) H := hP
                  have hD : va_D A (wQ G q (va_up u_15 2 (upd (u_15 2) (nI ((4 * (δ j_3)) + 3)).toNatClampNeg (nI n)))) := hD
                  refine lv_iload hx hb dL_step_201 (lv_at hl 1 rfl) ?_
                  exact co_endI (va_up u_15 2 (upd (u_15 2) (nI ((4 * (δ j_3)) + 3)).toNatClampNeg (nI n))) S hr hlocks dL_step_203 hK hP hD hS (by (refine ⟨(ms_r hn0 hm9).symm, ?_⟩; rw [ms_nt hm9 eσ_15, show ntS σ_15 (nI n) (nI j_3) = va_up σ_15 2 (tset 1 (σ_15 2) (nI j_3) 0 (nI n)) from by simp only [ntS, alv_m1, hc0_15, hc2_15, ej_3, ej_5, c_1, (eq_true c_2), c_10, (eq_true c_14), c_17, c_18, c_19, (bt_t hn0 hj_5 tj_3 c_18 c_19), eq_self, Bool.false_eq_true, ↓reduceIte]]; exact rq_pre hq_15 tj_3 d9n_4 (okP.nI hn0) rfl))
          · refine lv_iload hx hb dL_step_115 (lv_at hl 0 rfl) ?_
            refine lv_iload_n hx hb dL_step_117 rfl (lv_at hl 5 rfl) ?_
            refine lv_iload hx hb dL_step_118 (lv_at hl 1 rfl) ?_
            refine co_rS (As := [.int (nI j_5), .int (nI n), .int (nI j_3)]) (rest := []) S (c_L_isIn l G j_5 n j_3 hj_5 hn0 tj_3) (va_cwS 3 hts gL_step_L_isIn rfl rfl rfl (by decide +kernel) ⟨Nat.le_of_ble_eq_true rfl, Nat.le_of_ble_eq_true rfl⟩) hK (pG_nil) rfl hl.1 rfl (Nat.le_of_ble_eq_true rfl) dL_step_120 ⟨Nat.zero_le _, Nat.zero_le _⟩ ?_
            refine co_ifeq (tgt := 131) S dL_step_123 (by decide) (fun c_20 => ?_) (fun c_20 => ?_)
            · refine lv_iload hx hb dL_step_131 (lv_at hl 1 rfl) ?_
              refine lv_istore (lv' := [(9, .int (nI j_3)), (10, .int (nI j_5)), (8, .int 0), (7, .int (nI (δ n))), (0, .int 5), (1, .int (nI n)), (2, .ref (q 0)), (3, .ref (q 1)), (4, .ref (q 2)), (5, .ref (q 3)), (6, .ref (q 4))]) hx hb dL_step_133 hl (by decide) rfl (fun ls hl => ?_)
              have hm9 : mdN σ (nI n) = nI j_3 := (by simp only [mdN, alv_m1, ej_3, ej_5, c_1, (eq_true c_2), c_10, c_14, c_20, (bt_f hj_5 hn0 tj_3 c_20), eq_self, Bool.false_eq_true, ↓reduceIte])
              refine lv_iload_n hx hb dL_step_135 rfl (lv_at hl 5 rfl) ?_
              refine lv_iload hx hb dL_step_136 (lv_at hl 0 rfl) ?_
              refine lv_aload_n hx hb dL_step_138 rfl (lv_at hl 6 rfl) ?_
              refine lv_aload hx hb dL_step_139 (lv_at hl 8 rfl) ?_
              refine co_mSv (As := [.int (nI n), .int (nI j_3), .ref (q 0), .ref (q 2)]) (rest := []) S (c_L_adopt l G Z q ν δ κ σ τ hR n j_3 hn lj_3) (va_cwS 4 hts gL_step_L_adopt rfl rfl rfl (by decide +kernel) ⟨Nat.le_of_ble_eq_true rfl, Nat.le_of_ble_eq_true rfl⟩) hK hP hD hS hA rfl hl.1 rfl (Nat.le_of_ble_eq_true rfl) dL_step_141 ⟨Nat.zero_le _, Nat.zero_le _⟩ (fun u_21 H locs hu_21 hP hD hS => ?_)
              have hq_21 := hu_21
              obtain ⟨σ_21, eσ_21⟩ : ∃ z9, z9 = (foS σ (nI n) (nI j_3)) := ⟨_, rfl⟩
              have hq_21 : Rq Z ν δ κ σ_21 u_21 := (by rw [eσ_21]; exact hq_21)
              have hc0_21 : σ_21 0 = (σ 0) := (by rw [eσ_21]; exact foS_0)
              have hc2_21 : σ_21 2 = (σ 2) := (by rw [eσ_21]; exact foS_2)
              have hc3_21 : σ_21 3 = (σ 3) := (by rw [eσ_21]; exact foS_3)
              have hP : pG G (wQ G q u_21) H := hP
              have hD : va_D A (wQ G q u_21) := hD
              refine lv_aload hx hb dL_step_144 (lv_at hl 8 rfl) ?_
              refine lv_iconst (v := 4) hx hb dL_step_146 (by decide) ?_
              refine lv_aload_n hx hb dL_step_147 rfl (lv_at hl 6 rfl) ?_
              refine lv_iload hx hb dL_step_148 (lv_at hl 0 rfl) ?_
              refine va_iald hx hb hK hP 0 0 rfl rfl (vp_in_nI (n := j_3) (N := 64) (by omega) (by decide)) dL_step_150 ?_
              refine co_eq (rq_d hq_21 tj_3 d9n_4) ?_
              refine lv_imul hx hb dL_step_151 ?_
              refine co_eq (show (4 : Int32) * (nI (δ j_3)) = (nI (4 * (δ j_3))) from pk_mul 4 (δ j_3)) ?_
              refine lv_iconst (v := 3) hx hb dL_step_152 (by decide) ?_
              refine lv_iadd hx hb dL_step_153 ?_
              refine co_eq (show (nI (4 * (δ j_3))) + (3 : Int32) = (nI ((4 * (δ j_3)) + 3)) from nI_add (4 * (δ j_3)) 3) ?_
              refine va_iald hx hb hK hP 2 0 rfl rfl (vp_in_nI (n := ((4 * (δ j_3)) + 3)) (N := 40) (by omega) (by decide)) dL_step_154 ?_
              have mj_22 : (u_21 2) (nI ((4 * (δ j_3)) + 3)).toNatClampNeg = (nI j_5) := (rq_p1 hq_21 (Lv.tr hc0_21 lj_3) rfl (i := (4 * (δ j_3)) + 3) (by omega)).trans (by rw [hc2_21, ej_5])
              refine co_eq mj_22 ?_
              refine lv_istore (lv' := [(11, .int (nI j_5)), (9, .int (nI j_3)), (10, .int (nI j_5)), (8, .int 0), (7, .int (nI (δ n))), (0, .int 5), (1, .int (nI n)), (2, .ref (q 0)), (3, .ref (q 1)), (4, .ref (q 2)), (5, .ref (q 3)), (6, .ref (q 4))]) hx hb dL_step_155 hl (by decide) rfl (fun ls hl => ?_)
              refine lv_aload hx hb dL_step_157 (lv_at hl 9 rfl) ?_
              refine lv_iconst (v := 4) hx hb dL_step_159 (by decide) ?_
              refine lv_aload_n hx hb dL_step_160 rfl (lv_at hl 7 rfl) ?_
              refine lv_iload hx hb dL_step_161 (lv_at hl 1 rfl) ?_
              refine va_iald hx hb hK hP 0 0 rfl rfl (vp_in_nI (n := j_3) (N := 64) (by omega) (by decide)) dL_step_163 ?_
              refine co_eq (rq_d hq_21 tj_3 d9n_4) ?_
              refine lv_imul hx hb dL_step_164 ?_
              refine co_eq (show (4 : Int32) * (nI (δ j_3)) = (nI (4 * (δ j_3))) from pk_mul 4 (δ j_3)) ?_
              refine lv_iconst (v := 3) hx hb dL_step_165 (by decide) ?_
              refine lv_iadd hx hb dL_step_166 ?_
              refine co_eq (show (nI (4 * (δ j_3))) + (3 : Int32) = (nI ((4 * (δ j_3)) + 3)) from nI_add (4 * (δ j_3)) 3) ?_
              refine lv_iload hx hb dL_step_167 (lv_at hl 0 rfl) ?_
              refine lv_aload_n hx hb dL_step_169 rfl (lv_at hl 7 rfl) ?_
              refine lv_aload_n hx hb dL_step_170 rfl (lv_at hl 8 rfl) ?_
              refine co_rS (As := [.int (nI j_5), .ref (q 0), .ref (q 1)]) (rest := [.int (nI ((4 * (δ j_3)) + 3)), .ref (q 2)]) S (c_L_lives l G Z q ν δ κ σ_21 u_21 hq_21 j_5 hj_5) (va_cwS 3 hts gL_step_L_lives rfl rfl rfl (by decide +kernel) ⟨Nat.le_of_ble_eq_true rfl, Nat.le_of_ble_eq_true rfl⟩) hK hP rfl hl.1 rfl (Nat.le_of_ble_eq_true rfl) dL_step_171 ⟨Nat.zero_le _, Nat.zero_le _⟩ ?_
              refine co_eq (show bI (alv (σ_21 0) (nI j_5)) = bI (alv (σ 0) (nI j_5)) by rw [hc0_21]) ?_
              refine co_ifeq (tgt := 194) S dL_step_174 (by decide) (fun c_23 => ?_) (fun c_23 => ?_)
              · exact absurd (c_23.symm.trans c_10) (by decide)
              · refine lv_iload_n hx hb dL_step_177 rfl (lv_at hl 6 rfl) ?_
                refine lv_iload hx hb dL_step_178 (lv_at hl 1 rfl) ?_
                refine lv_icmp_eq (tgt := 198) hx hb dL_step_180 (by decide) (fun c_24 => ?_) (fun c_24 => ?_)
                · refine lv_iload hx hb dL_step_198 (lv_at hl 0 rfl) ?_
                  refine va_iast hx hb hK hP hD hS 2 0 (f := (u_21 2)) rfl rfl (vp_in_nI (n := ((4 * (δ j_3)) + 3)) (N := 40) (by omega) (by decide)) dL_step_200 (fun H locs hP hD hS => ?_)
                  have hP : pG G (wQ G q (va_up u_21 2 (upd (u_21 2) (nI ((4 * (δ j_3)) + 3)).toNatClampNeg (nI j_5)))) H := hP
                  have hD : va_D A (wQ G q (va_up u_21 2 (upd (u_21 2) (nI ((4 * (δ j_3)) + 3)).toNatClampNeg (nI j_5)))) := hD
                  refine lv_iload hx hb dL_step_201 (lv_at hl 1 rfl) ?_
                  exact co_endI (va_up u_21 2 (upd (u_21 2) (nI ((4 * (δ j_3)) + 3)).toNatClampNeg (nI j_5))) S hr hlocks dL_step_203 hK hP hD hS (by (refine ⟨(ms_r hn0 hm9).symm, ?_⟩; rw [ms_nt hm9 eσ_21, show ntS σ_21 (nI n) (nI j_3) = σ_21 from by simp only [ntS, alv_m1, hc0_21, hc2_21, ej_3, ej_5, c_1, (eq_true c_2), c_10, c_14, c_20, c_23, (eq_true c_24), (bt_eq hn0 hj_5 tj_3 c_24), eq_self, Bool.false_eq_true, ↓reduceIte], va_upr mj_22]; exact hq_21))
                · refine lv_iload_n hx hb dL_step_183 rfl (lv_at hl 6 rfl) ?_
                  refine lv_iload hx hb dL_step_184 (lv_at hl 0 rfl) ?_
                  refine lv_iload hx hb dL_step_186 (lv_at hl 1 rfl) ?_
                  refine co_rS (As := [.int (nI n), .int (nI j_5), .int (nI j_3)]) (rest := [.int (nI ((4 * (δ j_3)) + 3)), .ref (q 2)]) S (c_L_isIn l G n j_5 j_3 hn0 hj_5 tj_3) (va_cwS 3 hts gL_step_L_isIn rfl rfl rfl (by decide +kernel) ⟨Nat.le_of_ble_eq_true rfl, Nat.le_of_ble_eq_true rfl⟩) hK (pG_nil) rfl hl.1 rfl (Nat.le_of_ble_eq_true rfl) dL_step_188 ⟨Nat.zero_le _, Nat.zero_le _⟩ ?_
                  refine co_ifeq (tgt := 198) S dL_step_191 (by decide) (fun c_25 => ?_) (fun c_25 => ?_)
                  · refine lv_iload hx hb dL_step_198 (lv_at hl 0 rfl) ?_
                    refine va_iast hx hb hK hP hD hS 2 0 (f := (u_21 2)) rfl rfl (vp_in_nI (n := ((4 * (δ j_3)) + 3)) (N := 40) (by omega) (by decide)) dL_step_200 (fun H locs hP hD hS => ?_)
                    have hP : pG G (wQ G q (va_up u_21 2 (upd (u_21 2) (nI ((4 * (δ j_3)) + 3)).toNatClampNeg (nI j_5)))) H := hP
                    have hD : va_D A (wQ G q (va_up u_21 2 (upd (u_21 2) (nI ((4 * (δ j_3)) + 3)).toNatClampNeg (nI j_5)))) := hD
                    refine lv_iload hx hb dL_step_201 (lv_at hl 1 rfl) ?_
                    exact co_endI (va_up u_21 2 (upd (u_21 2) (nI ((4 * (δ j_3)) + 3)).toNatClampNeg (nI j_5))) S hr hlocks dL_step_203 hK hP hD hS (by (refine ⟨(ms_r hn0 hm9).symm, ?_⟩; rw [ms_nt hm9 eσ_21, show ntS σ_21 (nI n) (nI j_3) = σ_21 from by simp only [ntS, alv_m1, hc0_21, hc2_21, ej_3, ej_5, c_1, (eq_true c_2), c_10, c_14, c_20, c_23, c_24, c_25, (bt_f hn0 hj_5 tj_3 c_25), eq_self, Bool.false_eq_true, ↓reduceIte], va_upr mj_22]; exact hq_21))
                  · refine lv_iload_n hx hb dL_step_194 rfl (lv_at hl 6 rfl) ?_
                    refine lv_goto (tgt := 200) hx hb dL_step_195 (by decide) ?_
                    refine va_iast hx hb hK hP hD hS 2 0 (f := (u_21 2)) rfl rfl (vp_in_nI (n := ((4 * (δ j_3)) + 3)) (N := 40) (by omega) (by decide)) dL_step_200 (fun H locs hP hD hS => ?_)
                    have hP : pG G (wQ G q (va_up u_21 2 (upd (u_21 2) (nI ((4 * (δ j_3)) + 3)).toNatClampNeg (nI n)))) H := hP
                    have hD : va_D A (wQ G q (va_up u_21 2 (upd (u_21 2) (nI ((4 * (δ j_3)) + 3)).toNatClampNeg (nI n)))) := hD
                    refine lv_iload hx hb dL_step_201 (lv_at hl 1 rfl) ?_
                    exact co_endI (va_up u_21 2 (upd (u_21 2) (nI ((4 * (δ j_3)) + 3)).toNatClampNeg (nI n))) S hr hlocks dL_step_203 hK hP hD hS (by (refine ⟨(ms_r hn0 hm9).symm, ?_⟩; rw [ms_nt hm9 eσ_21, show ntS σ_21 (nI n) (nI j_3) = va_up σ_21 2 (tset 1 (σ_21 2) (nI j_3) 0 (nI n)) from by simp only [ntS, alv_m1, hc0_21, hc2_21, ej_3, ej_5, c_1, (eq_true c_2), c_10, c_14, c_20, c_23, c_24, c_25, (bt_t hn0 hj_5 tj_3 c_24 c_25), eq_self, Bool.false_eq_true, ↓reduceIte]]; exact rq_pre hq_21 tj_3 d9n_4 (okP.nI hn0) rfl))
            · refine lv_iload hx hb dL_step_126 (lv_at hl 0 rfl) ?_
              refine lv_goto (tgt := 133) hx hb dL_step_128 (by decide) ?_
              refine lv_istore (lv' := [(9, .int (nI j_5)), (10, .int (nI j_5)), (8, .int 0), (7, .int (nI (δ n))), (0, .int 5), (1, .int (nI n)), (2, .ref (q 0)), (3, .ref (q 1)), (4, .ref (q 2)), (5, .ref (q 3)), (6, .ref (q 4))]) hx hb dL_step_133 hl (by decide) rfl (fun ls hl => ?_)
              have hm9 : mdN σ (nI n) = nI j_5 := (by simp only [mdN, alv_m1, ej_3, ej_5, c_1, (eq_true c_2), c_10, c_14, c_20, (bt_t hj_5 hn0 tj_3 c_14 c_20), eq_self, Bool.false_eq_true, ↓reduceIte])
              refine lv_iload_n hx hb dL_step_135 rfl (lv_at hl 5 rfl) ?_
              refine lv_iload hx hb dL_step_136 (lv_at hl 0 rfl) ?_
              refine lv_aload_n hx hb dL_step_138 rfl (lv_at hl 6 rfl) ?_
              refine lv_aload hx hb dL_step_139 (lv_at hl 8 rfl) ?_
              refine co_mSv (As := [.int (nI n), .int (nI j_5), .ref (q 0), .ref (q 2)]) (rest := []) S (c_L_adopt l G Z q ν δ κ σ τ hR n j_5 hn ⟨hj_5, c_10⟩) (va_cwS 4 hts gL_step_L_adopt rfl rfl rfl (by decide +kernel) ⟨Nat.le_of_ble_eq_true rfl, Nat.le_of_ble_eq_true rfl⟩) hK hP hD hS hA rfl hl.1 rfl (Nat.le_of_ble_eq_true rfl) dL_step_141 ⟨Nat.zero_le _, Nat.zero_le _⟩ (fun u_26 H locs hu_26 hP hD hS => ?_)
              have hq_26 := hu_26
              obtain ⟨σ_26, eσ_26⟩ : ∃ z9, z9 = (foS σ (nI n) (nI j_5)) := ⟨_, rfl⟩
              have hq_26 : Rq Z ν δ κ σ_26 u_26 := (by rw [eσ_26]; exact hq_26)
              have hc0_26 : σ_26 0 = (σ 0) := (by rw [eσ_26]; exact foS_0)
              have hc2_26 : σ_26 2 = (σ 2) := (by rw [eσ_26]; exact foS_2)
              have hc3_26 : σ_26 3 = (σ 3) := (by rw [eσ_26]; exact foS_3)
              have hP : pG G (wQ G q u_26) H := hP
              have hD : va_D A (wQ G q u_26) := hD
              refine lv_aload hx hb dL_step_144 (lv_at hl 8 rfl) ?_
              refine lv_iconst (v := 4) hx hb dL_step_146 (by decide) ?_
              refine lv_aload_n hx hb dL_step_147 rfl (lv_at hl 6 rfl) ?_
              refine lv_iload hx hb dL_step_148 (lv_at hl 0 rfl) ?_
              refine va_iald hx hb hK hP 0 0 rfl rfl (vp_in_nI (n := j_5) (N := 64) (by omega) (by decide)) dL_step_150 ?_
              have d9n_27 : δ j_5 < 10 := Rq.d9 hq_26 (Lv.tr hc0_26 ⟨hj_5, c_10⟩)
              refine co_eq (rq_d hq_26 hj_5 d9n_27) ?_
              refine lv_imul hx hb dL_step_151 ?_
              refine co_eq (show (4 : Int32) * (nI (δ j_5)) = (nI (4 * (δ j_5))) from pk_mul 4 (δ j_5)) ?_
              refine lv_iconst (v := 3) hx hb dL_step_152 (by decide) ?_
              refine lv_iadd hx hb dL_step_153 ?_
              refine co_eq (show (nI (4 * (δ j_5))) + (3 : Int32) = (nI ((4 * (δ j_5)) + 3)) from nI_add (4 * (δ j_5)) 3) ?_
              refine va_iald hx hb hK hP 2 0 rfl rfl (vp_in_nI (n := ((4 * (δ j_5)) + 3)) (N := 40) (by omega) (by decide)) dL_step_154 ?_
              rcases rq_p hq_26 (Lv.tr hc0_26 ⟨hj_5, c_10⟩) rfl (i := (4 * (δ j_5)) + 3) (by omega) with ⟨ej_28, mj_28⟩ | ⟨j_28, hj_28, ej_28, mj_28⟩
              · rw [hc2_26] at ej_28
                have ej_28 : tat 1 (σ 2) (nI j_5) 0 = (-1) := ej_28
                refine co_eq mj_28 ?_
                refine lv_istore (lv' := [(11, .int (-1)), (9, .int (nI j_5)), (10, .int (nI j_5)), (8, .int 0), (7, .int (nI (δ n))), (0, .int 5), (1, .int (nI n)), (2, .ref (q 0)), (3, .ref (q 1)), (4, .ref (q 2)), (5, .ref (q 3)), (6, .ref (q 4))]) hx hb dL_step_155 hl (by decide) rfl (fun ls hl => ?_)
                refine lv_aload hx hb dL_step_157 (lv_at hl 9 rfl) ?_
                refine lv_iconst (v := 4) hx hb dL_step_159 (by decide) ?_
                refine lv_aload_n hx hb dL_step_160 rfl (lv_at hl 7 rfl) ?_
                refine lv_iload hx hb dL_step_161 (lv_at hl 1 rfl) ?_
                refine va_iald hx hb hK hP 0 0 rfl rfl (vp_in_nI (n := j_5) (N := 64) (by omega) (by decide)) dL_step_163 ?_
                refine co_eq (rq_d hq_26 hj_5 d9n_27) ?_
                refine lv_imul hx hb dL_step_164 ?_
                refine co_eq (show (4 : Int32) * (nI (δ j_5)) = (nI (4 * (δ j_5))) from pk_mul 4 (δ j_5)) ?_
                refine lv_iconst (v := 3) hx hb dL_step_165 (by decide) ?_
                refine lv_iadd hx hb dL_step_166 ?_
                refine co_eq (show (nI (4 * (δ j_5))) + (3 : Int32) = (nI ((4 * (δ j_5)) + 3)) from nI_add (4 * (δ j_5)) 3) ?_
                refine lv_iload hx hb dL_step_167 (lv_at hl 0 rfl) ?_
                refine lv_aload_n hx hb dL_step_169 rfl (lv_at hl 7 rfl) ?_
                refine lv_aload_n hx hb dL_step_170 rfl (lv_at hl 8 rfl) ?_
                refine co_rS (As := [.int (-1), .ref (q 0), .ref (q 1)]) (rest := [.int (nI ((4 * (δ j_5)) + 3)), .ref (q 2)]) S (c_L_lives0 l G Z q ν δ κ σ_26 u_26 hq_26) (va_cwS 3 hts gL_step_L_lives rfl rfl rfl (by decide +kernel) ⟨Nat.le_of_ble_eq_true rfl, Nat.le_of_ble_eq_true rfl⟩) hK hP rfl hl.1 rfl (Nat.le_of_ble_eq_true rfl) dL_step_171 ⟨Nat.zero_le _, Nat.zero_le _⟩ ?_
                refine co_eq (show bI false = 0 from rfl) ?_
                refine lv_if_eq (tgt := 194) hx hb dL_step_174 (by decide) (fun c_29 => ?_) (fun c_29 => ?_)
                · refine lv_iload_n hx hb dL_step_194 rfl (lv_at hl 6 rfl) ?_
                  refine lv_goto (tgt := 200) hx hb dL_step_195 (by decide) ?_
                  refine va_iast hx hb hK hP hD hS 2 0 (f := (u_26 2)) rfl rfl (vp_in_nI (n := ((4 * (δ j_5)) + 3)) (N := 40) (by omega) (by decide)) dL_step_200 (fun H locs hP hD hS => ?_)
                  have hP : pG G (wQ G q (va_up u_26 2 (upd (u_26 2) (nI ((4 * (δ j_5)) + 3)).toNatClampNeg (nI n)))) H := hP
                  have hD : va_D A (wQ G q (va_up u_26 2 (upd (u_26 2) (nI ((4 * (δ j_5)) + 3)).toNatClampNeg (nI n)))) := hD
                  refine lv_iload hx hb dL_step_201 (lv_at hl 1 rfl) ?_
                  exact co_endI (va_up u_26 2 (upd (u_26 2) (nI ((4 * (δ j_5)) + 3)).toNatClampNeg (nI n))) S hr hlocks dL_step_203 hK hP hD hS (by (refine ⟨(ms_r hn0 hm9).symm, ?_⟩; rw [ms_nt hm9 eσ_26, show ntS σ_26 (nI n) (nI j_5) = va_up σ_26 2 (tset 1 (σ_26 2) (nI j_5) 0 (nI n)) from by simp only [ntS, alv_m1, hc0_26, hc2_26, ej_3, ej_5, ej_28, c_1, (eq_true c_2), c_10, c_14, c_20, (eq_true c_29), eq_self, Bool.false_eq_true, ↓reduceIte]]; exact rq_pre hq_26 hj_5 d9n_27 (okP.nI hn0) rfl))
                · exact absurd (by decide) c_29
              · rw [hc2_26] at ej_28
                have ej_28 : tat 1 (σ 2) (nI j_5) 0 = (nI j_28) := ej_28
                refine co_eq mj_28 ?_
                refine lv_istore (lv' := [(11, .int (nI j_28)), (9, .int (nI j_5)), (10, .int (nI j_5)), (8, .int 0), (7, .int (nI (δ n))), (0, .int 5), (1, .int (nI n)), (2, .ref (q 0)), (3, .ref (q 1)), (4, .ref (q 2)), (5, .ref (q 3)), (6, .ref (q 4))]) hx hb dL_step_155 hl (by decide) rfl (fun ls hl => ?_)
                refine lv_aload hx hb dL_step_157 (lv_at hl 9 rfl) ?_
                refine lv_iconst (v := 4) hx hb dL_step_159 (by decide) ?_
                refine lv_aload_n hx hb dL_step_160 rfl (lv_at hl 7 rfl) ?_
                refine lv_iload hx hb dL_step_161 (lv_at hl 1 rfl) ?_
                refine va_iald hx hb hK hP 0 0 rfl rfl (vp_in_nI (n := j_5) (N := 64) (by omega) (by decide)) dL_step_163 ?_
                refine co_eq (rq_d hq_26 hj_5 d9n_27) ?_
                refine lv_imul hx hb dL_step_164 ?_
                refine co_eq (show (4 : Int32) * (nI (δ j_5)) = (nI (4 * (δ j_5))) from pk_mul 4 (δ j_5)) ?_
                refine lv_iconst (v := 3) hx hb dL_step_165 (by decide) ?_
                refine lv_iadd hx hb dL_step_166 ?_
                refine co_eq (show (nI (4 * (δ j_5))) + (3 : Int32) = (nI ((4 * (δ j_5)) + 3)) from nI_add (4 * (δ j_5)) 3) ?_
                refine lv_iload hx hb dL_step_167 (lv_at hl 0 rfl) ?_
                refine lv_aload_n hx hb dL_step_169 rfl (lv_at hl 7 rfl) ?_
                refine lv_aload_n hx hb dL_step_170 rfl (lv_at hl 8 rfl) ?_
                refine co_rS (As := [.int (nI j_28), .ref (q 0), .ref (q 1)]) (rest := [.int (nI ((4 * (δ j_5)) + 3)), .ref (q 2)]) S (c_L_lives l G Z q ν δ κ σ_26 u_26 hq_26 j_28 hj_28) (va_cwS 3 hts gL_step_L_lives rfl rfl rfl (by decide +kernel) ⟨Nat.le_of_ble_eq_true rfl, Nat.le_of_ble_eq_true rfl⟩) hK hP rfl hl.1 rfl (Nat.le_of_ble_eq_true rfl) dL_step_171 ⟨Nat.zero_le _, Nat.zero_le _⟩ ?_
                refine co_eq (show bI (alv (σ_26 0) (nI j_28)) = bI (alv (σ 0) (nI j_28)) by rw [hc0_26]) ?_
                refine co_ifeq (tgt := 194) S dL_step_174 (by decide) (fun c_30 => ?_) (fun c_30 => ?_)
                · refine lv_iload_n hx hb dL_step_194 rfl (lv_at hl 6 rfl) ?_
                  refine lv_goto (tgt := 200) hx hb dL_step_195 (by decide) ?_
                  refine va_iast hx hb hK hP hD hS 2 0 (f := (u_26 2)) rfl rfl (vp_in_nI (n := ((4 * (δ j_5)) + 3)) (N := 40) (by omega) (by decide)) dL_step_200 (fun H locs hP hD hS => ?_)
                  have hP : pG G (wQ G q (va_up u_26 2 (upd (u_26 2) (nI ((4 * (δ j_5)) + 3)).toNatClampNeg (nI n)))) H := hP
                  have hD : va_D A (wQ G q (va_up u_26 2 (upd (u_26 2) (nI ((4 * (δ j_5)) + 3)).toNatClampNeg (nI n)))) := hD
                  refine lv_iload hx hb dL_step_201 (lv_at hl 1 rfl) ?_
                  exact co_endI (va_up u_26 2 (upd (u_26 2) (nI ((4 * (δ j_5)) + 3)).toNatClampNeg (nI n))) S hr hlocks dL_step_203 hK hP hD hS (by (refine ⟨(ms_r hn0 hm9).symm, ?_⟩; rw [ms_nt hm9 eσ_26, show ntS σ_26 (nI n) (nI j_5) = va_up σ_26 2 (tset 1 (σ_26 2) (nI j_5) 0 (nI n)) from by simp only [ntS, alv_m1, hc0_26, hc2_26, ej_3, ej_5, ej_28, c_1, (eq_true c_2), c_10, c_14, c_20, c_30, eq_self, Bool.false_eq_true, ↓reduceIte]]; exact rq_pre hq_26 hj_5 d9n_27 (okP.nI hn0) rfl))
                · refine lv_iload_n hx hb dL_step_177 rfl (lv_at hl 6 rfl) ?_
                  refine lv_iload hx hb dL_step_178 (lv_at hl 1 rfl) ?_
                  refine lv_icmp_eq (tgt := 198) hx hb dL_step_180 (by decide) (fun c_31 => ?_) (fun c_31 => ?_)
                  · refine lv_iload hx hb dL_step_198 (lv_at hl 0 rfl) ?_
                    refine va_iast hx hb hK hP hD hS 2 0 (f := (u_26 2)) rfl rfl (vp_in_nI (n := ((4 * (δ j_5)) + 3)) (N := 40) (by omega) (by decide)) dL_step_200 (fun H locs hP hD hS => ?_)
                    have hP : pG G (wQ G q (va_up u_26 2 (upd (u_26 2) (nI ((4 * (δ j_5)) + 3)).toNatClampNeg (nI j_28)))) H := hP
                    have hD : va_D A (wQ G q (va_up u_26 2 (upd (u_26 2) (nI ((4 * (δ j_5)) + 3)).toNatClampNeg (nI j_28)))) := hD
                    refine lv_iload hx hb dL_step_201 (lv_at hl 1 rfl) ?_
                    exact co_endI (va_up u_26 2 (upd (u_26 2) (nI ((4 * (δ j_5)) + 3)).toNatClampNeg (nI j_28))) S hr hlocks dL_step_203 hK hP hD hS (by (refine ⟨(ms_r hn0 hm9).symm, ?_⟩; rw [ms_nt hm9 eσ_26, show ntS σ_26 (nI n) (nI j_5) = σ_26 from by simp only [ntS, alv_m1, hc0_26, hc2_26, ej_3, ej_5, ej_28, c_1, (eq_true c_2), c_10, c_14, c_20, c_30, (eq_true c_31), (bt_eq hn0 hj_28 hj_5 c_31), eq_self, Bool.false_eq_true, ↓reduceIte], va_upr mj_28]; exact hq_26))
                  · refine lv_iload_n hx hb dL_step_183 rfl (lv_at hl 6 rfl) ?_
                    refine lv_iload hx hb dL_step_184 (lv_at hl 0 rfl) ?_
                    refine lv_iload hx hb dL_step_186 (lv_at hl 1 rfl) ?_
                    refine co_rS (As := [.int (nI n), .int (nI j_28), .int (nI j_5)]) (rest := [.int (nI ((4 * (δ j_5)) + 3)), .ref (q 2)]) S (c_L_isIn l G n j_28 j_5 hn0 hj_28 hj_5) (va_cwS 3 hts gL_step_L_isIn rfl rfl rfl (by decide +kernel) ⟨Nat.le_of_ble_eq_true rfl, Nat.le_of_ble_eq_true rfl⟩) hK (pG_nil) rfl hl.1 rfl (Nat.le_of_ble_eq_true rfl) dL_step_188 ⟨Nat.zero_le _, Nat.zero_le _⟩ ?_
                    refine co_ifeq (tgt := 198) S dL_step_191 (by decide) (fun c_32 => ?_) (fun c_32 => ?_)
                    · refine lv_iload hx hb dL_step_198 (lv_at hl 0 rfl) ?_
                      refine va_iast hx hb hK hP hD hS 2 0 (f := (u_26 2)) rfl rfl (vp_in_nI (n := ((4 * (δ j_5)) + 3)) (N := 40) (by omega) (by decide)) dL_step_200 (fun H locs hP hD hS => ?_)
                      have hP : pG G (wQ G q (va_up u_26 2 (upd (u_26 2) (nI ((4 * (δ j_5)) + 3)).toNatClampNeg (nI j_28)))) H := hP
                      have hD : va_D A (wQ G q (va_up u_26 2 (upd (u_26 2) (nI ((4 * (δ j_5)) + 3)).toNatClampNeg (nI j_28)))) := hD
                      refine lv_iload hx hb dL_step_201 (lv_at hl 1 rfl) ?_
                      exact co_endI (va_up u_26 2 (upd (u_26 2) (nI ((4 * (δ j_5)) + 3)).toNatClampNeg (nI j_28))) S hr hlocks dL_step_203 hK hP hD hS (by (refine ⟨(ms_r hn0 hm9).symm, ?_⟩; rw [ms_nt hm9 eσ_26, show ntS σ_26 (nI n) (nI j_5) = σ_26 from by simp only [ntS, alv_m1, hc0_26, hc2_26, ej_3, ej_5, ej_28, c_1, (eq_true c_2), c_10, c_14, c_20, c_30, c_31, c_32, (bt_f hn0 hj_28 hj_5 c_32), eq_self, Bool.false_eq_true, ↓reduceIte], va_upr mj_28]; exact hq_26))
                    · refine lv_iload_n hx hb dL_step_194 rfl (lv_at hl 6 rfl) ?_
                      refine lv_goto (tgt := 200) hx hb dL_step_195 (by decide) ?_
                      refine va_iast hx hb hK hP hD hS 2 0 (f := (u_26 2)) rfl rfl (vp_in_nI (n := ((4 * (δ j_5)) + 3)) (N := 40) (by omega) (by decide)) dL_step_200 (fun H locs hP hD hS => ?_)
                      have hP : pG G (wQ G q (va_up u_26 2 (upd (u_26 2) (nI ((4 * (δ j_5)) + 3)).toNatClampNeg (nI n)))) H := hP
                      have hD : va_D A (wQ G q (va_up u_26 2 (upd (u_26 2) (nI ((4 * (δ j_5)) + 3)).toNatClampNeg (nI n)))) := hD
                      refine lv_iload hx hb dL_step_201 (lv_at hl 1 rfl) ?_
                      exact co_endI (va_up u_26 2 (upd (u_26 2) (nI ((4 * (δ j_5)) + 3)).toNatClampNeg (nI n))) S hr hlocks dL_step_203 hK hP hD hS (by (refine ⟨(ms_r hn0 hm9).symm, ?_⟩; rw [ms_nt hm9 eσ_26, show ntS σ_26 (nI n) (nI j_5) = va_up σ_26 2 (tset 1 (σ_26 2) (nI j_5) 0 (nI n)) from by simp only [ntS, alv_m1, hc0_26, hc2_26, ej_3, ej_5, ej_28, c_1, (eq_true c_2), c_10, c_14, c_20, c_30, c_31, c_32, (bt_t hn0 hj_28 hj_5 c_31 c_32), eq_self, Bool.false_eq_true, ↓reduceIte]]; exact rq_pre hq_26 hj_5 d9n_27 (okP.nI hn0) rfl))
  · exact absurd c_1 (by decide)

set_option maxHeartbeats 4000000 in
set_option maxRecDepth 100000 in
theorem c_L_step6 (l : Launch) (G : cG) (Z : Nat) (q ν δ κ : Nat → Nat) (σ τ : cS) (hR : Rq Z ν δ κ σ τ)(n : Nat) (hn : Lv σ n) : MetI l yL_step wsL_step rm_L_step G (wQ G q τ) [.int 6, .int (nI n), .ref (q 0), .ref (q 1), .ref (q 2), .ref (q 3), .ref (q 4)] (fun u : cS => wQ G q u) (fun r u => r = (rfC σ (nI n) 6) ∧ Rq Z ν δ κ (rfS σ (nI n) 6) u) := by
  refine co_bodyI (cc := cL_step) (maxL := 12) (ret := (some .int)) (by decide) rfl (Nat.le_of_ble_eq_true rfl) ?_
  intro p e s m args below meth c S hr hlocks hK A hA hP hD hS ls hl
  have S : CallFix p m c cL_step 12 s args wsL_step RL := S
  obtain ⟨hx, hb, hml, hown, hts⟩ := id S
  have hl : lv_has ls 12 [(0, .int 6), (1, .int (nI n)), (2, .ref (q 0)), (3, .ref (q 1)), (4, .ref (q 2)), (5, .ref (q 3)), (6, .ref (q 4))] := hl
  have hn0 : n < 64 := hn.1
  have d90 : δ n < 10 := Rq.d9 hR hn
  refine lv_aload_n hx hb dL_step_0 rfl (lv_at hl 2 rfl) ?_
  refine lv_iload_n hx hb dL_step_1 rfl (lv_at hl 1 rfl) ?_
  refine va_iald hx hb hK hP 0 0 rfl rfl (vp_in_nI (n := n) (N := 64) (by omega) (by decide)) dL_step_2 ?_
  refine co_eq (rq_d hR hn0 d90) ?_
  refine lv_istore (lv' := [(7, .int (nI (δ n))), (0, .int 6), (1, .int (nI n)), (2, .ref (q 0)), (3, .ref (q 1)), (4, .ref (q 2)), (5, .ref (q 3)), (6, .ref (q 4))]) hx hb dL_step_3 hl (by decide) rfl (fun ls hl => ?_)
  refine lv_iconst (v := 0) hx hb dL_step_5 (by decide) ?_
  refine lv_istore (lv' := [(8, .int 0), (7, .int (nI (δ n))), (0, .int 6), (1, .int (nI n)), (2, .ref (q 0)), (3, .ref (q 1)), (4, .ref (q 2)), (5, .ref (q 3)), (6, .ref (q 4))]) hx hb dL_step_6 hl (by decide) rfl (fun ls hl => ?_)
  refine lv_iload_n hx hb dL_step_8 rfl (lv_at hl 2 rfl) ?_
  refine lv_iconst (v := 4) hx hb dL_step_9 (by decide) ?_
  refine lv_icmp_ne (tgt := 70) hx hb dL_step_10 (by decide) (fun c_1 => ?_) (fun c_1 => ?_)
  · refine lv_iload_n hx hb dL_step_70 rfl (lv_at hl 2 rfl) ?_
    refine lv_iconst (v := 5) hx hb dL_step_71 (by decide) ?_
    refine lv_icmp_ne (tgt := 204) hx hb dL_step_72 (by decide) (fun c_2 => ?_) (fun c_2 => ?_)
    · refine lv_iconst (v := 0) hx hb dL_step_204 (by decide) ?_
      refine lv_istore (lv' := [(9, .int 0), (8, .int 0), (7, .int (nI (δ n))), (0, .int 6), (1, .int (nI n)), (2, .ref (q 0)), (3, .ref (q 1)), (4, .ref (q 2)), (5, .ref (q 3)), (6, .ref (q 4))]) hx hb dL_step_205 hl (by decide) rfl (fun ls hl => ?_)
      have LP : ∀ (d : Nat) (k : Nat) (x : Int32) (σ' τ' : cS), k + d = 6 → Rq Z ν δ κ σ' τ' → x = rfC σ (nI n) k → σ' = rfS σ (nI n) k → ∀ (H : Heap) (locs : List Loc), pG G (wQ G q τ') H → va_D A (wQ G q τ') → va_S A s.heap H locs → ∀ ls : Array Slot, lv_has ls 12 [(0, .int 6), (1, .int (nI n)), (2, .ref (q 0)), (3, .ref (q 1)), (4, .ref (q 2)), (5, .ref (q 3)), (6, .ref (q 4)), (7, .int (nI (δ n))), (8, .int x), (9, .int (nI k))] → W p l e rm_L_step s m args below meth c H locs 0 0 (QI below G A (fun u : cS => wQ G q u) (fun r u => r = (rfC σ (nI n) 6) ∧ Rq Z ν δ κ (rfS σ (nI n) 6) u) args s) (F0 m 207 ls []) := by
        intro d
        induction d with
        | zero =>
          intro k x σ' τ' hk hR9 hx9 h9 H locs hP hD hS ls hl
          refine lv_iload hx hb dL_step_207 (lv_at hl 9 rfl) ?_
          refine lv_bipush (v := 6) hx hb dL_step_209 (by decide) ?_
          refine lv_icmp_ge (tgt := 286) hx hb dL_step_211 (by decide) (fun c_3 => ?_) (fun c_3 => ?_)
          · refine lv_iconst (v := 0) hx hb dL_step_286 (by decide) ?_
            refine lv_istore (lv' := [(9, .int 0), (0, .int 6), (1, .int (nI n)), (2, .ref (q 0)), (3, .ref (q 1)), (4, .ref (q 2)), (5, .ref (q 3)), (6, .ref (q 4)), (7, .int (nI (δ n))), (8, .int x)]) hx hb dL_step_287 hl (by decide) rfl (fun ls hl => ?_)
            refine lv_iload hx hb dL_step_289 (lv_at hl 0 rfl) ?_
            refine lv_bipush (v := 6) hx hb dL_step_291 (by decide) ?_
            refine lv_icmp_ge (tgt := 442) hx hb dL_step_293 (by decide) (fun c_4 => ?_) (fun c_4 => ?_)
            · exact absurd c_4 (by decide)
            · refine lv_iload_n hx hb dL_step_296 rfl (lv_at hl 1 rfl) ?_
              refine lv_bipush (v := 7) hx hb dL_step_297 (by decide) ?_
              refine lv_icmp_ne (tgt := 442) hx hb dL_step_299 (by decide) (fun c_5 => ?_) (fun c_5 => ?_)
              · refine lv_iload hx hb dL_step_442 (lv_at hl 9 rfl) ?_
                exact co_endI τ' S hr hlocks dL_step_444 hK hP hD hS (by have hk6 : k = 6 := (by omega); subst hk6; exact ⟨hx9, by rw [← h9]; exact hR9⟩)
              · exact absurd c_5 (by decide)
          · exact absurd (nI_le (a := 6) (b := k) (by omega) (by omega)) c_3
        | succ d ih =>
          intro k x σ' τ' hk hR9 hx9 h9 H locs hP hD hS ls hl
          have hn9 : Lv σ' n := Lv.tr (by rw [h9]; exact rfS_0 k) hn
          refine lv_iload hx hb dL_step_207 (lv_at hl 9 rfl) ?_
          refine lv_bipush (v := 6) hx hb dL_step_209 (by decide) ?_
          refine lv_icmp_ge (tgt := 286) hx hb dL_step_211 (by decide) (fun c_6 => ?_) (fun c_6 => ?_)
          · exact absurd c_6 (nI_ge (a := k) (b := 6) (by omega) (by omega))
          · refine lv_iload_n hx hb dL_step_214 rfl (lv_at hl 0 rfl) ?_
            refine lv_bipush (v := 6) hx hb dL_step_215 (by decide) ?_
            refine lv_icmp_ne (tgt := 286) hx hb dL_step_217 (by decide) (fun c_7 => ?_) (fun c_7 => ?_)
            · exact absurd (by decide) c_7
            · refine lv_iload_n hx hb dL_step_220 rfl (lv_at hl 1 rfl) ?_
              refine lv_iload_n hx hb dL_step_221 rfl (lv_at hl 1 rfl) ?_
              refine lv_iconst (v := 1) hx hb dL_step_222 (by decide) ?_
              refine lv_iload hx hb dL_step_223 (lv_at hl 9 rfl) ?_
              refine lv_ishl hx hb dL_step_225 ?_
              refine lv_iadd hx hb dL_step_226 ?_
              refine lv_bipush (v := 64) hx hb dL_step_227 (by decide) ?_
              refine lv_irem hx hb dL_step_229 (by decide) ?_
              refine co_eq (fg_rem hn0 (show k < 6 by omega)) ?_
              refine lv_aload_n hx hb dL_step_230 rfl (lv_at hl 2 rfl) ?_
              refine lv_aload_n hx hb dL_step_231 rfl (lv_at hl 3 rfl) ?_
              refine lv_aload hx hb dL_step_232 (lv_at hl 4 rfl) ?_
              refine lv_aload hx hb dL_step_234 (lv_at hl 5 rfl) ?_
              obtain ⟨j_8, ej_8, lj_8⟩ := Rq.fn hR9 hn9 (Nat.mod_lt _ (by decide))
              have tj_8 : j_8 < 64 := lj_8.1
              refine co_rS (As := [.int (nI n), .int (nI ((n + 2 ^ k) % 64)), .ref (q 0), .ref (q 1), .ref (q 2), .ref (q 3)]) (rest := []) S (c_L_found l G Z q ν δ κ σ' τ' hR9 n ((n + 2 ^ k) % 64) hn9 (Nat.mod_lt _ (by decide))) (va_cwS 6 hts gL_step_L_found rfl rfl rfl (by decide +kernel) ⟨Nat.le_of_ble_eq_true rfl, Nat.le_of_ble_eq_true rfl⟩) hK hP rfl hl.1 rfl (Nat.le_of_ble_eq_true rfl) dL_step_236 ⟨Nat.zero_le _, Nat.zero_le _⟩ ?_
              refine co_eq ej_8 ?_
              refine lv_istore (lv' := [(10, .int (nI j_8)), (0, .int 6), (1, .int (nI n)), (2, .ref (q 0)), (3, .ref (q 1)), (4, .ref (q 2)), (5, .ref (q 3)), (6, .ref (q 4)), (7, .int (nI (δ n))), (8, .int x), (9, .int (nI k))]) hx hb dL_step_239 hl (by decide) rfl (fun ls hl => ?_)
              refine lv_iload hx hb dL_step_241 (lv_at hl 9 rfl) ?_
              refine lv_iload hx hb dL_step_243 (lv_at hl 0 rfl) ?_
              refine lv_aload hx hb dL_step_245 (lv_at hl 6 rfl) ?_
              refine lv_bipush (v := 6) hx hb dL_step_247 (by decide) ?_
              refine lv_iload hx hb dL_step_249 (lv_at hl 8 rfl) ?_
              refine lv_imul hx hb dL_step_251 ?_
              refine co_eq (show (6 : Int32) * (nI (δ n)) = (nI (6 * (δ n))) from pk_mul 6 (δ n)) ?_
              refine lv_iload hx hb dL_step_252 (lv_at hl 10 rfl) ?_
              refine lv_iadd hx hb dL_step_254 ?_
              refine co_eq (show (nI (6 * (δ n))) + (nI k) = (nI ((6 * (δ n)) + k)) from nI_add (6 * (δ n)) k) ?_
              refine va_iald hx hb hK hP 3 0 rfl rfl (vp_in_nI (n := ((6 * (δ n)) + k)) (N := 60) (by omega) (by decide)) dL_step_255 ?_
              refine co_eq (rq_f1 hR9 hn9 rfl k (by omega) (i := (6 * (δ n)) + k) (by omega)) ?_
              refine lv_icmp_ne (tgt := 263) hx hb dL_step_256 (by decide) (fun c_9 => ?_) (fun c_9 => ?_)
              · refine lv_iconst (v := 1) hx hb dL_step_263 (by decide) ?_
                refine lv_iadd hx hb dL_step_264 ?_
                refine lv_istore (lv' := [(8, .int (x + 1)), (10, .int (nI j_8)), (0, .int 6), (1, .int (nI n)), (2, .ref (q 0)), (3, .ref (q 1)), (4, .ref (q 2)), (5, .ref (q 3)), (6, .ref (q 4)), (7, .int (nI (δ n))), (9, .int (nI k))]) hx hb dL_step_265 hl (by decide) rfl (fun ls hl => ?_)
                refine lv_aload hx hb dL_step_267 (lv_at hl 7 rfl) ?_
                refine lv_bipush (v := 6) hx hb dL_step_269 (by decide) ?_
                refine lv_iload hx hb dL_step_271 (lv_at hl 9 rfl) ?_
                refine lv_imul hx hb dL_step_273 ?_
                refine co_eq (show (6 : Int32) * (nI (δ n)) = (nI (6 * (δ n))) from pk_mul 6 (δ n)) ?_
                refine lv_iload hx hb dL_step_274 (lv_at hl 10 rfl) ?_
                refine lv_iadd hx hb dL_step_276 ?_
                refine co_eq (show (nI (6 * (δ n))) + (nI k) = (nI ((6 * (δ n)) + k)) from nI_add (6 * (δ n)) k) ?_
                refine lv_iload hx hb dL_step_277 (lv_at hl 1 rfl) ?_
                refine va_iast hx hb hK hP hD hS 3 0 (f := (τ' 3)) rfl rfl (vp_in_nI (n := ((6 * (δ n)) + k)) (N := 60) (by omega) (by decide)) dL_step_279 (fun H locs hP hD hS => ?_)
                have hP : pG G (wQ G q (va_up τ' 3 (upd (τ' 3) (nI ((6 * (δ n)) + k)).toNatClampNeg (nI j_8)))) H := hP
                have hD : va_D A (wQ G q (va_up τ' 3 (upd (τ' 3) (nI ((6 * (δ n)) + k)).toNatClampNeg (nI j_8)))) := hD
                refine lv_iinc (v := (nI (k + 1))) (lv' := [(9, .int (nI (k + 1))), (8, .int (x + 1)), (10, .int (nI j_8)), (0, .int 6), (1, .int (nI n)), (2, .ref (q 0)), (3, .ref (q 1)), (4, .ref (q 2)), (5, .ref (q 3)), (6, .ref (q 4)), (7, .int (nI (δ n)))]) hx hb dL_step_280 hl (k := 10) rfl (nI_1 k) (by decide) rfl (fun ls hl => ?_)
                refine lv_goto (tgt := 207) hx hb dL_step_283 (by decide) ?_
                exact ih (k + 1) _ _ (va_up τ' 3 (upd (τ' 3) (nI ((6 * (δ n)) + k)).toNatClampNeg (nI j_8))) (by omega) (rq_fin hR9 hn0 d90 (show k < 6 by omega) (okP.nI tj_8) rfl) (by rw [rfC, ← h9, fgs_nI hn0 (show k < 6 by omega), ej_8, ← hx9]; simp only [c_6, (eq_true c_7), c_9, eq_self, ↓reduceIte, Int32.add_zero]) (rf_ok (σ2 := σ) (x := 0) h9 hn0 (show k < 6 by omega) ej_8) _ _ hP hD hS ls (lv_sub hl [3, 4, 5, 6, 7, 8, 9, 10, 1, 0] rfl)
              · refine lv_iconst (v := 0) hx hb dL_step_259 (by decide) ?_
                refine lv_goto (tgt := 264) hx hb dL_step_260 (by decide) ?_
                refine lv_iadd hx hb dL_step_264 ?_
                refine lv_istore (lv' := [(8, .int (x + 0)), (10, .int (nI j_8)), (0, .int 6), (1, .int (nI n)), (2, .ref (q 0)), (3, .ref (q 1)), (4, .ref (q 2)), (5, .ref (q 3)), (6, .ref (q 4)), (7, .int (nI (δ n))), (9, .int (nI k))]) hx hb dL_step_265 hl (by decide) rfl (fun ls hl => ?_)
                refine lv_aload hx hb dL_step_267 (lv_at hl 7 rfl) ?_
                refine lv_bipush (v := 6) hx hb dL_step_269 (by decide) ?_
                refine lv_iload hx hb dL_step_271 (lv_at hl 9 rfl) ?_
                refine lv_imul hx hb dL_step_273 ?_
                refine co_eq (show (6 : Int32) * (nI (δ n)) = (nI (6 * (δ n))) from pk_mul 6 (δ n)) ?_
                refine lv_iload hx hb dL_step_274 (lv_at hl 10 rfl) ?_
                refine lv_iadd hx hb dL_step_276 ?_
                refine co_eq (show (nI (6 * (δ n))) + (nI k) = (nI ((6 * (δ n)) + k)) from nI_add (6 * (δ n)) k) ?_
                refine lv_iload hx hb dL_step_277 (lv_at hl 1 rfl) ?_
                refine va_iast hx hb hK hP hD hS 3 0 (f := (τ' 3)) rfl rfl (vp_in_nI (n := ((6 * (δ n)) + k)) (N := 60) (by omega) (by decide)) dL_step_279 (fun H locs hP hD hS => ?_)
                have hP : pG G (wQ G q (va_up τ' 3 (upd (τ' 3) (nI ((6 * (δ n)) + k)).toNatClampNeg (nI j_8)))) H := hP
                have hD : va_D A (wQ G q (va_up τ' 3 (upd (τ' 3) (nI ((6 * (δ n)) + k)).toNatClampNeg (nI j_8)))) := hD
                refine lv_iinc (v := (nI (k + 1))) (lv' := [(9, .int (nI (k + 1))), (8, .int (x + 0)), (10, .int (nI j_8)), (0, .int 6), (1, .int (nI n)), (2, .ref (q 0)), (3, .ref (q 1)), (4, .ref (q 2)), (5, .ref (q 3)), (6, .ref (q 4)), (7, .int (nI (δ n)))]) hx hb dL_step_280 hl (k := 10) rfl (nI_1 k) (by decide) rfl (fun ls hl => ?_)
                refine lv_goto (tgt := 207) hx hb dL_step_283 (by decide) ?_
                exact ih (k + 1) _ _ (va_up τ' 3 (upd (τ' 3) (nI ((6 * (δ n)) + k)).toNatClampNeg (nI j_8))) (by omega) (rq_fin hR9 hn0 d90 (show k < 6 by omega) (okP.nI tj_8) rfl) (by rw [rfC, ← h9, fgs_nI hn0 (show k < 6 by omega), ej_8, ← hx9]; simp only [c_6, (eq_true c_7), (eq_true c_9), eq_self, ↓reduceIte, Int32.add_zero]) (rf_ok (σ2 := σ) (x := 0) h9 hn0 (show k < 6 by omega) ej_8) _ _ hP hD hS ls (lv_sub hl [3, 4, 5, 6, 7, 8, 9, 10, 1, 0] rfl)
      exact LP 6 0 _ _ _ rfl hR rfl rfl _ _ hP hD hS ls (lv_sub hl [3, 4, 5, 6, 7, 8, 9, 2, 1, 0] rfl)
    · exact absurd c_2 (by decide)
  · exact absurd c_1 (by decide)

set_option maxHeartbeats 4000000 in
set_option maxRecDepth 100000 in
theorem c_L_step7 (l : Launch) (G : cG) (Z : Nat) (q ν δ κ : Nat → Nat) (σ τ : cS) (hR : Rq Z ν δ κ σ τ)(n : Nat) (hn : Lv σ n) : MetI l yL_step wsL_step rm_L_step G (wQ G q τ) [.int 7, .int (nI n), .ref (q 0), .ref (q 1), .ref (q 2), .ref (q 3), .ref (q 4)] (fun u : cS => wQ G q u) (fun r u => r = (svC σ (nI n) 64) ∧ Rq Z ν δ κ (svS σ (nI n) 64) u) := by
  refine co_bodyI (cc := cL_step) (maxL := 12) (ret := (some .int)) (by decide) rfl (Nat.le_of_ble_eq_true rfl) ?_
  intro p e s m args below meth c S hr hlocks hK A hA hP hD hS ls hl
  have S : CallFix p m c cL_step 12 s args wsL_step RL := S
  obtain ⟨hx, hb, hml, hown, hts⟩ := id S
  have hl : lv_has ls 12 [(0, .int 7), (1, .int (nI n)), (2, .ref (q 0)), (3, .ref (q 1)), (4, .ref (q 2)), (5, .ref (q 3)), (6, .ref (q 4))] := hl
  have hn0 : n < 64 := hn.1
  have d90 : δ n < 10 := Rq.d9 hR hn
  refine lv_aload_n hx hb dL_step_0 rfl (lv_at hl 2 rfl) ?_
  refine lv_iload_n hx hb dL_step_1 rfl (lv_at hl 1 rfl) ?_
  refine va_iald hx hb hK hP 0 0 rfl rfl (vp_in_nI (n := n) (N := 64) (by omega) (by decide)) dL_step_2 ?_
  refine co_eq (rq_d hR hn0 d90) ?_
  refine lv_istore (lv' := [(7, .int (nI (δ n))), (0, .int 7), (1, .int (nI n)), (2, .ref (q 0)), (3, .ref (q 1)), (4, .ref (q 2)), (5, .ref (q 3)), (6, .ref (q 4))]) hx hb dL_step_3 hl (by decide) rfl (fun ls hl => ?_)
  refine lv_iconst (v := 0) hx hb dL_step_5 (by decide) ?_
  refine lv_istore (lv' := [(8, .int 0), (7, .int (nI (δ n))), (0, .int 7), (1, .int (nI n)), (2, .ref (q 0)), (3, .ref (q 1)), (4, .ref (q 2)), (5, .ref (q 3)), (6, .ref (q 4))]) hx hb dL_step_6 hl (by decide) rfl (fun ls hl => ?_)
  refine lv_iload_n hx hb dL_step_8 rfl (lv_at hl 2 rfl) ?_
  refine lv_iconst (v := 4) hx hb dL_step_9 (by decide) ?_
  refine lv_icmp_ne (tgt := 70) hx hb dL_step_10 (by decide) (fun c_1 => ?_) (fun c_1 => ?_)
  · refine lv_iload_n hx hb dL_step_70 rfl (lv_at hl 2 rfl) ?_
    refine lv_iconst (v := 5) hx hb dL_step_71 (by decide) ?_
    refine lv_icmp_ne (tgt := 204) hx hb dL_step_72 (by decide) (fun c_2 => ?_) (fun c_2 => ?_)
    · refine lv_iconst (v := 0) hx hb dL_step_204 (by decide) ?_
      refine lv_istore (lv' := [(9, .int 0), (8, .int 0), (7, .int (nI (δ n))), (0, .int 7), (1, .int (nI n)), (2, .ref (q 0)), (3, .ref (q 1)), (4, .ref (q 2)), (5, .ref (q 3)), (6, .ref (q 4))]) hx hb dL_step_205 hl (by decide) rfl (fun ls hl => ?_)
      refine lv_iload hx hb dL_step_207 (lv_at hl 0 rfl) ?_
      refine lv_bipush (v := 6) hx hb dL_step_209 (by decide) ?_
      refine lv_icmp_ge (tgt := 286) hx hb dL_step_211 (by decide) (fun c_3 => ?_) (fun c_3 => ?_)
      · exact absurd c_3 (by decide)
      · refine lv_iload_n hx hb dL_step_214 rfl (lv_at hl 3 rfl) ?_
        refine lv_bipush (v := 6) hx hb dL_step_215 (by decide) ?_
        refine lv_icmp_ne (tgt := 286) hx hb dL_step_217 (by decide) (fun c_4 => ?_) (fun c_4 => ?_)
        · refine lv_iconst (v := 0) hx hb dL_step_286 (by decide) ?_
          refine lv_istore (lv' := [(9, .int 0), (8, .int 0), (7, .int (nI (δ n))), (0, .int 7), (1, .int (nI n)), (2, .ref (q 0)), (3, .ref (q 1)), (4, .ref (q 2)), (5, .ref (q 3)), (6, .ref (q 4))]) hx hb dL_step_287 hl (by decide) rfl (fun ls hl => ?_)
          have LP : ∀ (d : Nat) (k : Nat) (x : Int32) (σ' τ' : cS), k + d = 6 → Rq Z ν δ κ σ' τ' → x = smI (fun i => svT (nI n) (κ i) (seqA (svA (nI n)) κ σ i)) k → σ' = seqA (svA (nI n)) κ σ k → ∀ (H : Heap) (locs : List Loc), pG G (wQ G q τ') H → va_D A (wQ G q τ') → va_S A s.heap H locs → ∀ ls : Array Slot, lv_has ls 12 [(0, .int 7), (1, .int (nI n)), (2, .ref (q 0)), (3, .ref (q 1)), (4, .ref (q 2)), (5, .ref (q 3)), (6, .ref (q 4)), (7, .int (nI (δ n))), (8, .int x), (9, .int (nI k))] → W p l e rm_L_step s m args below meth c H locs 0 0 (QI below G A (fun u : cS => wQ G q u) (fun r u => r = (svC σ (nI n) 64) ∧ Rq Z ν δ κ (svS σ (nI n) 64) u) args s) (F0 m 289 ls []) := by
            intro d
            induction d with
            | zero =>
              intro k x σ' τ' hk hR9 hx9 h9 H locs hP hD hS ls hl
              refine lv_iload hx hb dL_step_289 (lv_at hl 9 rfl) ?_
              refine lv_bipush (v := 6) hx hb dL_step_291 (by decide) ?_
              refine lv_icmp_ge (tgt := 442) hx hb dL_step_293 (by decide) (fun c_5 => ?_) (fun c_5 => ?_)
              · refine lv_iload hx hb dL_step_442 (lv_at hl 8 rfl) ?_
                exact co_endI τ' S hr hlocks dL_step_444 hK hP hD hS (by have hk6 : k = 6 := (by omega); subst hk6; exact ⟨hx9.trans (rq_svc hR hn), rq_sv hR hn (by rw [← h9]; exact hR9)⟩)
              · exact absurd (nI_le (a := 6) (b := k) (by omega) (by omega)) c_5
            | succ d ih =>
              intro k x σ' τ' hk hR9 hx9 h9 H locs hP hD hS ls hl
              have hn9 : Lv σ' n := Lv.tr (by rw [h9]; exact seq_n (sv_Loc _) (by decide) (by decide) k (fun i hi => Rq.ka hR (by omega))) hn
              have tk9 : κ k < 64 := Rq.ka hR (by omega)
              refine lv_iload hx hb dL_step_289 (lv_at hl 9 rfl) ?_
              refine lv_bipush (v := 6) hx hb dL_step_291 (by decide) ?_
              refine lv_icmp_ge (tgt := 442) hx hb dL_step_293 (by decide) (fun c_6 => ?_) (fun c_6 => ?_)
              · exact absurd c_6 (nI_ge (a := k) (b := 6) (by omega) (by omega))
              · refine lv_iload_n hx hb dL_step_296 rfl (lv_at hl 0 rfl) ?_
                refine lv_bipush (v := 7) hx hb dL_step_297 (by decide) ?_
                refine lv_icmp_ne (tgt := 442) hx hb dL_step_299 (by decide) (fun c_7 => ?_) (fun c_7 => ?_)
                · exact absurd (by decide) c_7
                · refine lv_aload hx hb dL_step_302 (lv_at hl 4 rfl) ?_
                  refine lv_iconst (v := 4) hx hb dL_step_304 (by decide) ?_
                  refine lv_iload hx hb dL_step_305 (lv_at hl 7 rfl) ?_
                  refine lv_imul hx hb dL_step_307 ?_
                  refine co_eq (show (4 : Int32) * (nI (δ n)) = (nI (4 * (δ n))) from pk_mul 4 (δ n)) ?_
                  refine lv_iconst (v := 3) hx hb dL_step_308 (by decide) ?_
                  refine lv_iadd hx hb dL_step_309 ?_
                  refine co_eq (show (nI (4 * (δ n))) + (3 : Int32) = (nI ((4 * (δ n)) + 3)) from nI_add (4 * (δ n)) 3) ?_
                  refine va_iald hx hb hK hP 2 0 rfl rfl (vp_in_nI (n := ((4 * (δ n)) + 3)) (N := 40) (by omega) (by decide)) dL_step_310 ?_
                  rcases rq_p hR9 hn9 rfl (i := (4 * (δ n)) + 3) (by omega) with ⟨ej_8, mj_8⟩ | ⟨j_8, hj_8, ej_8, mj_8⟩
                  · have ej_8 : tat 1 (σ' 2) (nI n) 0 = (-1) := ej_8
                    refine co_eq mj_8 ?_
                    refine lv_istore (lv' := [(10, .int (-1)), (0, .int 7), (1, .int (nI n)), (2, .ref (q 0)), (3, .ref (q 1)), (4, .ref (q 2)), (5, .ref (q 3)), (6, .ref (q 4)), (7, .int (nI (δ n))), (8, .int x), (9, .int (nI k))]) hx hb dL_step_311 hl (by decide) rfl (fun ls hl => ?_)
                    refine lv_aload hx hb dL_step_313 (lv_at hl 7 rfl) ?_
                    refine lv_bipush (v := 6) hx hb dL_step_315 (by decide) ?_
                    refine lv_iload hx hb dL_step_317 (lv_at hl 8 rfl) ?_
                    refine lv_imul hx hb dL_step_319 ?_
                    refine co_eq (show (6 : Int32) * (nI (δ n)) = (nI (6 * (δ n))) from pk_mul 6 (δ n)) ?_
                    refine lv_iload hx hb dL_step_320 (lv_at hl 10 rfl) ?_
                    refine lv_iadd hx hb dL_step_322 ?_
                    refine co_eq (show (nI (6 * (δ n))) + (nI k) = (nI ((6 * (δ n)) + k)) from nI_add (6 * (δ n)) k) ?_
                    refine va_iald hx hb hK hP 4 0 rfl rfl (vp_in_nI (n := ((6 * (δ n)) + k)) (N := 60) (by omega) (by decide)) dL_step_323 ?_
                    rcases rq_st hR9 hn9 (Rq.ka hR9 (show k < 6 by omega)) with at_9 | ⟨t_9, gt_9, ht_9, at_9⟩
                    · have bt_9 : tat 64 (σ' 4) (nI n) (nI (κ k)) = (-1) := (rq_v hR9 hn9 (Rq.ka hR9 (show k < 6 by omega))).trans at_9
                      refine co_eq ((rq_w hR9 hn9 rfl k (by omega) (i := (6 * (δ n)) + k) (by omega)).trans at_9) ?_
                      refine lv_if_lt (tgt := 368) hx hb dL_step_324 (by decide) (fun c_10 => ?_) (fun c_10 => ?_)
                      · refine lv_aload hx hb dL_step_368 (lv_at hl 7 rfl) ?_
                        refine lv_bipush (v := 6) hx hb dL_step_370 (by decide) ?_
                        refine lv_iload hx hb dL_step_372 (lv_at hl 8 rfl) ?_
                        refine lv_imul hx hb dL_step_374 ?_
                        refine co_eq (show (6 : Int32) * (nI (δ n)) = (nI (6 * (δ n))) from pk_mul 6 (δ n)) ?_
                        refine lv_iload hx hb dL_step_375 (lv_at hl 10 rfl) ?_
                        refine lv_iadd hx hb dL_step_377 ?_
                        refine co_eq (show (nI (6 * (δ n))) + (nI k) = (nI ((6 * (δ n)) + k)) from nI_add (6 * (δ n)) k) ?_
                        refine va_iald hx hb hK hP 4 0 rfl rfl (vp_in_nI (n := ((6 * (δ n)) + k)) (N := 60) (by omega) (by decide)) dL_step_378 ?_
                        refine co_eq ((rq_w hR9 hn9 rfl k (by omega) (i := (6 * (δ n)) + k) (by omega)).trans at_9) ?_
                        refine lv_if_lt (tgt := 436) hx hb dL_step_379 (by decide) (fun c_11 => ?_) (fun c_11 => ?_)
                        · refine lv_iinc (v := (nI (k + 1))) (lv' := [(9, .int (nI (k + 1))), (10, .int (-1)), (0, .int 7), (1, .int (nI n)), (2, .ref (q 0)), (3, .ref (q 1)), (4, .ref (q 2)), (5, .ref (q 3)), (6, .ref (q 4)), (7, .int (nI (δ n))), (8, .int x)]) hx hb dL_step_436 hl (k := 10) rfl (nI_1 k) (by decide) rfl (fun ls hl => ?_)
                          refine lv_goto (tgt := 289) hx hb dL_step_439 (by decide) ?_
                          have z9 : svT (nI n) (κ k) σ' = 0 := if_pos bt_9
                          have y9 : svA (nI n) (κ k) σ' = σ' := if_pos bt_9
                          exact ih (k + 1) x σ' τ' (by omega) hR9 (by show _ = smI (fun i => svT (nI n) (κ i) (seqA (svA (nI n)) κ σ i)) k + svT (nI n) (κ k) (seqA (svA (nI n)) κ σ k); rw [← hx9, ← h9, z9, Int32.add_zero]) (by show _ = svA (nI n) (κ k) (seqA (svA (nI n)) κ σ k); rw [← h9]; exact y9.symm) _ _ hP hD hS ls (lv_sub hl [2, 3, 4, 5, 6, 7, 8, 9, 10, 0] rfl)
                        · exact absurd (by decide) c_11
                      · exact absurd (by decide) c_10
                    · have bt_9 : tat 64 (σ' 4) (nI n) (nI (κ k)) = (nI t_9) := (rq_v hR9 hn9 (Rq.ka hR9 (show k < 6 by omega))).trans at_9
                      refine co_eq ((rq_w hR9 hn9 rfl k (by omega) (i := (6 * (δ n)) + k) (by omega)).trans at_9) ?_
                      refine lv_if_lt (tgt := 368) hx hb dL_step_324 (by decide) (fun c_12 => ?_) (fun c_12 => ?_)
                      · exact absurd c_12 (nI_pos (by omega))
                      · refine lv_iload hx hb dL_step_327 (lv_at hl 0 rfl) ?_
                        refine lv_if_lt (tgt := 348) hx hb dL_step_329 (by decide) (fun c_13 => ?_) (fun c_13 => ?_)
                        · refine lv_iload hx hb dL_step_348 (lv_at hl 9 rfl) ?_
                          refine lv_iload_n hx hb dL_step_350 rfl (lv_at hl 2 rfl) ?_
                          refine lv_iload hx hb dL_step_351 (lv_at hl 10 rfl) ?_
                          refine lv_aload_n hx hb dL_step_353 rfl (lv_at hl 3 rfl) ?_
                          refine lv_aload_n hx hb dL_step_354 rfl (lv_at hl 4 rfl) ?_
                          refine lv_aload hx hb dL_step_355 (lv_at hl 5 rfl) ?_
                          refine lv_aload hx hb dL_step_357 (lv_at hl 7 rfl) ?_
                          refine co_mSi (As := [.int (nI n), .int (nI k), .ref (q 0), .ref (q 1), .ref (q 2), .ref (q 4)]) (rest := [.int x]) S (c_L_spread l G Z q ν δ κ σ' τ' hR9 n k hn9 (show k < 6 by omega)) (va_cwS 6 hts gL_step_L_spread rfl rfl rfl (by decide +kernel) ⟨Nat.le_of_ble_eq_true rfl, Nat.le_of_ble_eq_true rfl⟩) hK hP hD hS hA rfl hl.1 rfl (Nat.le_of_ble_eq_true rfl) dL_step_359 ⟨Nat.zero_le _, Nat.zero_le _⟩ (fun r_14 u_14 H locs hu_14 hP hD hS => ?_)
                          obtain ⟨hr_14, hq_14⟩ := hu_14
                          have hr_14 : r_14 = (chC σ' (nI n) (nI (κ k))) := hr_14
                          obtain ⟨σ_14, eσ_14⟩ : ∃ z9, z9 = (chS σ' (nI n) (nI (κ k))) := ⟨_, rfl⟩
                          have hq_14 : Rq Z ν δ κ σ_14 u_14 := (by rw [eσ_14]; exact hq_14)
                          have hc0_14 : σ_14 0 = (σ' 0) := (by rw [eσ_14]; exact chS_0)
                          have hP : pG G (wQ G q u_14) H := hP
                          have hD : va_D A (wQ G q u_14) := hD
                          refine lv_iadd hx hb dL_step_362 ?_
                          refine lv_istore (lv' := [(8, .int (x + r_14)), (10, .int (-1)), (0, .int 7), (1, .int (nI n)), (2, .ref (q 0)), (3, .ref (q 1)), (4, .ref (q 2)), (5, .ref (q 3)), (6, .ref (q 4)), (7, .int (nI (δ n))), (9, .int (nI k))]) hx hb dL_step_363 hl (by decide) rfl (fun ls hl => ?_)
                          refine lv_goto (tgt := 436) hx hb dL_step_365 (by decide) ?_
                          refine lv_iinc (v := (nI (k + 1))) (lv' := [(9, .int (nI (k + 1))), (8, .int (x + r_14)), (10, .int (-1)), (0, .int 7), (1, .int (nI n)), (2, .ref (q 0)), (3, .ref (q 1)), (4, .ref (q 2)), (5, .ref (q 3)), (6, .ref (q 4)), (7, .int (nI (δ n)))]) hx hb dL_step_436 hl (k := 10) rfl (nI_1 k) (by decide) rfl (fun ls hl => ?_)
                          refine lv_goto (tgt := 289) hx hb dL_step_439 (by decide) ?_
                          have ne9 : ¬ tat 64 (σ' 4) (nI n) (nI (κ k)) = -1 := (by rw [bt_9]; exact nI_ne1 (by omega))
                          have w9 : spC σ' (nI n) (nI (κ k)) = r_14 := (by rw [hr_14]; simp only [spC, ej_8, c_6, (eq_true c_7), c_12, c_13, eq_self, Bool.false_eq_true, ↓reduceIte])
                          have v9 : spS σ' (nI n) (nI (κ k)) = σ_14 := (by rw [eσ_14]; simp only [spS, ej_8, c_6, (eq_true c_7), c_12, c_13, eq_self, Bool.false_eq_true, ↓reduceIte])
                          have z9 : svT (nI n) (κ k) σ' = r_14 := (if_neg ne9).trans w9
                          have y9 : svA (nI n) (κ k) σ' = σ_14 := (if_neg ne9).trans v9
                          exact ih (k + 1) _ σ_14 u_14 (by omega) hq_14 (by show _ = smI (fun i => svT (nI n) (κ i) (seqA (svA (nI n)) κ σ i)) k + svT (nI n) (κ k) (seqA (svA (nI n)) κ σ k); rw [← hx9, ← h9, z9]) (by show _ = svA (nI n) (κ k) (seqA (svA (nI n)) κ σ k); rw [← h9]; exact y9.symm) _ _ hP hD hS ls (lv_sub hl [3, 4, 5, 6, 7, 8, 9, 10, 1, 0] rfl)
                        · exact absurd (by decide) c_13
                  · have ej_8 : tat 1 (σ' 2) (nI n) 0 = (nI j_8) := ej_8
                    refine co_eq mj_8 ?_
                    refine lv_istore (lv' := [(10, .int (nI j_8)), (0, .int 7), (1, .int (nI n)), (2, .ref (q 0)), (3, .ref (q 1)), (4, .ref (q 2)), (5, .ref (q 3)), (6, .ref (q 4)), (7, .int (nI (δ n))), (8, .int x), (9, .int (nI k))]) hx hb dL_step_311 hl (by decide) rfl (fun ls hl => ?_)
                    refine lv_aload hx hb dL_step_313 (lv_at hl 7 rfl) ?_
                    refine lv_bipush (v := 6) hx hb dL_step_315 (by decide) ?_
                    refine lv_iload hx hb dL_step_317 (lv_at hl 8 rfl) ?_
                    refine lv_imul hx hb dL_step_319 ?_
                    refine co_eq (show (6 : Int32) * (nI (δ n)) = (nI (6 * (δ n))) from pk_mul 6 (δ n)) ?_
                    refine lv_iload hx hb dL_step_320 (lv_at hl 10 rfl) ?_
                    refine lv_iadd hx hb dL_step_322 ?_
                    refine co_eq (show (nI (6 * (δ n))) + (nI k) = (nI ((6 * (δ n)) + k)) from nI_add (6 * (δ n)) k) ?_
                    refine va_iald hx hb hK hP 4 0 rfl rfl (vp_in_nI (n := ((6 * (δ n)) + k)) (N := 60) (by omega) (by decide)) dL_step_323 ?_
                    rcases rq_st hR9 hn9 (Rq.ka hR9 (show k < 6 by omega)) with at_15 | ⟨t_15, gt_15, ht_15, at_15⟩
                    · have bt_15 : tat 64 (σ' 4) (nI n) (nI (κ k)) = (-1) := (rq_v hR9 hn9 (Rq.ka hR9 (show k < 6 by omega))).trans at_15
                      refine co_eq ((rq_w hR9 hn9 rfl k (by omega) (i := (6 * (δ n)) + k) (by omega)).trans at_15) ?_
                      refine lv_if_lt (tgt := 368) hx hb dL_step_324 (by decide) (fun c_16 => ?_) (fun c_16 => ?_)
                      · refine lv_aload hx hb dL_step_368 (lv_at hl 7 rfl) ?_
                        refine lv_bipush (v := 6) hx hb dL_step_370 (by decide) ?_
                        refine lv_iload hx hb dL_step_372 (lv_at hl 8 rfl) ?_
                        refine lv_imul hx hb dL_step_374 ?_
                        refine co_eq (show (6 : Int32) * (nI (δ n)) = (nI (6 * (δ n))) from pk_mul 6 (δ n)) ?_
                        refine lv_iload hx hb dL_step_375 (lv_at hl 10 rfl) ?_
                        refine lv_iadd hx hb dL_step_377 ?_
                        refine co_eq (show (nI (6 * (δ n))) + (nI k) = (nI ((6 * (δ n)) + k)) from nI_add (6 * (δ n)) k) ?_
                        refine va_iald hx hb hK hP 4 0 rfl rfl (vp_in_nI (n := ((6 * (δ n)) + k)) (N := 60) (by omega) (by decide)) dL_step_378 ?_
                        refine co_eq ((rq_w hR9 hn9 rfl k (by omega) (i := (6 * (δ n)) + k) (by omega)).trans at_15) ?_
                        refine lv_if_lt (tgt := 436) hx hb dL_step_379 (by decide) (fun c_17 => ?_) (fun c_17 => ?_)
                        · refine lv_iinc (v := (nI (k + 1))) (lv' := [(9, .int (nI (k + 1))), (10, .int (nI j_8)), (0, .int 7), (1, .int (nI n)), (2, .ref (q 0)), (3, .ref (q 1)), (4, .ref (q 2)), (5, .ref (q 3)), (6, .ref (q 4)), (7, .int (nI (δ n))), (8, .int x)]) hx hb dL_step_436 hl (k := 10) rfl (nI_1 k) (by decide) rfl (fun ls hl => ?_)
                          refine lv_goto (tgt := 289) hx hb dL_step_439 (by decide) ?_
                          have z9 : svT (nI n) (κ k) σ' = 0 := if_pos bt_15
                          have y9 : svA (nI n) (κ k) σ' = σ' := if_pos bt_15
                          exact ih (k + 1) x σ' τ' (by omega) hR9 (by show _ = smI (fun i => svT (nI n) (κ i) (seqA (svA (nI n)) κ σ i)) k + svT (nI n) (κ k) (seqA (svA (nI n)) κ σ k); rw [← hx9, ← h9, z9, Int32.add_zero]) (by show _ = svA (nI n) (κ k) (seqA (svA (nI n)) κ σ k); rw [← h9]; exact y9.symm) _ _ hP hD hS ls (lv_sub hl [2, 3, 4, 5, 6, 7, 8, 9, 10, 0] rfl)
                        · exact absurd (by decide) c_17
                      · exact absurd (by decide) c_16
                    · have bt_15 : tat 64 (σ' 4) (nI n) (nI (κ k)) = (nI t_15) := (rq_v hR9 hn9 (Rq.ka hR9 (show k < 6 by omega))).trans at_15
                      refine co_eq ((rq_w hR9 hn9 rfl k (by omega) (i := (6 * (δ n)) + k) (by omega)).trans at_15) ?_
                      refine lv_if_lt (tgt := 368) hx hb dL_step_324 (by decide) (fun c_18 => ?_) (fun c_18 => ?_)
                      · exact absurd c_18 (nI_pos (by omega))
                      · refine lv_iload hx hb dL_step_327 (lv_at hl 0 rfl) ?_
                        refine lv_if_lt (tgt := 348) hx hb dL_step_329 (by decide) (fun c_19 => ?_) (fun c_19 => ?_)
                        · exact absurd c_19 (nI_pos (by omega))
                        · refine lv_aload_n hx hb dL_step_332 rfl (lv_at hl 4 rfl) ?_
                          refine lv_bipush (v := 20) hx hb dL_step_333 (by decide) ?_
                          refine lv_iload hx hb dL_step_335 (lv_at hl 10 rfl) ?_
                          refine lv_iadd hx hb dL_step_337 ?_
                          refine co_eq (show (20 : Int32) + (nI k) = (nI (20 + k)) from nI_add 20 k) ?_
                          refine va_iald hx hb hK hP 1 0 rfl rfl (vp_in_nI (n := (20 + k)) (N := 27) (by omega) (by decide)) dL_step_338 ?_
                          refine co_eq (rq_k hR9 (show k < 6 by omega)) ?_
                          refine lv_iload hx hb dL_step_339 (lv_at hl 0 rfl) ?_
                          refine lv_iload_n hx hb dL_step_341 rfl (lv_at hl 2 rfl) ?_
                          refine co_rS (As := [.int (nI (κ k)), .int (nI j_8), .int (nI n)]) (rest := []) S (c_L_isIn l G (κ k) j_8 n tk9 hj_8 hn0) (va_cwS 3 hts gL_step_L_isIn rfl rfl rfl (by decide +kernel) ⟨Nat.le_of_ble_eq_true rfl, Nat.le_of_ble_eq_true rfl⟩) hK (pG_nil) rfl hl.1 rfl (Nat.le_of_ble_eq_true rfl) dL_step_342 ⟨Nat.zero_le _, Nat.zero_le _⟩ ?_
                          refine co_ifeq (tgt := 368) S dL_step_345 (by decide) (fun c_20 => ?_) (fun c_20 => ?_)
                          · refine lv_aload hx hb dL_step_368 (lv_at hl 7 rfl) ?_
                            refine lv_bipush (v := 6) hx hb dL_step_370 (by decide) ?_
                            refine lv_iload hx hb dL_step_372 (lv_at hl 8 rfl) ?_
                            refine lv_imul hx hb dL_step_374 ?_
                            refine co_eq (show (6 : Int32) * (nI (δ n)) = (nI (6 * (δ n))) from pk_mul 6 (δ n)) ?_
                            refine lv_iload hx hb dL_step_375 (lv_at hl 10 rfl) ?_
                            refine lv_iadd hx hb dL_step_377 ?_
                            refine co_eq (show (nI (6 * (δ n))) + (nI k) = (nI ((6 * (δ n)) + k)) from nI_add (6 * (δ n)) k) ?_
                            refine va_iald hx hb hK hP 4 0 rfl rfl (vp_in_nI (n := ((6 * (δ n)) + k)) (N := 60) (by omega) (by decide)) dL_step_378 ?_
                            refine co_eq ((rq_w hR9 hn9 rfl k (by omega) (i := (6 * (δ n)) + k) (by omega)).trans at_15) ?_
                            refine lv_if_lt (tgt := 436) hx hb dL_step_379 (by decide) (fun c_21 => ?_) (fun c_21 => ?_)
                            · exact absurd c_21 (nI_pos (by omega))
                            · refine lv_iload_n hx hb dL_step_382 rfl (lv_at hl 2 rfl) ?_
                              refine lv_aload_n hx hb dL_step_383 rfl (lv_at hl 4 rfl) ?_
                              refine lv_bipush (v := 20) hx hb dL_step_384 (by decide) ?_
                              refine lv_iload hx hb dL_step_386 (lv_at hl 10 rfl) ?_
                              refine lv_iadd hx hb dL_step_388 ?_
                              refine co_eq (show (20 : Int32) + (nI k) = (nI (20 + k)) from nI_add 20 k) ?_
                              refine va_iald hx hb hK hP 1 0 rfl rfl (vp_in_nI (n := (20 + k)) (N := 27) (by omega) (by decide)) dL_step_389 ?_
                              refine co_eq (rq_k hR9 (show k < 6 by omega)) ?_
                              refine lv_aload_n hx hb dL_step_390 rfl (lv_at hl 3 rfl) ?_
                              refine lv_aload_n hx hb dL_step_391 rfl (lv_at hl 4 rfl) ?_
                              refine lv_aload hx hb dL_step_392 (lv_at hl 5 rfl) ?_
                              refine lv_aload hx hb dL_step_394 (lv_at hl 6 rfl) ?_
                              obtain ⟨j_22, ej_22, lj_22⟩ := Rq.fn hR9 hn9 tk9
                              have tj_22 : j_22 < 64 := lj_22.1
                              refine co_rS (As := [.int (nI n), .int (nI (κ k)), .ref (q 0), .ref (q 1), .ref (q 2), .ref (q 3)]) (rest := []) S (c_L_found l G Z q ν δ κ σ' τ' hR9 n (κ k) hn9 tk9) (va_cwS 6 hts gL_step_L_found rfl rfl rfl (by decide +kernel) ⟨Nat.le_of_ble_eq_true rfl, Nat.le_of_ble_eq_true rfl⟩) hK hP rfl hl.1 rfl (Nat.le_of_ble_eq_true rfl) dL_step_396 ⟨Nat.zero_le _, Nat.zero_le _⟩ ?_
                              refine co_eq ej_22 ?_
                              refine lv_istore (lv' := [(11, .int (nI j_22)), (10, .int (nI j_8)), (0, .int 7), (1, .int (nI n)), (2, .ref (q 0)), (3, .ref (q 1)), (4, .ref (q 2)), (5, .ref (q 3)), (6, .ref (q 4)), (7, .int (nI (δ n))), (8, .int x), (9, .int (nI k))]) hx hb dL_step_399 hl (by decide) rfl (fun ls hl => ?_)
                              refine lv_iload hx hb dL_step_401 (lv_at hl 10 rfl) ?_
                              refine lv_iload hx hb dL_step_403 (lv_at hl 0 rfl) ?_
                              refine lv_if_ge (tgt := 412) hx hb dL_step_405 (by decide) (fun c_23 => ?_) (fun c_23 => ?_)
                              · refine lv_aload hx hb dL_step_412 (lv_at hl 8 rfl) ?_
                                refine lv_bipush (v := 6) hx hb dL_step_414 (by decide) ?_
                                refine lv_iload hx hb dL_step_416 (lv_at hl 9 rfl) ?_
                                refine lv_imul hx hb dL_step_418 ?_
                                refine co_eq (show (6 : Int32) * (nI (δ n)) = (nI (6 * (δ n))) from pk_mul 6 (δ n)) ?_
                                refine lv_iload hx hb dL_step_419 (lv_at hl 11 rfl) ?_
                                refine lv_iadd hx hb dL_step_421 ?_
                                refine co_eq (show (nI (6 * (δ n))) + (nI k) = (nI ((6 * (δ n)) + k)) from nI_add (6 * (δ n)) k) ?_
                                refine va_iald hx hb hK hP 4 0 rfl rfl (vp_in_nI (n := ((6 * (δ n)) + k)) (N := 60) (by omega) (by decide)) dL_step_422 ?_
                                refine co_eq ((rq_w hR9 hn9 rfl k (by omega) (i := (6 * (δ n)) + k) (by omega)).trans at_15) ?_
                                refine lv_iload hx hb dL_step_423 (lv_at hl 11 rfl) ?_
                                refine lv_iload hx hb dL_step_425 (lv_at hl 0 rfl) ?_
                                refine lv_aload_n hx hb dL_step_427 rfl (lv_at hl 4 rfl) ?_
                                refine lv_aload hx hb dL_step_428 (lv_at hl 8 rfl) ?_
                                refine co_mSi (As := [.int (nI t_15), .int (nI k), .int (nI j_22), .ref (q 0), .ref (q 4)]) (rest := [.int x]) S (c_L_give l G Z q ν δ κ σ' τ' hR9 (nI t_15) n k j_22 hn9 (show k < 6 by omega) lj_22 at_15.symm) (va_cwS 5 hts gL_step_L_give rfl rfl rfl (by decide +kernel) ⟨Nat.le_of_ble_eq_true rfl, Nat.le_of_ble_eq_true rfl⟩) hK hP hD hS hA rfl hl.1 rfl (Nat.le_of_ble_eq_true rfl) dL_step_430 ⟨Nat.zero_le _, Nat.zero_le _⟩ (fun r_24 u_24 H locs hu_24 hP hD hS => ?_)
                                obtain ⟨hr_24, hq_24⟩ := hu_24
                                have hr_24 : r_24 = (gcC σ' (nI n) (nI j_22) (nI (κ k))) := hr_24
                                obtain ⟨σ_24, eσ_24⟩ : ∃ z9, z9 = (gcS σ' (nI n) (nI j_22) (nI (κ k))) := ⟨_, rfl⟩
                                have hq_24 : Rq Z ν δ κ σ_24 u_24 := (by rw [eσ_24]; exact hq_24)
                                have hc0_24 : σ_24 0 = (σ' 0) := (by rw [eσ_24]; exact gcS_0)
                                have hc1_24 : σ_24 1 = (σ' 1) := (by rw [eσ_24]; exact gcS_1)
                                have hc2_24 : σ_24 2 = (σ' 2) := (by rw [eσ_24]; exact gcS_2)
                                have hc3_24 : σ_24 3 = (σ' 3) := (by rw [eσ_24]; exact gcS_3)
                                have hP : pG G (wQ G q u_24) H := hP
                                have hD : va_D A (wQ G q u_24) := hD
                                refine lv_iadd hx hb dL_step_433 ?_
                                refine lv_istore (lv' := [(8, .int (x + r_24)), (11, .int (nI j_22)), (10, .int (nI j_8)), (0, .int 7), (1, .int (nI n)), (2, .ref (q 0)), (3, .ref (q 1)), (4, .ref (q 2)), (5, .ref (q 3)), (6, .ref (q 4)), (7, .int (nI (δ n))), (9, .int (nI k))]) hx hb dL_step_434 hl (by decide) rfl (fun ls hl => ?_)
                                refine lv_iinc (v := (nI (k + 1))) (lv' := [(9, .int (nI (k + 1))), (8, .int (x + r_24)), (11, .int (nI j_22)), (10, .int (nI j_8)), (0, .int 7), (1, .int (nI n)), (2, .ref (q 0)), (3, .ref (q 1)), (4, .ref (q 2)), (5, .ref (q 3)), (6, .ref (q 4)), (7, .int (nI (δ n)))]) hx hb dL_step_436 hl (k := 11) rfl (nI_1 k) (by decide) rfl (fun ls hl => ?_)
                                refine lv_goto (tgt := 289) hx hb dL_step_439 (by decide) ?_
                                have ne9 : ¬ tat 64 (σ' 4) (nI n) (nI (κ k)) = -1 := (by rw [bt_15]; exact nI_ne1 (by omega))
                                have w9 : spC σ' (nI n) (nI (κ k)) = r_24 := (by rw [hr_24]; simp only [spC, ej_8, ej_22, c_6, (eq_true c_7), c_18, c_19, c_20, c_21, c_23, nI_nem hj_8, nI_nem tj_22, eq_self, Bool.false_eq_true, ↓reduceIte])
                                have v9 : spS σ' (nI n) (nI (κ k)) = σ_24 := (by rw [eσ_24]; simp only [spS, ej_8, ej_22, c_6, (eq_true c_7), c_18, c_19, c_20, c_21, c_23, nI_nem hj_8, nI_nem tj_22, eq_self, Bool.false_eq_true, ↓reduceIte])
                                have z9 : svT (nI n) (κ k) σ' = r_24 := (if_neg ne9).trans w9
                                have y9 : svA (nI n) (κ k) σ' = σ_24 := (if_neg ne9).trans v9
                                exact ih (k + 1) _ σ_24 u_24 (by omega) hq_24 (by show _ = smI (fun i => svT (nI n) (κ i) (seqA (svA (nI n)) κ σ i)) k + svT (nI n) (κ k) (seqA (svA (nI n)) κ σ k); rw [← hx9, ← h9, z9]) (by show _ = svA (nI n) (κ k) (seqA (svA (nI n)) κ σ k); rw [← h9]; exact y9.symm) _ _ hP hD hS ls (lv_sub hl [4, 5, 6, 7, 8, 9, 10, 11, 1, 0] rfl)
                              · exact absurd (nI_pos' (by omega)) c_23
                          · refine lv_iload hx hb dL_step_348 (lv_at hl 9 rfl) ?_
                            refine lv_iload_n hx hb dL_step_350 rfl (lv_at hl 2 rfl) ?_
                            refine lv_iload hx hb dL_step_351 (lv_at hl 10 rfl) ?_
                            refine lv_aload_n hx hb dL_step_353 rfl (lv_at hl 3 rfl) ?_
                            refine lv_aload_n hx hb dL_step_354 rfl (lv_at hl 4 rfl) ?_
                            refine lv_aload hx hb dL_step_355 (lv_at hl 5 rfl) ?_
                            refine lv_aload hx hb dL_step_357 (lv_at hl 7 rfl) ?_
                            refine co_mSi (As := [.int (nI n), .int (nI k), .ref (q 0), .ref (q 1), .ref (q 2), .ref (q 4)]) (rest := [.int x]) S (c_L_spread l G Z q ν δ κ σ' τ' hR9 n k hn9 (show k < 6 by omega)) (va_cwS 6 hts gL_step_L_spread rfl rfl rfl (by decide +kernel) ⟨Nat.le_of_ble_eq_true rfl, Nat.le_of_ble_eq_true rfl⟩) hK hP hD hS hA rfl hl.1 rfl (Nat.le_of_ble_eq_true rfl) dL_step_359 ⟨Nat.zero_le _, Nat.zero_le _⟩ (fun r_25 u_25 H locs hu_25 hP hD hS => ?_)
                            obtain ⟨hr_25, hq_25⟩ := hu_25
                            have hr_25 : r_25 = (chC σ' (nI n) (nI (κ k))) := hr_25
                            obtain ⟨σ_25, eσ_25⟩ : ∃ z9, z9 = (chS σ' (nI n) (nI (κ k))) := ⟨_, rfl⟩
                            have hq_25 : Rq Z ν δ κ σ_25 u_25 := (by rw [eσ_25]; exact hq_25)
                            have hc0_25 : σ_25 0 = (σ' 0) := (by rw [eσ_25]; exact chS_0)
                            have hP : pG G (wQ G q u_25) H := hP
                            have hD : va_D A (wQ G q u_25) := hD
                            refine lv_iadd hx hb dL_step_362 ?_
                            refine lv_istore (lv' := [(8, .int (x + r_25)), (10, .int (nI j_8)), (0, .int 7), (1, .int (nI n)), (2, .ref (q 0)), (3, .ref (q 1)), (4, .ref (q 2)), (5, .ref (q 3)), (6, .ref (q 4)), (7, .int (nI (δ n))), (9, .int (nI k))]) hx hb dL_step_363 hl (by decide) rfl (fun ls hl => ?_)
                            refine lv_goto (tgt := 436) hx hb dL_step_365 (by decide) ?_
                            refine lv_iinc (v := (nI (k + 1))) (lv' := [(9, .int (nI (k + 1))), (8, .int (x + r_25)), (10, .int (nI j_8)), (0, .int 7), (1, .int (nI n)), (2, .ref (q 0)), (3, .ref (q 1)), (4, .ref (q 2)), (5, .ref (q 3)), (6, .ref (q 4)), (7, .int (nI (δ n)))]) hx hb dL_step_436 hl (k := 10) rfl (nI_1 k) (by decide) rfl (fun ls hl => ?_)
                            refine lv_goto (tgt := 289) hx hb dL_step_439 (by decide) ?_
                            have ne9 : ¬ tat 64 (σ' 4) (nI n) (nI (κ k)) = -1 := (by rw [bt_15]; exact nI_ne1 (by omega))
                            have w9 : spC σ' (nI n) (nI (κ k)) = r_25 := (by rw [hr_25]; simp only [spC, ej_8, c_6, (eq_true c_7), c_18, c_19, c_20, nI_nem hj_8, eq_self, Bool.false_eq_true, ↓reduceIte])
                            have v9 : spS σ' (nI n) (nI (κ k)) = σ_25 := (by rw [eσ_25]; simp only [spS, ej_8, c_6, (eq_true c_7), c_18, c_19, c_20, nI_nem hj_8, eq_self, Bool.false_eq_true, ↓reduceIte])
                            have z9 : svT (nI n) (κ k) σ' = r_25 := (if_neg ne9).trans w9
                            have y9 : svA (nI n) (κ k) σ' = σ_25 := (if_neg ne9).trans v9
                            exact ih (k + 1) _ σ_25 u_25 (by omega) hq_25 (by show _ = smI (fun i => svT (nI n) (κ i) (seqA (svA (nI n)) κ σ i)) k + svT (nI n) (κ k) (seqA (svA (nI n)) κ σ k); rw [← hx9, ← h9, z9]) (by show _ = svA (nI n) (κ k) (seqA (svA (nI n)) κ σ k); rw [← h9]; exact y9.symm) _ _ hP hD hS ls (lv_sub hl [3, 4, 5, 6, 7, 8, 9, 10, 1, 0] rfl)
          exact LP 6 0 _ _ _ rfl hR rfl rfl _ _ hP hD hS ls (lv_sub hl [3, 4, 5, 6, 7, 8, 9, 2, 1, 0] rfl)
        · exact absurd c_4 (by decide)
    · exact absurd c_2 (by decide)
  · exact absurd c_1 (by decide)
