/-! replicate and leave, key by key; heirs, one successor after the other -/
theorem LocK.n {A : Nat → cS → cS} {C : Nat → cS → Int32} (hL : LocK A C) {c : Nat} (hc : c < 64) (σ : cS) {i : Nat} (h4 : i ≠ 4) (h5 : i ≠ 5) : A c σ i = σ i := by
  by_cases z : c = 0
  · exact ((hL c hc).2 σ 1 (by decide) (by omega)).1 i h4 h5
  · exact ((hL c hc).2 σ 0 (by decide) (fun e => z e.symm)).1 i h4 h5
theorem seq_n {A : Nat → cS → cS} {C : Nat → cS → Int32} (hL : LocK A C) {κ : nF} {σ : cS} {i : Nat} (h4 : i ≠ 4) (h5 : i ≠ 5) : ∀ N, (∀ j, j < N → κ j < 64) → seqA A κ σ N i = σ i
  | 0 => fun _ => rfl
  | N + 1 => fun h => by rw [seqA, hL.n (h N (by omega)) _ h4 h5]; exact seq_n hL h4 h5 N (fun j hj => h j (by omega))
theorem chA_loc {σ σ' : cS} {c : Nat} (hc : c < 64) (h : Ag c σ σ') (n : Int32) : ccA σ' n (nI c) = ccA σ n (nI c) ∧ Ag c (chA σ n (nI c)) (chA σ' n (nI c)) := by
  have e0 := h.1 0 (by decide) (by decide)
  have e1 := h.1 1 (by decide) (by decide)
  unfold ccA chA
  rw [e0, e1]
  by_cases q : heir (σ 0) (σ 1) n (-1) = -1
  · rw [if_pos q, if_pos q, if_pos q, if_pos q]; exact ⟨rfl, h⟩
  · rw [if_neg q, if_neg q, if_neg q, if_neg q]
    obtain ⟨g1, g2⟩ := gc_loc hc h n (heir (σ 0) (σ 1) n (-1))
    exact ⟨by rw [g1], g2⟩
theorem chS_loc {σ σ' : cS} {c : Nat} (hc : c < 64) (h : Ag c σ σ') (n : Int32) : chC σ' n (nI c) = chC σ n (nI c) ∧ Ag c (chS σ n (nI c)) (chS σ' n (nI c)) := by
  have e0 := h.1 0 (by decide) (by decide)
  have e1 := h.1 1 (by decide) (by decide)
  obtain ⟨a1, a2⟩ := chA_loc hc h n
  unfold chC chS
  rw [e0, e1, a1]
  by_cases q : heir (σ 0) (σ 1) n (heir (σ 0) (σ 1) n (-1)) = -1
  · rw [if_pos q, if_pos q, if_pos q, if_pos q]; exact ⟨rfl, a2⟩
  · rw [if_neg q, if_neg q, if_neg q, if_neg q]
    obtain ⟨g1, g2⟩ := gc_loc hc a2 n (heir (σ 0) (σ 1) n (heir (σ 0) (σ 1) n (-1)))
    exact ⟨by rw [g1], g2⟩
theorem chA_oth {σ : cS} {c c' : Nat} (hc : c < 64) (hc' : c' < 64) (hn : c' ≠ c) (n : Int32) : Ag c' σ (chA σ n (nI c)) := by
  unfold chA
  split
  · exact Ag.rf
  · exact gc_oth hc hc' hn _ _
theorem chS_oth {σ : cS} {c c' : Nat} (hc : c < 64) (hc' : c' < 64) (hn : c' ≠ c) (n : Int32) : Ag c' σ (chS σ n (nI c)) := by
  unfold chS
  split
  · exact chA_oth hc hc' hn n
  · exact (chA_oth hc hc' hn n).tr (gc_oth hc hc' hn _ _)
theorem fnR_e {σ σ' : cS} (e0 : σ' 0 = σ 0) (e1 : σ' 1 = σ 1) (e3 : σ' 3 = σ 3) (n k : Int32) : fnR σ' n k = fnR σ n k := by
  rw [fnR, fnR, e0, e1, e3]
theorem sp_loc {σ σ' : cS} {c : Nat} (hc : c < 64) (h : Ag c σ σ') (n : Int32) : spC σ' n (nI c) = spC σ n (nI c) ∧ Ag c (spS σ n (nI c)) (spS σ' n (nI c)) := by
  have e2 := h.1 2 (by decide) (by decide)
  have ef := fnR_e (h.1 0 (by decide) (by decide)) (h.1 1 (by decide) (by decide)) (h.1 3 (by decide) (by decide)) n (nI c)
  obtain ⟨a1, a2⟩ := chS_loc hc h n
  obtain ⟨g1, g2⟩ := gc_loc hc h n (fnR σ n (nI c))
  unfold spC spS
  rw [e2, ef, a1, g1]
  refine ⟨rfl, ?_⟩
  by_cases q : tat 1 (σ 2) n 0 = -1
  · rw [if_pos q, if_pos q]; exact a2
  · rw [if_neg q, if_neg q]
    by_cases u : upTo (nI c) (tat 1 (σ 2) n 0) n = true
    · rw [if_pos u, if_pos u]; exact a2
    · rw [if_neg u, if_neg u]; exact g2
theorem sp_oth {σ : cS} {c c' : Nat} (hc : c < 64) (hc' : c' < 64) (hn : c' ≠ c) (n : Int32) : Ag c' σ (spS σ n (nI c)) := by
  unfold spS
  split
  · exact chS_oth hc hc' hn n
  · split
    · exact chS_oth hc hc' hn n
    · exact gc_oth hc hc' hn _ _
def svA (n : Int32) : Nat → cS → cS := fun c σ => if tat 64 (σ 4) n (nI c) = -1 then σ else spS σ n (nI c)
def svT (n : Int32) : Nat → cS → Int32 := fun c σ => if tat 64 (σ 4) n (nI c) = -1 then 0 else spC σ n (nI c)
theorem sv_Loc (n : Int32) : LocK (svA n) (svT n) := by
  intro c hc
  refine ⟨fun σ σ' h => ?_, fun σ c' hc' hn => ?_⟩
  · have e4 := ta_loc (f := σ 4) (g := σ' 4) hc (fun m hm => (h.2 m hm).1) n
    obtain ⟨a1, a2⟩ := sp_loc hc h n
    unfold svT svA
    rw [e4]
    by_cases q : tat 64 (σ 4) n (nI c) = -1
    · rw [if_pos q, if_pos q, if_pos q, if_pos q]; exact ⟨rfl, h⟩
    · rw [if_neg q, if_neg q, if_neg q, if_neg q]; exact ⟨a1, a2⟩
  · unfold svA
    split
    · exact Ag.rf
    · exact sp_oth hc hc' hn n
theorem svS_q {σ : cS} {n : Int32} : ∀ k, svS σ n k = seqA (svA n) id σ k
  | 0 => rfl
  | k + 1 => by rw [svS, seqA, svS_q k]; rfl
theorem svC_q {σ : cS} {n : Int32} : ∀ k, svC σ n k = smI (fun c => svT n (id c) (seqA (svA n) id σ c)) k
  | 0 => rfl
  | k + 1 => by
    rw [svC, smI, svC_q k, svS_q k]
    show _ = _ + (if tat 64 (seqA (svA n) id σ k 4) n (nI k) = -1 then 0 else spC (seqA (svA n) id σ k) n (nI k))
    by_cases q : tat 64 (seqA (svA n) id σ k 4) n (nI k) = -1
    · rw [if_pos q, if_pos q, Int32.add_zero]
    · rw [if_neg q, if_neg q]
section KEY
variable {Z : Nat} {ν δ κ : nF} {σ τ τ' : cS} {n x : Nat}
theorem rq_v4 (h : Rq Z ν δ κ σ τ) (hL : Lv σ n) {c : Nat} (hc : c < 64) (ho : ∀ i, i < 6 → κ i ≠ c) : tat 64 (σ 4) (nI n) (nI c) = -1 := by
  rw [rq_v h hL hc]; exact rq_out h hL hc ho
theorem rq_sv (h : Rq Z ν δ κ σ τ) (hn : Lv σ n) (h6 : Rq Z ν δ κ (seqA (svA (nI n)) κ σ 6) τ') : Rq Z ν δ κ (svS σ (nI n) 64) τ' := by
  rw [svS_q]
  exact seq_all (sv_Loc _) h (fun c hc ho => if_pos (rq_v4 h hn hc ho)) h6
theorem rq_svc (h : Rq Z ν δ κ σ τ) (hn : Lv σ n) : smI (fun i => svT (nI n) (κ i) (seqA (svA (nI n)) κ σ i)) 6 = svC σ (nI n) 64 := by
  rw [svC_q, seq_c (sv_Loc _) (N := 6) (fun i hi => h.ka hi) h.fx.2.2.2 6 (Nat.le_refl 6), seq_c (sv_Loc _) (κ := id) (N := 64) (fun i hi => hi) (fun i j _ _ e => e) 64 (Nat.le_refl 64)]
  exact rq_ks h (f := fun c => svT (nI n) c σ) (fun c hc ho => if_pos (rq_v4 h hn hc ho))
def hoA (n x : Int32) : Nat → cS → cS := fun c σ => gcS σ n x (nI c)
def hoT (n x : Int32) : Nat → cS → Int32 := fun c σ => gcC σ n x (nI c)
theorem ho_Loc (n x : Int32) : LocK (hoA n x) (hoT n x) := fun _ hc => ⟨fun _ _ h => gc_loc hc h n x, fun _ _ hc' hn => gc_oth hc hc' hn n x⟩
theorem hoL_q {σ : cS} {n x : Int32} : ∀ k, hoL σ n x k = seqA (hoA n x) id σ k
  | 0 => rfl
  | k + 1 => by rw [hoL, seqA, hoL_q k]; rfl
theorem rq_ho (h : Rq Z ν δ κ σ τ) (hn : Lv σ n) (hx : Lv σ x) (h6 : Rq Z ν δ κ (seqA (hoA (nI n) (nI x)) κ σ 6) τ') : Rq Z ν δ κ (hoL σ (nI n) (nI x) 64) τ' := by
  rw [hoL_q]
  refine seq_all (ho_Loc _ _) h (fun c hc ho => ?_) h6
  show gcS σ (nI n) (nI x) (nI c) = σ
  rw [gcS, rq_out h hn hc ho, if_neg]
  intro q
  rcases rq_st h hx hc with e | ⟨t, -, h2, e⟩
  · rw [e] at q; exact absurd q (by decide)
  · rw [e] at q; exact absurd (nI_m1le (by omega)) (Int32.not_le.mpr q)
end KEY
-- heirs
def h1S (L U : Nat → Int32) (n : Int32) : Nat → Int32
  | 0 => -1
  | i + 1 => if alv L (tat 3 U n (nI i)) = true then (if tat 3 U n (nI i) = n then h1S L U n i else if h1S L U n i < 0 then tat 3 U n (nI i) else h1S L U n i) else h1S L U n i
def h2S (L U : Nat → Int32) (n : Int32) : Nat → Int32
  | 0 => -1
  | i + 1 => if alv L (tat 3 U n (nI i)) = true then (if tat 3 U n (nI i) = n then h2S L U n i else if h1S L U n i < 0 then h2S L U n i else if h2S L U n i < 0 then (if tat 3 U n (nI i) = h1S L U n i then h2S L U n i else tat 3 U n (nI i)) else h2S L U n i) else h2S L U n i
theorem m1_neg : ((-1 : Int32) < 0) = True := eq_true (by decide)
set_option maxHeartbeats 4000000 in
theorem hs_fin {L U : Nat → Int32} {n : Int32} {j0 j1 j2 : Nat} (h0 : j0 < 64) (h1 : j1 < 64) (h2 : j2 < 64) (e0 : tat 3 U n 0 = nI j0) (e1 : tat 3 U n 1 = nI j1) (e2 : tat 3 U n 2 = nI j2) : h1S L U n 3 = heir L U n (-1) ∧ h2S L U n 3 = heir L U n (heir L U n (-1)) := by
  have f0 : tat 3 U n (nI 0) = nI j0 := e0
  have f1 : tat 3 U n (nI 1) = nI j1 := e1
  have f2 : tat 3 U n (nI 2) = nI j2 := e2
  have p0 : (nI j0 < 0) = False := eq_false (nI_pos (by omega))
  have p1 : (nI j1 < 0) = False := eq_false (nI_pos (by omega))
  have p2 : (nI j2 < 0) = False := eq_false (nI_pos (by omega))
  have m0 : (nI j0 = -1) = False := eq_false (nI_nem h0)
  have m1 : (nI j1 = -1) = False := eq_false (nI_nem h1)
  have m2 : (nI j2 = -1) = False := eq_false (nI_nem h2)
  simp only [h1S, h2S, heir, hrS, e0, e1, e2, f0, f1, f2, m0, m1, m2, m1_neg, ↓reduceIte]
  rcases Classical.propComplete (alv L (nI j0) = true) with a0 | a0 <;> rcases Classical.propComplete (nI j0 = n) with b0 | b0 <;> rcases Classical.propComplete (alv L (nI j1) = true) with a1 | a1 <;> rcases Classical.propComplete (nI j1 = n) with b1 | b1 <;> rcases Classical.propComplete (alv L (nI j2) = true) with a2 | a2 <;> rcases Classical.propComplete (nI j2 = n) with b2 | b2 <;> rcases Classical.propComplete (nI j1 = nI j0) with d1 | d1 <;> rcases Classical.propComplete (nI j2 = nI j0) with d2 | d2 <;> rcases Classical.propComplete (nI j2 = nI j1) with d3 | d3 <;> simp only [a0, a1, a2, b0, b1, b2, d1, d2, d3, p0, p1, p2, m0, m1, m2, m1_neg, ↓reduceIte, and_self]
theorem hs_ok {Z : Nat} {ν δ κ : nF} {σ τ : cS} {n : Nat} (h : Rq Z ν δ κ σ τ) (hn : Lv σ n) : ∀ k, k ≤ 3 →
    (h1S (σ 0) (σ 1) (nI n) k = -1 ∨ ∃ f, h1S (σ 0) (σ 1) (nI n) k = nI f ∧ Lv σ f ∧ f ≠ n) ∧ (h2S (σ 0) (σ 1) (nI n) k = -1 ∨ ∃ f, h2S (σ 0) (σ 1) (nI n) k = nI f ∧ Lv σ f ∧ f ≠ n)
  | 0 => fun _ => ⟨Or.inl rfl, Or.inl rfl⟩
  | k + 1 => fun hk => by
    obtain ⟨q1, q2⟩ := hs_ok h hn k (by omega)
    obtain ⟨μ, hR⟩ := h.1
    obtain ⟨j, hj, e, -⟩ := rl_s hR hn k (by omega)
    rw [h1S, h2S, e]
    by_cases a : alv (σ 0) (nI j) = true
    · rw [if_pos a, if_pos a]
      by_cases b : nI j = nI n
      · rw [if_pos b, if_pos b]; exact ⟨q1, q2⟩
      · have hl : Lv σ j := ⟨hj, a⟩
        have hne : j ≠ n := fun z => b (by rw [z])
        rw [if_neg b, if_neg b]
        refine ⟨?_, ?_⟩
        · split
          · exact Or.inr ⟨j, rfl, hl, hne⟩
          · exact q1
        · split
          · exact q2
          · split
            · split
              · exact q2
              · exact Or.inr ⟨j, rfl, hl, hne⟩
            · exact q2
    · rw [if_neg a, if_neg a]; exact ⟨q1, q2⟩
theorem hs_3 {Z : Nat} {ν δ κ : nF} {σ τ : cS} {n : Nat} (h : Rq Z ν δ κ σ τ) (hn : Lv σ n) : h1S (σ 0) (σ 1) (nI n) 3 = heir (σ 0) (σ 1) (nI n) (-1) ∧ h2S (σ 0) (σ 1) (nI n) 3 = heir (σ 0) (σ 1) (nI n) (heir (σ 0) (σ 1) (nI n) (-1)) := by
  obtain ⟨μ, hR⟩ := h.1
  obtain ⟨j0, h0, e0, -⟩ := rl_s hR hn 0 (by decide)
  obtain ⟨j1, h1, e1, -⟩ := rl_s hR hn 1 (by decide)
  obtain ⟨j2, h2, e2, -⟩ := rl_s hR hn 2 (by decide)
  exact hs_fin h0 h1 h2 e0 e1 e2
/-- a copy to another node leaves the giver's own -/
theorem gc_own {σ : cS} {f t n c : Nat} (hn : n < 64) (ht : t < 64) (hc : c < 64) (h : t ≠ n) : tat 64 (gcS σ (nI f) (nI t) (nI c) 5) (nI n) (nI c) = tat 64 (σ 5) (nI n) (nI c) := by
  rw [gcS]
  split
  · rw [vu_eq, tat_nI (by decide) hn hc, tat_nI (by decide) hn hc, tset_nI (by decide) ht hc, pk_un (by omega)]
  · rfl
