/-! sums over nodes and keys, and columns of the values: keys don't touch each other -/
def smI (f : Nat → Int32) : Nat → Int32
  | 0 => 0
  | k + 1 => smI f k + f k
theorem smI_congr {f g : Nat → Int32} : ∀ N, (∀ k, k < N → f k = g k) → smI f N = smI g N
  | 0 => fun _ => rfl
  | N + 1 => fun h => by rw [smI, smI, smI_congr N (fun k hk => h k (by omega)), h N (by omega)]
theorem smI_0 {f : Nat → Int32} : ∀ N, (∀ k, k < N → f k = 0) → smI f N = 0
  | 0 => fun _ => rfl
  | N + 1 => fun h => by rw [smI, smI_0 N (fun k hk => h k (by omega)), h N (by omega)]; rfl
theorem smI_add {f g : Nat → Int32} : ∀ N, smI (fun k => f k + g k) N = smI f N + smI g N
  | 0 => rfl
  | N + 1 => by
    rw [smI, smI, smI, smI_add N]
    rw [Int32.add_assoc, Int32.add_assoc, ← Int32.add_assoc (smI g N) (f N) (g N), Int32.add_comm (smI g N) (f N), Int32.add_assoc]
theorem smI_one {a : Nat} {v : Int32} : ∀ N, smI (fun k => if k = a then v else 0) N = if a < N then v else 0
  | 0 => by rw [smI, if_neg (Nat.not_lt_zero a)]
  | N + 1 => by
    rw [smI, smI_one N]
    by_cases c : N = a
    · subst c; rw [if_neg (by omega), if_pos rfl, if_pos (by omega), Int32.zero_add]
    · by_cases d : a < N
      · rw [if_pos d, if_neg c, if_pos (by omega), Int32.add_zero]
      · rw [if_neg d, if_neg c, if_neg (by omega), Int32.add_zero]
/-- a sum whose terms lie on the image of ν -/
theorem smI_im {ν : nF} {N : Nat} : ∀ (M : Nat) (f : Nat → Int32), (∀ i, i < M → ν i < N) → (∀ i j, i < M → j < M → ν i = ν j → i = j) → (∀ c, c < N → (∀ i, i < M → ν i ≠ c) → f c = 0) → smI f N = smI (fun i => f (ν i)) M
  | 0 => fun f _ _ h => smI_0 N (fun k hk => h k hk (fun i hi => absurd hi (Nat.not_lt_zero i)))
  | M + 1 => fun f h1 h2 h3 => by
    have e1 : smI f N = smI (fun c => (if c = ν M then 0 else f c) + (if c = ν M then f (ν M) else 0)) N := by
      refine smI_congr N (fun k _ => ?_)
      by_cases c : k = ν M
      · rw [if_pos c, if_pos c, Int32.zero_add, c]
      · rw [if_neg c, if_neg c, Int32.add_zero]
    rw [e1, smI_add, smI_one, if_pos (h1 M (by omega)), smI]
    rw [smI_im M (fun c => if c = ν M then 0 else f c) (fun i hi => h1 i (by omega)) (fun i j hi hj => h2 i j (by omega) (by omega)) (fun c hc ho => ?_)]
    · congr 1
      refine smI_congr M (fun i hi => ?_)
      show (if ν i = ν M then 0 else f (ν i)) = f (ν i)
      rw [if_neg (fun e => by have := h2 i M (by omega) (by omega) e; omega)]
    · show (if c = ν M then 0 else f c) = 0
      by_cases e : c = ν M
      · rw [if_pos e]
      · rw [if_neg e]
        refine h3 c hc (fun i hi q => ?_)
        by_cases z : i = M
        · subst z; exact e q.symm
        · exact ho i (by omega) q
theorem cnt_sm {L : Nat → Int32} : ∀ k, cnt L k = smI (fun j => bI (alv L (nI j))) k
  | 0 => rfl
  | k + 1 => by
    rw [cnt, smI, cnt_sm k]
    cases alv L (nI k) with
    | true => rw [if_pos rfl]; rfl
    | false => rw [if_neg (by decide)]; exact (Int32.add_zero _).symm
theorem cwp_sm {σ : cS} : ∀ k, cwp σ k = smI (fun j => if alv (σ 0) (nI j) = true then wrg σ (nI j) else 0) k
  | 0 => rfl
  | k + 1 => by
    rw [cwp, smI, cwp_sm k]
    by_cases c : alv (σ 0) (nI k) = true
    · rw [if_pos c, if_pos c]
    · rw [if_neg c, if_neg c, Int32.add_zero]
def kpT (σ : cS) (key n : Int32) : Int32 := if alv (σ 0) n = true then (if tat 64 (σ 4) n key = -1 then 0 else 1) else 0
theorem kpC_sm {σ : cS} {key : Int32} : ∀ k, kpC σ key k = smI (fun j => kpT σ key (nI j)) k
  | 0 => rfl
  | k + 1 => by
    rw [kpC, smI, kpC_sm k, kpT]
    by_cases c : alv (σ 0) (nI k) = true
    · rw [if_pos c, if_pos c]
      by_cases d : tat 64 (σ 4) (nI k) key = -1
      · rw [if_pos d, if_pos d, Int32.add_zero]
      · rw [if_neg d, if_neg d]
    · rw [if_neg c, if_neg c, Int32.add_zero]
section SUM
variable {Z : Nat} {ν δ κ : nF} {σ τ : cS}
/-- a sum over the nodes that live -/
theorem rq_sum (h : Rq Z ν δ κ σ τ) {f : Nat → Int32} (hf : ∀ c, c < 64 → alv (σ 0) (nI c) = false → f c = 0) : smI (fun i => f (ν i)) 10 = smI f 64 := by
  refine (smI_im 10 f (fun i hi => h.nu hi) (fun i j hi hj e => ?_) (fun c hc ho => hf c hc ?_)).symm
  · rw [← h.dn hi, ← h.dn hj, e]
  · by_cases d : δ c < 10
    · exact absurd (h.nd hc d) (ho (δ c) d)
    · exact rq_no h hc d
theorem rq_cnt (h : Rq Z ν δ κ σ τ) : smI (fun i => bI (alv (σ 0) (nI (ν i)))) 10 = cnt (σ 0) 64 := by
  rw [cnt_sm]
  exact rq_sum h (f := fun j => bI (alv (σ 0) (nI j))) (fun c _ e => by show bI (alv (σ 0) (nI c)) = 0; rw [e]; rfl)
theorem rq_cwp (h : Rq Z ν δ κ σ τ) : smI (fun i => if alv (σ 0) (nI (ν i)) = true then wrg σ (nI (ν i)) else 0) 10 = cwp σ 64 := by
  rw [cwp_sm]
  exact rq_sum h (f := fun j => if alv (σ 0) (nI j) = true then wrg σ (nI j) else 0) (fun c _ e => if_neg (by rw [e]; decide))
theorem rq_kpC (h : Rq Z ν δ κ σ τ) (key : Int32) : smI (fun i => kpT σ key (nI (ν i))) 10 = kpC σ key 64 := by
  rw [kpC_sm]
  exact rq_sum h (f := fun j => kpT σ key (nI j)) (fun c _ e => by show kpT σ key (nI c) = 0; rw [kpT, if_neg (by rw [e]; decide)])
/-- a sum over the keys -/
theorem rq_ks (h : Rq Z ν δ κ σ τ) {f : Nat → Int32} (hf : ∀ c, c < 64 → (∀ i, i < 6 → κ i ≠ c) → f c = 0) : smI (fun i => f (κ i)) 6 = smI f 64 :=
  (smI_im 6 f (fun i hi => h.ka hi) h.fx.2.2.2 hf).symm
end SUM
/-- σ' is σ, the values of other keys than c aside -/
def Ag (c : Nat) (σ σ' : cS) : Prop := (∀ i, i ≠ 4 → i ≠ 5 → σ' i = σ i) ∧ ∀ m, m < 64 → σ' 4 (m * 64 + c) = σ 4 (m * 64 + c) ∧ σ' 5 (m * 64 + c) = σ 5 (m * 64 + c)
theorem Ag.rf {c : Nat} {σ : cS} : Ag c σ σ := ⟨fun _ _ _ => rfl, fun _ _ => ⟨rfl, rfl⟩⟩
theorem Ag.tr {c : Nat} {σ σ' σ9 : cS} (h : Ag c σ σ') (g : Ag c σ' σ9) : Ag c σ σ9 := ⟨fun i h4 h5 => (g.1 i h4 h5).trans (h.1 i h4 h5), fun m hm => ⟨(g.2 m hm).1.trans (h.2 m hm).1, (g.2 m hm).2.trans (h.2 m hm).2⟩⟩
theorem Ag.sy {c : Nat} {σ σ' : cS} (h : Ag c σ σ') : Ag c σ' σ := ⟨fun i h4 h5 => (h.1 i h4 h5).symm, fun m hm => ⟨(h.2 m hm).1.symm, (h.2 m hm).2.symm⟩⟩
theorem ta_loc {f g : Nat → Int32} {c : Nat} (hc : c < 64) (h : ∀ m, m < 64 → g (m * 64 + c) = f (m * 64 + c)) (x : Int32) : tat 64 g x (nI c) = tat 64 f x (nI c) := by
  rcases pk_ix x (n := 64) (by decide) with q | q | ⟨j, hj, rfl⟩
  · rw [tat, tat, if_pos q, if_pos q]
  · have q2 : (64 : Int32) ≤ x := q
    by_cases q1 : x < 0
    · rw [tat, tat, if_pos q1, if_pos q1]
    · rw [tat, tat, if_neg q1, if_neg q1, if_pos q2, if_pos q2]
  · rw [tat_nI (by decide) hj hc, tat_nI (by decide) hj hc]; exact h j hj
theorem ts_or {f : Nat → Int32} {c : Nat} (hc : c < 64) (x v : Int32) : (∀ g : Nat → Int32, tset 64 g x (nI c) v = g) ∨ ∃ j, j < 64 ∧ ∀ g : Nat → Int32, tset 64 g x (nI c) v = upd g (j * 64 + c) v := by
  rcases pk_ix x (n := 64) (by decide) with q | q | ⟨j, hj, rfl⟩
  · exact Or.inl (fun g => by rw [tset, if_pos q])
  · have q2 : (64 : Int32) ≤ x := q
    refine Or.inl (fun g => ?_)
    by_cases q1 : x < 0
    · rw [tset, if_pos q1]
    · rw [tset, if_neg q1, if_pos q2]
  · exact Or.inr ⟨j, hj, fun g => tset_nI (by decide) hj hc⟩
theorem ts_loc {f g : Nat → Int32} {c : Nat} (hc : c < 64) (h : ∀ m, m < 64 → g (m * 64 + c) = f (m * 64 + c)) (x v : Int32) : ∀ m, m < 64 → tset 64 g x (nI c) v (m * 64 + c) = tset 64 f x (nI c) v (m * 64 + c) := by
  intro m hm
  rcases ts_or (f := f) hc x v with e | ⟨j, hj, e⟩
  · rw [e, e]; exact h m hm
  · rw [e, e]
    by_cases q : m * 64 + c = j * 64 + c
    · rw [q, pk_us, pk_us]
    · rw [pk_un q, pk_un q]; exact h m hm
theorem ts_oth {f : Nat → Int32} {c c' : Nat} (hc : c < 64) (hc' : c' < 64) (hn : c' ≠ c) (x v : Int32) : ∀ m, tset 64 f x (nI c) v (m * 64 + c') = f (m * 64 + c') := by
  intro m
  rcases ts_or (f := f) hc x v with e | ⟨j, hj, e⟩
  · rw [e]
  · rw [e, pk_un (by omega)]
theorem gc_loc {σ σ' : cS} {c : Nat} (hc : c < 64) (h : Ag c σ σ') (f t : Int32) : gcC σ' f t (nI c) = gcC σ f t (nI c) ∧ Ag c (gcS σ f t (nI c)) (gcS σ' f t (nI c)) := by
  have e5 := fun x => ta_loc (f := σ 5) (g := σ' 5) hc (fun m hm => (h.2 m hm).2) x
  have e4 := fun x => ta_loc (f := σ 4) (g := σ' 4) hc (fun m hm => (h.2 m hm).1) x
  refine ⟨by rw [gcC, gcC, e5, e5], ?_⟩
  rw [gcS, gcS, e5, e5, e4]
  by_cases q : tat 64 (σ 5) t (nI c) < tat 64 (σ 5) f (nI c)
  · rw [if_pos q, if_pos q]
    refine ⟨fun i h4 h5 => ?_, fun m hm => ⟨?_, ?_⟩⟩
    · rw [vu_ne h5, vu_ne h4, vu_ne h5, vu_ne h4]; exact h.1 i h4 h5
    · rw [vu_ne (by decide), vu_eq, vu_ne (by decide), vu_eq]
      exact ts_loc hc (fun m hm => (h.2 m hm).1) t _ m hm
    · rw [vu_eq, vu_eq]
      exact ts_loc hc (fun m hm => (h.2 m hm).2) t _ m hm
  · rw [if_neg q, if_neg q]; exact h
theorem gc_oth {σ : cS} {c c' : Nat} (hc : c < 64) (hc' : c' < 64) (hn : c' ≠ c) (f t : Int32) : Ag c' σ (gcS σ f t (nI c)) := by
  rw [gcS]
  by_cases q : tat 64 (σ 5) t (nI c) < tat 64 (σ 5) f (nI c)
  · rw [if_pos q]
    refine ⟨fun i h4 h5 => ?_, fun m hm => ⟨?_, ?_⟩⟩
    · rw [vu_ne h5, vu_ne h4]
    · rw [vu_ne (by decide), vu_eq]; exact ts_oth hc hc' hn t _ m
    · rw [vu_eq]; exact ts_oth hc hc' hn t _ m
  · rw [if_neg q]; exact Ag.rf
/-- an act on one key that touches and reads that key's values alone -/
def LocK (A : Nat → cS → cS) (C : Nat → cS → Int32) : Prop :=
  ∀ c, c < 64 → (∀ σ σ', Ag c σ σ' → C c σ' = C c σ ∧ Ag c (A c σ) (A c σ')) ∧ ∀ σ c', c' < 64 → c' ≠ c → Ag c' σ (A c σ)
def seqA (A : Nat → cS → cS) (κ : nF) (σ : cS) : Nat → cS
  | 0 => σ
  | k + 1 => A (κ k) (seqA A κ σ k)
theorem seq_at {A : Nat → cS → cS} {C : Nat → cS → Int32} (hL : LocK A C) {κ : nF} {σ : cS} : ∀ N, (∀ i, i < N → κ i < 64) → (∀ i j, i < N → j < N → κ i = κ j → i = j) → ∀ c, c < 64 →
    (∀ i, i < N → κ i = c → Ag c (A c σ) (seqA A κ σ N)) ∧ ((∀ i, i < N → κ i ≠ c) → Ag c σ (seqA A κ σ N))
  | 0 => fun _ _ c _ => ⟨fun i hi => absurd hi (Nat.not_lt_zero i), fun _ => Ag.rf⟩
  | N + 1 => fun h1 h2 c hc => by
    obtain ⟨q1, q2⟩ := seq_at hL (κ := κ) (σ := σ) N (fun i hi => h1 i (by omega)) (fun i j hi hj => h2 i j (by omega) (by omega)) c hc
    obtain ⟨p1, p2⟩ := hL (κ N) (h1 N (by omega))
    refine ⟨fun i hi e => ?_, fun ho => ?_⟩
    · by_cases z : i = N
      · subst z
        subst e
        have q := q2 (fun j hj e => by have := h2 j i (by omega) hi e; omega)
        exact (p1 _ _ q).2
      · have e2 : c ≠ κ N := fun e3 => z (h2 i N hi (by omega) (e.trans e3))
        exact (q1 i (by omega) e).tr (p2 _ c hc e2)
    · exact (q2 (fun i hi => ho i (by omega))).tr (p2 _ c hc (fun e => ho N (by omega) e.symm))
theorem seq_c {A : Nat → cS → cS} {C : Nat → cS → Int32} (hL : LocK A C) {κ : nF} {σ : cS} {N : Nat} (h1 : ∀ i, i < N → κ i < 64) (h2 : ∀ i j, i < N → j < N → κ i = κ j → i = j) : ∀ k, k ≤ N → smI (fun i => C (κ i) (seqA A κ σ i)) k = smI (fun i => C (κ i) σ) k := by
  intro k hk
  refine smI_congr k (fun i hi => ?_)
  have q := (seq_at hL (κ := κ) (σ := σ) i (fun j hj => h1 j (by omega)) (fun a b ha hb => h2 a b (by omega) (by omega)) (κ i) (h1 i (by omega))).2 (fun j hj e => by have := h2 j i (by omega) (by omega) e; omega)
  exact ((hL (κ i) (h1 i (by omega))).1 _ _ q).1
theorem Rq.congr {Z : Nat} {ν δ κ : nF} {σ σ' τ : cS} (h : Rq Z ν δ κ σ τ) (e : ∀ c, c < 64 → Ag c σ σ') : Rq Z ν δ κ σ' τ := by
  have e9 := (e 0 (by decide)).1
  obtain ⟨⟨μ, q1, q2, q3⟩, h1, h2, h3, h4, h5, h6, h7⟩ := h
  have e0 := e9 0 (by decide) (by decide)
  have e1 := e9 1 (by decide) (by decide)
  have e2 := e9 2 (by decide) (by decide)
  have e3 := e9 3 (by decide) (by decide)
  have e6 := e9 6 (by decide) (by decide)
  refine ⟨⟨μ, ?_⟩, ?_⟩
  · unfold Rl
    rw [e0, e6]
    refine ⟨q1, fun n hn z => ?_, q3⟩
    obtain ⟨a1, a2, a3, a4⟩ := q2 n hn z
    unfold Nd
    rw [e1, e2, e3]
    refine ⟨a1, a2, a3, fun k hk => ?_⟩
    rw [((e k hk).2 n hn).1, ((e k hk).2 n hn).2]
    exact a4 k hk
  · unfold Ty
    rw [e0, e6]
    refine ⟨h1, h2, h3, h4, h5, h6, fun k hk z => ?_⟩
    obtain ⟨a1, a2, a3, a4, a5, a6⟩ := h7 k hk z
    have hn := (h1.1 k hk).1
    unfold Nq
    rw [e1, e2, e3]
    refine ⟨a1, a2, a3, fun i hi => ?_, fun c hc => ?_, fun c hc ho => ?_⟩
    · rw [((e (κ i) (h1.2.2.1 i hi)).2 _ hn).2]; exact a4 i hi
    · rw [((e c hc).2 _ hn).1, ((e c hc).2 _ hn).2]; exact a5 c hc
    · rw [((e c hc).2 _ hn).2]; exact a6 c hc ho
/-- six keys, or all sixty-four -/
theorem seq_all {A : Nat → cS → cS} {C : Nat → cS → Int32} (hL : LocK A C) {Z : Nat} {ν δ κ : nF} {σ τ τ' : cS} (h : Rq Z ν δ κ σ τ) (ho : ∀ c, c < 64 → (∀ i, i < 6 → κ i ≠ c) → A c σ = σ) (h6 : Rq Z ν δ κ (seqA A κ σ 6) τ') : Rq Z ν δ κ (seqA A id σ 64) τ' := by
  refine h6.congr (fun c hc => ?_)
  obtain ⟨p1, -⟩ := seq_at hL (κ := id) (σ := σ) 64 (fun i hi => hi) (fun i j _ _ e => e) c hc
  obtain ⟨q1, q2⟩ := seq_at hL (κ := κ) (σ := σ) 6 (fun i hi => h.ka hi) h.fx.2.2.2 c hc
  have p := p1 c hc rfl
  by_cases z : ∃ i, i < 6 ∧ κ i = c
  · obtain ⟨i, hi, e⟩ := z
    exact (q1 i hi e).sy.tr p
  · have z2 : ∀ i, i < 6 → κ i ≠ c := fun i hi e => z ⟨i, hi, e⟩
    rw [ho c hc z2] at p
    exact (q2 z2).sy.tr p
