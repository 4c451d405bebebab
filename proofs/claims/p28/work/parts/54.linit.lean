/-! the law's start: ten nodes, six keys -/
theorem fi_nx {f f' : Nat → Int32} {k : Nat} (hk : k < 2 ^ 31) (h : ∀ j, j < k → f j = -1) (e : f' = upd f (nI k).toNatClampNeg (-1)) : ∀ j, j < k + 1 → f' j = -1 := by
  intro j hj
  rw [e, nI_clamp hk]
  by_cases c : j = k
  · rw [c, pk_us]
  · rw [pk_un c]; exact h j (by omega)
/-- k nodes are chosen: f the slots by nodes, g the nodes by slots -/
def NI (f g : Nat → Int32) (ν : nF) (k : Nat) : Prop :=
  (∀ j, j < k → ν j < 64 ∧ g j = nI (ν j) ∧ f (ν j) = nI j) ∧ (∀ n, n < 64 → f n = -1 ∨ ∃ j, j < k ∧ f n = nI j ∧ ν j = n) ∧ (∀ j, k ≤ j → j < 27 → g j = 0)
theorem NI.z {f g : Nat → Int32} {ν : nF} (hf : ∀ n, n < 64 → f n = -1) (hg : ∀ j, j < 27 → g j = 0) : NI f g ν 0 :=
  ⟨fun j hj => absurd hj (Nat.not_lt_zero j), fun n hn => Or.inl (hf n hn), fun j _ hj => hg j hj⟩
theorem NI.neg {f g : Nat → Int32} {ν : nF} {k x : Nat} (h : NI f g ν k) (hk : k < 10) (hx : x < 64) (c : f (nI x).toNatClampNeg < 0) : f x = -1 := by
  rw [nI_clamp (by omega)] at c
  rcases h.2.1 x hx with e | ⟨j, hj, e, -⟩
  · exact e
  · rw [e] at c; exact absurd c (nI_pos (by omega))
theorem NI.nx {f g f' g' : Nat → Int32} {ν : nF} {k x : Nat} (h : NI f g ν k) (hk : k < 10) (hx : x < 64) (c : f (nI x).toNatClampNeg < 0) (ef : f' = upd f (nI x).toNatClampNeg (nI k)) (eg : g' = upd g (nI k).toNatClampNeg (nI x)) : NI f' g' (fun j => if j = k then x else ν j) (k + 1) := by
  have e := h.neg hk hx c
  rw [nI_clamp (by omega)] at ef eg
  obtain ⟨h1, h2, h3⟩ := h
  have hne : ∀ j, j < k → ν j ≠ x := by
    intro j hj q
    have q2 := (h1 j hj).2.2
    rw [q, e] at q2
    exact nI_ne1 (by omega) q2.symm
  refine ⟨fun j hj => ?_, fun n hn => ?_, fun j hj hj2 => ?_⟩
  · by_cases q : j = k
    · subst q
      dsimp only
      rw [if_pos rfl, ef, eg, pk_us, pk_us]
      exact ⟨hx, rfl, rfl⟩
    · have hj2 : j < k := by omega
      dsimp only
      rw [if_neg q, ef, eg, pk_un q, pk_un (hne j hj2)]
      exact h1 j hj2
  · rw [ef]
    by_cases q : n = x
    · subst q
      rw [pk_us]
      exact Or.inr ⟨k, by omega, rfl, if_pos rfl⟩
    · rw [pk_un q]
      rcases h2 n hn with e2 | ⟨j, hj, e2, e3⟩
      · exact Or.inl e2
      · exact Or.inr ⟨j, by omega, e2, by dsimp only; rw [if_neg (by omega)]; exact e3⟩
  · rw [eg, pk_un (by omega)]
    exact h3 j (by omega) hj2
theorem smI_c : ∀ k, smI (fun _ => 1) k = nI k
  | 0 => rfl
  | k + 1 => by rw [smI, smI_c k, nI_1]
/-- a node is free -/
theorem NI.free {f g : Nat → Int32} {ν : nF} {k : Nat} (h : NI f g ν k) (hk : k < 10) : ∃ n, n < 64 ∧ f n = -1 := by
  obtain ⟨h1, h2, -⟩ := h
  by_cases q : ∃ n, n < 64 ∧ f n = -1
  · exact q
  · exfalso
    have e := smI_im (N := 64) (ν := ν) k (fun _ => 1) (fun i hi => (h1 i hi).1) (fun i j hi hj z => by
      have a := (h1 i hi).2.2
      rw [z, (h1 j hj).2.2] at a
      exact (nI_inj (by omega) (by omega) a).symm) (fun c hc ho => by
      rcases h2 c hc with z | ⟨j, hj, -, z⟩
      · exact absurd ⟨c, hc, z⟩ q
      · exact absurd z (ho j hj))
    rw [smI_c, smI_c] at e
    have := nI_inj (by decide) (by omega) e
    omega
/-- a free node is met within d steps -/
def FR (f : Nat → Int32) (x d : Nat) : Prop := ∃ j, j < d ∧ f ((x + j) % 64) = -1
theorem NI.fr {f g : Nat → Int32} {ν : nF} {k x : Nat} (h : NI f g ν k) (hk : k < 10) (hx : x < 64) : FR f x 64 := by
  obtain ⟨n, hn, e⟩ := h.free hk
  exact ⟨(n + 64 - x) % 64, Nat.mod_lt _ (by decide), by rw [show (x + (n + 64 - x) % 64) % 64 = n by omega]; exact e⟩
theorem FR.nx {f : Nat → Int32} {x d : Nat} (h : FR f x (d + 1)) (hx : x < 64) (c : ¬ f (nI x).toNatClampNeg < 0) : FR f ((x + 1) % 64) d := by
  obtain ⟨j, hj, e⟩ := h
  rw [nI_clamp (by omega)] at c
  by_cases q : j = 0
  · subst q
    rw [show (x + 0) % 64 = x by omega] at e
    rw [e] at c
    exact absurd (by decide) c
  · exact ⟨j - 1, by omega, by rw [show ((x + 1) % 64 + (j - 1)) % 64 = (x + j) % 64 by omega]; exact e⟩
/-- all ten -/
def NF (ν δ : nF) (f g : Nat → Int32) : Prop :=
  (∀ n, n < 64 → f n = if δ n < 10 then nI (δ n) else -1) ∧ (∀ k, k < 10 → g k = nI (ν k) ∧ ν k < 64 ∧ δ (ν k) = k) ∧ (∀ n, n < 64 → δ n < 10 → ν (δ n) = n) ∧ (∀ j, 10 ≤ j → j < 27 → g j = 0)
theorem NI.nf {f g : Nat → Int32} {ν : nF} (h : NI f g ν 10) : ∃ δ, NF ν δ f g := by
  obtain ⟨h1, h2, h3⟩ := h
  have key : ∀ j, j < 10 → ∀ n, f n = nI j → (if f n = -1 then 10 else (f n).toNatClampNeg) = j := by
    intro j hj n e
    rw [e, if_neg (nI_ne1 (by omega)), nI_clamp (by omega)]
  refine ⟨fun n => if f n = -1 then 10 else (f n).toNatClampNeg, fun n hn => ?_, fun k hk => ⟨(h1 k hk).2.1, (h1 k hk).1, key k hk _ (h1 k hk).2.2⟩, fun n hn hd => ?_, h3⟩
  · rcases h2 n hn with e | ⟨j, hj, e, -⟩
    · show f n = if (if f n = -1 then 10 else (f n).toNatClampNeg) < 10 then _ else -1
      rw [if_pos e, if_neg (by decide)]; exact e
    · show f n = if (if f n = -1 then 10 else (f n).toNatClampNeg) < 10 then nI (if f n = -1 then 10 else (f n).toNatClampNeg) else -1
      rw [key j hj n e, if_pos hj]; exact e
  · have hd : (if f n = -1 then 10 else (f n).toNatClampNeg) < 10 := hd
    show ν (if f n = -1 then 10 else (f n).toNatClampNeg) = n
    rcases h2 n hn with e | ⟨j, hj, e, e2⟩
    · rw [if_pos e] at hd; exact absurd hd (by decide)
    · rw [key j hj n e]; exact e2
/-- k keys are chosen, and the next -/
def KI (x0 : Nat) (f g : Nat → Int32) (o : nF) (k x : Nat) : Prop :=
  x = (x0 + o k) % 64 ∧ (∀ i j, i < j → j ≤ k → o i < o j) ∧ o k ≤ 10 * k ∧ (∀ j, j < k → g (20 + j) = nI ((x0 + o j) % 64)) ∧ (∀ j, j < 27 → (j < 20 ∨ 20 + k ≤ j) → g j = f j)
theorem KI.z {x0 : Nat} {f : Nat → Int32} (hx : x0 < 64) : KI x0 f f (fun _ => 0) 0 x0 :=
  ⟨by show x0 = (x0 + 0) % 64; omega, fun i j h1 h2 => absurd h1 (by omega), Nat.le_refl 0, fun j hj => absurd hj (Nat.not_lt_zero j), fun _ _ _ => rfl⟩
theorem KI.nx {x0 k x i : Nat} {f g g' : Nat → Int32} {o : nF} (h : KI x0 f g o k x) (hk : k < 6) (hi : i < 10) (eg : g' = upd g (nI (20 + k)).toNatClampNeg (nI x)) : KI x0 f g' (fun j => if j = k + 1 then o k + 1 + i else o j) (k + 1) ((x + 1 + i) % 64) := by
  obtain ⟨h1, h2, h3, h4, h5⟩ := h
  rw [nI_clamp (by omega)] at eg
  refine ⟨?_, fun a b ha hb => ?_, ?_, fun j hj => ?_, fun j hj ho => ?_⟩
  · dsimp only; rw [if_pos rfl, h1]; omega
  · dsimp only
    by_cases q : b = k + 1
    · rw [if_neg (by omega), if_pos q]
      by_cases z : a = k
      · rw [z]; omega
      · have := h2 a k (by omega) (Nat.le_refl k); omega
    · rw [if_neg (by omega), if_neg q]; exact h2 a b ha (by omega)
  · dsimp only; rw [if_pos rfl]; omega
  · dsimp only; rw [if_neg (by omega), eg]
    by_cases q : j = k
    · rw [q, pk_us, h1]
    · rw [pk_un (by omega)]; exact h4 j (by omega)
  · rw [eg, pk_un (by omega)]; exact h5 j hj (by omega)
theorem rq_new {ν δ o : nF} {σ τ : cS} {f g g' : Nat → Int32} {x0 x : Nat} (h0 : σ 0 = fun _ => 0) (h6 : σ 6 = fun _ => 0) (hN : NF ν δ f g) (hK : KI x0 g g' o 6 x) (t0 : τ 0 = f) (t1 : τ 1 = g') : Rq 0 ν δ (fun j => (x0 + o j) % 64) σ τ := by
  obtain ⟨n1, n2, n3, n4⟩ := hN
  obtain ⟨-, k2, k3, k4, k5⟩ := hK
  refine ⟨⟨fun _ _ => 0, rl_new h0 h6 rfl⟩, ⟨fun k hk => (n2 k hk).2, n3, fun i _ => Nat.mod_lt _ (by decide), fun i j hi hj e => ?_⟩, ?_, fun k hk => ⟨?_, ?_⟩, fun i hi => ?_, ?_, fun n _ _ => by rw [h0], fun k hk e => ?_⟩
  · have e : (x0 + o i) % 64 = (x0 + o j) % 64 := e
    have b : ∀ a, a < 6 → o a ≤ 60 := by
      intro a ha
      have := k2 a 6 ha (Nat.le_refl 6)
      omega
    have bi := b i hi
    have bj := b j hj
    rcases Nat.lt_trichotomy i j with q | q | q
    · have := k2 i j q (by omega); omega
    · exact q
    · have := k2 j i q (by omega); omega
  · rw [t0]; exact n1
  · rw [t1, k5 k (by omega) (Or.inl (by omega))]; exact (n2 k hk).1
  · rw [t1, k5 (10 + k) (by omega) (Or.inl (by omega)), n4 (10 + k) (by omega) (by omega), h0]
  · rw [t1]; exact k4 i hi
  · rw [t1, k5 26 (by decide) (Or.inr (by decide)), n4 26 (by decide) (by decide), h6]
  · rw [h0] at e
    have e : (0 : Int32) = 1 := e
    exact absurd e (by decide)

set_option maxHeartbeats 8000000 in
set_option maxRecDepth 100000 in
theorem law_init {p : Program} {l : Launch} {e : Env} {s : State} {m : MethodId} {below : List Frame} {meth : Method} {c : Code} {b0 L : Nat} {xs : Nat → Int32} {G : cG} {sa a q : Nat → Nat} (C9 : lwT p l s m c b0 L xs G sa) (hr : meth.sig.returnType = ret) (hlocks : meth.locks = false) {σ ρ τ : cS} (h0 : σ 0 = fun _ => 0) (h6 : σ 6 = fun _ => 0) (ht1 : ∀ j, j < 27 → τ 1 j = 0)
    {H : Heap} {locs : List Loc} {cells slots : Nat} {ls : Array Slot} (hc9 : cells ≤ 50000) (hs9 : slots ≤ 200000) (hP : pG G (wW G a q σ ρ τ) H) (hD : va_D (AW s) (wW G a q σ ρ τ)) (hS : va_S (AW s) s.heap H locs) (hl : lv_has ls 20 [(0, .ref b0), (1, .ref (a 0)), (2, .ref (q 0)), (3, .ref (q 1)), (4, .ref (q 2)), (5, .ref (q 3)), (6, .ref (q 4))]) : W p l e room_1 s m #[Value.ref b0] below meth c H locs cells slots (lw_Z below #[Value.ref b0] s) (F0 m 36 ls []) := by
  obtain ⟨S, hl9, hXs, hbl, hK, hX, hL9⟩ := id C9
  obtain ⟨hx, hb, hml, hown, hts⟩ := id S
  have hA : ∀ q : Nat, s.heap.size ≤ q → AW s q := fun _ h => h
  refine lv_iconst (v := 0) hx hb dL_law_36 (by decide) ?_
  refine lv_istore (lv' := [(7, .int 0), (0, .ref b0), (1, .ref (a 0)), (2, .ref (q 0)), (3, .ref (q 1)), (4, .ref (q 2)), (5, .ref (q 3)), (6, .ref (q 4))]) hx hb dL_law_37 hl (by decide) rfl (fun ls hl => ?_)
  have L1 : ∀ (d₁ : Nat) (k : Nat) (f : Nat → Int32), k + d₁ = 64 → (∀ j, j < k → f j = -1) → ∀ (H : Heap) (locs : List Loc), pG G (wW G a q σ ρ (va_up τ 0 f)) H → va_D (AW s) (wW G a q σ ρ (va_up τ 0 f)) → va_S (AW s) s.heap H locs → ∀ ls : Array Slot, lv_has ls 20 [(0, .ref b0), (1, .ref (a 0)), (2, .ref (q 0)), (3, .ref (q 1)), (4, .ref (q 2)), (5, .ref (q 3)), (6, .ref (q 4)), (7, .int (nI k))] → W p l e room_1 s m #[Value.ref b0] below meth c H locs (cells) (slots) (lw_Z below #[Value.ref b0] s) (F0 m 39 ls []) := by
    intro d₁
    induction d₁ with
    | zero =>
      intro k f hk h9 H locs hP hD hS ls hl
      have hf9 : ∀ n, n < 64 → f n = -1 := (by rw [show k = 64 by omega] at h9; exact h9)
      refine lv_iload hx hb dL_law_39 (lv_at hl 7 rfl) ?_
      refine lv_bipush (v := 64) hx hb dL_law_41 (by decide) ?_
      refine lv_icmp_ge (tgt := 57) hx hb dL_law_43 (by decide) (fun c_1 => ?_) (fun c_1 => ?_)
      · refine lv_iconst (v := 0) hx hb dL_law_57 (by decide) ?_
        refine lv_istore (lv' := [(7, .int 0), (0, .ref b0), (1, .ref (a 0)), (2, .ref (q 0)), (3, .ref (q 1)), (4, .ref (q 2)), (5, .ref (q 3)), (6, .ref (q 4))]) hx hb dL_law_58 hl (by decide) rfl (fun ls hl => ?_)
        have L2 : ∀ (d₂ : Nat) (k : Nat) (f g h : Nat → Int32) (ν : Nat → Nat), k + d₂ = 10 → NI f g ν k → ∀ (H : Heap) (locs : List Loc), pG G (wW G a q σ ρ (va_up (va_up (va_up τ 0 f) 1 g) 4 h)) H → va_D (AW s) (wW G a q σ ρ (va_up (va_up (va_up τ 0 f) 1 g) 4 h)) → va_S (AW s) s.heap H locs → ∀ ls : Array Slot, lv_has ls 20 [(0, .ref b0), (1, .ref (a 0)), (2, .ref (q 0)), (3, .ref (q 1)), (4, .ref (q 2)), (5, .ref (q 3)), (6, .ref (q 4)), (7, .int (nI k))] → W p l e room_1 s m #[Value.ref b0] below meth c H locs (cells) (slots) (lw_Z below #[Value.ref b0] s) (F0 m 60 ls []) := by
          intro d₂
          induction d₂ with
          | zero =>
            intro k f g h ν hk h9 H locs hP hD hS ls hl
            obtain ⟨δ, hNF⟩ := NI.nf (by rw [show k = 10 by omega] at h9; exact h9)
            refine lv_iload hx hb dL_law_60 (lv_at hl 7 rfl) ?_
            refine lv_bipush (v := 10) hx hb dL_law_62 (by decide) ?_
            refine lv_icmp_ge (tgt := 145) hx hb dL_law_64 (by decide) (fun c_2 => ?_) (fun c_2 => ?_)
            · refine lv_aload_n hx hb dL_law_145 rfl (lv_at hl 0 rfl) ?_
              refine lv_bipush (v := 10) hx hb dL_law_146 (by decide) ?_
              refine co_cS (As := [.ref b0, .int (nI 10)]) (rest := []) S (c_L_cell l b0 L xs (by omega) 10 (by omega)) (va_cwS 2 hts gL_law_L_cell rfl rfl rfl (by decide +kernel) ⟨(Nat.le_of_ble_eq_true rfl), (Nat.le_of_ble_eq_true rfl)⟩) hXs hbl hS rfl hl.1 rfl (Nat.le_of_ble_eq_true rfl) dL_law_148 ⟨by show cells + 0 ≤ 600130; omega, by show slots + 0 ≤ 7301080; omega⟩ ?_
              refine lv_bipush (v := 64) hx hb dL_law_151 (by decide) ?_
              refine co_rS (As := [.int (cel L xs 10), .int (nI 64)]) (rest := []) S (c_L_low l G (cel L xs 10) 64 (by decide) (by decide)) (va_cwS 2 hts gL_law_L_low rfl rfl rfl (by decide +kernel) ⟨(Nat.le_of_ble_eq_true rfl), (Nat.le_of_ble_eq_true rfl)⟩) hK (pG_nil) rfl hl.1 rfl (Nat.le_of_ble_eq_true rfl) dL_law_153 ⟨by show cells + 0 ≤ 600130; omega, by show slots + 0 ≤ 7301080; omega⟩ ?_
              obtain ⟨y_3, ey_3⟩ : ∃ z9, z9 = lo (cel L xs 10) 64 := ⟨_, rfl⟩
              have by_3 : y_3 < 64 := (by rw [ey_3]; exact lo_lt (by decide))
              refine co_eq (show nI (lo (cel L xs 10) 64) = nI y_3 by rw [ey_3]) ?_
              refine lv_istore (lv' := [(7, .int (nI y_3)), (0, .ref b0), (1, .ref (a 0)), (2, .ref (q 0)), (3, .ref (q 1)), (4, .ref (q 2)), (5, .ref (q 3)), (6, .ref (q 4))]) hx hb dL_law_156 hl (by decide) rfl (fun ls hl => ?_)
              refine lv_iconst (v := 0) hx hb dL_law_158 (by decide) ?_
              refine lv_istore (lv' := [(8, .int 0), (7, .int (nI y_3)), (0, .ref b0), (1, .ref (a 0)), (2, .ref (q 0)), (3, .ref (q 1)), (4, .ref (q 2)), (5, .ref (q 3)), (6, .ref (q 4))]) hx hb dL_law_159 hl (by decide) rfl (fun ls hl => ?_)
              have L5 : ∀ (d₅ : Nat) (k₁ x : Nat) (g' : Nat → Int32) (o : Nat → Nat), k₁ + d₅ = 6 → x < 64 → KI y_3 g g' o k₁ x → ∀ (H : Heap) (locs : List Loc), pG G (wW G a q σ ρ (va_up (va_up (va_up τ 0 f) 1 g') 4 h)) H → va_D (AW s) (wW G a q σ ρ (va_up (va_up (va_up τ 0 f) 1 g') 4 h)) → va_S (AW s) s.heap H locs → ∀ ls : Array Slot, lv_has ls 20 [(0, .ref b0), (1, .ref (a 0)), (2, .ref (q 0)), (3, .ref (q 1)), (4, .ref (q 2)), (5, .ref (q 3)), (6, .ref (q 4)), (7, .int (nI x)), (8, .int (nI k₁))] → W p l e room_1 s m #[Value.ref b0] below meth c H locs (cells) (slots) (lw_Z below #[Value.ref b0] s) (F0 m 161 ls []) := by
                intro d₅
                induction d₅ with
                | zero =>
                  intro k₁ x g' o hk5 hx5 hK9 H locs hP hD hS ls hl
                  refine lv_iload hx hb dL_law_161 (lv_at hl 8 rfl) ?_
                  refine lv_bipush (v := 6) hx hb dL_law_163 (by decide) ?_
                  refine lv_icmp_ge (tgt := 207) hx hb dL_law_165 (by decide) (fun c_4 => ?_) (fun c_4 => ?_)
                  · refine lv_bipush (v := 17) hx hb dL_law_207 (by decide) ?_
                    refine lv_istore (lv' := [(8, .int 17), (0, .ref b0), (1, .ref (a 0)), (2, .ref (q 0)), (3, .ref (q 1)), (4, .ref (q 2)), (5, .ref (q 3)), (6, .ref (q 4)), (7, .int (nI x))]) hx hb dL_law_209 hl (by decide) rfl (fun ls hl => ?_)
                    exact law_turns C9 hr hlocks 100 17 0 _ _ σ ρ (va_up (va_up (va_up τ 0 f) 1 g') 4 h) H locs ls (by decide) (by decide) (by decide) (by omega) (by omega) (rq_new h0 h6 hNF (by rw [show k₁ = 6 by omega] at hK9; exact hK9) rfl rfl) hP hD hS (lv_sub hl [1, 2, 3, 4, 5, 6, 7, 0] rfl)
                  · exact absurd (nI_le (a := 6) (b := k₁) (by omega) (by omega)) c_4
                | succ d₅ ihL5 =>
                  intro k₁ x g' o hk5 hx5 hK9 H locs hP hD hS ls hl
                  refine lv_iload hx hb dL_law_161 (lv_at hl 8 rfl) ?_
                  refine lv_bipush (v := 6) hx hb dL_law_163 (by decide) ?_
                  refine lv_icmp_ge (tgt := 207) hx hb dL_law_165 (by decide) (fun c_5 => ?_) (fun c_5 => ?_)
                  · exact absurd c_5 (nI_ge (a := k₁) (b := 6) (by omega) (by omega))
                  · refine lv_aload_n hx hb dL_law_168 rfl (lv_at hl 3 rfl) ?_
                    refine lv_bipush (v := 20) hx hb dL_law_169 (by decide) ?_
                    refine lv_iload hx hb dL_law_171 (lv_at hl 8 rfl) ?_
                    refine lv_iadd hx hb dL_law_173 ?_
                    refine co_eq (show (20 : Int32) + (nI k₁) = (nI (20 + k₁)) from nI_add 20 k₁) ?_
                    refine lv_iload hx hb dL_law_174 (lv_at hl 7 rfl) ?_
                    refine va_iast hx hb hK hP hD hS 20 0 (f := g') rfl rfl (vp_in_nI (n := (20 + k₁)) (N := 27) (by omega) (by decide)) dL_law_176 (fun H locs hP hD hS => ?_)
                    obtain ⟨f_6, ef_6⟩ : ∃ z9, z9 = (upd g' (nI (20 + k₁)).toNatClampNeg (nI x)) := ⟨_, rfl⟩
                    rw [← ef_6] at hP hD
                    have hP : pG G (wW G a q σ ρ (va_up (va_up (va_up τ 0 f) 1 f_6) 4 h)) H := hP
                    have hD : va_D (AW s) (wW G a q σ ρ (va_up (va_up (va_up τ 0 f) 1 f_6) 4 h)) := hD
                    refine lv_iload hx hb dL_law_177 (lv_at hl 7 rfl) ?_
                    refine lv_iconst (v := 1) hx hb dL_law_179 (by decide) ?_
                    refine lv_iadd hx hb dL_law_180 ?_
                    refine co_eq (show (nI x) + (1 : Int32) = (nI (x + 1)) from nI_add x 1) ?_
                    refine lv_aload_n hx hb dL_law_181 rfl (lv_at hl 0 rfl) ?_
                    refine lv_bipush (v := 11) hx hb dL_law_182 (by decide) ?_
                    refine lv_iload hx hb dL_law_184 (lv_at hl 8 rfl) ?_
                    refine lv_iadd hx hb dL_law_186 ?_
                    refine co_eq (show (11 : Int32) + (nI k₁) = (nI (11 + k₁)) from nI_add 11 k₁) ?_
                    refine co_cS (As := [.ref b0, .int (nI (11 + k₁))]) (rest := [.int (nI (x + 1))]) S (c_L_cell l b0 L xs (by omega) (11 + k₁) (by omega)) (va_cwS 2 hts gL_law_L_cell rfl rfl rfl (by decide +kernel) ⟨(Nat.le_of_ble_eq_true rfl), (Nat.le_of_ble_eq_true rfl)⟩) hXs hbl hS rfl hl.1 rfl (Nat.le_of_ble_eq_true rfl) dL_law_187 ⟨by show cells + 0 ≤ 600130; omega, by show slots + 0 ≤ 7301080; omega⟩ ?_
                    refine lv_bipush (v := 10) hx hb dL_law_190 (by decide) ?_
                    refine co_rS (As := [.int (cel L xs (11 + k₁)), .int (nI 10)]) (rest := [.int (nI (x + 1))]) S (c_L_low l G (cel L xs (11 + k₁)) 10 (by decide) (by decide)) (va_cwS 2 hts gL_law_L_low rfl rfl rfl (by decide +kernel) ⟨(Nat.le_of_ble_eq_true rfl), (Nat.le_of_ble_eq_true rfl)⟩) hK (pG_nil) rfl hl.1 rfl (Nat.le_of_ble_eq_true rfl) dL_law_192 ⟨by show cells + 0 ≤ 600130; omega, by show slots + 0 ≤ 7301080; omega⟩ ?_
                    obtain ⟨y_7, ey_7⟩ : ∃ z9, z9 = lo (cel L xs (11 + k₁)) 10 := ⟨_, rfl⟩
                    have by_7 : y_7 < 10 := (by rw [ey_7]; exact lo_lt (by decide))
                    refine co_eq (show nI (lo (cel L xs (11 + k₁)) 10) = nI y_7 by rw [ey_7]) ?_
                    refine lv_iadd hx hb dL_law_195 ?_
                    refine co_eq (show (nI (x + 1)) + (nI y_7) = (nI ((x + 1) + y_7)) from nI_add (x + 1) y_7) ?_
                    refine lv_bipush (v := 64) hx hb dL_law_196 (by decide) ?_
                    refine lv_irem hx hb dL_law_198 (by decide) ?_
                    refine co_eq (show (nI ((x + 1) + y_7)) - (nI ((x + 1) + y_7)) / 64 * 64 = (nI (((x + 1) + y_7) % 64)) from pk_rem (a := ((x + 1) + y_7)) (d := 64) (by omega) (by decide) (by decide)) ?_
                    refine lv_istore (lv' := [(7, .int (nI (((x + 1) + y_7) % 64))), (0, .ref b0), (1, .ref (a 0)), (2, .ref (q 0)), (3, .ref (q 1)), (4, .ref (q 2)), (5, .ref (q 3)), (6, .ref (q 4)), (8, .int (nI k₁))]) hx hb dL_law_199 hl (by decide) rfl (fun ls hl => ?_)
                    refine lv_iinc (v := (nI (k₁ + 1))) (lv' := [(8, .int (nI (k₁ + 1))), (7, .int (nI (((x + 1) + y_7) % 64))), (0, .ref b0), (1, .ref (a 0)), (2, .ref (q 0)), (3, .ref (q 1)), (4, .ref (q 2)), (5, .ref (q 3)), (6, .ref (q 4))]) hx hb dL_law_201 hl (k := 8) rfl (nI_1 k₁) (by decide) rfl (fun ls hl => ?_)
                    refine lv_goto (tgt := 161) hx hb dL_law_204 (by decide) ?_
                    exact ihL5 (k₁ + 1) ((x + 1 + y_7) % 64) f_6 _ (by omega) (by omega) (KI.nx hK9 (by omega) by_7 ef_6) _ _ hP hD hS ls (lv_sub hl [2, 3, 4, 5, 6, 7, 8, 1, 0] rfl)
              exact L5 6 0 y_3 g (fun _ => 0) rfl by_3 (KI.z by_3) _ _ hP hD hS ls (lv_sub hl [2, 3, 4, 5, 6, 7, 8, 1, 0] rfl)
            · exact absurd (nI_le (a := 10) (b := k) (by omega) (by omega)) c_2
          | succ d₂ ihL2 =>
            intro k f g h ν hk h9 H locs hP hD hS ls hl
            refine lv_iload hx hb dL_law_60 (lv_at hl 7 rfl) ?_
            refine lv_bipush (v := 10) hx hb dL_law_62 (by decide) ?_
            refine lv_icmp_ge (tgt := 145) hx hb dL_law_64 (by decide) (fun c_8 => ?_) (fun c_8 => ?_)
            · exact absurd c_8 (nI_ge (a := k) (b := 10) (by omega) (by omega))
            · refine lv_aload_n hx hb dL_law_67 rfl (lv_at hl 0 rfl) ?_
              refine lv_iload hx hb dL_law_68 (lv_at hl 7 rfl) ?_
              refine co_cS (As := [.ref b0, .int (nI k)]) (rest := []) S (c_L_cell l b0 L xs (by omega) k (by omega)) (va_cwS 2 hts gL_law_L_cell rfl rfl rfl (by decide +kernel) ⟨(Nat.le_of_ble_eq_true rfl), (Nat.le_of_ble_eq_true rfl)⟩) hXs hbl hS rfl hl.1 rfl (Nat.le_of_ble_eq_true rfl) dL_law_70 ⟨by show cells + 0 ≤ 600130; omega, by show slots + 0 ≤ 7301080; omega⟩ ?_
              refine lv_bipush (v := 64) hx hb dL_law_73 (by decide) ?_
              refine co_rS (As := [.int (cel L xs k), .int (nI 64)]) (rest := []) S (c_L_low l G (cel L xs k) 64 (by decide) (by decide)) (va_cwS 2 hts gL_law_L_low rfl rfl rfl (by decide +kernel) ⟨(Nat.le_of_ble_eq_true rfl), (Nat.le_of_ble_eq_true rfl)⟩) hK (pG_nil) rfl hl.1 rfl (Nat.le_of_ble_eq_true rfl) dL_law_75 ⟨by show cells + 0 ≤ 600130; omega, by show slots + 0 ≤ 7301080; omega⟩ ?_
              obtain ⟨y_9, ey_9⟩ : ∃ z9, z9 = lo (cel L xs k) 64 := ⟨_, rfl⟩
              have by_9 : y_9 < 64 := (by rw [ey_9]; exact lo_lt (by decide))
              refine co_eq (show nI (lo (cel L xs k) 64) = nI y_9 by rw [ey_9]) ?_
              refine lv_istore (lv' := [(8, .int (nI y_9)), (0, .ref b0), (1, .ref (a 0)), (2, .ref (q 0)), (3, .ref (q 1)), (4, .ref (q 2)), (5, .ref (q 3)), (6, .ref (q 4)), (7, .int (nI k))]) hx hb dL_law_78 hl (by decide) rfl (fun ls hl => ?_)
              have L3 : ∀ (d₃ : Nat) (x : Nat), x < 64 → FR f x d₃ → ∀ (H : Heap) (locs : List Loc), pG G (wW G a q σ ρ (va_up (va_up (va_up τ 0 f) 1 g) 4 h)) H → va_D (AW s) (wW G a q σ ρ (va_up (va_up (va_up τ 0 f) 1 g) 4 h)) → va_S (AW s) s.heap H locs → ∀ ls : Array Slot, lv_has ls 20 [(0, .ref b0), (1, .ref (a 0)), (2, .ref (q 0)), (3, .ref (q 1)), (4, .ref (q 2)), (5, .ref (q 3)), (6, .ref (q 4)), (7, .int (nI k)), (8, .int (nI x))] → W p l e room_1 s m #[Value.ref b0] below meth c H locs (cells) (slots) (lw_Z below #[Value.ref b0] s) (F0 m 80 ls []) := by
                intro d₃
                induction d₃ with
                | zero =>
                  intro x hx9 hF9 H locs hP hD hS ls hl
                  obtain ⟨j9, hj9, -⟩ := hF9
                  exact absurd hj9 (Nat.not_lt_zero j9)
                | succ d₃ ihL3 =>
                  intro x hx9 hF9 H locs hP hD hS ls hl
                  refine lv_aload_n hx hb dL_law_80 rfl (lv_at hl 2 rfl) ?_
                  refine lv_iload hx hb dL_law_81 (lv_at hl 8 rfl) ?_
                  refine va_iald hx hb hK hP 19 0 rfl rfl (vp_in_nI (n := x) (N := 64) (by omega) (by decide)) dL_law_83 ?_
                  refine lv_if_lt (tgt := 99) hx hb dL_law_84 (by decide) (fun c_10 => ?_) (fun c_10 => ?_)
                  · refine lv_aload_n hx hb dL_law_99 rfl (lv_at hl 2 rfl) ?_
                    refine lv_iload hx hb dL_law_100 (lv_at hl 8 rfl) ?_
                    refine lv_iload hx hb dL_law_102 (lv_at hl 7 rfl) ?_
                    refine va_iast hx hb hK hP hD hS 19 0 (f := f) rfl rfl (vp_in_nI (n := x) (N := 64) (by omega) (by decide)) dL_law_104 (fun H locs hP hD hS => ?_)
                    obtain ⟨f_11, ef_11⟩ : ∃ z9, z9 = (upd f (nI x).toNatClampNeg (nI k)) := ⟨_, rfl⟩
                    rw [← ef_11] at hP hD
                    have hP : pG G (wW G a q σ ρ (va_up (va_up (va_up τ 0 f_11) 1 g) 4 h)) H := hP
                    have hD : va_D (AW s) (wW G a q σ ρ (va_up (va_up (va_up τ 0 f_11) 1 g) 4 h)) := hD
                    refine lv_aload_n hx hb dL_law_105 rfl (lv_at hl 3 rfl) ?_
                    refine lv_iload hx hb dL_law_106 (lv_at hl 7 rfl) ?_
                    refine lv_iload hx hb dL_law_108 (lv_at hl 8 rfl) ?_
                    refine va_iast hx hb hK hP hD hS 20 0 (f := g) rfl rfl (vp_in_nI (n := k) (N := 27) (by omega) (by decide)) dL_law_110 (fun H locs hP hD hS => ?_)
                    obtain ⟨f_12, ef_12⟩ : ∃ z9, z9 = (upd g (nI k).toNatClampNeg (nI x)) := ⟨_, rfl⟩
                    rw [← ef_12] at hP hD
                    have hP : pG G (wW G a q σ ρ (va_up (va_up (va_up τ 0 f_11) 1 f_12) 4 h)) H := hP
                    have hD : va_D (AW s) (wW G a q σ ρ (va_up (va_up (va_up τ 0 f_11) 1 f_12) 4 h)) := hD
                    refine lv_iconst (v := 0) hx hb dL_law_111 (by decide) ?_
                    refine lv_istore (lv' := [(9, .int 0), (0, .ref b0), (1, .ref (a 0)), (2, .ref (q 0)), (3, .ref (q 1)), (4, .ref (q 2)), (5, .ref (q 3)), (6, .ref (q 4)), (7, .int (nI k)), (8, .int (nI x))]) hx hb dL_law_112 hl (by decide) rfl (fun ls hl => ?_)
                    have L4 : ∀ (d₄ : Nat) (i : Nat) (h' : Nat → Int32), i + d₄ = 6 → ∀ (H : Heap) (locs : List Loc), pG G (wW G a q σ ρ (va_up (va_up (va_up τ 0 f_11) 1 f_12) 4 h')) H → va_D (AW s) (wW G a q σ ρ (va_up (va_up (va_up τ 0 f_11) 1 f_12) 4 h')) → va_S (AW s) s.heap H locs → ∀ ls : Array Slot, lv_has ls 20 [(0, .ref b0), (1, .ref (a 0)), (2, .ref (q 0)), (3, .ref (q 1)), (4, .ref (q 2)), (5, .ref (q 3)), (6, .ref (q 4)), (7, .int (nI k)), (8, .int (nI x)), (9, .int (nI i))] → W p l e room_1 s m #[Value.ref b0] below meth c H locs (cells) (slots) (lw_Z below #[Value.ref b0] s) (F0 m 114 ls []) := by
                      intro d₄
                      induction d₄ with
                      | zero =>
                        intro i h' hi9 H locs hP hD hS ls hl
                        refine lv_iload hx hb dL_law_114 (lv_at hl 9 rfl) ?_
                        refine lv_bipush (v := 6) hx hb dL_law_116 (by decide) ?_
                        refine lv_icmp_ge (tgt := 139) hx hb dL_law_118 (by decide) (fun c_13 => ?_) (fun c_13 => ?_)
                        · refine lv_iinc (v := (nI (k + 1))) (lv' := [(7, .int (nI (k + 1))), (0, .ref b0), (1, .ref (a 0)), (2, .ref (q 0)), (3, .ref (q 1)), (4, .ref (q 2)), (5, .ref (q 3)), (6, .ref (q 4)), (8, .int (nI x)), (9, .int (nI i))]) hx hb dL_law_139 hl (k := 7) rfl (nI_1 k) (by decide) rfl (fun ls hl => ?_)
                          refine lv_goto (tgt := 60) hx hb dL_law_142 (by decide) ?_
                          exact ihL2 (k + 1) f_11 f_12 h' (fun j => if j = k then x else ν j) (by omega) (NI.nx h9 (by omega) hx9 c_10 ef_11 ef_12) _ _ hP hD hS ls (lv_sub hl [1, 2, 3, 4, 5, 6, 7, 0] rfl)
                        · exact absurd (nI_le (a := 6) (b := i) (by omega) (by omega)) c_13
                      | succ d₄ ihL4 =>
                        intro i h' hi9 H locs hP hD hS ls hl
                        refine lv_iload hx hb dL_law_114 (lv_at hl 9 rfl) ?_
                        refine lv_bipush (v := 6) hx hb dL_law_116 (by decide) ?_
                        refine lv_icmp_ge (tgt := 139) hx hb dL_law_118 (by decide) (fun c_14 => ?_) (fun c_14 => ?_)
                        · exact absurd c_14 (nI_ge (a := i) (b := 6) (by omega) (by omega))
                        · refine lv_aload hx hb dL_law_121 (lv_at hl 6 rfl) ?_
                          refine lv_bipush (v := 6) hx hb dL_law_123 (by decide) ?_
                          refine lv_iload hx hb dL_law_125 (lv_at hl 7 rfl) ?_
                          refine lv_imul hx hb dL_law_127 ?_
                          refine co_eq (show (6 : Int32) * (nI k) = (nI (6 * k)) from pk_mul 6 k) ?_
                          refine lv_iload hx hb dL_law_128 (lv_at hl 9 rfl) ?_
                          refine lv_iadd hx hb dL_law_130 ?_
                          refine co_eq (show (nI (6 * k)) + (nI i) = (nI ((6 * k) + i)) from nI_add (6 * k) i) ?_
                          refine lv_iconst (v := (-1)) hx hb dL_law_131 (by decide) ?_
                          refine va_iast hx hb hK hP hD hS 23 0 (f := h') rfl rfl (vp_in_nI (n := ((6 * k) + i)) (N := 60) (by omega) (by decide)) dL_law_132 (fun H locs hP hD hS => ?_)
                          obtain ⟨f_15, ef_15⟩ : ∃ z9, z9 = (upd h' (nI ((6 * k) + i)).toNatClampNeg (-1)) := ⟨_, rfl⟩
                          rw [← ef_15] at hP hD
                          have hP : pG G (wW G a q σ ρ (va_up (va_up (va_up τ 0 f_11) 1 f_12) 4 f_15)) H := hP
                          have hD : va_D (AW s) (wW G a q σ ρ (va_up (va_up (va_up τ 0 f_11) 1 f_12) 4 f_15)) := hD
                          refine lv_iinc (v := (nI (i + 1))) (lv' := [(9, .int (nI (i + 1))), (0, .ref b0), (1, .ref (a 0)), (2, .ref (q 0)), (3, .ref (q 1)), (4, .ref (q 2)), (5, .ref (q 3)), (6, .ref (q 4)), (7, .int (nI k)), (8, .int (nI x))]) hx hb dL_law_133 hl (k := 9) rfl (nI_1 i) (by decide) rfl (fun ls hl => ?_)
                          refine lv_goto (tgt := 114) hx hb dL_law_136 (by decide) ?_
                          exact ihL4 (i + 1) f_15 (by omega) _ _ hP hD hS ls (lv_sub hl [1, 2, 3, 4, 5, 6, 7, 8, 9, 0] rfl)
                    exact L4 6 0 h rfl _ _ hP hD hS ls (lv_sub hl [1, 2, 3, 4, 5, 6, 7, 8, 9, 0] rfl)
                  · refine lv_iload hx hb dL_law_87 (lv_at hl 8 rfl) ?_
                    refine lv_iconst (v := 1) hx hb dL_law_89 (by decide) ?_
                    refine lv_iadd hx hb dL_law_90 ?_
                    refine co_eq (show (nI x) + (1 : Int32) = (nI (x + 1)) from nI_add x 1) ?_
                    refine lv_bipush (v := 64) hx hb dL_law_91 (by decide) ?_
                    refine lv_irem hx hb dL_law_93 (by decide) ?_
                    refine co_eq (show (nI (x + 1)) - (nI (x + 1)) / 64 * 64 = (nI ((x + 1) % 64)) from pk_rem (a := (x + 1)) (d := 64) (by omega) (by decide) (by decide)) ?_
                    refine lv_istore (lv' := [(8, .int (nI ((x + 1) % 64))), (0, .ref b0), (1, .ref (a 0)), (2, .ref (q 0)), (3, .ref (q 1)), (4, .ref (q 2)), (5, .ref (q 3)), (6, .ref (q 4)), (7, .int (nI k))]) hx hb dL_law_94 hl (by decide) rfl (fun ls hl => ?_)
                    refine lv_goto (tgt := 80) hx hb dL_law_96 (by decide) ?_
                    exact ihL3 ((x + 1) % 64) (Nat.mod_lt _ (by decide)) (FR.nx hF9 hx9 c_10) _ _ hP hD hS ls (lv_sub hl [1, 2, 3, 4, 5, 6, 7, 8, 0] rfl)
              exact L3 64 y_9 by_9 (NI.fr h9 (by omega) by_9) _ _ hP hD hS ls (lv_sub hl [1, 2, 3, 4, 5, 6, 7, 8, 0] rfl)
        exact L2 10 0 f (τ 1) (τ 4) (fun _ => 0) rfl (NI.z hf9 ht1) _ _ hP hD hS ls (lv_sub hl [1, 2, 3, 4, 5, 6, 7, 0] rfl)
      · exact absurd (nI_le (a := 64) (b := k) (by omega) (by omega)) c_1
    | succ d₁ ihL1 =>
      intro k f hk h9 H locs hP hD hS ls hl
      refine lv_iload hx hb dL_law_39 (lv_at hl 7 rfl) ?_
      refine lv_bipush (v := 64) hx hb dL_law_41 (by decide) ?_
      refine lv_icmp_ge (tgt := 57) hx hb dL_law_43 (by decide) (fun c_16 => ?_) (fun c_16 => ?_)
      · exact absurd c_16 (nI_ge (a := k) (b := 64) (by omega) (by omega))
      · refine lv_aload_n hx hb dL_law_46 rfl (lv_at hl 2 rfl) ?_
        refine lv_iload hx hb dL_law_47 (lv_at hl 7 rfl) ?_
        refine lv_iconst (v := (-1)) hx hb dL_law_49 (by decide) ?_
        refine va_iast hx hb hK hP hD hS 19 0 (f := f) rfl rfl (vp_in_nI (n := k) (N := 64) (by omega) (by decide)) dL_law_50 (fun H locs hP hD hS => ?_)
        obtain ⟨f_17, ef_17⟩ : ∃ z9, z9 = (upd f (nI k).toNatClampNeg (-1)) := ⟨_, rfl⟩
        rw [← ef_17] at hP hD
        have hP : pG G (wW G a q σ ρ (va_up τ 0 f_17)) H := hP
        have hD : va_D (AW s) (wW G a q σ ρ (va_up τ 0 f_17)) := hD
        refine lv_iinc (v := (nI (k + 1))) (lv' := [(7, .int (nI (k + 1))), (0, .ref b0), (1, .ref (a 0)), (2, .ref (q 0)), (3, .ref (q 1)), (4, .ref (q 2)), (5, .ref (q 3)), (6, .ref (q 4))]) hx hb dL_law_51 hl (k := 7) rfl (nI_1 k) (by decide) rfl (fun ls hl => ?_)
        refine lv_goto (tgt := 39) hx hb dL_law_54 (by decide) ?_
        exact ihL1 (k + 1) f_17 (by omega) (fi_nx (by omega) h9 ef_17) _ _ hP hD hS ls (lv_sub hl [1, 2, 3, 4, 5, 6, 7, 0] rfl)
  exact L1 64 0 (τ 0) rfl (fun j h => absurd h (Nat.not_lt_zero j)) _ _ hP hD hS ls (lv_sub hl [1, 2, 3, 4, 5, 6, 7, 0] rfl)
