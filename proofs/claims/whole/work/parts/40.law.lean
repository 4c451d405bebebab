/-! THE CLAIM OUT OF ONE WALK OF THE LAW'S BODY. Your part is whole_start (and what it stands on); all else here is the same for every law, but numbers. -/
def R_law : String := "ChordOverlayLaw"
def lw_P (b : Addr) (xs : List Int32) (args : Array Value) (s : State) : Prop := args = #[.ref b] ∧ s.IntsAt b xs ∧ xs.length ≤ 2048 ∧ (Jvm.Cond.and given_1 narrow_1).before args s = true
def lw_Q (_ : Array Value) (s : State) (o : Outcome) (t : State) : Prop := o = .returned (some (.int 1)) ∧ Framed s o t [] 601024 7293034
def lw_Z (below : List Frame) (a : Array Value) (s : State) : State → Prop := fun t => ∃ o, t.status = .running ∧ Ended t below o ∧ lw_Q a s o t
/-- the law's own end, with 1 on the stack, nothing written that was there before, its room as the claim has it -/
theorem lw_ret {p : Program} {l : Launch} {e : Env} {s : State} {m : MethodId} {below : List Frame} {meth : Method} {c : Code} {b : Nat} (hx : p.tables.exec = Jvm.exec) (hb : c.code = code) (hr : meth.sig.returnType = ret) (hlocks : meth.locks = false) {pc : Nat} {H : Heap} {ls : Array Slot} (hdg : decode code pc = .ok (.ireturn, 1)) : W p l e room_1 s m #[Value.ref b] below meth c H [] 601024 7293034 (lw_Z below #[Value.ref b] s) (F0 m pc ls [.int 1]) := by
  intro T hT X
  obtain ⟨fs, hret, hrun, hended, hW, hframe⟩ := X.leave (v := some (.int 1)) (hlocks := hlocks) (fun h => by rw [hr] at h; cases h)
  have hmeth' : T.vm.method? m = some meth := X.method'
  refine ⟨T.setFrames fs, ?_, .returned (some (.int 1)), hrun, hended, rfl, ⟨_, rfl⟩, hW, hframe⟩
  jvm_step X.here [X.here.top, hx, hb, hdg, hmeth', hr, ret, narrow_b1]
  (try refine ⟨rfl, ?_⟩); (try refine ⟨rfl, ?_⟩)
  first | (intro acts; rw [hret _ acts rfl rfl rfl]) | rw [hret _ _ rfl rfl rfl]
  exact Steps.refl _
/-- what holds at the law's entry: the machine, the code, the tables' words (any of lw_tbl by 'hts w (by decide +kernel)'), the script of L ints xs at the cell b, what the Statement gives of the start (any of its parts by flat_of_before) -/
def lw_At (p : Program) (s : State) (m : MethodId) (meth : Method) (c : Code) (b L : Nat) (xs : Nat → Int32) : Prop :=
  p.tables.exec = Jvm.exec ∧ c.code = code ∧ meth.sig.returnType = ret ∧ c.maxLocals = 7 ∧ s.vm.findClass R_law = some m.cls ∧ (∀ w ∈ lw_tbl, w.before #[Value.ref b] s = true) ∧ va_X b L xs s s.heap ∧ b < s.heap.size ∧ meth.locks = false ∧ (Jvm.Cond.and given_1 narrow_1).before #[Value.ref b] s = true
theorem lwl_fit {i L : Nat} (hi : i ≤ 4096) (hL : L ≤ 2048) (c : ¬ nI L - 4 < nI i) : i + 4 ≤ L := by
  rw [Int32.lt_iff_toInt_lt, show (4 : Int32) = nI 4 from rfl, pk_sub_toInt (by omega) (by decide), nI_toInt (by omega)] at c
  omega
theorem lw_arr {s : State} {args : Array Value} {ty : FieldType} (h : (Cond.arrayClass ty).before args s = true) : ∃ cA, ArrOfT s cA ty ∧ s.vm.findClass ("[" ++ ty.toString) = some cA := by
  obtain ⟨cA, kA, comp, h1, h2, h3⟩ := Cond.arrayClass_spec (show (Cond.arrayClass ty).holds args s none s [] = true from h)
  exact ⟨cA, fun n z => ⟨fun k h => (by cases h), kA, h2, comp, h3⟩, h1⟩
theorem lw_str {s : State} {args : Array Value} {own tx : String} {k cur : Nat} (hc : s.vm.findClass own = some cur) (h : (Cond.stringRef own k tx).before args s = true) : ∃ a, vk_R own k tx a s := by
  obtain ⟨_, _, _, a, _, _, _, _, _, he⟩ := Cond.stringRef_spec hc (show (Cond.stringRef own k tx).holds args s none s [] = true from h)
  exact ⟨a, vk_R.of h he⟩
theorem co_newL {p : Program} {l : Launch} {e : Env} {R : Room} {s : State} {m : MethodId} {args : Array Value} {below : List Frame} {meth : Method} {c : Code} {H : Heap} {locs : List Loc} {cells slots : Nat} {Q : State → Prop}
    {Ts : List Cond} {cc : ByteArray} {nL pc : Nat} {own : String} {rest : List Value} {ls : Array Slot} {G : cG} {w : va_W} {A : Nat → Prop}
    (S0 : CallFix p m c cc nL s args Ts own) (harr : (Cond.arrayClass .long).before args s = true) (hK : kG G s) (hP : pG G w H) (hD : va_D A w) (hS : va_S A s.heap H locs) (hA : ∀ q, s.heap.size ≤ q → A q) (hcells : cells + 1 ≤ R.cells) (hslots : slots + 1 ≤ R.slots) (hdg : decode cc pc = .ok (.newarray .long, 2))
    (kk : ∀ (q : Nat) (H1 : Heap), pG G (w ++ [(q, .inl (G.2.2.2, 1, .inr (.inl (fun _ => 0))))]) H1 → va_D A (w ++ [(q, .inl (G.2.2.2, 1, .inr (.inl (fun _ => 0))))]) → va_S A s.heap H1 locs → W p l e R s m args below meth c H1 locs (cells + 1) (slots + 1) Q (F0 m (pc + 2) ls (.ref q :: rest))) : W p l e R s m args below meth c H locs cells slots Q (F0 m pc ls (.int 1 :: rest)) := by
  refine va_newa (atype := .long) (a0 := (1, .inr (.inl (fun _ => 0)))) (ty := .long) S0.1 S0.2.1 harr rfl hK hP hD hS hA (fun _ => rfl) (by decide) (by decide) (Nat.le_of_ble_eq_true rfl) hcells hslots hdg (fun q cA H1 hK1 hP1 hD1 hS1 => ?_)
  have e : cA = G.2.2.2 := kG_u (k := 2) hK hK1 rfl (fun C q => by cases q)
  subst e
  exact kk q H1 hP1 hD1 hS1
theorem rl_new {σ μ : cS} (h0 : σ 0 = fun _ => 0) (h6 : σ 6 = fun _ => 0) (hm : μ = fun _ _ => 0) : Rl 0 σ μ := by
  refine ⟨fun n _ => ⟨by rw [hm, h0], Or.inl (by rw [h0])⟩, fun n _ h1 => ?_, 0, Nat.le_refl 0, by rw [h6]; rfl, by rw [hm]; rfl⟩
  rw [h0] at h1
  have h1 : (0 : Int32) = 1 := h1
  exact absurd h1 (by decide)
set_option maxHeartbeats 8000000 in
set_option maxRecDepth 100000 in
/-- THE LAW'S LOOP: at its head, with i ints read, the class and the reference agree -/
theorem law_loop {p : Program} {l : Launch} {e : Env} {s : State} {m : MethodId} {below : List Frame} {meth : Method} {c : Code} {b0 L : Nat} {xs : Nat → Int32} {G : cG} {sa : Nat → Nat} {a b : Nat → Nat} {q : Nat} (hL : L ≤ 2048) (C0 : lw_At p s m meth c b0 L xs) (hl9 : l.stackTraces = false) (hK : kG G s) (hX : tX sa (fun q => s.heap.size ≤ q) s s.heap) (hN : tN s) :
    ∀ (n i Z cells slots : Nat) (σ ρ μ : cS) (o : Nat → Int64) (H : Heap) (locs : List Loc) (ls : Array Slot), i ≤ 4096 → 4096 < i + n → Z ≤ i → cells ≤ 40 + i → slots ≤ 60000 + 6 * i → Rl Z σ μ → pG G (wW G a b q (σ, ρ, o) μ) H → va_D (fun q => s.heap.size ≤ q) (wW G a b q (σ, ρ, o) μ) → va_S (fun q => s.heap.size ≤ q) s.heap H locs → lv_has ls 7 (lwL a b b0 q i) → W p l e room_1 s m #[Value.ref b0] below meth c H locs cells slots (lw_Z below #[Value.ref b0] s) (F0 m 23 ls []) := by
  obtain ⟨hx, hb, hr, hml, hown, hts, hXs, hbl, hlocks, hgv⟩ := C0
  have hw : ∀ w ∈ wsL_law, w.before #[Value.ref b0] s = true := fun w h => hts w (wsL_law_in w h)
  have S : CallFix p m c code 7 s #[Value.ref b0] wsL_law RL := ⟨hx, hb, hml, hown, hw⟩
  intro n
  induction n with
  | zero =>
    intro i Z cells slots σ ρ μ o H locs ls h1 h2
    exact absurd h2 (by omega)
  | succ n ih =>
    intro i Z cells slots σ ρ μ o H locs ls hi hn hZ hc hsl hR hP hD hS hl
    have hl : lv_has ls 7 [(0, .ref b0), (1, .ref (a 0)), (2, .ref (b 0)), (3, .ref q), (4, .int (nI i))] := hl
    refine lv_iload hx hb dL_law_23 (lv_at hl 4 rfl) ?_
    refine lv_aload_n hx hb dL_law_25 rfl (lv_at hl 0 rfl) ?_
    refine va_slen hx hb hXs hbl (A := fun q => s.heap.size ≤ q) (Nat.not_le.mpr hbl) hS dL_law_26 ?_
    refine lv_iconst (v := 4) hx hb dL_law_27 (by decide) ?_
    refine lv_isub hx hb dL_law_28 ?_
    refine lv_icmp_gt (tgt := 1618) hx hb dL_law_29 (by decide) (fun c1 => ?_) (fun c1 => ?_)
    · refine lv_iconst (v := 1) hx hb dL_law_1618 (by decide) ?_
      refine va_forget (fun q hq => hS.2.2 q hq) ?_
      refine W.widen (k := 601024) (n := 7293034) (by omega) (by omega) ?_
      exact lw_ret hx hb hr hlocks dL_law_1619
    · have hi4 : i + 4 ≤ L := lwl_fit hi hL c1
      have C9 : lwI p l s m c b0 L xs G sa i := ⟨S, hl9, hXs, hbl, hK, hX, hN, hi4, hL⟩
      have hc4 : cells + 4 ≤ 601024 := by omega
      have hs4 : slots + 24 ≤ 7293034 := by omega
      have hZ4 : Z + 1 < 2 ^ 30 := by omega
      have kk : ∀ (σ' ρ' μ' : cS) (o' : Nat → Int64) (H' : Heap) (locs' : List Loc) (ls' : Array Slot), Rl (Z + 1) σ' μ' → pG G (wW G a b q (σ', ρ', o') μ') H' → va_D (fun q => s.heap.size ≤ q) (wW G a b q (σ', ρ', o') μ') → va_S (fun q => s.heap.size ≤ q) s.heap H' locs' → lv_has ls' 7 (lwL a b b0 q i) → W p l e room_1 s m #[Value.ref b0] below meth c H' locs' (cells + 4) (slots + 24) (lw_Z below #[Value.ref b0] s) (F0 m 1612 ls' []) := by
        intro σ' ρ' μ' o' H' locs' ls' hR hP hD hS hl
        have hl : lv_has ls' 7 [(0, .ref b0), (1, .ref (a 0)), (2, .ref (b 0)), (3, .ref q), (4, .int (nI i))] := hl
        refine lv_iinc (v := nI (i + 4)) (lv' := [(4, .int (nI (i + 4))), (0, .ref b0), (1, .ref (a 0)), (2, .ref (b 0)), (3, .ref q)]) hx hb dL_law_1612 hl (k := 4) rfl (nI_add i 4) (by decide) rfl (fun ls hl => ?_)
        refine lv_goto (tgt := 23) hx hb dL_law_1615 (by decide) ?_
        exact ih (i + 4) (Z + 1) _ _ σ' ρ' μ' o' H' locs' ls (by omega) (by omega) (by omega) (by omega) (by omega) hR hP hD hS (lv_sub hl [1, 2, 3, 4, 0] rfl)
      refine lv_aload_n hx hb dL_law_32 rfl (lv_at hl 0 rfl) ?_
      refine lv_iload hx hb dL_law_33 (lv_at hl 4 rfl) ?_
      refine co_sld (i := i) hx hb hXs hbl hS rfl (by omega) hL dL_law_35 ?_
      refine lv_bipush (v := 31) hx hb dL_law_36 (by decide) ?_
      refine lv_iand hx hb dL_law_38 ?_
      obtain ⟨j, hj, ej⟩ := pk_andE (xs i) (m := 31) 5 (by decide)
      rw [ej]
      rcases (show j = 0 ∨ j = 1 ∨ j = 2 ∨ j = 3 ∨ j = 4 ∨ j = 5 ∨ j = 6 ∨ j = 7 ∨ j = 8 ∨ j = 9 ∨ j = 10 ∨ j = 11 ∨ j = 12 ∨ j = 13 ∨ j = 14 ∨ j = 15 ∨ j = 16 ∨ j = 17 ∨ j = 18 ∨ j = 19 ∨ j = 20 ∨ j = 21 ∨ j = 22 ∨ j = 23 ∨ j = 24 ∨ (25 ≤ j ∧ j < 32) by omega) with rfl | rfl | rfl | rfl | rfl | rfl | rfl | rfl | rfl | rfl | rfl | rfl | rfl | rfl | rfl | rfl | rfl | rfl | rfl | rfl | rfl | rfl | rfl | rfl | rfl | ⟨h1, h2⟩
      · exact lv_tableIn (off := 113) (tgt := 152) hx hb dL_law_39 (by decide) (by decide) (by decide) (by decide) (lc_create C9 hR hZ4 hc4 hs4 hP hD hS hl kk)
      · exact lv_tableIn (off := 169) (tgt := 208) hx hb dL_law_39 (by decide) (by decide) (by decide) (by decide) (lc_join C9 hR hZ4 hc4 hs4 hP hD hS hl kk)
      · exact lv_tableIn (off := 237) (tgt := 276) hx hb dL_law_39 (by decide) (by decide) (by decide) (by decide) (lc_fail C9 hR hZ4 hc4 hs4 hP hD hS hl kk)
      · exact lv_tableIn (off := 293) (tgt := 332) hx hb dL_law_39 (by decide) (by decide) (by decide) (by decide) (lc_leave C9 hR hZ4 hc4 hs4 hP hD hS hl kk)
      · exact lv_tableIn (off := 349) (tgt := 388) hx hb dL_law_39 (by decide) (by decide) (by decide) (by decide) (lc_living C9 hR hZ4 hc4 hs4 hP hD hS hl kk)
      · exact lv_tableIn (off := 362) (tgt := 401) hx hb dL_law_39 (by decide) (by decide) (by decide) (by decide) (lc_isLiving C9 hR hZ4 hc4 hs4 hP hD hS hl kk)
      · exact lv_tableIn (off := 425) (tgt := 464) hx hb dL_law_39 (by decide) (by decide) (by decide) (by decide) (lc_successor C9 hR hZ4 hc4 hs4 hP hD hS hl kk)
      · exact lv_tableIn (off := 493) (tgt := 532) hx hb dL_law_39 (by decide) (by decide) (by decide) (by decide) (lc_liveSuccessor C9 hR hZ4 hc4 hs4 hP hD hS hl kk)
      · exact lv_tableIn (off := 549) (tgt := 588) hx hb dL_law_39 (by decide) (by decide) (by decide) (by decide) (lc_predecessor C9 hR hZ4 hc4 hs4 hP hD hS hl kk)
      · exact lv_tableIn (off := 605) (tgt := 644) hx hb dL_law_39 (by decide) (by decide) (by decide) (by decide) (lc_finger C9 hR hZ4 hc4 hs4 hP hD hS hl kk)
      · exact lv_tableIn (off := 673) (tgt := 712) hx hb dL_law_39 (by decide) (by decide) (by decide) (by decide) (lc_check C9 hR hZ4 hc4 hs4 hP hD hS hl kk)
      · exact lv_tableIn (off := 736) (tgt := 775) hx hb dL_law_39 (by decide) (by decide) (by decide) (by decide) (lc_stabilize C9 hR hZ4 hc4 hs4 hP hD hS hl kk)
      · exact lv_tableIn (off := 792) (tgt := 831) hx hb dL_law_39 (by decide) (by decide) (by decide) (by decide) (lc_fix C9 hR hZ4 hc4 hs4 hP hD hS hl kk)
      · exact lv_tableIn (off := 848) (tgt := 887) hx hb dL_law_39 (by decide) (by decide) (by decide) (by decide) (lc_replicate C9 hR hZ4 hc4 hs4 hP hD hS hl kk)
      · exact lv_tableIn (off := 904) (tgt := 943) hx hb dL_law_39 (by decide) (by decide) (by decide) (by decide) (lc_goRounds C9 hR hZ4 hc4 hs4 hP hD hS hl kk)
      · exact lv_tableIn (off := 960) (tgt := 999) hx hb dL_law_39 (by decide) (by decide) (by decide) (by decide) (lc_lookup C9 hR hZ4 hc4 hs4 hP hD hS hl kk)
      · exact lv_tableIn (off := 1028) (tgt := 1067) hx hb dL_law_39 (by decide) (by decide) (by decide) (by decide) (lc_hops C9 hR hZ4 hc4 hs4 hP hD hS hl kk)
      · exact lv_tableIn (off := 1096) (tgt := 1135) hx hb dL_law_39 (by decide) (by decide) (by decide) (by decide) (lc_hopAt C9 hR hZ4 hc4 hs4 hP hD hS hl kk)
      · exact lv_tableIn (off := 1176) (tgt := 1215) hx hb dL_law_39 (by decide) (by decide) (by decide) (by decide) (lc_put C9 hR hZ4 hc4 hs4 hP hD hS hl kk)
      · exact lv_tableIn (off := 1256) (tgt := 1295) hx hb dL_law_39 (by decide) (by decide) (by decide) (by decide) (lc_get C9 hR hZ4 hc4 hs4 hP hD hS hl kk)
      · exact lv_tableIn (off := 1324) (tgt := 1363) hx hb dL_law_39 (by decide) (by decide) (by decide) (by decide) (lc_kept C9 hR hZ4 hc4 hs4 hP hD hS hl kk)
      · exact lv_tableIn (off := 1392) (tgt := 1431) hx hb dL_law_39 (by decide) (by decide) (by decide) (by decide) (lc_keepers C9 hR hZ4 hc4 hs4 hP hD hS hl kk)
      · exact lv_tableIn (off := 1448) (tgt := 1487) hx hb dL_law_39 (by decide) (by decide) (by decide) (by decide) (lc_owner C9 hR hZ4 hc4 hs4 hP hD hS hl kk)
      · exact lv_tableIn (off := 1504) (tgt := 1543) hx hb dL_law_39 (by decide) (by decide) (by decide) (by decide) (lc_wrongPointers C9 hR hZ4 hc4 hs4 hP hD hS hl kk)
      · exact lv_tableIn (off := 1517) (tgt := 1556) hx hb dL_law_39 (by decide) (by decide) (by decide) (by decide) (lc_roundsToRight C9 hR hZ4 hc4 hs4 hP hD hS hl kk)
      · refine lv_tableOut (tgt := 1612) hx hb dL_law_39 (Or.inr (by rw [nI_toInt (by omega)]; omega)) (by decide) ?_
        exact W.widen (k := cells + 4) (n := slots + 24) (by omega) (by omega) (kk σ ρ μ o H locs ls hR.up hP hD hS hl)
set_option maxHeartbeats 8000000 in
set_option maxRecDepth 100000 in
theorem whole_start {p : Program} {e : Env} {s : State} {m : MethodId} {below : List Frame} {meth : Method} {c : Code} (l : Launch) (hflags : l.flags = flags0) {b L : Nat} {xs : Nat → Int32} (hL : L ≤ 2048) (C0 : lw_At p s m meth c b L xs) : W p l e room_1 s m #[Value.ref b] below meth c s.heap [] 0 0 (lw_Z below #[Value.ref b] s) (entryFrame m ([Value.ref b] : List Value).toArray 7) := by
  obtain ⟨hx, hb, hr, hml, hown, ht0, hX, hbl, hlocks, hgv⟩ := id C0
  have hl9 : l.stackTraces = false := by rw [Launch.stackTraces, hflags]; decide +kernel
  have hts : ∀ w ∈ wsL_law, w.before #[Value.ref b] s = true := fun w h => ht0 w (wsL_law_in w h)
  have hown : s.vm.findClass RL = some m.cls := hown
  have S : CallFix p m c code 7 s #[Value.ref b] wsL_law RL := ⟨hx, hb, hml, hown, hts⟩
  have hA : ∀ q : Nat, s.heap.size ≤ q → (fun q : Nat => s.heap.size ≤ q) q := fun _ h => h
  have hg := flat_of_before _ hgv
  obtain ⟨c1, i1, hK1⟩ := u_known (C := RX1) (T := TX1) (N := 2) (n := 2) hts inlX1 (ht0 (.instantiable RX1 2) (by decide +kernel))
  obtain ⟨c2, i2, hK2⟩ := u_known (C := RX2) (T := TX2) (N := 12) (n := 12) hts inlX2 (ht0 (.instantiable RX2 12) (by decide +kernel))
  obtain ⟨c3, i3, hK3⟩ := u_known (C := RX3) (T := TX3) (N := 13) (n := 13) hts inlX3 (ht0 (.instantiable RX3 13) (by decide +kernel))
  obtain ⟨cI, aI, nmI⟩ := lw_arr (ht0 (.arrayClass .int) (by decide +kernel))
  obtain ⟨cZ, aZ, nmZ⟩ := lw_arr (ht0 (.arrayClass .boolean) (by decide +kernel))
  obtain ⟨cL, aL, nmL⟩ := lw_arr (ht0 (.arrayClass .long) (by decide +kernel))
  obtain ⟨G, hK⟩ : ∃ G : cG, kG G s := by
    refine ⟨((fun k => if k = 0 then c1 else if k = 1 then c2 else c3, fun k => if k = 0 then i1 else if k = 1 then i2 else i3), cI, cZ, cL), ?_, ?_⟩
    · intro k q hq
      match k, hq with
      | 0, hq => cases hq; exact hK1
      | 1, hq => cases hq; exact hK2
      | 2, hq => cases hq; exact hK3
      | k + 3, hq => simp [vwCl] at hq
    · intro k q hq
      match k, hq with
      | 0, hq => cases hq; exact ⟨aI, nmI⟩
      | 1, hq => cases hq; exact ⟨aZ, nmZ⟩
      | 2, hq => cases hq; exact ⟨aL, nmL⟩
      | k + 3, hq => simp at hq
  have hc2 : s.vm.findClass RX2 = some (G.1.1 1) := (hK.1 1 _ rfl).2.1
  obtain ⟨s0, hs0⟩ := lw_str hc2 (ht0 (.stringRef RX2 144 "a number is out of range") (by decide +kernel))
  obtain ⟨s1, hs1⟩ := lw_str hc2 (ht0 (.stringRef RX2 147 "the node does not live") (by decide +kernel))
  obtain ⟨s2, hs2⟩ := lw_str hc2 (ht0 (.stringRef RX2 63 "a node lives already") (by decide +kernel))
  obtain ⟨s3, hs3⟩ := lw_str hc2 (ht0 (.stringRef RX2 76 "the node lives already") (by decide +kernel))
  obtain ⟨s4, hs4⟩ := lw_str hc2 (ht0 (.stringRef RX2 124 "the lookup has no such hop") (by decide +kernel))
  obtain ⟨sa, hXt⟩ : ∃ sa : Nat → Nat, tX sa (fun q => s.heap.size ≤ q) s s.heap :=
    ⟨fun k => [s0, s1, s2, s3, s4].getD k 0, ⟨hs0, hs1, hs2, hs3, hs4⟩,
      ⟨va_Nw.of rfl (ht0 (.castable "java/lang/IllegalArgumentException" "java/lang/IllegalArgumentException") (by decide +kernel)), va_Nw.of rfl (ht0 (.castable "java/lang/IllegalStateException" "java/lang/IllegalStateException") (by decide +kernel)), va_Nw.of rfl (ht0 (.castable "java/lang/IndexOutOfBoundsException" "java/lang/IndexOutOfBoundsException") (by decide +kernel)), va_Nw.of rfl (ht0 (.declares (Bundle.initS "java/lang/RuntimeException")) (by decide +kernel)), va_Nw.of rfl (ht0 (.declares (Bundle.initS "java/lang/Exception")) (by decide +kernel)), va_Nw.of rfl (ht0 (.declares (Bundle.initS Bundle.tN)) (by decide +kernel))⟩,
      vx_Zqof (ht0 (.laysStatic Bundle.tN "UNASSIGNED_STACK" Bundle.steD) (by decide +kernel)) (ht0 (.initialized Bundle.tN) (by decide +kernel)) (hg (.isRef (.static Bundle.tN "UNASSIGNED_STACK" Bundle.steD)) (by decide +kernel)) (fun a h => Nat.not_le.mpr h),
      vx_Zqof (ht0 (.laysStatic Bundle.tN "SUPPRESSED_SENTINEL" Bundle.listD) (by decide +kernel)) (ht0 (.initialized Bundle.tN) (by decide +kernel)) (hg (.isRef (.static Bundle.tN "SUPPRESSED_SENTINEL" Bundle.listD)) (by decide +kernel)) (fun a h => Nat.not_le.mpr h)⟩
  have hN : tN s := ⟨va_Nc.of (hg (.not (.castable "java/lang/IllegalStateException" "java/lang/IllegalArgumentException")) (by decide +kernel)), va_Nc.of (hg (.not (.castable "java/lang/IndexOutOfBoundsException" "java/lang/IllegalArgumentException")) (by decide +kernel)), va_Nc.of (hg (.not (.castable "java/lang/IndexOutOfBoundsException" "java/lang/IllegalStateException")) (by decide +kernel))⟩
  have hS : va_S (fun q : Nat => s.heap.size ≤ q) s.heap s.heap [] := va_S.rf
  have hP : pG G [] s.heap := pG_nil
  have hD : va_D (fun q : Nat => s.heap.size ≤ q) [] := ⟨fun i j p q h => by simp at h, fun k q h => by simp at h⟩
  have hl := lv_entry ([.ref b]) (n := 7) (Nat.le_of_ble_eq_true rfl)
  rw [lg_entry_eq]
  generalize (lg_sl ([.ref b]) ++ List.replicate (7 - (lg_sl ([.ref b])).length) Slot.unset).toArray = ls at hl ⊢
  have hl : lv_has ls 7 [(0, .ref b)] := hl
  refine va_new (ci := 1) (fs := [.null, .null, .null, .null, .null, .null, .int 0, .null, .int 0, .null, .null, .null]) (C := RX2) (T := TX2) (N := 12) hx hb hts inlX2 tyX2 tyX2_ok hown (ht0 (.classLink RL 8 RX2) (by decide +kernel)) (ht0 (.instantiable RX2 12) (by decide +kernel)) (ht0 (.initialized RX2) (by decide +kernel)) hK hP hD hS hA rfl (fun j hj => by rcases (show j = 0 ∨ j = 1 ∨ j = 2 ∨ j = 3 ∨ j = 4 ∨ j = 5 ∨ j = 6 ∨ j = 7 ∨ j = 8 ∨ j = 9 ∨ j = 10 ∨ j = 11 by omega) with rfl | rfl | rfl | rfl | rfl | rfl | rfl | rfl | rfl | rfl | rfl | rfl <;> rfl) (Nat.le_of_ble_eq_true rfl) (Nat.le_of_ble_eq_true rfl) dL_law_0 (fun x H hP hD hS => ?_)
  have hP : pG G [(x, .inr (1, [.null, .null, .null, .null, .null, .null, .int 0, .null, .int 0, .null, .null, .null]))] H := hP
  have hD : va_D (fun q : Nat => s.heap.size ≤ q) [(x, .inr (1, [.null, .null, .null, .null, .null, .null, .int 0, .null, .int 0, .null, .null, .null]))] := hD
  refine lv_dup hx hb dL_law_3 rfl ?_
  refine co_mC (As := []) (rest := [.ref x]) (wr := []) [0] [] S (c_X2_init l G x) (cwI 0 hts gL_law_X2_init rfl rfl rfl (ht0 (.initialized RX2) (by decide +kernel)) (ht0 (.methodLink RL 88 yX2_init) (by decide +kernel)) (ht0 (.instanceMethod yX2_init) (by decide +kernel)) rfl (by decide +kernel) ⟨(Nat.le_of_ble_eq_true rfl), (Nat.le_of_ble_eq_true rfl)⟩) hK hP hD hS hA rfl rfl (by decide) (by decide) (by decide) rfl hl.1 rfl (Nat.le_of_ble_eq_true rfl) dL_law_4 ⟨(Nat.le_of_ble_eq_true rfl), (Nat.le_of_ble_eq_true rfl)⟩ (fun u H locs hu hP7 hD7 hS => ?_)
  obtain ⟨a, σ, ρ⟩ := u
  obtain ⟨ha, h0, h6⟩ := hu
  have ha : a 0 = x := ha
  have h0 : σ 0 = fun _ => 0 := h0
  have h6 : σ 6 = fun _ => 0 := h6
  subst ha
  have hP : pG G (wO G a σ ρ) H := hP7
  have hD : va_D (fun q : Nat => s.heap.size ≤ q) (wO G a σ ρ) := hD7
  refine lv_astore_n (lv' := [(1, .ref (a 0)), (0, .ref b)]) hx hb dL_law_7 rfl hl (by decide) rfl (fun ls hl => ?_)
  refine va_new (ci := 2) (fs := [.int 0, .int 0, .null, .null, .null, .null, .null, .null, .null, .int 0, .null, .null, .null]) (C := RX3) (T := TX3) (N := 13) hx hb hts inlX3 tyX3 tyX3_ok hown (ht0 (.classLink RL 89 RX3) (by decide +kernel)) (ht0 (.instantiable RX3 13) (by decide +kernel)) (ht0 (.initialized RX3) (by decide +kernel)) hK hP hD hS hA rfl (fun j hj => by rcases (show j = 0 ∨ j = 1 ∨ j = 2 ∨ j = 3 ∨ j = 4 ∨ j = 5 ∨ j = 6 ∨ j = 7 ∨ j = 8 ∨ j = 9 ∨ j = 10 ∨ j = 11 ∨ j = 12 by omega) with rfl | rfl | rfl | rfl | rfl | rfl | rfl | rfl | rfl | rfl | rfl | rfl | rfl <;> rfl) (Nat.le_of_ble_eq_true rfl) (Nat.le_of_ble_eq_true rfl) dL_law_8 (fun y H hP hD hS => ?_)
  refine lv_dup hx hb dL_law_11 rfl ?_
  refine co_mC (As := []) (rest := [.ref y]) (wr := wO G a σ ρ) [19] [0, 1, 2, 3, 4, 5, 6, 7, 8, 9, 10, 11, 12, 13, 14, 15, 16, 17, 18] S (c_X3_init l G y) (cwI 0 hts gL_law_X3_init rfl rfl rfl (ht0 (.initialized RX3) (by decide +kernel)) (ht0 (.methodLink RL 91 yX3_init) (by decide +kernel)) (ht0 (.instanceMethod yX3_init) (by decide +kernel)) rfl (by decide +kernel) ⟨(Nat.le_of_ble_eq_true rfl), (Nat.le_of_ble_eq_true rfl)⟩) hK hP hD hS hA rfl rfl (by decide) (by decide) (by decide) rfl hl.1 rfl (Nat.le_of_ble_eq_true rfl) dL_law_12 ⟨(Nat.le_of_ble_eq_true rfl), (Nat.le_of_ble_eq_true rfl)⟩ (fun u H locs hu hP7 hD7 hS => ?_)
  obtain ⟨b9, μ⟩ := u
  obtain ⟨hb9, hm⟩ := hu
  have hb9 : b9 0 = y := hb9
  have hm : μ = fun _ _ => 0 := hm
  subst hb9
  have hP : pG G (wO G a σ ρ ++ wM G b9 μ) H := hP7
  have hD : va_D (fun q : Nat => s.heap.size ≤ q) (wO G a σ ρ ++ wM G b9 μ) := hD7
  refine lv_astore_n (lv' := [(2, .ref (b9 0)), (1, .ref (a 0)), (0, .ref b)]) hx hb dL_law_15 rfl hl (by decide) rfl (fun ls hl => ?_)
  refine lv_iconst (v := 1) hx hb dL_law_16 (by decide) ?_
  refine co_newL S (ht0 (.arrayClass .long) (by decide +kernel)) hK hP hD hS hA (Nat.le_of_ble_eq_true rfl) (Nat.le_of_ble_eq_true rfl) dL_law_17 (fun q H hP hD hS => ?_)
  have hP : pG G (wW G a b9 q (σ, ρ, fun _ => 0) μ) H := by rw [List.append_assoc] at hP; exact hP
  have hD : va_D (fun q : Nat => s.heap.size ≤ q) (wW G a b9 q (σ, ρ, fun _ => 0) μ) := by rw [List.append_assoc] at hD; exact hD
  refine lv_astore_n (lv' := [(3, .ref q), (2, .ref (b9 0)), (1, .ref (a 0)), (0, .ref b)]) hx hb dL_law_19 rfl hl (by decide) rfl (fun ls hl => ?_)
  refine lv_iconst (v := 0) hx hb dL_law_20 (by decide) ?_
  refine lv_istore (lv' := [(4, .int 0), (3, .ref q), (2, .ref (b9 0)), (1, .ref (a 0)), (0, .ref b)]) hx hb dL_law_21 hl (by decide) rfl (fun ls hl => ?_)
  exact law_loop hL C0 hl9 hK hXt hN 4097 0 0 _ _ σ ρ μ (fun _ => 0) H locs ls (Nat.zero_le _) (by omega) (Nat.le_refl 0) (Nat.le_of_ble_eq_true rfl) (Nat.le_of_ble_eq_true rfl) (rl_new h0 h6 hm) hP hD hS (lv_sub hl [4, 3, 2, 1, 0] rfl)
set_option maxHeartbeats 4000000 in
theorem lw_walk (l : Launch) (hflags : l.flags = flags0) (b : Addr) (xs : List Int32) : MetFree l x (headSpec (Jvm.Cond.code x code maxLocals ret :: tables_1) room_1) (lw_P b xs) (fun _ _ _ _ _ => True) lw_Q := by
  refine MetFree.of_bodyS (code := code) (maxLocals := maxLocals) (ret := ret) (by decide) ?_ ?_
  · intro args s m h hn
    obtain ⟨meth, c, h1, h2, h3, h4, h5, h6, -, -⟩ := Cond.code_spec hn (atoms_spec (ws := Jvm.Cond.code x code maxLocals ret :: tables_1) h _ List.mem_cons_self)
    exact ⟨meth, c, h1, h2, h3, h4, h5, h6⟩
  · intro p e s m args below meth c s₁ B hml0 hP _
    obtain ⟨rfl, hx, hbd, hgv⟩ := hP
    obtain ⟨scr, harrAt, hlist, hof, hsmall⟩ := hx
    obtain ⟨hcb, hkn, -, -⟩ := State.arrayAt?_spec harrAt
    have hown : s.vm.findClass R_law = some m.cls := findClass_of_methodNamed B.named
    have hts0 : ∀ c ∈ (Jvm.Cond.code x code maxLocals ret :: tables_1), c.before #[Value.ref b] s = true := atoms_spec (ws := Jvm.Cond.code x code maxLocals ret :: tables_1) B.pre
    have hts : ∀ w ∈ lw_tbl, w.before #[Value.ref b] s = true := k2_hts_sels lw_privs (fun w hw => hts0 w (List.mem_cons_of_mem _ hw)) lw_privs_ok
    have hml : c.maxLocals = 7 := B.maxLocals_eq (hts0 _ List.mem_cons_self)
    have X₀ : Stand p l e room_1 s m #[Value.ref b] below meth c s₁ [] 0 0 := Stand.of_body B
    have hh0 : s₁.heap = s.heap := by rw [B.state]; rfl
    have hsz : scr.slots.size = xs.length := by rw [← Array.length_toList, hlist, List.length_map]
    have hval : ∀ j : Nat, j < xs.length → scr.slots[j]? = some (.int (xs.getD j 0)) := fun j hj => by
      rw [← Array.getElem?_toList, hlist]
      simp [hj]
    have hbl : b < s.heap.size := (Array.getElem?_eq_some_iff.mp hcb).1
    have hX : va_X b xs.length (fun j => xs.getD j 0) s s.heap := ⟨scr, hcb, hof, hkn, hsz, hval⟩
    have K : W p l e room_1 s m #[Value.ref b] below meth c s₁.heap [] 0 0 (lw_Z below #[Value.ref b] s) (entryFrame m ([Value.ref b] : List Value).toArray 7) := by
      rw [hh0]
      exact whole_start l hflags hbd ⟨B.exec, B.bytes, B.returns, hml, hown, hts, hX, hbl, B.notSynchronized, hgv⟩
    obtain ⟨t, a1, o, b1, b2, b3⟩ := K s₁ rfl X₀
    exact ⟨t, o, a1, b1, b2, b3⟩
theorem lw_pre_spec {args : Array Value} {s : State} (h : (Jvm.Cond.and given_1 narrow_1).before args s = true) (hr : rest_1_c.before args s = true) : ∃ (b : Addr) (xs : List Int32), lw_P b xs args s := by
  have hs := flat_of_before _ h
  have hq := flat_of_before _ hr
  have hc : (Cond.count 1).before args s = true := hs _ (by decide +kernel)
  have harr : (Cond.arrayOf (.arg 0) .int).before args s = true := hs _ (by decide +kernel)
  have hle : (Cond.le (.length (.arg 0)) (.int 2048)).before args s = true := hs _ (by decide +kernel)
  have hlen : (Cond.isInt (.length (.arg 0))).before args s = true := hq _ (by decide +kernel)
  have hall : (Cond.all (.arg 0) (.isInt (.elem (.arg 0) (.index 0)))).before args s = true := hq _ (by decide +kernel)
  obtain ⟨b, xs, hb, hx⟩ := State.ints_of_pre rfl harr hlen hall
  have hsm : xs.length < 2 ^ 31 := hx.choose_spec.2.2.2
  have hev : (Term.length (.arg 0)).eval args s none [] s = some (.int xs.length.toInt32) := hx.length_eval hb
  have hv := Cond.le_ints hev (show (Term.int 2048).eval args s none [] s = some (.int 2048) from rfl)
  have hd : xs.length.toInt32 ≤ 2048 := by
    simpa [Cond.before, Cond.holds, hv] using hle
  have hN : xs.length ≤ 2048 := (Int32.ofNat_le_ofNat hsm (by decide)).mp (show Int32.ofNat xs.length ≤ Int32.ofNat 2048 from hd)
  exact ⟨b, xs, Cond.one_arg hc (show args[0]? = some (.ref b) from hb), hx, hN, h⟩
theorem lw_comes (l : Launch) (hflags : l.flags = flags0) : Comes l x (Jvm.Cond.code x code maxLocals ret :: tables_1) room_1 (fun tb e args s => Calls_1 tb e args s ∧ rest_1 tb e args s ∧ Pre_1 tb e args s)
    (fun _ _ args s o t => lw_Q args s o t) := by
  intro p e ha hc hk s m args below hf hfit hheap happ hpre
  obtain ⟨b, xs, hP⟩ := lw_pre_spec hpre.2.2 hpre.2.1
  obtain ⟨k, o, h1, h2, h3, hQ⟩ := lw_walk l hflags b xs p e ha hc hk s m args below hf ((Spec.applies_iff_loose hf).mp happ).1 hP trivial
  exact ⟨k, o, h1, h2, h3, hQ⟩
theorem lw_frame {s t : State} {o : Outcome} {args : Array Value} (h : Framed s o t [] 601024 7293034) :
    Framed s o t (fieldLocs frame_1_writes args s ++ arrayLocs frame_1_arrays args s ++ staticLocs frame_1_statics s) 601024 7293034 := h
theorem lw_limb (L : Cond) (hL : ∀ (args : Array Value) (s t : State), L.after args s (.returned (some (.int 1))) t = true) :
    ArmFor flags0 classFile x code maxLocals ret World_1 tables_1 room_1 Calls_1 rest_1 Pre_1
      (fun tb e a s o t => postC L tb e a s o t ∧ Framed s o t (fieldLocs frame_1_writes a s ++ arrayLocs frame_1_arrays a s ++ staticLocs frame_1_statics s) 601024 7293034) := by
  intro l hflags _ _ p e ha hc hk s m args below hf hfit hheap happ hpre
  obtain ⟨k, o, h1, h2, h3, rfl, hF⟩ := lw_comes l hflags p e ha hc hk s m args below hf hfit hheap happ hpre
  exact ⟨k, _, h1, h2, h3, hL args s _, lw_frame hF⟩
theorem i_vc : Claimed_1_1 ∧ Claimed_1_2 := ⟨lw_limb limb_1_1 (fun args s t => by simp [limb_1_1, Cond.after, Cond.holds, Cond.value]), lw_limb limb_1_2 (fun args s t => Cond.after_iff.mpr (by
  first | (rw [show limb_1_2 = Cond.eq .result (.int 1) from rfl, Cond.eq_ints (x := 1) (y := 1) rfl rfl]; simp; done) | (simp [limb_1_2, Cond.value, Term.eval]; done)))⟩
