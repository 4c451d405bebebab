/-! the law's own methods and its loop: calls over a part of the world whose throw is caught, bodies with a table of handlers -/
def tN (U : State) : Prop := va_Nc "java/lang/IllegalStateException" "java/lang/IllegalArgumentException" U ∧ va_Nc "java/lang/IndexOutOfBoundsException" "java/lang/IllegalArgumentException" U ∧ va_Nc "java/lang/IndexOutOfBoundsException" "java/lang/IllegalStateException" U
theorem tN.mv {u U : State} (hvm : u.vm.Alike U.vm) (h : tN u) : tN U := ⟨h.1.moved hvm, h.2.1.moved hvm, h.2.2.moved hvm⟩
abbrev lS : Type := cS × cS × (Nat → Int64)
/-- the class beside the law's array of one long -/
def wL (G : cG) (a : Nat → Nat) (q : Nat) (u : lS) : va_W := wO G a u.1 u.2.1 ++ [(q, .inl (G.2.2.2, 1, .inr (.inl u.2.2)))]
/-- the law's world: the class, the reference, the array -/
def wW (G : cG) (a b : Nat → Nat) (q : Nat) (u : lS) (μ : cS) : va_W := wO G a u.1 u.2.1 ++ (wM G b μ ++ [(q, .inl (G.2.2.2, 1, .inr (.inl u.2.2)))])
/-- what the law's methods answer: the code of the throw, or 0 and the answer in the array -/
def pL (cd : Nat) (r0 : Int32) (F σ : cS) (r : Int32) (u : lS) : Prop := (r = 0 ∧ cd = 0 ∧ u.2.2 0 = r0.toInt64 ∧ u.1 = F) ∨ (¬ r = 0 ∧ r = nI cd ∧ ¬ cd = 0 ∧ u.1 = σ)
theorem pL_thr {cd : Nat} {r0 : Int32} {F σ : cS} {r : Int32} {u : lS} (h : pL cd r0 F σ r u) : nI cd = r := by
  rcases h with ⟨h1, h2, -⟩ | ⟨-, h2, -⟩
  · rw [h1, h2]; rfl
  · exact h2.symm
theorem upL0 (o : Nat → Int64) (v : Int64) : vp_updL o (0 : Int32).toNatClampNeg v 0 = v := by
  show (if 0 = (0 : Int32).toNatClampNeg then v else o 0) = v
  rw [if_pos (by decide)]
theorem vin0 : vp_in (0 : Int32) 1 := vp_in_nI (show 0 < 1 by decide) (by decide)
theorem Rl.up {Z : Nat} {σ μ : cS} (h : Rl Z σ μ) : Rl (Z + 1) σ μ := by
  obtain ⟨h1, h2, z, h3, h4⟩ := h
  exact ⟨h1, h2, z, by omega, h4⟩
theorem cd1_le (x lo hi : Int32) : cd1 x lo hi ≤ 1 := by
  unfold cd1; split <;> decide
theorem cdA_le (σ : cS) (x : Int32) : cdA σ x ≤ 2 := by
  unfold cdA; repeat' split
  all_goals decide
theorem cdP_le (σ : cS) (x i hi : Int32) : cdP σ x i hi ≤ 2 := by
  unfold cdP; repeat' split
  all_goals decide
theorem cdC_le (σ : cS) (x : Int32) : cdC σ x ≤ 2 := by
  unfold cdC; repeat' split
  all_goals decide
theorem cdJ_le (σ : cS) (x v : Int32) : cdJ σ x v ≤ 2 := by
  unfold cdJ; repeat' split
  all_goals decide
theorem cdW_le (σ : cS) (x k v : Int32) : cdW σ x k v ≤ 2 := by
  unfold cdW; repeat' split
  all_goals decide
def MetL (l : Launch) (y : MethodName) (ws : List Cond) (rm : Room) (G : cG) (sa : Nat → Nat) (w0 : va_W) (av : List Value) (wf : lS → va_W) (post : Int32 → lS → Prop) (mc ms : Nat) : Prop :=
  ∀ sz : Nat, Met l y ws rm (va_Pc av (fun U => U.heap.size = sz ∧ pG G w0 U.heap ∧ kG G U ∧ va_D (fun _ => True) w0 ∧ tX sa (va_A w0 sz) U U.heap ∧ tN U)) (va_Qi post (fun u t => pG G (wf u) t.heap ∧ kG G t ∧ va_D (va_A w0 sz) (wf u)) (va_A w0 sz)) mc ms (va_A w0 sz)
abbrev QL (below : List Frame) (G : cG) (A : Nat → Prop) (wf : lS → va_W) (post : Int32 → lS → Prop) (mc ms : Nat) (args : Array Value) (s : State) : State → Prop := MQ below (va_Qi post (fun u t => pG G (wf u) t.heap ∧ kG G t ∧ va_D A (wf u)) A) args s mc ms A
section COL
variable {p : Program} {l : Launch} {e : Env} {R : Room} {s : State} {m : MethodId} {args : Array Value} {below : List Frame} {meth : Method} {c : Code} {H : Heap} {locs : List Loc} {cells slots : Nat} {Q : State → Prop}
  {Ts ws ws' : List Cond} {cc bytes : ByteArray} {nL maxL index n pc : Nat} {own C : String} {y : MethodName} {ret : Option FieldType} {rm : Room} {hh : List (Nat × Nat × Nat × Nat)}
  {b : Addr} {As rest st0 av : List Value} {ls : Array Slot} {G : cG} {w w0 wc wr : va_W} {A : Nat → Prop} {sa : Nat → Nat} {mc ms mc0 ms0 : Nat}
/-- a call of the class's, over a part of the world; what it throws goes to kx -/
theorem co_xViS {S : Type} {wf w' : S → va_W} {post : Int32 → S → Prop} {px : String → S → Prop} (isC isR perm : List Nat) (S0 : CallFix p m c cc nL s args Ts own) (hM : MetXi l y ws rm G sa wc (.ref b :: As) wf post px mc0 ms0) (cw : CallW R s args own C index y bytes maxL ret ws rm mc0 ms0 n) (hK : kG G s) (hP : pG G w0 H) (hD : va_D A w0) (hS : va_S A s.heap H locs) (hA : ∀ q, s.heap.size ≤ q → A q) (hX : tX sa A s s.heap)
    (hC : isC.map (fun i => w0[i]?) = wc.map some) (hR : isR.map (fun i => w0[i]?) = wr.map some) (hnC : va_nd isC = true) (hnR : va_nd isR = true) (hdis : ∀ i ∈ isR, i ∉ isC) (hnP : va_nd perm = true) (hp : ∀ u, perm.map (fun i => (wr ++ wf u)[i]?) = (w' u).map some)
    (hr : ∃ cellB : Cell, H[b]? = some cellB ∧ cellB.vm.isStatics = false ∧ s.vm.findClass C = some cellB.cls) (hn : As.length = n) (hl : ls.size = nL) (hst : st0 = As.reverse ++ .ref b :: rest) (hW : (rest.map fun v => v.category).sum ≤ 8) (hdg : decode cc pc = .ok (.invokevirtual index, 3)) (hf : cells + mc0 ≤ R.cells ∧ slots + ms0 ≤ R.slots)
    (kx : ∀ (E : String) (ce : Cell) (q9 : Addr) (u : S) (H1 : Heap) (locs1 : List Loc), px E u → pG G (w' u) H1 → va_D A (w' u) → va_S A s.heap H1 locs1 → H1[q9]? = some ce → ce.vm = .none → s.vm.findClass E = some ce.cls → vx_W p l e R s m args below meth c H1 locs1 (cells + mc0) (slots + ms0) Q (F0 m pc ls rest) q9)
    (kk : ∀ (r : Int32) (u : S) (H1 : Heap) (locs1 : List Loc), post r u → pG G (w' u) H1 → va_D A (w' u) → va_S A s.heap H1 locs1 → W p l e R s m args below meth c H1 locs1 (cells + mc0) (slots + ms0) Q (F0 m (pc + 3) ls (.int r :: rest))) : W p l e R s m args below meth c H locs cells slots Q (F0 m pc ls st0) := by
  subst hst
  have hPc := pG_perm hP isC hC
  have hDc := hD.sub isC hnC hC
  have hF : ∀ q, va_A wc H.size q → A q := va_free hD hS hA isC hC
  refine vx_calli (vx_runV S0 (hM H.size) cw ⟨fun a U g mk q => by obtain ⟨q0, q1, qP, qK, qD, qX⟩ := q; exact ⟨q0, q1, qP, va_K.moved (u := U) (U := U.calling g mk a) (Vm.Alike.refl U.vm) qK, qD, tX_blind qX⟩, hr, fun U hU hW => ⟨rfl, by rw [hU], by rw [hU]; exact hPc, va_K.moved hW.alike hK, hDc.weaken (fun _ _ _ _ => trivial), tX_go hX hS hF hU hW⟩⟩ rfl hn hl rfl (lv_room hW) hdg hf) hS (fun q _ h => hF q h) hF (fun q _ h => hF q h) (fun E ce q9 u t H1 locs1 ht hvm _ hB hz hk hS1 h1 h2 h3 => ?_) (fun r u t H1 locs1 ht hvm hw hB hz hk hS1 => ?_)
  · obtain ⟨hp9, hP1, hK1, hD1⟩ := hB
    rw [ht] at hP1
    obtain ⟨hP2, hD2⟩ := va_join hP hD isC isR hC hR hnR hdis hk hF hP1 hD1
    exact kx E ce q9 u H1 locs1 hp9 (pG_perm hP2 perm (hp u)) (hD2.sub perm hnP (hp u)) hS1 h1 h2 h3
  · obtain ⟨hP1, hK1, hD1⟩ := hB
    rw [ht] at hP1
    obtain ⟨hP2, hD2⟩ := va_join hP hD isC isR hC hR hnR hdis hk hF hP1 hD1
    exact kk r u H1 locs1 hw (pG_perm hP2 perm (hp u)) (hD2.sub perm hnP (hp u)) hS1
/-- a call of the reference's, over a part of the world -/
theorem co_mViS {S : Type} {wf w' : S → va_W} {post : Int32 → S → Prop} (isC isR perm : List Nat) (S0 : CallFix p m c cc nL s args Ts own) (hM : MetI l y ws rm G wc (.ref b :: As) wf post) (cw : CallW R s args own C index y bytes maxL ret ws rm 0 0 n) (hK : kG G s) (hP : pG G w0 H) (hD : va_D A w0) (hS : va_S A s.heap H locs) (hA : ∀ q, s.heap.size ≤ q → A q)
    (hC : isC.map (fun i => w0[i]?) = wc.map some) (hR : isR.map (fun i => w0[i]?) = wr.map some) (hnC : va_nd isC = true) (hnR : va_nd isR = true) (hdis : ∀ i ∈ isR, i ∉ isC) (hnP : va_nd perm = true) (hp : ∀ u, perm.map (fun i => (wr ++ wf u)[i]?) = (w' u).map some)
    (hr : ∃ cellB : Cell, H[b]? = some cellB ∧ cellB.vm.isStatics = false ∧ s.vm.findClass C = some cellB.cls) (hn : As.length = n) (hl : ls.size = nL) (hst : st0 = As.reverse ++ .ref b :: rest) (hW : (rest.map fun v => v.category).sum ≤ 8) (hdg : decode cc pc = .ok (.invokevirtual index, 3)) (hf : cells + 0 ≤ R.cells ∧ slots + 0 ≤ R.slots)
    (kk : ∀ (r : Int32) (u : S) (H1 : Heap) (locs1 : List Loc), post r u → pG G (w' u) H1 → va_D A (w' u) → va_S A s.heap H1 locs1 → W p l e R s m args below meth c H1 locs1 cells slots Q (F0 m (pc + 3) ls (.int r :: rest))) : W p l e R s m args below meth c H locs cells slots Q (F0 m pc ls st0) := by
  subst hst
  have hPc := pG_perm hP isC hC
  have hDc := hD.sub isC hnC hC
  have hF : ∀ q, va_A wc H.size q → A q := va_free hD hS hA isC hC
  refine va_calli (va_runV S0 (hM H.size) cw ⟨fun a U g mk q => by obtain ⟨q0, q1, qP, qK, qD⟩ := q; exact ⟨q0, q1, qP, va_K.moved (u := U) (U := U.calling g mk a) (Vm.Alike.refl U.vm) qK, qD⟩, hr, fun U hU hW => ⟨rfl, by rw [hU], by rw [hU]; exact hPc, va_K.moved hW.alike hK, hDc.weaken (fun _ _ _ _ => trivial)⟩⟩ rfl hn hl rfl (lv_room hW) hdg hf) hS (fun q _ h => hF q h) hF (fun r u t H1 locs1 ht hvm hw hB hz hk hS1 => ?_)
  obtain ⟨hP1, hK1, hD1⟩ := hB
  rw [ht] at hP1
  obtain ⟨hP2, hD2⟩ := va_join hP hD isC isR hC hR hnR hdis hk hF hP1 hD1
  exact kk r u H1 locs1 hw (pG_perm hP2 perm (hp u)) (hD2.sub perm hnP (hp u)) hS1
/-- a call of a method of the law's, over a part of the world -/
theorem co_lSiS {wf w' : lS → va_W} {post : Int32 → lS → Prop} (isC isR perm : List Nat) (S0 : CallFix p m c cc nL s args Ts own) (hM : MetL l y ws rm G sa wc As wf post mc0 ms0) (cw : vx_CSW R s args own index y bytes maxL ret hh ws rm mc0 ms0 n) (hK : kG G s) (hP : pG G w0 H) (hD : va_D A w0) (hS : va_S A s.heap H locs) (hA : ∀ q, s.heap.size ≤ q → A q) (hX : tX sa A s s.heap) (hN : tN s)
    (hC : isC.map (fun i => w0[i]?) = wc.map some) (hR : isR.map (fun i => w0[i]?) = wr.map some) (hnC : va_nd isC = true) (hnR : va_nd isR = true) (hdis : ∀ i ∈ isR, i ∉ isC) (hnP : va_nd perm = true) (hp : ∀ u, perm.map (fun i => (wr ++ wf u)[i]?) = (w' u).map some)
    (hn : As.length = n) (hl : ls.size = nL) (hst : st0 = As.reverse ++ rest) (hW : (rest.map fun v => v.category).sum ≤ 8) (hdg : decode cc pc = .ok (.invokestatic index, 3)) (hf : cells + mc0 ≤ R.cells ∧ slots + ms0 ≤ R.slots)
    (kk : ∀ (r : Int32) (u : lS) (H1 : Heap) (locs1 : List Loc), post r u → pG G (w' u) H1 → va_D A (w' u) → va_S A s.heap H1 locs1 → W p l e R s m args below meth c H1 locs1 (cells + mc0) (slots + ms0) Q (F0 m (pc + 3) ls (.int r :: rest))) : W p l e R s m args below meth c H locs cells slots Q (F0 m pc ls st0) := by
  subst hst
  have hPc := pG_perm hP isC hC
  have hDc := hD.sub isC hnC hC
  have hF : ∀ q, va_A wc H.size q → A q := va_free hD hS hA isC hC
  refine va_calli (vx_runSW S0 (hM H.size) cw ⟨fun a U g mk q => by obtain ⟨q0, q1, qP, qK, qD, qX, qN⟩ := q; exact ⟨q0, q1, qP, va_K.moved (u := U) (U := U.calling g mk a) (Vm.Alike.refl U.vm) qK, qD, tX_blind qX, tN.mv (u := U) (U := U.calling g mk a) (Vm.Alike.refl U.vm) qN⟩, fun U hU hW => ⟨rfl, by rw [hU], by rw [hU]; exact hPc, va_K.moved hW.alike hK, hDc.weaken (fun _ _ _ _ => trivial), tX_go hX hS hF hU hW, hN.mv hW.alike⟩⟩ rfl hn hl rfl (lv_room hW) hdg hf) hS (fun q _ h => hF q h) hF (fun r u t H1 locs1 ht hvm hw hB hz hk hS1 => ?_)
  obtain ⟨hP1, hK1, hD1⟩ := hB
  rw [ht] at hP1
  obtain ⟨hP2, hD2⟩ := va_join hP hD isC isR hC hR hnR hdis hk hF hP1 hD1
  exact kk r u H1 locs1 hw (pG_perm hP2 perm (hp u)) (hD2.sub perm hnP (hp u)) hS1
theorem co_bodyL {wf : lS → va_W} {post : Int32 → lS → Prop} (hy : plainName y.cls = true) (hw : ws = Cond.codeWith y cc maxL ret hh :: ws') (hlen : (lg_sl av).length ≤ maxL)
    (body : ∀ (p : Program) (e : Env) (s : State) (m : MethodId) (args : Array Value) (below : List Frame) (meth : Method) (c : Code), CallFix p m c cc maxL s args ws y.cls → meth.sig.returnType = ret → meth.locks = false → c.exceptionTable.toList = tableOf hh → kG G s → ∀ A : Nat → Prop, (∀ q, s.heap.size ≤ q → A q) → pG G w0 s.heap → va_D A w0 → va_S A s.heap s.heap [] → tX sa A s s.heap → tN s → ∀ ls, lv_has ls maxL (lv_args 0 av) → W p l e rm s m args below meth c s.heap [] 0 0 (QL below G A wf post mc ms args s) (F0 m 0 ls [])) : MetL l y ws rm G sa w0 av wf post mc ms := by
  intro sz
  refine va_MetW (cc := cc) (maxL := maxL) (ret := ret) (hh := hh) hy hw ?_
  intro p e s m args below meth c s₁ B hml hv
  obtain ⟨rfl, hsz, hP, hK, hD0, hX, hN⟩ := hv
  subst hsz
  have hts := atoms_spec (ws := ws) B.pre
  have htb := vx_table (x := y) B (hts (Cond.codeWith y cc maxL ret hh) (by rw [hw]; exact List.mem_cons_self))
  have hl := lv_entry av (n := maxL) hlen
  rw [lg_entry_eq]
  generalize (lg_sl av ++ List.replicate (maxL - (lg_sl av).length) Slot.unset).toArray = ls at hl ⊢
  exact body p e s m _ below meth c ⟨B.exec, B.bytes, hml, findClass_of_methodNamed B.named, hts⟩ B.returns B.notSynchronized htb hK _ (fun q h => Or.inr h) hP (hD0.self (sz := s.heap.size)) va_S.rf hX hN ls hl
theorem co_endL {wf : lS → va_W} {post : Int32 → lS → Prop} {v : Int32} (u : lS) (S0 : CallFix p m c cc nL s args Ts own) (hr : meth.sig.returnType = some .int) (hlocks : meth.locks = false) (hdg : decode cc pc = .ok (.ireturn, 1)) (hK : kG G s) (hP : pG G (wf u) H) (hD : va_D A (wf u)) (hS : va_S A s.heap H locs) (hv : post v u) (hc : cells ≤ mc) (hs : slots ≤ ms) : W p l e R s m args below meth c H locs cells slots (QL below G A wf post mc ms args s) (F0 m pc ls [.int v]) :=
  W.widen hc hs (W.iret S0.1 S0.2.1 hr (fun t ht hW => ⟨⟨v, u, rfl, hv, by rw [ht]; exact hP, va_K.moved hW.alike hK, hD⟩, hS.F ht⟩) hS.2.2 hdg hlocks)
theorem co_lcmp0 (hexec : p.tables.exec = Jvm.exec) (hb : c.code = cc) {x y : Int64} (h : x = y) (hdg : decode cc pc = .ok (.lcmp, 1)) (k : W p l e R s m args below meth c H locs cells slots Q (F0 m (pc + 1) ls (.int 0 :: rest))) : W p l e R s m args below meth c H locs cells slots Q (F0 m pc ls (.long y :: .long x :: rest)) := by
  subst h
  intro T hT X
  obtain ⟨t, a, b⟩ := k T hT X
  refine ⟨t, ?_, b⟩
  jvm_step X.here [X.here.top, hexec, hb, hdg]
  exact a
end COL
theorem hp_of {Z : Nat} {σ μ : cS} {x y : Int32} (h : Rl Z σ μ) (e : cdP σ x y 63 = 0) : hpc (σ 0) (σ 1) (σ 3) y 64 x < 64 := by
  rw [cdP] at e
  rcases id_or x with ⟨n, hn, rfl⟩ | ⟨-, q⟩
  · rcases id_or y with ⟨k, hk, rfl⟩ | ⟨-, q⟩
    · rw [okR_id hn, okR_id hk, if_pos rfl, if_pos rfl] at e
      have ha : alv (σ 0) (nI n) = true := by
        by_cases ha : alv (σ 0) (nI n) = true
        · exact ha
        · rw [if_neg ha] at e; cases e
      exact Lv.hp h ⟨hn, ha⟩ hk
    · rw [okR_id hn, q] at e; simp at e
  · rw [q] at e; simp at e
theorem co_sld {p : Program} {l : Launch} {e : Env} {R : Room} {s : State} {m : MethodId} {args : Array Value} {below : List Frame} {meth : Method} {c : Code} {H : Heap} {locs : List Loc} {cells slots : Nat} {Q : State → Prop} {cc : ByteArray} {pc : Nat} {ls : Array Slot} {rest : List Value}
    (hexec : p.tables.exec = Jvm.exec) (hb : c.code = cc) {b L : Nat} {xs : Nat → Int32} (hX : va_X b L xs s s.heap) (hbl : b < s.heap.size) (hS : va_S (fun q => s.heap.size ≤ q) s.heap H locs) {i : Nat} {j : Int32} (hj : j = nI i) (hi : i < L) (hL : L ≤ 2048) (hdg : decode cc pc = .ok (.iaload, 1))
    (kk : W p l e R s m args below meth c H locs cells slots Q (F0 m (pc + 1) ls (.int (xs i) :: rest))) : W p l e R s m args below meth c H locs cells slots Q (F0 m pc ls (.int j :: .ref b :: rest)) := by
  subst hj
  refine va_sld hexec hb hX hbl (A := fun q => s.heap.size ≤ q) (Nat.not_le.mpr hbl) hS (vp_in_nI hi (by omega)) hdg ?_
  rw [nI_clamp (by omega)]
  exact kk
/-- what stands through the law's whole loop -/
def lwI (p : Program) (l : Launch) (s : State) (m : MethodId) (c : Code) (b0 L : Nat) (xs : Nat → Int32) (G : cG) (sa : Nat → Nat) (i : Nat) : Prop :=
  CallFix p m c code 7 s #[Value.ref b0] wsL_law RL ∧ l.stackTraces = false ∧ va_X b0 L xs s s.heap ∧ b0 < s.heap.size ∧ kG G s ∧ tX sa (fun q => s.heap.size ≤ q) s s.heap ∧ tN s ∧ i + 4 ≤ L ∧ L ≤ 2048
abbrev lwL (a b : Nat → Nat) (b0 q i : Nat) : List (Nat × Value) := [(0, .ref b0), (1, .ref (a 0)), (2, .ref (b 0)), (3, .ref q), (4, .int (nI i))]
