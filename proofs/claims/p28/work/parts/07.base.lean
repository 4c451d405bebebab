/-! the base layer of this claim: worlds, contracts of three forms (readers, writers without answer, writers with an int), rows for their calls and bodies -/
abbrev cG : Type := va_G × ClassId × ClassId × ClassId
abbrev tG (G : cG) : List (ClassId × FieldType) := [(G.2.1, .int), (G.2.2.1, .boolean)]
abbrev kG (G : cG) (U : State) : Prop := va_K G.1 vwCl (tG G) U
abbrev pG (G : cG) (w : va_W) (H : Heap) : Prop := va_P G.1 vwCl w H
/-- a reader: the heap stays, the answer is r -/
def MetR (l : Launch) (y : MethodName) (ws : List Cond) (rm : Room) (G : cG) (w : va_W) (av : List Value) (r : Int32) : Prop :=
  Met l y ws rm (va_Pc av (fun U => pG G w U.heap ∧ kG G U)) (QcRead r) 0 0 (fun _ => False)
/-- a writer without an answer -/
def MetV {S : Type} (l : Launch) (y : MethodName) (ws : List Cond) (rm : Room) (G : cG) (w0 : va_W) (av : List Value) (wf : S → va_W) (post : S → Prop) : Prop :=
  ∀ sz : Nat, Met l y ws rm (va_Pc av (fun U => U.heap.size = sz ∧ pG G w0 U.heap ∧ kG G U ∧ va_D (fun _ => True) w0)) (va_Qv post (fun u t => pG G (wf u) t.heap ∧ kG G t ∧ va_D (va_A w0 sz) (wf u)) (va_A w0 sz)) 0 0 (va_A w0 sz)
/-- a writer with an int or a boolean for its answer -/
def MetI {S : Type} (l : Launch) (y : MethodName) (ws : List Cond) (rm : Room) (G : cG) (w0 : va_W) (av : List Value) (wf : S → va_W) (post : Int32 → S → Prop) : Prop :=
  ∀ sz : Nat, Met l y ws rm (va_Pc av (fun U => U.heap.size = sz ∧ pG G w0 U.heap ∧ kG G U ∧ va_D (fun _ => True) w0)) (va_Qi post (fun u t => pG G (wf u) t.heap ∧ kG G t ∧ va_D (va_A w0 sz) (wf u)) (va_A w0 sz)) 0 0 (va_A w0 sz)
abbrev QR (below : List Frame) (r : Int32) (args : Array Value) (s : State) : State → Prop := MQ below (QcRead r) args s 0 0 (fun _ => False)
abbrev QV {S : Type} (below : List Frame) (G : cG) (A : Nat → Prop) (wf : S → va_W) (post : S → Prop) (args : Array Value) (s : State) : State → Prop := MQ below (va_Qv post (fun u t => pG G (wf u) t.heap ∧ kG G t ∧ va_D A (wf u)) A) args s 0 0 A
abbrev QI {S : Type} (below : List Frame) (G : cG) (A : Nat → Prop) (wf : S → va_W) (post : Int32 → S → Prop) (args : Array Value) (s : State) : State → Prop := MQ below (va_Qi post (fun u t => pG G (wf u) t.heap ∧ kG G t ∧ va_D A (wf u)) A) args s 0 0 A
def bI (b : Bool) : Int32 := if b = true then 1 else 0
theorem bI_t : bI true = 1 := rfl
theorem bI_f : bI false = 0 := rfl
theorem bI_nar (b : Bool) : narrow .boolean (.int (bI b)) = .int (bI b) := by cases b <;> rfl
theorem bI_0 {b : Bool} (h : bI b = 0) : b = false := by cases b <;> first | rfl | (exact absurd h (by decide))
theorem bI_1 {b : Bool} (h : ¬ bI b = 0) : b = true := by cases b <;> first | rfl | (exact absurd rfl h)
section COB
variable {p : Program} {l : Launch} {e : Env} {R : Room} {s : State} {m : MethodId} {args : Array Value} {below : List Frame} {meth : Method} {c : Code} {H : Heap} {locs : List Loc} {cells slots : Nat} {Q : State → Prop}
  {Ts ws ws' : List Cond} {cc bytes : ByteArray} {nL maxL index n pc : Nat} {own C : String} {y : MethodName} {ret : Option FieldType} {rm : Room}
  {b : Addr} {As rest st0 av : List Value} {ls : Array Slot} {G : cG} {w w0 : va_W} {r : Int32} {A : Nat → Prop}
theorem co_rV (S : CallFix p m c cc nL s args Ts own) (hM : MetR l y ws rm G w (.ref b :: As) r) (cw : CallW R s args own C index y bytes maxL ret ws rm 0 0 n) (hK : kG G s) (hP : pG G w H) (hr : ∃ cellB : Cell, H[b]? = some cellB ∧ cellB.vm.isStatics = false ∧ s.vm.findClass C = some cellB.cls) (hn : As.length = n) (hl : ls.size = nL) (hst : st0 = As.reverse ++ .ref b :: rest) (hW : (rest.map fun v => v.category).sum ≤ 8) (hdg : decode cc pc = .ok (.invokevirtual index, 3)) (hf : cells + 0 ≤ R.cells ∧ slots + 0 ≤ R.slots)
    (kk : W p l e R s m args below meth c H locs cells slots Q (F0 m (pc + 3) ls (.int r :: rest))) : W p l e R s m args below meth c H locs cells slots Q (F0 m pc ls st0) := by
  subst hst
  exact W.callR (W.runV S hM cw ⟨fun a U g mk q => by obtain ⟨q0, qP, qK⟩ := q; exact ⟨q0, qP, va_K.moved (u := U) (U := U.calling g mk a) (Vm.Alike.refl U.vm) qK⟩, hr, fun U hU hW => ⟨rfl, by rw [hU]; exact hP, va_K.moved hW.alike hK⟩⟩ rfl hn hl rfl (lv_room hW) hdg hf) kk
theorem co_rS (S : CallFix p m c cc nL s args Ts own) (hM : MetR l y ws rm G w As r) (cw : CallB R s args own index y bytes maxL ret ws rm 0 0 n ∧ (Cond.static y).before args s = true) (hK : kG G s) (hP : pG G w H) (hn : As.length = n) (hl : ls.size = nL) (hst : st0 = As.reverse ++ rest) (hW : (rest.map fun v => v.category).sum ≤ 8) (hdg : decode cc pc = .ok (.invokestatic index, 3)) (hf : cells + 0 ≤ R.cells ∧ slots + 0 ≤ R.slots)
    (kk : W p l e R s m args below meth c H locs cells slots Q (F0 m (pc + 3) ls (.int r :: rest))) : W p l e R s m args below meth c H locs cells slots Q (F0 m pc ls st0) := by
  subst hst
  exact W.callR (W.runS S hM cw ⟨fun a U g mk q => by obtain ⟨q0, qP, qK⟩ := q; exact ⟨q0, qP, va_K.moved (u := U) (U := U.calling g mk a) (Vm.Alike.refl U.vm) qK⟩, fun U hU hW => ⟨rfl, by rw [hU]; exact hP, va_K.moved hW.alike hK⟩⟩ rfl hn hl rfl (lv_room hW) hdg hf) kk
theorem co_mVi {S : Type} {wf : S → va_W} {post : Int32 → S → Prop} (S0 : CallFix p m c cc nL s args Ts own) (hM : MetI l y ws rm G w0 (.ref b :: As) wf post) (cw : CallW R s args own C index y bytes maxL ret ws rm 0 0 n) (hK : kG G s) (hP : pG G w0 H) (hD : va_D A w0) (hS : va_S A s.heap H locs) (hA : ∀ q, s.heap.size ≤ q → A q) (hr : ∃ cellB : Cell, H[b]? = some cellB ∧ cellB.vm.isStatics = false ∧ s.vm.findClass C = some cellB.cls) (hn : As.length = n) (hl : ls.size = nL) (hst : st0 = As.reverse ++ .ref b :: rest) (hW : (rest.map fun v => v.category).sum ≤ 8) (hdg : decode cc pc = .ok (.invokevirtual index, 3)) (hf : cells + 0 ≤ R.cells ∧ slots + 0 ≤ R.slots)
    (kk : ∀ (r : Int32) (u : S) (H1 : Heap) (locs1 : List Loc), post r u → pG G (wf u) H1 → va_D A (wf u) → va_S A s.heap H1 locs1 → W p l e R s m args below meth c H1 locs1 cells slots Q (F0 m (pc + 3) ls (.int r :: rest))) : W p l e R s m args below meth c H locs cells slots Q (F0 m pc ls st0) := by
  subst hst
  have hF : ∀ q, va_A w0 H.size q → A q := fun q h => h.elim (fun ⟨k, e, h⟩ => hD.2 k (q, e) h) (fun h => hA q (Nat.le_trans hS.1 h))
  refine va_calli (va_runV S0 (hM H.size) cw ⟨fun a U g mk q => by obtain ⟨q0, q1, qP, qK, qD⟩ := q; exact ⟨q0, q1, qP, va_K.moved (u := U) (U := U.calling g mk a) (Vm.Alike.refl U.vm) qK, qD⟩, hr, fun U hU hW => ⟨rfl, by rw [hU], by rw [hU]; exact hP, va_K.moved hW.alike hK, hD.weaken (fun _ _ _ _ => trivial)⟩⟩ rfl hn hl rfl (lv_room hW) hdg hf) hS (fun q _ h => hF q h) hF (fun r u t H1 locs1 ht hvm hw hB hz hk hS1 => ?_)
  obtain ⟨hP1, hK1, hD1⟩ := hB
  rw [ht] at hP1
  exact kk r u H1 locs1 hw hP1 (hD1.weaken (fun k q _ h => hF q.1 h)) hS1
theorem co_mVv {S : Type} {wf : S → va_W} {post : S → Prop} (S0 : CallFix p m c cc nL s args Ts own) (hM : MetV l y ws rm G w0 (.ref b :: As) wf post) (cw : CallW R s args own C index y bytes maxL ret ws rm 0 0 n) (hK : kG G s) (hP : pG G w0 H) (hD : va_D A w0) (hS : va_S A s.heap H locs) (hA : ∀ q, s.heap.size ≤ q → A q) (hr : ∃ cellB : Cell, H[b]? = some cellB ∧ cellB.vm.isStatics = false ∧ s.vm.findClass C = some cellB.cls) (hn : As.length = n) (hl : ls.size = nL) (hst : st0 = As.reverse ++ .ref b :: rest) (hW : (rest.map fun v => v.category).sum ≤ 8) (hdg : decode cc pc = .ok (.invokevirtual index, 3)) (hf : cells + 0 ≤ R.cells ∧ slots + 0 ≤ R.slots)
    (kk : ∀ (u : S) (H1 : Heap) (locs1 : List Loc), post u → pG G (wf u) H1 → va_D A (wf u) → va_S A s.heap H1 locs1 → W p l e R s m args below meth c H1 locs1 cells slots Q (F0 m (pc + 3) ls rest)) : W p l e R s m args below meth c H locs cells slots Q (F0 m pc ls st0) := by
  subst hst
  have hF : ∀ q, va_A w0 H.size q → A q := fun q h => h.elim (fun ⟨k, e, h⟩ => hD.2 k (q, e) h) (fun h => hA q (Nat.le_trans hS.1 h))
  refine va_callv (va_runV S0 (hM H.size) cw ⟨fun a U g mk q => by obtain ⟨q0, q1, qP, qK, qD⟩ := q; exact ⟨q0, q1, qP, va_K.moved (u := U) (U := U.calling g mk a) (Vm.Alike.refl U.vm) qK, qD⟩, hr, fun U hU hW => ⟨rfl, by rw [hU], by rw [hU]; exact hP, va_K.moved hW.alike hK, hD.weaken (fun _ _ _ _ => trivial)⟩⟩ rfl hn hl rfl (lv_room hW) hdg hf) hS (fun q _ h => hF q h) hF (fun u t H1 locs1 ht hvm hw hB hz hk hS1 => ?_)
  obtain ⟨hP1, hK1, hD1⟩ := hB
  rw [ht] at hP1
  exact kk u H1 locs1 hw hP1 (hD1.weaken (fun k q _ h => hF q.1 h)) hS1
/-- a part of a world in another order -/
theorem pG_perm {ws ws' : va_W} (h : pG G ws H) (is : List Nat) (hs : is.map (fun i => ws[i]?) = ws'.map some) : pG G ws' H := by
  intro k q hk
  have h1 : (is.map (fun i => ws[i]?))[k]? = some (some q) := by rw [hs, List.getElem?_map, hk]; rfl
  rw [List.getElem?_map] at h1
  cases hi : is[k]? with
  | none => rw [hi] at h1; cases h1
  | some i => rw [hi] at h1; exact h i q (Option.some.inj h1)
/-- a writer over a part of the world: the places isC; isR are the others; perm lays what came back in the world's order -/
theorem co_mVvS {S : Type} {wf w' : S → va_W} {wc wr : va_W} {post : S → Prop} (isC isR perm : List Nat) (S0 : CallFix p m c cc nL s args Ts own) (hM : MetV l y ws rm G wc (.ref b :: As) wf post) (cw : CallW R s args own C index y bytes maxL ret ws rm 0 0 n) (hK : kG G s) (hP : pG G w0 H) (hD : va_D A w0) (hS : va_S A s.heap H locs) (hA : ∀ q, s.heap.size ≤ q → A q)
    (hC : isC.map (fun i => w0[i]?) = wc.map some) (hR : isR.map (fun i => w0[i]?) = wr.map some) (hnC : va_nd isC = true) (hnR : va_nd isR = true) (hdis : ∀ i ∈ isR, i ∉ isC) (hnP : va_nd perm = true) (hp : ∀ u, perm.map (fun i => (wr ++ wf u)[i]?) = (w' u).map some)
    (hr : ∃ cellB : Cell, H[b]? = some cellB ∧ cellB.vm.isStatics = false ∧ s.vm.findClass C = some cellB.cls) (hn : As.length = n) (hl : ls.size = nL) (hst : st0 = As.reverse ++ .ref b :: rest) (hW : (rest.map fun v => v.category).sum ≤ 8) (hdg : decode cc pc = .ok (.invokevirtual index, 3)) (hf : cells + 0 ≤ R.cells ∧ slots + 0 ≤ R.slots)
    (kk : ∀ (u : S) (H1 : Heap) (locs1 : List Loc), post u → pG G (w' u) H1 → va_D A (w' u) → va_S A s.heap H1 locs1 → W p l e R s m args below meth c H1 locs1 cells slots Q (F0 m (pc + 3) ls rest)) : W p l e R s m args below meth c H locs cells slots Q (F0 m pc ls st0) := by
  subst hst
  have hPc := pG_perm hP isC hC
  have hDc := hD.sub isC hnC hC
  have hF : ∀ q, va_A wc H.size q → A q := va_free hD hS hA isC hC
  refine va_callv (va_runV S0 (hM H.size) cw ⟨fun a U g mk q => by obtain ⟨q0, q1, qP, qK, qD⟩ := q; exact ⟨q0, q1, qP, va_K.moved (u := U) (U := U.calling g mk a) (Vm.Alike.refl U.vm) qK, qD⟩, hr, fun U hU hW => ⟨rfl, by rw [hU], by rw [hU]; exact hPc, va_K.moved hW.alike hK, hDc.weaken (fun _ _ _ _ => trivial)⟩⟩ rfl hn hl rfl (lv_room hW) hdg hf) hS (fun q _ h => hF q h) hF (fun u t H1 locs1 ht hvm hw hB hz hk hS1 => ?_)
  obtain ⟨hP1, hK1, hD1⟩ := hB
  rw [ht] at hP1
  obtain ⟨hP2, hD2⟩ := va_join hP hD isC isR hC hR hnR hdis hk hF hP1 hD1
  exact kk u H1 locs1 hw (pG_perm hP2 perm (hp u)) (hD2.sub perm hnP (hp u)) hS1
theorem co_mSvS {S : Type} {wf w' : S → va_W} {wc wr : va_W} {post : S → Prop} (isC isR perm : List Nat) (S0 : CallFix p m c cc nL s args Ts own) (hM : MetV l y ws rm G wc As wf post) (cw : CallB R s args own index y bytes maxL ret ws rm 0 0 n ∧ (Cond.static y).before args s = true) (hK : kG G s) (hP : pG G w0 H) (hD : va_D A w0) (hS : va_S A s.heap H locs) (hA : ∀ q, s.heap.size ≤ q → A q)
    (hC : isC.map (fun i => w0[i]?) = wc.map some) (hR : isR.map (fun i => w0[i]?) = wr.map some) (hnC : va_nd isC = true) (hnR : va_nd isR = true) (hdis : ∀ i ∈ isR, i ∉ isC) (hnP : va_nd perm = true) (hp : ∀ u, perm.map (fun i => (wr ++ wf u)[i]?) = (w' u).map some)
    (hn : As.length = n) (hl : ls.size = nL) (hst : st0 = As.reverse ++ rest) (hW : (rest.map fun v => v.category).sum ≤ 8) (hdg : decode cc pc = .ok (.invokestatic index, 3)) (hf : cells + 0 ≤ R.cells ∧ slots + 0 ≤ R.slots)
    (kk : ∀ (u : S) (H1 : Heap) (locs1 : List Loc), post u → pG G (w' u) H1 → va_D A (w' u) → va_S A s.heap H1 locs1 → W p l e R s m args below meth c H1 locs1 cells slots Q (F0 m (pc + 3) ls rest)) : W p l e R s m args below meth c H locs cells slots Q (F0 m pc ls st0) := by
  subst hst
  have hPc := pG_perm hP isC hC
  have hDc := hD.sub isC hnC hC
  have hF : ∀ q, va_A wc H.size q → A q := va_free hD hS hA isC hC
  refine va_callv (va_runS S0 (hM H.size) cw ⟨fun a U g mk q => by obtain ⟨q0, q1, qP, qK, qD⟩ := q; exact ⟨q0, q1, qP, va_K.moved (u := U) (U := U.calling g mk a) (Vm.Alike.refl U.vm) qK, qD⟩, fun U hU hW => ⟨rfl, by rw [hU], by rw [hU]; exact hPc, va_K.moved hW.alike hK, hDc.weaken (fun _ _ _ _ => trivial)⟩⟩ rfl hn hl rfl (lv_room hW) hdg hf) hS (fun q _ h => hF q h) hF (fun u t H1 locs1 ht hvm hw hB hz hk hS1 => ?_)
  obtain ⟨hP1, hK1, hD1⟩ := hB
  rw [ht] at hP1
  obtain ⟨hP2, hD2⟩ := va_join hP hD isC isR hC hR hnR hdis hk hF hP1 hD1
  exact kk u H1 locs1 hw (pG_perm hP2 perm (hp u)) (hD2.sub perm hnP (hp u)) hS1
-- bodies
theorem co_bodyR (hy : plainName y.cls = true) (hw : ws = Cond.code y cc maxL ret :: ws') (hlen : (lg_sl av).length ≤ maxL)
    (body : ∀ (p : Program) (e : Env) (s : State) (m : MethodId) (args : Array Value) (below : List Frame) (meth : Method) (c : Code), CallFix p m c cc maxL s args ws y.cls → meth.sig.returnType = ret → meth.locks = false → kG G s → pG G w s.heap → ∀ ls, lv_has ls maxL (lv_args 0 av) → W p l e rm s m args below meth c s.heap [] 0 0 (MQ below (QcRead r) args s 0 0 (fun _ => False)) (F0 m 0 ls [])) : MetR l y ws rm G w av r := by
  refine Met.ofW (cc := cc) (maxL := maxL) (ret := ret) hy hw ?_
  intro p e s m args below meth c s₁ B hml hv
  obtain ⟨rfl, hP, hK⟩ := hv
  have hts := atoms_spec (ws := ws) B.pre
  have hl := lv_entry av (n := maxL) hlen
  rw [lg_entry_eq]
  generalize (lg_sl av ++ List.replicate (maxL - (lg_sl av).length) Slot.unset).toArray = ls at hl ⊢
  exact body p e s m _ below meth c ⟨B.exec, B.bytes, hml, findClass_of_methodNamed B.named, hts⟩ B.returns B.notSynchronized hK hP ls hl
theorem co_bodyV {S : Type} {wf : S → va_W} {post : S → Prop} (hy : plainName y.cls = true) (hw : ws = Cond.code y cc maxL ret :: ws') (hlen : (lg_sl av).length ≤ maxL)
    (body : ∀ (p : Program) (e : Env) (s : State) (m : MethodId) (args : Array Value) (below : List Frame) (meth : Method) (c : Code), CallFix p m c cc maxL s args ws y.cls → meth.sig.returnType = ret → meth.locks = false → kG G s → ∀ A : Nat → Prop, (∀ q, s.heap.size ≤ q → A q) → pG G w0 s.heap → va_D A w0 → va_S A s.heap s.heap [] → ∀ ls, lv_has ls maxL (lv_args 0 av) → W p l e rm s m args below meth c s.heap [] 0 0 (MQ below (va_Qv post (fun u t => pG G (wf u) t.heap ∧ kG G t ∧ va_D A (wf u)) A) args s 0 0 A) (F0 m 0 ls [])) : MetV l y ws rm G w0 av wf post := by
  intro sz
  refine Met.ofW (cc := cc) (maxL := maxL) (ret := ret) hy hw ?_
  intro p e s m args below meth c s₁ B hml hv
  obtain ⟨rfl, hsz, hP, hK, hD0⟩ := hv
  subst hsz
  have hts := atoms_spec (ws := ws) B.pre
  have hl := lv_entry av (n := maxL) hlen
  rw [lg_entry_eq]
  generalize (lg_sl av ++ List.replicate (maxL - (lg_sl av).length) Slot.unset).toArray = ls at hl ⊢
  exact body p e s m _ below meth c ⟨B.exec, B.bytes, hml, findClass_of_methodNamed B.named, hts⟩ B.returns B.notSynchronized hK _ (fun q h => Or.inr h) hP (hD0.self (sz := s.heap.size)) va_S.rf ls hl
theorem co_bodyI {S : Type} {wf : S → va_W} {post : Int32 → S → Prop} (hy : plainName y.cls = true) (hw : ws = Cond.code y cc maxL ret :: ws') (hlen : (lg_sl av).length ≤ maxL)
    (body : ∀ (p : Program) (e : Env) (s : State) (m : MethodId) (args : Array Value) (below : List Frame) (meth : Method) (c : Code), CallFix p m c cc maxL s args ws y.cls → meth.sig.returnType = ret → meth.locks = false → kG G s → ∀ A : Nat → Prop, (∀ q, s.heap.size ≤ q → A q) → pG G w0 s.heap → va_D A w0 → va_S A s.heap s.heap [] → ∀ ls, lv_has ls maxL (lv_args 0 av) → W p l e rm s m args below meth c s.heap [] 0 0 (MQ below (va_Qi post (fun u t => pG G (wf u) t.heap ∧ kG G t ∧ va_D A (wf u)) A) args s 0 0 A) (F0 m 0 ls [])) : MetI l y ws rm G w0 av wf post := by
  intro sz
  refine Met.ofW (cc := cc) (maxL := maxL) (ret := ret) hy hw ?_
  intro p e s m args below meth c s₁ B hml hv
  obtain ⟨rfl, hsz, hP, hK, hD0⟩ := hv
  subst hsz
  have hts := atoms_spec (ws := ws) B.pre
  have hl := lv_entry av (n := maxL) hlen
  rw [lg_entry_eq]
  generalize (lg_sl av ++ List.replicate (maxL - (lg_sl av).length) Slot.unset).toArray = ls at hl ⊢
  exact body p e s m _ below meth c ⟨B.exec, B.bytes, hml, findClass_of_methodNamed B.named, hts⟩ B.returns B.notSynchronized hK _ (fun q h => Or.inr h) hP (hD0.self (sz := s.heap.size)) va_S.rf ls hl
-- ends
theorem co_endR {v : Int32} (S : CallFix p m c cc nL s args Ts own) (hr : meth.sig.returnType = some .int) (hlocks : meth.locks = false) (hdg : decode cc pc = .ok (.ireturn, 1)) (hv : v = r) : W p l e R s m args below meth c s.heap [] 0 0 (MQ below (QcRead r) args s 0 0 (fun _ => False)) (F0 m pc ls [.int v]) :=
  W.iret S.1 S.2.1 hr (fun t ht _ => ⟨by rw [hv], ht⟩) (fun q h => absurd h List.not_mem_nil) hdg hlocks
theorem co_endRz {v : Bool} (S : CallFix p m c cc nL s args Ts own) (hr : meth.sig.returnType = some .boolean) (hlocks : meth.locks = false) (hdg : decode cc pc = .ok (.ireturn, 1)) (hv : bI v = r) : W p l e R s m args below meth c s.heap [] 0 0 (MQ below (QcRead r) args s 0 0 (fun _ => False)) (F0 m pc ls [.int (bI v)]) :=
  W.zret S.1 S.2.1 hr (bI_nar v) (fun t ht _ => ⟨by rw [hv], ht⟩) (fun q h => absurd h List.not_mem_nil) hdg hlocks
theorem co_endV {S : Type} {wf : S → va_W} {post : S → Prop} (u : S) (S0 : CallFix p m c cc nL s args Ts own) (hr : meth.sig.returnType = none) (hlocks : meth.locks = false) (hdg : decode cc pc = .ok (.return_, 1)) (hK : kG G s) (hP : pG G (wf u) H) (hD : va_D A (wf u)) (hS : va_S A s.heap H locs) (hv : post u) : W p l e R s m args below meth c H locs 0 0 (MQ below (va_Qv post (fun u t => pG G (wf u) t.heap ∧ kG G t ∧ va_D A (wf u)) A) args s 0 0 A) (F0 m pc ls []) :=
  W.vret S0.1 S0.2.1 hr (fun t ht hW => ⟨⟨u, rfl, hv, by rw [ht]; exact hP, va_K.moved hW.alike hK, hD⟩, hS.F ht⟩) hS.2.2 hdg hlocks
theorem co_endI {S : Type} {wf : S → va_W} {post : Int32 → S → Prop} {v : Int32} (u : S) (S0 : CallFix p m c cc nL s args Ts own) (hr : meth.sig.returnType = some .int) (hlocks : meth.locks = false) (hdg : decode cc pc = .ok (.ireturn, 1)) (hK : kG G s) (hP : pG G (wf u) H) (hD : va_D A (wf u)) (hS : va_S A s.heap H locs) (hv : post v u) : W p l e R s m args below meth c H locs 0 0 (MQ below (va_Qi post (fun u t => pG G (wf u) t.heap ∧ kG G t ∧ va_D A (wf u)) A) args s 0 0 A) (F0 m pc ls [.int v]) :=
  W.iret S0.1 S0.2.1 hr (fun t ht hW => ⟨⟨v, u, rfl, hv, by rw [ht]; exact hP, va_K.moved hW.alike hK, hD⟩, hS.F ht⟩) hS.2.2 hdg hlocks
theorem co_endIz {S : Type} {wf : S → va_W} {post : Int32 → S → Prop} {v : Bool} (u : S) (S0 : CallFix p m c cc nL s args Ts own) (hr : meth.sig.returnType = some .boolean) (hlocks : meth.locks = false) (hdg : decode cc pc = .ok (.ireturn, 1)) (hK : kG G s) (hP : pG G (wf u) H) (hD : va_D A (wf u)) (hS : va_S A s.heap H locs) (hv : post (bI v) u) : W p l e R s m args below meth c H locs 0 0 (MQ below (va_Qi post (fun u t => pG G (wf u) t.heap ∧ kG G t ∧ va_D A (wf u)) A) args s 0 0 A) (F0 m pc ls [.int (bI v)]) :=
  W.zret S0.1 S0.2.1 hr (bI_nar v) (fun t ht hW => ⟨⟨bI v, u, rfl, hv, by rw [ht]; exact hP, va_K.moved hW.alike hK, hD⟩, hS.F ht⟩) hS.2.2 hdg hlocks
-- branches over truth values
theorem co_ifeq {v : Bool} {off : Int} {tgt : Nat} (S : CallFix p m c cc nL s args Ts own) (hdg : decode cc pc = .ok (.ifCond .eq off, 3)) (ht : (pc : Int) + off = (tgt : Int)) (kt : v = false → W p l e R s m args below meth c H locs cells slots Q (F0 m tgt ls rest)) (kf : v = true → W p l e R s m args below meth c H locs cells slots Q (F0 m (pc + 3) ls rest)) : W p l e R s m args below meth c H locs cells slots Q (F0 m pc ls (.int (bI v) :: rest)) :=
  lv_if_eq S.1 S.2.1 hdg ht (fun h => kt (bI_0 h)) (fun h => kf (bI_1 h))
theorem co_ifne {v : Bool} {off : Int} {tgt : Nat} (S : CallFix p m c cc nL s args Ts own) (hdg : decode cc pc = .ok (.ifCond .ne off, 3)) (ht : (pc : Int) + off = (tgt : Int)) (kt : v = true → W p l e R s m args below meth c H locs cells slots Q (F0 m tgt ls rest)) (kf : v = false → W p l e R s m args below meth c H locs cells slots Q (F0 m (pc + 3) ls rest)) : W p l e R s m args below meth c H locs cells slots Q (F0 m pc ls (.int (bI v) :: rest)) :=
  lv_if_ne S.1 S.2.1 hdg ht (fun h => kt (bI_1 h)) (fun h => kf (bI_0 h))
end COB
