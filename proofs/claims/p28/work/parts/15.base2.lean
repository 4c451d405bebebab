/-! the class's methods that may throw: what a throw needs of the state, contracts, calls, bodies, ends -/
def iaE : String := "java/lang/IllegalArgumentException"
def isE : String := "java/lang/IllegalStateException"
def ioE : String := "java/lang/IndexOutOfBoundsException"
def tX (sa : Nat → Nat) (A : Nat → Prop) (U : State) (H : Heap) : Prop :=
  (vk_R RX2 144 "a number is out of range" (sa 0) U ∧ vk_R RX2 147 "the node does not live" (sa 1) U ∧ vk_R RX2 63 "a node lives already" (sa 2) U ∧ vk_R RX2 76 "the node lives already" (sa 3) U ∧ vk_R RX2 124 "the lookup has no such hop" (sa 4) U) ∧
  (va_Nw (.castable "java/lang/IllegalArgumentException" "java/lang/IllegalArgumentException") U ∧ va_Nw (.castable "java/lang/IllegalStateException" "java/lang/IllegalStateException") U ∧ va_Nw (.castable "java/lang/IndexOutOfBoundsException" "java/lang/IndexOutOfBoundsException") U ∧ va_Nw (.declares (Bundle.initS "java/lang/RuntimeException")) U ∧ va_Nw (.declares (Bundle.initS "java/lang/Exception")) U ∧ va_Nw (.declares (Bundle.initS Bundle.tN)) U) ∧
  vx_Zq Bundle.tN "UNASSIGNED_STACK" Bundle.steD A U H ∧ vx_Zq Bundle.tN "SUPPRESSED_SENTINEL" Bundle.listD A U H
theorem tX_go {sa : Nat → Nat} {A B : Nat → Prop} {s U : State} {H : Heap} {locs : List Loc} (h : tX sa A s s.heap) (hS : va_S A s.heap H locs) (hB : ∀ q, B q → A q) (hU : U.heap = H) (hW : s.WarmedH U.vm) : tX sa B U U.heap := by
  obtain ⟨⟨h1, h2, h3, h4, h5⟩, ⟨h6, h7, h8, h11, h12, h13⟩, h9, h10⟩ := h
  exact ⟨⟨h1.warm hW, h2.warm hW, h3.warm hW, h4.warm hW, h5.warm hW⟩, ⟨h6.warmC hW, h7.warmC hW, h8.warmC hW, h11.warmD hW, h12.warmD hW, h13.warmD hW⟩, by rw [hU]; exact (vx_Zq.moved hW.alike (h9.kept hS.2.1)).narrow hB, by rw [hU]; exact (vx_Zq.moved hW.alike (h10.kept hS.2.1)).narrow hB⟩
theorem tX_blind {sa : Nat → Nat} {A : Nat → Prop} {U : State} {a : Array Value} {g : JFrame} {mk : MethodId} (h : tX sa A U U.heap) : tX sa A (U.calling g mk a) (U.calling g mk a).heap := by
  obtain ⟨⟨h1, h2, h3, h4, h5⟩, ⟨h6, h7, h8, h11, h12, h13⟩, h9, h10⟩ := h
  exact ⟨⟨vk_R.same rfl h1, vk_R.same rfl h2, vk_R.same rfl h3, vk_R.same rfl h4, vk_R.same rfl h5⟩, ⟨va_Nw.same rfl rfl h6, va_Nw.same rfl rfl h7, va_Nw.same rfl rfl h8, va_Nw.same rfl rfl h11, va_Nw.same rfl rfl h12, va_Nw.same rfl rfl h13⟩, vx_Zq.moved (u := U) (U := U.calling g mk a) (Vm.Alike.refl U.vm) h9, vx_Zq.moved (u := U) (U := U.calling g mk a) (Vm.Alike.refl U.vm) h10⟩
def MetXv {S : Type} (l : Launch) (y : MethodName) (ws : List Cond) (rm : Room) (G : cG) (sa : Nat → Nat) (w0 : va_W) (av : List Value) (wf : S → va_W) (post : S → Prop) (px : String → S → Prop) (mc ms : Nat) : Prop :=
  ∀ sz : Nat, vx_Met l y ws rm (va_Pc av (fun U => U.heap.size = sz ∧ pG G w0 U.heap ∧ kG G U ∧ va_D (fun _ => True) w0 ∧ tX sa (va_A w0 sz) U U.heap)) (va_Qv post (fun u t => pG G (wf u) t.heap ∧ kG G t ∧ va_D (va_A w0 sz) (wf u)) (va_A w0 sz)) (vx_X (fun _ : S => True) (fun E u t => px E u ∧ pG G (wf u) t.heap ∧ kG G t ∧ va_D (va_A w0 sz) (wf u)) (va_A w0 sz)) mc ms (va_A w0 sz)
def MetXi {S : Type} (l : Launch) (y : MethodName) (ws : List Cond) (rm : Room) (G : cG) (sa : Nat → Nat) (w0 : va_W) (av : List Value) (wf : S → va_W) (post : Int32 → S → Prop) (px : String → S → Prop) (mc ms : Nat) : Prop :=
  ∀ sz : Nat, vx_Met l y ws rm (va_Pc av (fun U => U.heap.size = sz ∧ pG G w0 U.heap ∧ kG G U ∧ va_D (fun _ => True) w0 ∧ tX sa (va_A w0 sz) U U.heap)) (va_Qi post (fun u t => pG G (wf u) t.heap ∧ kG G t ∧ va_D (va_A w0 sz) (wf u)) (va_A w0 sz)) (vx_X (fun _ : S => True) (fun E u t => px E u ∧ pG G (wf u) t.heap ∧ kG G t ∧ va_D (va_A w0 sz) (wf u)) (va_A w0 sz)) mc ms (va_A w0 sz)
abbrev QXv {S : Type} (below : List Frame) (G : cG) (A : Nat → Prop) (wf : S → va_W) (post : S → Prop) (px : String → S → Prop) (mc ms : Nat) (args : Array Value) (s : State) : State → Prop := vx_MQ below (va_Qv post (fun u t => pG G (wf u) t.heap ∧ kG G t ∧ va_D A (wf u)) A) (vx_X (fun _ : S => True) (fun E u t => px E u ∧ pG G (wf u) t.heap ∧ kG G t ∧ va_D A (wf u)) A) args s mc ms A
abbrev QXi {S : Type} (below : List Frame) (G : cG) (A : Nat → Prop) (wf : S → va_W) (post : Int32 → S → Prop) (px : String → S → Prop) (mc ms : Nat) (args : Array Value) (s : State) : State → Prop := vx_MQ below (va_Qi post (fun u t => pG G (wf u) t.heap ∧ kG G t ∧ va_D A (wf u)) A) (vx_X (fun _ : S => True) (fun E u t => px E u ∧ pG G (wf u) t.heap ∧ kG G t ∧ va_D A (wf u)) A) args s mc ms A
section COX
variable {p : Program} {l : Launch} {e : Env} {R : Room} {s : State} {m : MethodId} {args : Array Value} {below : List Frame} {meth : Method} {c : Code} {H : Heap} {locs : List Loc} {cells slots : Nat} {Q : State → Prop}
  {Ts ws ws' : List Cond} {cc bytes : ByteArray} {nL maxL index n pc : Nat} {own C : String} {y : MethodName} {ret : Option FieldType} {rm : Room}
  {b : Addr} {As rest st0 av : List Value} {ls : Array Slot} {G : cG} {w w0 : va_W} {A : Nat → Prop} {sa : Nat → Nat} {mc ms mc0 ms0 : Nat}
/-- calls whose throw goes on: the caller's own Q takes it by kx -/
theorem co_xVv {S : Type} {wf : S → va_W} {post : S → Prop} {px : String → S → Prop} (S0 : CallFix p m c cc nL s args Ts own) (hM : MetXv l y ws rm G sa w0 (.ref b :: As) wf post px mc0 ms0) (cw : CallW R s args own C index y bytes maxL ret ws rm mc0 ms0 n) (hK : kG G s) (hP : pG G w0 H) (hD : va_D A w0) (hS : va_S A s.heap H locs) (hA : ∀ q, s.heap.size ≤ q → A q) (hX : tX sa A s s.heap) (hr : ∃ cellB : Cell, H[b]? = some cellB ∧ cellB.vm.isStatics = false ∧ s.vm.findClass C = some cellB.cls) (hn : As.length = n) (hl : ls.size = nL) (hst : st0 = As.reverse ++ .ref b :: rest) (hW : (rest.map fun v => v.category).sum ≤ 8) (hdg : decode cc pc = .ok (.invokevirtual index, 3)) (hf : cells + mc0 ≤ R.cells ∧ slots + ms0 ≤ R.slots)
    (kx : ∀ (E : String) (ce : Cell) (q9 : Addr) (u : S) (H1 : Heap) (locs1 : List Loc), px E u → pG G (wf u) H1 → va_D A (wf u) → va_S A s.heap H1 locs1 → H1[q9]? = some ce → ce.vm = .none → s.vm.findClass E = some ce.cls → vx_W p l e R s m args below meth c H1 locs1 (cells + mc0) (slots + ms0) Q (F0 m pc ls rest) q9)
    (kk : ∀ (u : S) (H1 : Heap) (locs1 : List Loc), post u → pG G (wf u) H1 → va_D A (wf u) → va_S A s.heap H1 locs1 → W p l e R s m args below meth c H1 locs1 (cells + mc0) (slots + ms0) Q (F0 m (pc + 3) ls rest)) : W p l e R s m args below meth c H locs cells slots Q (F0 m pc ls st0) := by
  subst hst
  have hF : ∀ q, va_A w0 H.size q → A q := fun q h => h.elim (fun ⟨k, e, h⟩ => hD.2 k (q, e) h) (fun h => hA q (Nat.le_trans hS.1 h))
  refine vx_callv (vx_runV S0 (hM H.size) cw ⟨fun a U g mk q => by obtain ⟨q0, q1, qP, qK, qD, qX⟩ := q; exact ⟨q0, q1, qP, va_K.moved (u := U) (U := U.calling g mk a) (Vm.Alike.refl U.vm) qK, qD, tX_blind qX⟩, hr, fun U hU hW => ⟨rfl, by rw [hU], by rw [hU]; exact hP, va_K.moved hW.alike hK, hD.weaken (fun _ _ _ _ => trivial), tX_go hX hS hF hU hW⟩⟩ rfl hn hl rfl (lv_room hW) hdg hf) hS (fun q _ h => hF q h) hF (fun q _ h => hF q h) (fun E ce q9 u t H1 locs1 ht hvm _ hB hz hk hS1 h1 h2 h3 => ?_) (fun u t H1 locs1 ht hvm hw hB hz hk hS1 => ?_)
  · obtain ⟨hp, hP1, hK1, hD1⟩ := hB
    rw [ht] at hP1
    exact kx E ce q9 u H1 locs1 hp hP1 (hD1.weaken (fun k q _ h => hF q.1 h)) hS1 h1 h2 h3
  · obtain ⟨hP1, hK1, hD1⟩ := hB
    rw [ht] at hP1
    exact kk u H1 locs1 hw hP1 (hD1.weaken (fun k q _ h => hF q.1 h)) hS1
theorem co_xSv {S : Type} {wf : S → va_W} {post : S → Prop} {px : String → S → Prop} (S0 : CallFix p m c cc nL s args Ts own) (hM : MetXv l y ws rm G sa w0 As wf post px mc0 ms0) (cw : CallB R s args own index y bytes maxL ret ws rm mc0 ms0 n ∧ (Cond.static y).before args s = true) (hK : kG G s) (hP : pG G w0 H) (hD : va_D A w0) (hS : va_S A s.heap H locs) (hA : ∀ q, s.heap.size ≤ q → A q) (hX : tX sa A s s.heap) (hn : As.length = n) (hl : ls.size = nL) (hst : st0 = As.reverse ++ rest) (hW : (rest.map fun v => v.category).sum ≤ 8) (hdg : decode cc pc = .ok (.invokestatic index, 3)) (hf : cells + mc0 ≤ R.cells ∧ slots + ms0 ≤ R.slots)
    (kx : ∀ (E : String) (ce : Cell) (q9 : Addr) (u : S) (H1 : Heap) (locs1 : List Loc), px E u → pG G (wf u) H1 → va_D A (wf u) → va_S A s.heap H1 locs1 → H1[q9]? = some ce → ce.vm = .none → s.vm.findClass E = some ce.cls → vx_W p l e R s m args below meth c H1 locs1 (cells + mc0) (slots + ms0) Q (F0 m pc ls rest) q9)
    (kk : ∀ (u : S) (H1 : Heap) (locs1 : List Loc), post u → pG G (wf u) H1 → va_D A (wf u) → va_S A s.heap H1 locs1 → W p l e R s m args below meth c H1 locs1 (cells + mc0) (slots + ms0) Q (F0 m (pc + 3) ls rest)) : W p l e R s m args below meth c H locs cells slots Q (F0 m pc ls st0) := by
  subst hst
  have hF : ∀ q, va_A w0 H.size q → A q := fun q h => h.elim (fun ⟨k, e, h⟩ => hD.2 k (q, e) h) (fun h => hA q (Nat.le_trans hS.1 h))
  refine vx_callv (vx_runS S0 (hM H.size) cw ⟨fun a U g mk q => by obtain ⟨q0, q1, qP, qK, qD, qX⟩ := q; exact ⟨q0, q1, qP, va_K.moved (u := U) (U := U.calling g mk a) (Vm.Alike.refl U.vm) qK, qD, tX_blind qX⟩, fun U hU hW => ⟨rfl, by rw [hU], by rw [hU]; exact hP, va_K.moved hW.alike hK, hD.weaken (fun _ _ _ _ => trivial), tX_go hX hS hF hU hW⟩⟩ rfl hn hl rfl (lv_room hW) hdg hf) hS (fun q _ h => hF q h) hF (fun q _ h => hF q h) (fun E ce q9 u t H1 locs1 ht hvm _ hB hz hk hS1 h1 h2 h3 => ?_) (fun u t H1 locs1 ht hvm hw hB hz hk hS1 => ?_)
  · obtain ⟨hp, hP1, hK1, hD1⟩ := hB
    rw [ht] at hP1
    exact kx E ce q9 u H1 locs1 hp hP1 (hD1.weaken (fun k q _ h => hF q.1 h)) hS1 h1 h2 h3
  · obtain ⟨hP1, hK1, hD1⟩ := hB
    rw [ht] at hP1
    exact kk u H1 locs1 hw hP1 (hD1.weaken (fun k q _ h => hF q.1 h)) hS1
/-- a throw of the callee's leaves this method, which has no handler -/
theorem co_out {S : Type} {wf : S → va_W} {Qc : Array Value → State → Outcome → State → Prop} {px : String → S → Prop} {E : String} {ce : Cell} {q : Addr} (u : S) (hno : ∀ x ∈ c.exceptionTable.toList, False) (hlocks : meth.locks = false) (hK : kG G s) (hP : pG G (wf u) H) (hD : va_D A (wf u)) (hS : va_S A s.heap H locs) (hp : px E u) (h1 : H[q]? = some ce) (h2 : ce.vm = .none) (h3 : s.vm.findClass E = some ce.cls) (hc : cells ≤ mc) (hs : slots ≤ ms) :
    vx_W p l e R s m args below meth c H locs cells slots (vx_MQ below Qc (vx_X (fun _ : S => True) (fun E u t => px E u ∧ pG G (wf u) t.heap ∧ kG G t ∧ va_D A (wf u)) A) args s mc ms A) (F0 m pc ls rest) q :=
  vx_out (fun x hx => (hno x hx).elim) hlocks h1 h2 h3 (fun t ht hvm => ⟨u, trivial, ⟨hp, by rw [ht]; exact hP, va_K.moved hvm hK, hD⟩, hS.F ht⟩) hS.2.2 hc hs
/-- what a throw of this method's own owes -/
theorem co_thrown {S : Type} {wf : S → va_W} {px : String → S → Prop} {E : String} (u : S) (hK : kG G s) (hP : pG G (wf u) H) (hD : va_D A (wf u)) (hS : va_S A s.heap H locs) (hp : px E u) :
    ∀ t : State, s.vm.Alike t.vm → H.size ≤ t.heap.size → (∀ q : Nat, q < H.size → t.heap[q]? = H[q]?) → (vx_X (fun _ : S => True) (fun E u t => px E u ∧ pG G (wf u) t.heap ∧ kG G t ∧ va_D A (wf u)) A) E s t :=
  fun t hvm hz hq => ⟨u, trivial, ⟨hp, hP.kept (fun k q hk => hq q.1 ((hP k q hk).lt)), va_K.moved hvm hK, hD⟩, Nat.le_trans hS.1 hz, fun q h1 h2 => (hq q (Nat.lt_of_lt_of_le h1 hS.1)).trans (hS.2.1 q h1 h2)⟩
theorem co_bodyXv {S : Type} {wf : S → va_W} {post : S → Prop} {px : String → S → Prop} (hy : plainName y.cls = true) (hw : ws = Cond.code y cc maxL ret :: ws') (hlen : (lg_sl av).length ≤ maxL)
    (body : ∀ (p : Program) (e : Env) (s : State) (m : MethodId) (args : Array Value) (below : List Frame) (meth : Method) (c : Code), CallFix p m c cc maxL s args ws y.cls → meth.sig.returnType = ret → meth.locks = false → (∀ x ∈ c.exceptionTable.toList, False) → kG G s → ∀ A : Nat → Prop, (∀ q, s.heap.size ≤ q → A q) → pG G w0 s.heap → va_D A w0 → va_S A s.heap s.heap [] → tX sa A s s.heap → ∀ ls, lv_has ls maxL (lv_args 0 av) → W p l e rm s m args below meth c s.heap [] 0 0 (QXv below G A wf post px mc ms args s) (F0 m 0 ls [])) : MetXv l y ws rm G sa w0 av wf post px mc ms := by
  intro sz
  refine vx_ofW (cc := cc) (maxL := maxL) (ret := ret) hy hw ?_
  intro p e s m args below meth c s₁ B hml hno hv
  obtain ⟨rfl, hsz, hP, hK, hD0, hX⟩ := hv
  subst hsz
  have hts := atoms_spec (ws := ws) B.pre
  have hl := lv_entry av (n := maxL) hlen
  rw [lg_entry_eq]
  generalize (lg_sl av ++ List.replicate (maxL - (lg_sl av).length) Slot.unset).toArray = ls at hl ⊢
  exact body p e s m _ below meth c ⟨B.exec, B.bytes, hml, findClass_of_methodNamed B.named, hts⟩ B.returns B.notSynchronized hno hK _ (fun q h => Or.inr h) hP (hD0.self (sz := s.heap.size)) va_S.rf hX ls hl
theorem co_bodyXi {S : Type} {wf : S → va_W} {post : Int32 → S → Prop} {px : String → S → Prop} (hy : plainName y.cls = true) (hw : ws = Cond.code y cc maxL ret :: ws') (hlen : (lg_sl av).length ≤ maxL)
    (body : ∀ (p : Program) (e : Env) (s : State) (m : MethodId) (args : Array Value) (below : List Frame) (meth : Method) (c : Code), CallFix p m c cc maxL s args ws y.cls → meth.sig.returnType = ret → meth.locks = false → (∀ x ∈ c.exceptionTable.toList, False) → kG G s → ∀ A : Nat → Prop, (∀ q, s.heap.size ≤ q → A q) → pG G w0 s.heap → va_D A w0 → va_S A s.heap s.heap [] → tX sa A s s.heap → ∀ ls, lv_has ls maxL (lv_args 0 av) → W p l e rm s m args below meth c s.heap [] 0 0 (QXi below G A wf post px mc ms args s) (F0 m 0 ls [])) : MetXi l y ws rm G sa w0 av wf post px mc ms := by
  intro sz
  refine vx_ofW (cc := cc) (maxL := maxL) (ret := ret) hy hw ?_
  intro p e s m args below meth c s₁ B hml hno hv
  obtain ⟨rfl, hsz, hP, hK, hD0, hX⟩ := hv
  subst hsz
  have hts := atoms_spec (ws := ws) B.pre
  have hl := lv_entry av (n := maxL) hlen
  rw [lg_entry_eq]
  generalize (lg_sl av ++ List.replicate (maxL - (lg_sl av).length) Slot.unset).toArray = ls at hl ⊢
  exact body p e s m _ below meth c ⟨B.exec, B.bytes, hml, findClass_of_methodNamed B.named, hts⟩ B.returns B.notSynchronized hno hK _ (fun q h => Or.inr h) hP (hD0.self (sz := s.heap.size)) va_S.rf hX ls hl
theorem co_endXv {S : Type} {wf : S → va_W} {post : S → Prop} {px : String → S → Prop} (u : S) (S0 : CallFix p m c cc nL s args Ts own) (hr : meth.sig.returnType = none) (hlocks : meth.locks = false) (hdg : decode cc pc = .ok (.return_, 1)) (hK : kG G s) (hP : pG G (wf u) H) (hD : va_D A (wf u)) (hS : va_S A s.heap H locs) (hv : post u) (hc : cells ≤ mc) (hs : slots ≤ ms) : W p l e R s m args below meth c H locs cells slots (QXv below G A wf post px mc ms args s) (F0 m pc ls []) :=
  vx_ret (W.widen hc hs (W.vret S0.1 S0.2.1 hr (fun t ht hW => ⟨⟨u, rfl, hv, by rw [ht]; exact hP, va_K.moved hW.alike hK, hD⟩, hS.F ht⟩) hS.2.2 hdg hlocks))
theorem co_endXi {S : Type} {wf : S → va_W} {post : Int32 → S → Prop} {px : String → S → Prop} {v : Int32} (u : S) (S0 : CallFix p m c cc nL s args Ts own) (hr : meth.sig.returnType = some .int) (hlocks : meth.locks = false) (hdg : decode cc pc = .ok (.ireturn, 1)) (hK : kG G s) (hP : pG G (wf u) H) (hD : va_D A (wf u)) (hS : va_S A s.heap H locs) (hv : post v u) (hc : cells ≤ mc) (hs : slots ≤ ms) : W p l e R s m args below meth c H locs cells slots (QXi below G A wf post px mc ms args s) (F0 m pc ls [.int v]) :=
  vx_ret (W.widen hc hs (W.iret S0.1 S0.2.1 hr (fun t ht hW => ⟨⟨v, u, rfl, hv, by rw [ht]; exact hP, va_K.moved hW.alike hK, hD⟩, hS.F ht⟩) hS.2.2 hdg hlocks))
theorem co_endXiz {S : Type} {wf : S → va_W} {post : Int32 → S → Prop} {px : String → S → Prop} {v : Bool} (u : S) (S0 : CallFix p m c cc nL s args Ts own) (hr : meth.sig.returnType = some .boolean) (hlocks : meth.locks = false) (hdg : decode cc pc = .ok (.ireturn, 1)) (hK : kG G s) (hP : pG G (wf u) H) (hD : va_D A (wf u)) (hS : va_S A s.heap H locs) (hv : post (bI v) u) (hc : cells ≤ mc) (hs : slots ≤ ms) : W p l e R s m args below meth c H locs cells slots (QXi below G A wf post px mc ms args s) (F0 m pc ls [.int (bI v)]) :=
  vx_ret (W.widen hc hs (W.zret S0.1 S0.2.1 hr (bI_nar v) (fun t ht hW => ⟨⟨bI v, u, rfl, hv, by rw [ht]; exact hP, va_K.moved hW.alike hK, hD⟩, hS.F ht⟩) hS.2.2 hdg hlocks))
end COX
theorem xg_ia : ∀ w ∈ (vx_atS RX2 146 "java/lang/IllegalArgumentException" ["java/lang/RuntimeException", "java/lang/Exception"]).filter (fun w => !goodWord w), w ∈ [Cond.castable "java/lang/IllegalArgumentException" "java/lang/IllegalArgumentException", Cond.declares (Bundle.initS "java/lang/RuntimeException"), Cond.declares (Bundle.initS "java/lang/Exception"), Cond.declares (Bundle.initS Bundle.tN)] := by decide +kernel
theorem xg_is : ∀ w ∈ (vx_atS RX2 65 "java/lang/IllegalStateException" ["java/lang/RuntimeException", "java/lang/Exception"]).filter (fun w => !goodWord w), w ∈ [Cond.castable "java/lang/IllegalStateException" "java/lang/IllegalStateException", Cond.declares (Bundle.initS "java/lang/RuntimeException"), Cond.declares (Bundle.initS "java/lang/Exception"), Cond.declares (Bundle.initS Bundle.tN)] := by decide +kernel
theorem xg_io : ∀ w ∈ (vx_atS RX2 126 "java/lang/IndexOutOfBoundsException" ["java/lang/RuntimeException", "java/lang/Exception"]).filter (fun w => !goodWord w), w ∈ [Cond.castable "java/lang/IndexOutOfBoundsException" "java/lang/IndexOutOfBoundsException", Cond.declares (Bundle.initS "java/lang/RuntimeException"), Cond.declares (Bundle.initS "java/lang/Exception"), Cond.declares (Bundle.initS Bundle.tN)] := by decide +kernel
theorem xo_ia : ∀ w ∈ Cond.classLink RX2 142 "java/lang/IllegalArgumentException" :: Cond.initialized "java/lang/IllegalArgumentException" :: vx_atS RX2 146 "java/lang/IllegalArgumentException" ["java/lang/RuntimeException", "java/lang/Exception"], vx_ot w = true := by decide +kernel
theorem xo_is : ∀ w ∈ Cond.classLink RX2 61 "java/lang/IllegalStateException" :: Cond.initialized "java/lang/IllegalStateException" :: vx_atS RX2 65 "java/lang/IllegalStateException" ["java/lang/RuntimeException", "java/lang/Exception"], vx_ot w = true := by decide +kernel
theorem xo_io : ∀ w ∈ Cond.classLink RX2 122 "java/lang/IndexOutOfBoundsException" :: Cond.initialized "java/lang/IndexOutOfBoundsException" :: vx_atS RX2 126 "java/lang/IndexOutOfBoundsException" ["java/lang/RuntimeException", "java/lang/Exception"], vx_ot w = true := by decide +kernel
theorem xh_ia {sa : Nat → Nat} {A : Nat → Prop} {s : State} {args : Array Value} {Ts : List Cond} (h : tX sa A s s.heap) (hts : ∀ w ∈ Ts, w.before args s = true) (hm : ∀ w ∈ (vx_atS RX2 146 "java/lang/IllegalArgumentException" ["java/lang/RuntimeException", "java/lang/Exception"]).filter goodWord, w ∈ Ts) : ∀ w ∈ vx_atS RX2 146 "java/lang/IllegalArgumentException" ["java/lang/RuntimeException", "java/lang/Exception"], w.before args s = true :=
  vx_hat (fun w hw => hts w (hm w hw)) xg_ia (vx_c (va_Nw.use rfl h.2.1.1) (vx_c (va_Nw.use rfl h.2.1.2.2.2.1) (vx_c (va_Nw.use rfl h.2.1.2.2.2.2.1) (vx_c (va_Nw.use rfl h.2.1.2.2.2.2.2) vx_n))))
theorem xh_is {sa : Nat → Nat} {A : Nat → Prop} {s : State} {args : Array Value} {Ts : List Cond} (h : tX sa A s s.heap) (hts : ∀ w ∈ Ts, w.before args s = true) (hm : ∀ w ∈ (vx_atS RX2 65 "java/lang/IllegalStateException" ["java/lang/RuntimeException", "java/lang/Exception"]).filter goodWord, w ∈ Ts) : ∀ w ∈ vx_atS RX2 65 "java/lang/IllegalStateException" ["java/lang/RuntimeException", "java/lang/Exception"], w.before args s = true :=
  vx_hat (fun w hw => hts w (hm w hw)) xg_is (vx_c (va_Nw.use rfl h.2.1.2.1) (vx_c (va_Nw.use rfl h.2.1.2.2.2.1) (vx_c (va_Nw.use rfl h.2.1.2.2.2.2.1) (vx_c (va_Nw.use rfl h.2.1.2.2.2.2.2) vx_n))))
theorem xh_io {sa : Nat → Nat} {A : Nat → Prop} {s : State} {args : Array Value} {Ts : List Cond} (h : tX sa A s s.heap) (hts : ∀ w ∈ Ts, w.before args s = true) (hm : ∀ w ∈ (vx_atS RX2 126 "java/lang/IndexOutOfBoundsException" ["java/lang/RuntimeException", "java/lang/Exception"]).filter goodWord, w ∈ Ts) : ∀ w ∈ vx_atS RX2 126 "java/lang/IndexOutOfBoundsException" ["java/lang/RuntimeException", "java/lang/Exception"], w.before args s = true :=
  vx_hat (fun w hw => hts w (hm w hw)) xg_io (vx_c (va_Nw.use rfl h.2.1.2.2.1) (vx_c (va_Nw.use rfl h.2.1.2.2.2.1) (vx_c (va_Nw.use rfl h.2.1.2.2.2.2.1) (vx_c (va_Nw.use rfl h.2.1.2.2.2.2.2) vx_n))))
