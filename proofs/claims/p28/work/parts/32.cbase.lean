/-! constructors: what comes new is counted -/
def MetC {S : Type} (l : Launch) (y : MethodName) (ws : List Cond) (rm : Room) (G : cG) (w0 : va_W) (av : List Value) (wf : S → va_W) (post : S → Prop) (mc ms : Nat) : Prop :=
  ∀ sz : Nat, Met l y ws rm (va_Pc av (fun U => U.heap.size = sz ∧ pG G w0 U.heap ∧ kG G U ∧ va_D (fun _ => True) w0)) (va_Qv post (fun u t => pG G (wf u) t.heap ∧ kG G t ∧ va_D (va_A w0 sz) (wf u)) (va_A w0 sz)) mc ms (va_A w0 sz)
abbrev QC {S : Type} (below : List Frame) (G : cG) (A : Nat → Prop) (wf : S → va_W) (post : S → Prop) (mc ms : Nat) (args : Array Value) (s : State) : State → Prop := MQ below (va_Qv post (fun u t => pG G (wf u) t.heap ∧ kG G t ∧ va_D A (wf u)) A) args s mc ms A
section COC
variable {p : Program} {l : Launch} {e : Env} {R : Room} {s : State} {m : MethodId} {args : Array Value} {below : List Frame} {meth : Method} {c : Code} {H : Heap} {locs : List Loc} {cells slots : Nat} {Q : State → Prop}
  {Ts ws ws' : List Cond} {cc bytes : ByteArray} {nL maxL index n pc : Nat} {own C : String} {y : MethodName} {ret : Option FieldType} {rm : Room}
  {b : Addr} {As rest st0 av : List Value} {ls : Array Slot} {G : cG} {w w0 : va_W} {A : Nat → Prop} {mc ms : Nat}
theorem co_bodyC {S : Type} {wf : S → va_W} {post : S → Prop} (hy : plainName y.cls = true) (hw : ws = Cond.code y cc maxL ret :: ws') (hlen : (lg_sl av).length ≤ maxL)
    (body : ∀ (p : Program) (e : Env) (s : State) (m : MethodId) (args : Array Value) (below : List Frame) (meth : Method) (c : Code), CallFix p m c cc maxL s args ws y.cls → meth.sig.returnType = ret → meth.locks = false → meth.name = y.name → kG G s → ∀ A : Nat → Prop, (∀ q, s.heap.size ≤ q → A q) → pG G w0 s.heap → va_D A w0 → va_S A s.heap s.heap [] → ∀ ls, lv_has ls maxL (lv_args 0 av) → W p l e rm s m args below meth c s.heap [] 0 0 (QC below G A wf post mc ms args s) (F0 m 0 ls [])) : MetC l y ws rm G w0 av wf post mc ms := by
  intro sz
  refine Met.ofW (cc := cc) (maxL := maxL) (ret := ret) hy hw ?_
  intro p e s m args below meth c s₁ B hml hv
  obtain ⟨rfl, hsz, hP, hK, hD0⟩ := hv
  subst hsz
  have hts := atoms_spec (ws := ws) B.pre
  have hl := lv_entry av (n := maxL) hlen
  rw [lg_entry_eq]
  generalize (lg_sl av ++ List.replicate (maxL - (lg_sl av).length) Slot.unset).toArray = ls at hl ⊢
  exact body p e s m _ below meth c ⟨B.exec, B.bytes, hml, findClass_of_methodNamed B.named, hts⟩ B.returns B.notSynchronized (name_of_methodNamed B.named B.method).1 hK _ (fun q h => Or.inr h) hP (hD0.self (sz := s.heap.size)) va_S.rf ls hl
theorem co_endC {S : Type} {wf : S → va_W} {post : S → Prop} (u : S) (S0 : CallFix p m c cc nL s args Ts own) (hr : meth.sig.returnType = none) (hlk : meth.locks = false) (hdg : decode cc pc = .ok (.return_, 1)) (hK : kG G s) (hP : pG G (wf u) H) (hD : va_D A (wf u)) (hS : va_S A s.heap H locs) (hv : post u) (hc : cells ≤ mc) (hs : slots ≤ ms) : W p l e R s m args below meth c H locs cells slots (QC below G A wf post mc ms args s) (F0 m pc ls []) :=
  W.widen hc hs (W.vret S0.1 S0.2.1 hr (fun t ht hW => ⟨⟨u, rfl, hv, by rw [ht]; exact hP, va_K.moved hW.alike hK, hD⟩, hS.F ht⟩) hS.2.2 hdg hlk)
theorem kG_u {cA : ClassId} {ty : FieldType} {k : Nat} (hK : kG G s) (h : va_K G.1 vwCl (tG G ++ [(cA, ty)]) s) {cB : ClassId} (hk : (tG G)[k]? = some (cB, ty)) (hp : ∀ C, ty ≠ .object C) : cA = cB := by
  have e1 := (h.2 2 (cA, ty) rfl).2
  have e2 := (hK.2 k (cB, ty) hk).2
  cases ty <;> first | exact absurd rfl (hp _) | exact Option.some.inj (e1.symm.trans e2)
theorem co_newI (S0 : CallFix p m c cc nL s args Ts own) (harr : (Cond.arrayClass .int).before args s = true) (hK : kG G s) (hP : pG G w H) (hD : va_D A w) (hS : va_S A s.heap H locs) (hA : ∀ q, s.heap.size ≤ q → A q) {n : Int32} {N : Nat} (hn : ¬ n < 0) (hN : n.toNatClampNeg = N) (hbytes : N * 4 ≤ 536870912) (hcells : cells + 1 ≤ R.cells) (hslots : slots + N ≤ R.slots) (hdg : decode cc pc = .ok (.newarray .int, 2))
    (kk : ∀ (q : Nat) (H1 : Heap), pG G (w ++ [(q, .inl (G.2.1, N, .inl (fun _ => 0)))]) H1 → va_D A (w ++ [(q, .inl (G.2.1, N, .inl (fun _ => 0)))]) → va_S A s.heap H1 locs → W p l e R s m args below meth c H1 locs (cells + 1) (slots + N) Q (F0 m (pc + 2) ls (.ref q :: rest))) : W p l e R s m args below meth c H locs cells slots Q (F0 m pc ls (.int n :: rest)) := by
  refine va_newa (atype := .int) (a0 := (N, .inl (fun _ => 0))) (ty := .int) S0.1 S0.2.1 harr rfl hK hP hD hS hA (fun _ => rfl) hn hN hbytes hcells hslots hdg (fun q cA H1 hK1 hP1 hD1 hS1 => ?_)
  have e : cA = G.2.1 := kG_u (k := 0) hK hK1 rfl (fun C q => by cases q)
  subst e
  exact kk q H1 hP1 hD1 hS1
theorem co_newZ (S0 : CallFix p m c cc nL s args Ts own) (harr : (Cond.arrayClass .boolean).before args s = true) (hK : kG G s) (hP : pG G w H) (hD : va_D A w) (hS : va_S A s.heap H locs) (hA : ∀ q, s.heap.size ≤ q → A q) {n : Int32} {N : Nat} (hn : ¬ n < 0) (hN : n.toNatClampNeg = N) (hbytes : N * 1 ≤ 536870912) (hcells : cells + 1 ≤ R.cells) (hslots : slots + N ≤ R.slots) (hdg : decode cc pc = .ok (.newarray .boolean, 2))
    (kk : ∀ (q : Nat) (H1 : Heap), pG G (w ++ [(q, .inl (G.2.2.1, N, .inl (fun _ => 0)))]) H1 → va_D A (w ++ [(q, .inl (G.2.2.1, N, .inl (fun _ => 0)))]) → va_S A s.heap H1 locs → W p l e R s m args below meth c H1 locs (cells + 1) (slots + N) Q (F0 m (pc + 2) ls (.ref q :: rest))) : W p l e R s m args below meth c H locs cells slots Q (F0 m pc ls (.int n :: rest)) := by
  refine va_newa (atype := .boolean) (a0 := (N, .inl (fun _ => 0))) (ty := .boolean) S0.1 S0.2.1 harr rfl hK hP hD hS hA (fun _ => rfl) hn hN hbytes hcells hslots hdg (fun q cA H1 hK1 hP1 hD1 hS1 => ?_)
  have e : cA = G.2.2.1 := kG_u (k := 1) hK hK1 rfl (fun C q => by cases q)
  subst e
  exact kk q H1 hP1 hD1 hS1
/-- a constructor's call: its object stands last -/
theorem co_mC {S : Type} {wf : S → va_W} {wc wr : va_W} {post : S → Prop} (isC isR : List Nat) (S0 : CallFix p m c cc nL s args Ts own) (hM : MetC l y ws rm G wc (.ref b :: As) wf post mc ms) (cw : CallB R s args own index y bytes maxL none ws rm mc ms n ∧ y.name = "<init>" ∧ (Cond.instanceMethod y).before args s = true) (hK : kG G s) (hP : pG G w0 H) (hD : va_D A w0) (hS : va_S A s.heap H locs) (hA : ∀ q, s.heap.size ≤ q → A q)
    (hC : isC.map (fun i => w0[i]?) = wc.map some) (hR : isR.map (fun i => w0[i]?) = wr.map some) (hnC : va_nd isC = true) (hnR : va_nd isR = true) (hdis : ∀ i ∈ isR, i ∉ isC)
    (hn : As.length = n) (hl : ls.size = nL) (hst : st0 = As.reverse ++ .ref b :: rest) (hW : (rest.map fun v => v.category).sum ≤ 8) (hdg : decode cc pc = .ok (.invokespecial index, 3)) (hf : cells + mc ≤ R.cells ∧ slots + ms ≤ R.slots)
    (kk : ∀ (u : S) (H1 : Heap) (locs1 : List Loc), post u → pG G (wr ++ wf u) H1 → va_D A (wr ++ wf u) → va_S A s.heap H1 locs1 → W p l e R s m args below meth c H1 locs1 (cells + mc) (slots + ms) Q (F0 m (pc + 3) ls rest)) : W p l e R s m args below meth c H locs cells slots Q (F0 m pc ls st0) := by
  subst hst
  have hPc := pG_perm hP isC hC
  have hDc := hD.sub isC hnC hC
  have hF : ∀ q, va_A wc H.size q → A q := va_free hD hS hA isC hC
  refine va_callv (va_runI S0 (hM H.size) cw ⟨fun a U g mk q => by obtain ⟨q0, q1, qP, qK, qD⟩ := q; exact ⟨q0, q1, qP, va_K.moved (u := U) (U := U.calling g mk a) (Vm.Alike.refl U.vm) qK, qD⟩, fun U hU hW => ⟨rfl, by rw [hU], by rw [hU]; exact hPc, va_K.moved hW.alike hK, hDc.weaken (fun _ _ _ _ => trivial)⟩⟩ rfl hn hl rfl (lv_room hW) hdg hf) hS (fun q _ h => hF q h) hF (fun u t H1 locs1 ht hvm hw hB hz hk hS1 => ?_)
  obtain ⟨hP1, hK1, hD1⟩ := hB
  rw [ht] at hP1
  obtain ⟨hP2, hD2⟩ := va_join hP hD isC isR hC hR hnR hdis hk hF hP1 hD1
  exact kk u H1 locs1 hw hP2 hD2 hS1
end COC
