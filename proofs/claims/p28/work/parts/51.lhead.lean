/-! THE CLAIM OUT OF ONE WALK OF THE LAW'S BODY. Your part is whole_start (and what it stands on); all else here is the same for every law, but numbers. -/
def R_law : String := "ChordOverlayLaw"
def lw_P (b : Addr) (xs : List Int32) (args : Array Value) (s : State) : Prop := args = #[.ref b] ∧ s.IntsAt b xs ∧ xs.length ≤ 260 ∧ (Jvm.Cond.and given_1 narrow_1).before args s = true
def lw_Q (_ : Array Value) (s : State) (o : Outcome) (t : State) : Prop := o = .returned (some (.int 1)) ∧ Framed s o t [] 600130 7301080
def lw_Z (below : List Frame) (a : Array Value) (s : State) : State → Prop := fun t => ∃ o, t.status = .running ∧ Ended t below o ∧ lw_Q a s o t
/-- the law's own end, with 1 on the stack, nothing written that was there before, its room as the claim has it -/
theorem lw_ret {p : Program} {l : Launch} {e : Env} {s : State} {m : MethodId} {below : List Frame} {meth : Method} {c : Code} {b : Nat} (hx : p.tables.exec = Jvm.exec) (hb : c.code = code) (hr : meth.sig.returnType = ret) (hlocks : meth.locks = false) {pc : Nat} {H : Heap} {ls : Array Slot} (hdg : decode code pc = .ok (.ireturn, 1)) : W p l e room_1 s m #[Value.ref b] below meth c H [] 600130 7301080 (lw_Z below #[Value.ref b] s) (F0 m pc ls [.int 1]) := by
  intro T hT X
  obtain ⟨fs, hret, hrun, hended, hW, hframe⟩ := X.leave (v := some (.int 1)) (hlocks := hlocks) (fun h => by rw [hr] at h; cases h)
  have hmeth' : T.vm.method? m = some meth := X.method'
  refine ⟨T.setFrames fs, ?_, .returned (some (.int 1)), hrun, hended, rfl, ⟨_, rfl⟩, hW, hframe⟩
  jvm_step X.here [X.here.top, hx, hb, hdg, hmeth', hr, ret, narrow_b1]
  (try refine ⟨rfl, ?_⟩); (try refine ⟨rfl, ?_⟩)
  first | (intro acts; rw [hret _ acts rfl rfl rfl]) | rw [hret _ _ rfl rfl rfl]
  exact Steps.refl _
/-- what holds at the law's entry: the machine, the code, the tables' words (any of lw_tbl by 'hts w (by decide +kernel)'), the script of L ints xs at the cell b, what the Statement gives of the start (any of its parts by flat_of_before) -/
def lw_At (p : Program) (s : State) (m : MethodId) (meth : Method) (c : Code) (b L : Nat) (xs : Nat → Int32) : Prop :=
  p.tables.exec = Jvm.exec ∧ c.code = code ∧ meth.sig.returnType = ret ∧ c.maxLocals = 20 ∧ s.vm.findClass R_law = some m.cls ∧ (∀ w ∈ lw_tbl, w.before #[Value.ref b] s = true) ∧ va_X b L xs s s.heap ∧ b < s.heap.size ∧ meth.locks = false ∧ (Jvm.Cond.and given_1 narrow_1).before #[Value.ref b] s = true
theorem lw_arr {s : State} {args : Array Value} {ty : FieldType} (h : (Cond.arrayClass ty).before args s = true) : ∃ cA, ArrOfT s cA ty ∧ s.vm.findClass ("[" ++ ty.toString) = some cA := by
  obtain ⟨cA, kA, comp, h1, h2, h3⟩ := Cond.arrayClass_spec (show (Cond.arrayClass ty).holds args s none s [] = true from h)
  exact ⟨cA, fun n z => ⟨fun k h => (by cases h), kA, h2, comp, h3⟩, h1⟩
theorem lw_str {s : State} {args : Array Value} {own tx : String} {k cur : Nat} (hc : s.vm.findClass own = some cur) (h : (Cond.stringRef own k tx).before args s = true) : ∃ a, vk_R own k tx a s := by
  obtain ⟨_, _, _, a, _, _, _, _, _, he⟩ := Cond.stringRef_spec hc (show (Cond.stringRef own k tx).holds args s none s [] = true from h)
  exact ⟨a, vk_R.of h he⟩
theorem rl_new {σ μ : cS} (h0 : σ 0 = fun _ => 0) (h6 : σ 6 = fun _ => 0) (hm : μ = fun _ _ => 0) : Rl 0 σ μ := by
  refine ⟨fun n _ => ⟨by rw [hm, h0], Or.inl (by rw [h0])⟩, fun n _ h1 => ?_, 0, Nat.le_refl 0, by rw [h6]; rfl, by rw [hm]; rfl⟩
  rw [h0] at h1
  have h1 : (0 : Int32) = 1 := h1
  exact absurd h1 (by decide)
abbrev AW (s : State) : Nat → Prop := fun q => s.heap.size ≤ q
/-- what stands through all the law's turns -/
def lwT (p : Program) (l : Launch) (s : State) (m : MethodId) (c : Code) (b0 L : Nat) (xs : Nat → Int32) (G : cG) (sa : Nat → Nat) : Prop :=
  CallFix p m c code 20 s #[Value.ref b0] wsL_law RL ∧ l.stackTraces = false ∧ va_X b0 L xs s s.heap ∧ b0 < s.heap.size ∧ kG G s ∧ tX sa (AW s) s s.heap ∧ L ≤ 260
theorem pC_0 {cd : Nat} {r0 r : Int32} {F σ : cS} {u : cS × cS} (h : pC cd r0 F σ r u) (e : cd = 0) : r = r0 ∧ u.1 = F := by
  rcases h with ⟨-, h1, h2⟩ | ⟨h1, -⟩
  · exact ⟨h1, h2⟩
  · omega
theorem pC_2 {cd : Nat} {r0 r : Int32} {F σ : cS} {u : cS × cS} (h : pC cd r0 F σ r u) (e : cd = 2) : r = -3 ∧ u.1 = σ := by
  rcases h with ⟨h1, -⟩ | ⟨-, h1, h2⟩
  · omega
  · exact ⟨h1, h2⟩
section CDZ
variable {σ : cS} {n o k v : Nat}
theorem al_no (h : alv (σ 0) (nI n) = false) : ¬ alv (σ 0) (nI n) = true := by rw [h]; decide
theorem cdC0 (hn : n < 64) (h : cnt (σ 0) 64 = 0) : cdC σ (nI n) = 0 := by
  rw [cdC, okR_id hn, if_pos rfl, if_pos (by rw [h]; decide)]
theorem cdJ0 (hn : n < 64) (h : alv (σ 0) (nI n) = false) (ho : Lv σ o) : cdJ σ (nI n) (nI o) = 0 := by
  rw [cdJ, okR_id hn, if_pos rfl, okR_id ho.1, if_pos rfl, if_neg (al_no h), if_pos ho.2]
theorem cdJ2a (hn : n < 64) (ho : o < 64) (h : alv (σ 0) (nI n) = true) : cdJ σ (nI n) (nI o) = 2 := by
  rw [cdJ, okR_id hn, if_pos rfl, okR_id ho, if_pos rfl, if_pos h]
theorem cdJ2b (hn : n < 64) (ho : o < 64) (h : alv (σ 0) (nI n) = false) (g : alv (σ 0) (nI o) = false) : cdJ σ (nI n) (nI o) = 2 := by
  rw [cdJ, okR_id hn, if_pos rfl, okR_id ho, if_pos rfl, if_neg (al_no h), if_neg (al_no g)]
theorem cdA2 (hn : n < 64) (h : alv (σ 0) (nI n) = false) : cdA σ (nI n) = 2 := by
  rw [cdA, okR_id hn, if_pos rfl, if_neg (al_no h)]
theorem okR_999 (hv : v < 1000) : okR (nI v) 0 999 = true := okR_rg (N := 999) hv (by decide)
theorem cdW0 (hn : Lv σ n) (hk : k < 64) (hv : v < 1000) : cdW σ (nI n) (nI k) (nI v) = 0 := by
  rw [cdW, okR_id hn.1, if_pos rfl, okR_id hk, if_pos rfl, okR_999 hv, if_pos rfl, if_pos hn.2]
theorem cdW2 (hn : n < 64) (hk : k < 64) (hv : v < 1000) (h : alv (σ 0) (nI n) = false) : cdW σ (nI n) (nI k) (nI v) = 2 := by
  rw [cdW, okR_id hn, if_pos rfl, okR_id hk, if_pos rfl, okR_999 hv, if_pos rfl, if_neg (al_no h)]
end CDZ
theorem cl26 : (26 : Int32).toNatClampNeg = 26 := by decide
theorem cl1 : (1 : Int32).toNatClampNeg = 1 := by decide
theorem gcS_6 {σ : cS} {f t k : Int32} : gcS σ f t k 6 = σ 6 := by unfold gcS; split <;> rfl
theorem chS_6 {σ : cS} {n k : Int32} : chS σ n k 6 = σ 6 := by
  have h : chA σ n k 6 = σ 6 := by
    unfold chA; split
    · rfl
    · exact gcS_6
  unfold chS; split
  · exact h
  · rw [gcS_6, h]
theorem pu_26 {Z : Nat} {ν δ κ : nF} {σ σp σ9 τ : cS} {t k v n c : Int32} {z : Nat} (h : Rq Z ν δ κ σ9 τ) (ep : σp = puA σ t k v) (e9 : σ9 = chS σp n c) (ez : σ 6 0 = nI z) : τ 1 (26 : Int32).toNatClampNeg = nI (z + 1) := by
  rw [cl26, h.2.2.2.2.2.1, e9, chS_6, ep]
  show σ 6 0 + 1 = nI (z + 1)
  rw [ez, nI_1]
theorem lrI_1 {σ : cS} : lrI true σ (1 : Int32).toNatClampNeg = lrS true σ 64 := by rw [cl1]; rfl
