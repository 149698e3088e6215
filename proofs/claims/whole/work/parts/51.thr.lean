/-! contracts that end in a throw; where it is caught -/
def xMQ (below : List Frame) (Qt : Array Value → State → Nat → State → Prop) (a : Array Value) (s : State) (mc ms : Nat) (free : Addr → Prop) : State → Prop := fun t =>
  ∃ x : Nat, t.status = .running ∧ Ended t below (.threw x) ∧ Qt a s x t ∧ ∃ L, FrameEndT s (.threw x) t L mc ms ∧ ∀ q ∈ L, free q.base
def MetT (l : Launch) (y : MethodName) (ws : List Cond) (rm : Room) (Pc : Array Value → State → Prop) (Qt : Array Value → State → Nat → State → Prop) (mc ms : Nat) (free : Addr → Prop) : Prop :=
  MetFree l y (headSpec ws rm) Pc (fun _ _ _ _ _ => True) (fun a st o t => ∃ x : Nat, o = .threw x ∧ Qt a st x t ∧ ∃ L, FrameEndT st o t L mc ms ∧ ∀ q ∈ L, free q.base)
theorem MetT.ofW {l : Launch} {y : MethodName} {ws ws' : List Cond} {rm : Room} {Pc : Array Value → State → Prop} {Qt : Array Value → State → Nat → State → Prop} {mc ms : Nat} {free : Addr → Prop} {cc : ByteArray} {maxL : Nat} {ret : Option FieldType}
    (hy : plainName y.cls = true) (hw : ws = Cond.code y cc maxL ret :: ws')
    (body : ∀ p e s m args below meth c s₁, BodyLoose p l y (headSpec ws rm) cc maxL ret e s m args below meth c s₁ → c.maxLocals = maxL → Pc args s → c.exceptionTable.toList = [] →
      W p l e (headSpec ws rm).room s m args below meth c s.heap [] 0 0 (xMQ below Qt args s mc ms free) (entryFrame m args maxL)) : MetT l y ws rm Pc Qt mc ms free := by
  refine MetFree.of_bodyS (code := cc) (maxLocals := maxL) (ret := ret) hy ?_ ?_
  · intro args s m h hn
    obtain ⟨meth, c, h1, h2, h3, h4, h5, h6, -, -⟩ := Cond.code_spec hn (atoms_spec (ws := ws) h _ (by rw [hw]; exact List.mem_cons_self))
    exact ⟨meth, c, h1, h2, h3, h4, h5, h6⟩
  · intro p e s m args below meth c s₁ B hml hP _
    have hh0 : s₁.heap = s.heap := by rw [B.state]; rfl
    obtain ⟨hn, hm, hcd⟩ : s.methodNamed? y = some m ∧ s.vm.method? m = some meth ∧ meth.code = some c := ⟨B.named, B.method, (Stand.of_body B).code⟩
    have hcw : (Cond.code y cc maxL ret).before args s = true := atoms_spec (ws := ws) B.pre _ (by rw [hw]; exact List.mem_cons_self)
    have htab : c.exceptionTable.toList = [] := by
      have h9 : (Cond.codeWith y cc maxL ret []).before args s = true := by
        have := Cond.code_iff_codeWith_nil (args := args) (first := s) (o := none) (s := s) (idx := []) (x := y) (bytes := cc) (maxLocals := maxL) (ret := ret)
        simp only [Cond.before, Cond.holds] at hcw ⊢
        rw [← this]; exact hcw
      obtain ⟨m', meth', c', q1, q2, q3, -, -, q6, -⟩ := Cond.codeWith_spec h9
      cases q1.symm.trans hn
      cases q2.symm.trans hm
      cases q3.symm.trans hcd
      exact List.map_eq_nil_iff.mp q6
    obtain ⟨t, a1, x, b1, b2, b3⟩ := body p e s m args below meth c s₁ B hml hP htab s₁ hh0 (Stand.of_body B)
    exact ⟨t, .threw x, a1, b1, b2, x, rfl, b3.1, b3.2⟩
/-- .. of a method that has handlers, and returns -/
theorem Met.ofWH {l : Launch} {y : MethodName} {ws ws' : List Cond} {rm : Room} {Pc : Array Value → State → Prop} {Qc : Array Value → State → Outcome → State → Prop} {mc ms : Nat} {free : Addr → Prop} {cc : ByteArray} {maxL : Nat} {ret : Option FieldType} {hs : List (Nat × Nat × Nat × Nat)}
    (hy : plainName y.cls = true) (hw : ws = Cond.codeWith y cc maxL ret hs :: ws')
    (body : ∀ p e s m args below meth c s₁, BodyLoose p l y (headSpec ws rm) cc maxL ret e s m args below meth c s₁ → c.maxLocals = maxL → Pc args s → c.exceptionTable.toList.map (fun h => (h.startPc, h.endPc, h.handlerPc, h.catchType)) = hs →
      W p l e (headSpec ws rm).room s m args below meth c s.heap [] 0 0 (MQ below Qc args s mc ms free) (entryFrame m args maxL)) : Met l y ws rm Pc Qc mc ms free := by
  refine MetFree.of_bodyS (code := cc) (maxLocals := maxL) (ret := ret) hy ?_ ?_
  · intro args s m h hn
    obtain ⟨m', meth, c, hname', hmeth, hcode, hbytes, hlocals, -, hret, hlocks, -⟩ := Cond.codeWith_spec (atoms_spec (ws := ws) h _ (by rw [hw]; exact List.mem_cons_self))
    cases hn.symm.trans hname'
    exact ⟨meth, c, hmeth, hcode, hbytes, hlocals, hret, hlocks⟩
  · intro p e s m args below meth c s₁ B hml hP _
    have hh0 : s₁.heap = s.heap := by rw [B.state]; rfl
    obtain ⟨m', meth', c', q1, q2, q3, -, -, q6, -⟩ := Cond.codeWith_spec (atoms_spec (ws := ws) B.pre _ (by rw [hw]; exact List.mem_cons_self))
    cases q1.symm.trans B.named
    cases q2.symm.trans B.method
    cases q3.symm.trans (Stand.of_body B).code
    obtain ⟨t, a1, o, b1, b2, b3⟩ := body p e s m args below meth c s₁ B hml hP q6 s₁ hh0 (Stand.of_body B)
    exact ⟨t, o, a1, b1, b2, ⟨b3.1, b3.2⟩⟩
/-- what a throw leaves: the map, the thrown object's class -/
def hm_X (B : Nat) (D : va_G) (C : String) (post : hm_M → Prop) : Array Value → State → Nat → State → Prop := fun _ st x t => ∃ M : hm_M, post M ∧ hm_P D cl_W M t.heap ∧ (∃ cell : Cell, t.heap[x]? = some cell ∧ cell.vm.isStatics = false ∧ t.vm.findClass C = some cell.cls) ∧ va_F (hm_A B) st t
section XTH
variable {p : Program} {l : Launch} {e : Env} {R : Room} {s : State} {m : MethodId} {args : Array Value} {below : List Frame} {meth : Method} {c : Code} {H : Heap} {locs : List Loc} {cells slots : Nat} {Q : State → Prop}
variable {cc : ByteArray} {pc : Nat} {ls : Array Slot} {rest st0 : List Value} {B : Nat} {D : va_G} {G : Nat → Nat} {M : hm_M} {mc ms : Nat}
theorem xt_throw {Qt : Array Value → State → Nat → State → Prop} {free : Addr → Prop} {a : Nat} (hexec : p.tables.exec = Jvm.exec) (hb : c.code = cc) (htab : c.exceptionTable.toList = []) (hlocks : meth.locks = false) (hq : ∀ t : State, t.heap = H → s.WarmedH t.vm → Qt args s a t) (hf : ∀ q ∈ locs, free q.base) (hdg : decode cc pc = .ok (.athrow, 1)) : W p l e R s m args below meth c H locs cells slots (xMQ below Qt args s cells slots free) (F0 m pc ls (.ref a :: rest)) := by
  intro T hT X
  obtain ⟨h1, h2, h3, h4, h5⟩ := X.athrowLeaves hexec (g := F0 m pc ls (.ref a :: rest)) rfl rfl rfl (by rw [htab]; intro x hx; cases hx) (a := a) (rest := rest) rfl (by rw [hb]; exact hdg) hlocks
  exact ⟨_, h1, a, h2, h3, hq _ hT h4, locs, ⟨⟨a, rfl⟩, h4, h5⟩, hf⟩
theorem xMQ.widen {Qt : Array Value → State → Nat → State → Prop} {free : Addr → Prop} {k n k2 n2 : Nat} (hk : k ≤ k2) (hn : n ≤ n2) {t : State} (h : xMQ below Qt args s k n free t) : xMQ below Qt args s k2 n2 free t := by
  obtain ⟨x, h1, h2, h3, L, ⟨h4, h5, h6⟩, h7⟩ := h
  exact ⟨x, h1, h2, h3, L, ⟨h4, h5, h6.weaken (fun _ h _ => h) hk hn⟩, h7⟩
/-- throw new X("..") -/
theorem xt_new {own cls tx : String} {names : List String} {i0 i1 ic ix q nL : Nat} {rx : ByteArray} {post : hm_M → Prop} (hfl : l.flags = flags0) (S : CallFix p m c cc nL s args tb_G own) (hE : ev_E B D G s) (hS : va_S (hm_A B) s.heap H locs) (hP : hm_P D cl_W M H) (hp : post M) (htab : c.exceptionTable.toList = []) (hlocks : meth.locks = false) (hsize : ls.size = nL)
    (x0 : decode rx 0 = .ok (.aload_n 0, 1)) (x1 : decode rx 1 = .ok (.aload_n 1, 1)) (x2 : decode rx 2 = .ok (.invokespecial ix, 3)) (x5 : decode rx 5 = .ok (.return_, 1)) (hcls : Bundle.fit cls = true) (hnames : ∀ n ∈ names, Bundle.fit n = true) (h : ∀ a ∈ Bundle.ownAtomsX own ic cls ix rx names, a.before args s = true)
    (hcl : Cond.classLink own i0 cls ∈ tb_G) (hins : Cond.instantiable cls 6 ∈ tb_G) (hini : Cond.initialized cls ∈ tb_G) (hstr : vk_R own i1 tx q s)
    (hRf : names.length + 3 < R.frames) (hRl : (rest.map fun v => v.category).sum + 1 + (13 * (names.length + 1) + 42) ≤ R.locals) (hc1 : cells + 1 ≤ mc) (hs1 : slots + 6 ≤ ms) (hc2 : mc ≤ R.cells) (hs2 : ms ≤ R.slots)
    (d0 : decode cc pc = .ok (.new i0, 3)) (d3 : decode cc (pc + 3) = .ok (.dup, 1)) (d4 : decode cc (pc + 3 + 1) = .ok (.ldc i1, 2)) (d6 : decode cc (pc + 3 + 1 + 2) = .ok (.invokespecial ic, 3)) (d9 : decode cc (pc + 3 + 1 + 2 + 3) = .ok (.athrow, 1)) :
    W p l e R s m args below meth c H locs cells slots (xMQ below (hm_X B D cls post) args s mc ms (hm_A B)) (F0 m pc ls rest) := by
  obtain ⟨hx, hb, hml, hown, hts⟩ := S
  obtain ⟨cX, kX, hfc, hkX, -, -, -, -⟩ := Cond.instantiable_spec (hts _ hins)
  refine W.newcK hx hb hown (hts _ hcl) (hts _ hins) (hts _ hini) rfl d0 (by omega) (by omega) hfc rfl fun H1 kC hkC e1 z1 o1 => ?_
  have hP1 : hm_P D cl_W M H1 := hP.kept o1
  have hS1 : va_S (hm_A B) s.heap H1 locs := ⟨by rw [z1]; exact Nat.le_trans hS.1 (by omega), fun q g1 g2 => (o1 q (Nat.lt_of_lt_of_le g1 hS.1)).trans (hS.2.1 q g1 g2), hS.2.2⟩
  refine lv_dup hx hb d3 rfl ?_
  refine va_ldcS (own := own) (tx := tx) (index := i1) (q := q) hx hb hown hstr d4 ?_
  refine xt_init hx hb (by rw [hml]; exact hsize.symm) hfl x0 x1 x2 x5 hown hcls hnames h hS1 hE.2.2.2.2.2.2.2.2.2.1.2 hfc hkC e1 hS.1 rfl hRf (by rw [List.map_cons, List.sum_cons]; show 1 + (rest.map fun v => v.category).sum + _ ≤ _; omega) d6 fun ce hce hcv => ?_
  have hlt : H.size < H1.size := by rw [z1]; omega
  have oq : ∀ q : Nat, q ≠ H.size → (H1.setIfInBounds H.size ce)[q]? = H1[q]? := fun q hq => by simp [Array.getElem?_setIfInBounds, Ne.symm hq]
  have hP2 : hm_P D cl_W M (H1.setIfInBounds H.size ce) := fun q y hq => (hP1 q y hq).kept (oq q (Nat.ne_of_lt (hP.lt hq)))
  have hS2 : va_S (hm_A B) s.heap (H1.setIfInBounds H.size ce) locs := ⟨by simp; exact hS1.1, fun q g1 g2 => (oq q (Nat.ne_of_lt (Nat.lt_of_lt_of_le g1 hS.1))).trans (hS1.2.1 q g1 g2), hS.2.2⟩
  intro T hT X
  obtain ⟨t, g1, g2⟩ := xt_throw (a := H.size) (Qt := hm_X B D cls post) (free := hm_A B) (cells := cells + 1) (slots := slots + 6) (rest := rest) hx hb htab hlocks (fun t ht hW => ⟨M, hp, by rw [ht]; exact hP2, ⟨ce, by rw [ht]; simp [Array.getElem?_setIfInBounds, hlt], hcv, by rw [hW.alike.findClass, hce]; exact hfc⟩, hS2.F ht⟩) hS.2.2 d9 T hT X
  exact ⟨t, g1, g2.widen hc1 hs1⟩
variable {y : MethodName} {bytes : ByteArray} {maxL index nL : Nat} {ret : Option FieldType} {rm : Room} {own C : String} {b : Nat} {As : List Value}
/-- a call that throws, caught -/
theorem xt_catch (n : Nat) {ci : Nat} {r : vw_C} {fs : List Value} {post : hm_M → Prop} (S : CallFix p m c cc nL s args tb_G own) (hE : ev_E B D G s) (hS : va_S (hm_A B) s.heap H locs) (hP : hm_P D cl_W M H) (hM : MetT l y (Cond.code y bytes maxL ret :: tb_G) rm (hm_Pc B D G M (.ref b :: As)) (hm_X B D C post) mc ms (hm_A B))
    (hcl : cl_W[ci]? = some r) (he : M b = some (.inr (ci, fs))) (hc : Cond.code y bytes maxL ret ∈ tb_G) (hl : Cond.methodLink own index y ∈ tb_G) (hin : Cond.instanceMethod y ∈ tb_G) (hse : Cond.selects r.1 y y ∈ tb_G) (hi : Cond.initialized y.cls ∈ tb_G) (hd : y.cls ≠ "java/lang/invoke/MethodHandle" ∧ y.cls ≠ "java/lang/invoke/VarHandle" ∧ (parseMethodDescriptor y.desc).map (fun d => d.parameters.length) = some n) (hrc : rm.cells = mc) (hrs : rm.slots = ms) (hR : rm.frames + 1 ≤ R.frames ∧ 8 + (maxL + 11) + rm.locals ≤ R.locals)
    (hn : As.length = n) (hsize : ls.size = nL) (hstk : st0 = As.reverse ++ .ref b :: rest) (hW : (rest.map fun v => v.category).sum ≤ 8) (hdg : decode cc pc = .ok (.invokevirtual index, 3)) (hf : cells + mc ≤ R.cells ∧ slots + ms ≤ R.slots)
    (pre : List ExceptionTableEntry) (x : ExceptionTableEntry) (rest' : List ExceptionTableEntry) (hsplit : c.exceptionTable.toList = pre ++ x :: rest') (hpass : ∀ cX, s.vm.findClass C = some cX → ∀ z ∈ pre, RowPassed e.platform s m.cls pc cX z) (hx9 : covers x pc = true) (h0 : x.catchType ≠ 0) (hlk : (Cond.classLink own x.catchType C).before args s = true) (hca : va_Nw (.castable C C) s)
    (kk : ∀ (v : Nat) (M1 : hm_M) (H1 : Heap) (locs1 : List Loc), post M1 → hm_P D cl_W M1 H1 → va_S (hm_A B) s.heap H1 locs1 → W p l e R s m args below meth c H1 locs1 (cells + mc) (slots + ms) Q (F0 m x.handlerPc ls [.ref v])) : W p l e R s m args below meth c H locs cells slots Q (F0 m pc ls st0) := by
  obtain ⟨hx, hb, hml, hown, hts⟩ := S
  have hG := tg_go hc
  have hK : BackT l R p e below s args y 3 8 (PreOf R mc ms (hm_Pc B D G M (.ref b :: As))) (fun A a x B9 => ∃ (g : JFrame) (mk : MethodId) (t : State) (L : List Loc), B9.U.heap = t.heap ∧ B9.U.vm = t.vm ∧ hm_X B D C post a (A.U.calling g mk a) x t ∧ B9.locs = A.locs ++ L ∧ (∀ q ∈ L, hm_A B q.base) ∧ B9.cells = A.cells + mc ∧ B9.slots = A.slots + ms) := by
    refine BackT.of_free (S := headSpec (Cond.code y bytes maxL ret :: tb_G) rm) (P := hm_Pc B D G M (.ref b :: As)) (K := fun _ _ _ _ _ => True) (bytes := bytes) (maxL := maxL) (ret := ret)
      (E := fun a st o t L k n => k = mc ∧ n = ms ∧ (∀ q ∈ L, hm_A B q.base) ∧ ∃ x : Nat, o = .threw x ∧ hm_X B D C post a st x t) hM hR.1 hR.2 ?_ ?_ (fun _ _ _ _ _ _ _ _ _ => trivial) ?_ ?_
    · intro m' meth' c' A a X hp
      exact ⟨atoms_intro fun w hw => pay_in hts hG w hw _ _ X.warmed, pay_in hts hG _ List.mem_cons_self _ _ X.warmed, word_at X.warmed (tb_good hi) (hts _ hi), by rw [show (headSpec (Cond.code y bytes maxL ret :: tb_G) rm).room.cells = mc from hrc]; exact hp.1, by rw [show (headSpec (Cond.code y bytes maxL ret :: tb_G) rm).room.slots = ms from hrs]; exact hp.2.1⟩
    · intro m' meth' c' A a g mk X hp
      exact hm_blind _ _ _ _ hp.2.2
    · intro a st o t ⟨x, ho, hq, L, hF, hL⟩
      exact ⟨L, mc, ms, hF, rfl, rfl, hL, x, ho, hq⟩
    · intro m' meth' c' A a g mk v t L k n X hp hq hF ⟨e1, e2, hL, x, ho, hq2⟩
      cases ho
      subst e1; subst e2
      exact ⟨g, mk, t, L, rfl, rfl, hq2, rfl, hL, rfl, rfl⟩
  obtain ⟨cellB, hcB, hoB, hclB⟩ := hm_recv hE.K hP hcl he
  intro T hT X
  obtain ⟨v, vm₁, ⟨U', l2, c2, s2⟩, hW₁, X', ⟨g', mk, t, L, e1, e2, hq, h1, hL, h2, h3⟩, st⟩ := X.virtualThrows hx hown (hts _ hl) (xl_decl (hts _ hin) (hts _ hc)) (notFace_of_selects (hts _ hse)) (hts _ hse) (hts _ hin) ⟨hd.1, hd.2.1⟩ hK hclB ⟨cellB, by rw [hT]; exact hcB, rfl, hoB⟩
    (g := F0 m pc ls st0) rfl (by rw [hml]; exact hsize) (Steps.refl _) (argsL := As) (rest := rest) (fun sig h => by have h9 := hd.2.2; rw [h] at h9; rw [hn]; exact (Option.some.inj h9).symm) hstk (lv_room hW) (by rw [hb]; exact hdg)
    (fun vm₁ hW₁ => ⟨hf.1, hf.2, rfl, hE.go hS (U := T.setVm vm₁) hT hW₁, by show hm_P D cl_W M T.heap; rw [hT]; exact hP⟩)
  dsimp only [Pt.U, Pt.locs, Pt.cells, Pt.slots] at X' e1 e2 h1 h2 h3 st
  subst h1; subst h2; subst h3
  obtain ⟨M1, q1, q2, ⟨cell, q3, q4, q5⟩, q6⟩ := hq
  have hUv : s.vm.findClass C = some cell.cls := by rw [← X'.warmed.alike.findClass, e2]; exact q5
  obtain ⟨c3, c4, hc3, hc4, hasg⟩ := Cond.castable_spec (va_Nw.use (A := args) rfl hca)
  cases hUv.symm.trans hc3
  cases hUv.symm.trans hc4
  obtain ⟨hcat, hk0⟩ := X'.catches_of_link hown h0 hlk hUv hasg
  obtain ⟨vm', XV, stV⟩ := X'.thenCaughtThrough v (g := { F0 m pc ls st0 with stack := rest }) rfl st (by rw [e1]; exact q3) q4 hk0 pre x rest' hsplit (fun z hz => hpass _ hUv z hz) hx9 hcat
  have hst : (T.setVm vm₁).heap = H := hT
  obtain ⟨t9, g1, g2⟩ := kk v M1 U'.heap (locs ++ L) q1 (by rw [e1]; exact q2) ⟨by rw [e1]; exact Nat.le_trans hS.1 (by have := q6.1; rw [show ((T.setVm vm₁).calling g' mk (Value.ref b :: As).toArray).heap = H from hT] at this; exact this), fun q a1 a2 => by
      rw [e1, q6.2 q (by rw [show ((T.setVm vm₁).calling g' mk (Value.ref b :: As).toArray).heap = H from hT]; exact Nat.lt_of_lt_of_le a1 hS.1) a2, show ((T.setVm vm₁).calling g' mk (Value.ref b :: As).toArray).heap = H from hT]
      exact hS.2.1 q a1 a2, fun q hq => by
      rcases List.mem_append.mp hq with h | h
      · exact hS.2.2 q h
      · exact hL q h⟩ (U'.setVm vm') rfl XV
  exact ⟨t9, stV.trans g1, g2⟩
end XTH
