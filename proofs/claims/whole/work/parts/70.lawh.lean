def pw (c : Nat) : Prop := c = 50
def cw (g c : Nat) : Prop := cg g c ∨ pw c
def cg149 (c : Nat) : Prop := c / 100 = 1 ∨ c / 100 = 4 ∨ pw c
theorem pw_0 : ¬ pw 0 := by unfold pw; decide
theorem pw_n {c : Nat} (h : c ≠ 50) : ¬ pw c := h
/-! the law's own methods with handlers: their words, their calls -/
section HMH
variable {p : Program} {l : Launch} {e : Env} {R : Room} {s : State} {m : MethodId} {args : Array Value} {below : List Frame} {meth : Method} {c : Code} {H : Heap} {locs : List Loc} {cells slots : Nat} {Q : State → Prop}
variable {cc : ByteArray} {pc : Nat} {ls : Array Slot} {rest st0 : List Value} {B : Nat} {D : va_G} {G : Nat → Nat} {M : hm_M} {mc ms : Nat}
variable {y : MethodName} {bytes : ByteArray} {maxL index nL : Nat} {ret : Option FieldType} {rm : Room} {own : String} {Qc : Array Value → State → Outcome → State → Prop} {As : List Value} {hs : List (Nat × Nat × Nat × Nat)}
theorem tg_goH (h : Cond.codeWith y bytes maxL ret hs ∈ tb_G) : GoodIn tb_G (Cond.codeWith y bytes maxL ret hs :: tb_G) := fun w hw => by
  rcases List.mem_cons.mp hw with e | e
  · rw [e]; exact ⟨h, tb_good h⟩
  · exact ⟨e, tb_good e⟩
theorem hm_rSH (n : Nat) (S : CallFix p m c cc nL s args tb_G own) (hE : ev_E B D G s) (hS : va_S (hm_A B) s.heap H locs) (hP : hm_P D cl_W M H) (hM : Met l y (Cond.codeWith y bytes maxL ret hs :: tb_G) rm (hm_Pc B D G M As) Qc mc ms (hm_A B))
    (hc : Cond.codeWith y bytes maxL ret hs ∈ tb_G) (hl : Cond.methodLink own index y ∈ tb_G) (hst : Cond.static y ∈ tb_G) (hi : Cond.initialized y.cls ∈ tb_G) (hd : y.cls ≠ "java/lang/invoke/MethodHandle" ∧ y.cls ≠ "java/lang/invoke/VarHandle" ∧ (parseMethodDescriptor y.desc).map (fun d => d.parameters.length) = some n) (hrc : rm.cells = mc) (hrs : rm.slots = ms) (hR : rm.frames + 1 ≤ R.frames ∧ 8 + (maxL + 11) + rm.locals ≤ R.locals)
    (hn : As.length = n) (hsize : ls.size = nL) (hstk : st0 = As.reverse ++ rest) (hW : (rest.map fun v => v.category).sum ≤ 8) (hdg : decode cc pc = .ok (.invokestatic index, 3)) (hf : cells + mc ≤ R.cells ∧ slots + ms ≤ R.slots) :
    va_Run p l e R s m args below meth c H locs cells slots mc ms (F0 m pc ls st0) rest (Qc As.toArray) (hm_A B) := by
  obtain ⟨hx, hb, hml, hown, hts⟩ := S
  have hG := tg_goH hc
  have hK : Back l R p e below s args y 3 8 (PreOf R mc ms (hm_Pc B D G M As)) (PostOf Qc mc ms (hm_A B)) := by
    refine Back.of_freeWith (handlers := hs) (S := headSpec (Cond.codeWith y bytes maxL ret hs :: tb_G) rm) (P := hm_Pc B D G M As) (K := fun _ _ _ _ _ => True) (Q := fun a st o t => Qc a st o t ∧ ∃ L, FrameEnd st o t L mc ms ∧ ∀ q ∈ L, (hm_A B) q.base) (bytes := bytes) (maxL := maxL) (ret := ret)
      (E := fun a st o t L k n => k = mc ∧ n = ms ∧ ∀ q ∈ L, (hm_A B) q.base) hM hR.1 hR.2 ?_ ?_ (fun _ _ _ _ _ _ _ _ _ => trivial) ?_ ?_
    · intro m' meth' c' A a X hp
      exact ⟨atoms_intro fun w hw => pay_in hts hG w hw _ _ X.warmed, pay_in hts hG _ List.mem_cons_self _ _ X.warmed, word_at X.warmed (tb_good hi) (hts _ hi), by rw [show (headSpec (Cond.codeWith y bytes maxL ret hs :: tb_G) rm).room.cells = mc from hrc]; exact hp.1, by rw [show (headSpec (Cond.codeWith y bytes maxL ret hs :: tb_G) rm).room.slots = ms from hrs]; exact hp.2.1⟩
    · intro m' meth' c' A a g mk X hp
      exact hm_blind _ _ _ _ hp.2.2
    · intro a st o t ⟨hq, L, hF, hL⟩
      exact ⟨L, mc, ms, hF, rfl, rfl, hL⟩
    · intro m' meth' c' A a g mk v t L k n X hp hq hF ⟨e1, e2, hL⟩
      subst e1; subst e2
      exact ⟨g, mk, t, L, rfl, rfl, hq.1, rfl, hL, rfl, rfl⟩
  intro T hT X
  obtain ⟨v, vm₁, ⟨U', l2, c2, s2⟩, hW₁, X', ⟨g', mk, t, L, e1, e2, hq, h1, hL, h2, h3⟩, st⟩ := Jvm.RoadKit.callSH X hx (bytes := bytes) (maxL := maxL) (ret := ret) (hs := hs) hown (hts _ hl) (hts _ hst) (hts _ hi) (hts _ hc) ⟨hd.1, hd.2.1⟩ hK (g := F0 m pc ls st0) rfl (by rw [hml]; exact hsize) (argsL := As) (rest := rest) (fun sig h => by have h9 := hd.2.2; rw [h] at h9; rw [hn]; exact (Option.some.inj h9).symm) hstk (lv_room hW) (by rw [hb]; exact hdg)
    (fun vm₁ hW₁ => ⟨hf.1, hf.2, rfl, hE.go hS (U := T.setVm vm₁) hT hW₁, by show hm_P D cl_W M T.heap; rw [hT]; exact hP⟩)
  dsimp only [Pt.U, Pt.locs, Pt.cells, Pt.slots] at X' e1 e2 h1 h2 h3 st
  subst h1; subst h2; subst h3
  exact ⟨v, (T.setVm vm₁).calling g' mk As.toArray, t, U', L, hT, X', hL, e1, e2, hq, st⟩
end HMH
/-- the row of a handler, out of a list of one or two -/
theorem ht_1 {l : List ExceptionTableEntry} {r : Nat × Nat × Nat × Nat} (h : l.map (fun h => (h.startPc, h.endPc, h.handlerPc, h.catchType)) = [r]) : ∃ x, l = [] ++ x :: [] ∧ x.startPc = r.1 ∧ x.endPc = r.2.1 ∧ x.handlerPc = r.2.2.1 ∧ x.catchType = r.2.2.2 := by
  match l, h with
  | [x], h =>
    have h9 := (List.cons.inj h).1
    exact ⟨x, rfl, by rw [← h9], by rw [← h9], by rw [← h9], by rw [← h9]⟩
  | [], h => cases h
  | _ :: _ :: _, h => cases (List.cons.inj h).2
theorem ht_2 {l : List ExceptionTableEntry} {r q : Nat × Nat × Nat × Nat} (h : l.map (fun h => (h.startPc, h.endPc, h.handlerPc, h.catchType)) = [r, q]) : ∃ x z, l = [] ++ x :: [z] ∧ l = [x] ++ z :: [] ∧ (x.startPc = r.1 ∧ x.endPc = r.2.1 ∧ x.handlerPc = r.2.2.1 ∧ x.catchType = r.2.2.2) ∧ z.startPc = q.1 ∧ z.endPc = q.2.1 ∧ z.handlerPc = q.2.2.1 ∧ z.catchType = q.2.2.2 := by
  match l, h with
  | [x, z], h =>
    have h9 := List.cons.inj h
    have h8 := (List.cons.inj h9.2).1
    have h9 := h9.1
    exact ⟨x, z, rfl, rfl, ⟨by rw [← h9], by rw [← h9], by rw [← h9], by rw [← h9]⟩, by rw [← h8], by rw [← h8], by rw [← h8], by rw [← h8]⟩
  | [], h => cases h
  | [_], h => cases (List.cons.inj h).2
  | _ :: _ :: _ :: _, h => cases (List.cons.inj (List.cons.inj h).2).2

def ws_LW_exchange : List Cond := (Jvm.Cond.codeWith ({ cls := "RouteDeskLaw", name := "exchange", desc := "(LRouteDesk;I[J)I" } : Jvm.MethodName) method_3_code (4 : Nat) (Option.some Jvm.ClassFile.FieldType.int) [((0 : Nat), (9 : Nat), (12 : Nat), (13 : Nat)), ((0 : Nat), (9 : Nat), (15 : Nat), (15 : Nat))]) :: tb_G
theorem tq_exchange : (Jvm.Cond.codeWith ({ cls := "RouteDeskLaw", name := "exchange", desc := "(LRouteDesk;I[J)I" } : Jvm.MethodName) method_3_code (4 : Nat) (Option.some Jvm.ClassFile.FieldType.int) [((0 : Nat), (9 : Nat), (12 : Nat), (13 : Nat)), ((0 : Nat), (9 : Nat), (15 : Nat), (15 : Nat))]) ∈ tb_G := tb_4 20 rfl rfl
def ws_LW_queue : List Cond := (Jvm.Cond.codeWith ({ cls := "RouteDeskLaw", name := "queue", desc := "(LRouteDesk;[J)I" } : Jvm.MethodName) method_4_code (3 : Nat) (Option.some Jvm.ClassFile.FieldType.int) [((0 : Nat), (8 : Nat), (11 : Nat), (15 : Nat))]) :: tb_G
theorem tq_queue : (Jvm.Cond.codeWith ({ cls := "RouteDeskLaw", name := "queue", desc := "(LRouteDesk;[J)I" } : Jvm.MethodName) method_4_code (3 : Nat) (Option.some Jvm.ClassFile.FieldType.int) [((0 : Nat), (8 : Nat), (11 : Nat), (15 : Nat))]) ∈ tb_G := tb_4 62 rfl rfl
def ws_LW_bind : List Cond := (Jvm.Cond.codeWith ({ cls := "RouteDeskLaw", name := "bind", desc := "(LRouteDesk;IIZ[J)I" } : Jvm.MethodName) method_5_code (6 : Nat) (Option.some Jvm.ClassFile.FieldType.int) [((0 : Nat), (19 : Nat), (22 : Nat), (13 : Nat)), ((0 : Nat), (19 : Nat), (26 : Nat), (15 : Nat))]) :: tb_G
theorem tq_bind : (Jvm.Cond.codeWith ({ cls := "RouteDeskLaw", name := "bind", desc := "(LRouteDesk;IIZ[J)I" } : Jvm.MethodName) method_5_code (6 : Nat) (Option.some Jvm.ClassFile.FieldType.int) [((0 : Nat), (19 : Nat), (22 : Nat), (13 : Nat)), ((0 : Nat), (19 : Nat), (26 : Nat), (15 : Nat))]) ∈ tb_G := tb_4 70 rfl rfl
def ws_LW_route : List Cond := (Jvm.Cond.codeWith ({ cls := "RouteDeskLaw", name := "route", desc := "(LRouteDesk;I[J)I" } : Jvm.MethodName) method_6_code (4 : Nat) (Option.some Jvm.ClassFile.FieldType.int) [((0 : Nat), (9 : Nat), (12 : Nat), (13 : Nat))]) :: tb_G
theorem tq_route : (Jvm.Cond.codeWith ({ cls := "RouteDeskLaw", name := "route", desc := "(LRouteDesk;I[J)I" } : Jvm.MethodName) method_6_code (4 : Nat) (Option.some Jvm.ClassFile.FieldType.int) [((0 : Nat), (9 : Nat), (12 : Nat), (13 : Nat))]) ∈ tb_G := tb_4 136 rfl rfl
def ws_LW_found : List Cond := (Jvm.Cond.codeWith ({ cls := "RouteDeskLaw", name := "found", desc := "(LRouteDesk;I[J)I" } : Jvm.MethodName) method_7_code (4 : Nat) (Option.some Jvm.ClassFile.FieldType.int) [((0 : Nat), (9 : Nat), (12 : Nat), (31 : Nat))]) :: tb_G
theorem tq_found : (Jvm.Cond.codeWith ({ cls := "RouteDeskLaw", name := "found", desc := "(LRouteDesk;I[J)I" } : Jvm.MethodName) method_7_code (4 : Nat) (Option.some Jvm.ClassFile.FieldType.int) [((0 : Nat), (9 : Nat), (12 : Nat), (31 : Nat))]) ∈ tb_G := tb_4 199 rfl rfl
set_option maxHeartbeats 4000000 in
set_option maxRecDepth 100000 in
theorem kc_LX0 (l : Launch) (B : Nat) (D : va_G) (G : Nat → Nat) (M : hm_M) (N O : Nat → Nat) (hI : im_R D G N O M) (ex : Nat → Option (Int32 × Int32)) (hX : ex_R B D N O M ex) (w9 : Nat) (fw : Nat → Int64) (hw9 : M w9 = some (.inl (D.1 103, 1, .inr (.inl fw)))) (hA_w9 : hm_A B w9) (how : O w9 = 50) (sx : Int32) (hs9 : 0 ≤ sx.toInt ∧ sx.toInt ≤ 3) (j : Nat) (hj : j < 16) (hfree : ex j = none) (hbef : ∀ k, k < j → ex k ≠ none) : Met l yy_LW_exchange ws_LW_exchange ({ frames := 3, cells := 1, slots := 2, locals := 55 }) (hm_Pc B D G M [.ref (N 0), .int sx, .ref w9]) (hm_Ni B D (fun r M1 => r = nI 0 ∧ ∃ (O1 : Nat → Nat) (f1 : Nat → Int64), f1 0 = (nI j).toInt64 ∧ M1 w9 = some (.inl (D.1 103, 1, .inr (.inl f1))) ∧ ex_R B D N O1 M1 (va_up ex j (some (sx, -1))) ∧ cz_F O M O1 M1 (cw 2))) (1) (2) (hm_A B) := by
  refine Met.ofWH (cc := cd_LW_exchange) (maxL := 4) (ret := ((some FieldType.int))) (by decide) rfl ?_
  intro p e s m args below meth c s₁ B0 hml hv htab
  obtain ⟨rfl, hE, hP⟩ := hv
  have hx := B0.exec
  have hb := B0.bytes
  have hr := B0.returns
  have hts : ∀ w ∈ tb_G, w.before _ s = true := fun w h => atoms_spec (ws := ws_LW_exchange) B0.pre w (List.mem_cons_of_mem _ h)
  have hown : s.vm.findClass "RouteDeskLaw" = some m.cls := findClass_of_methodNamed B0.named
  have hlocks := B0.notSynchronized
  have hRf : (headSpec ws_LW_exchange { frames := 3, cells := 1, slots := 2, locals := 55 }).room.frames = 3 := rfl
  have hRl : (headSpec ws_LW_exchange { frames := 3, cells := 1, slots := 2, locals := 55 }).room.locals = 55 := rfl
  have hRc : (headSpec ws_LW_exchange { frames := 3, cells := 1, slots := 2, locals := 55 }).room.cells = 1 := rfl
  have hRs : (headSpec ws_LW_exchange { frames := 3, cells := 1, slots := 2, locals := 55 }).room.slots = 2 := rfl
  generalize (headSpec ws_LW_exchange { frames := 3, cells := 1, slots := 2, locals := 55 }).room = R at hRf hRl hRc hRs ⊢
  have hS : va_S (hm_A B) s.heap s.heap [] := va_S.rf
  have hl := lv_entry ([.ref (N 0), .int sx, .ref w9]) (n := 4) (Nat.le_of_ble_eq_true rfl)
  rw [lg_entry_eq]
  generalize (lg_sl ([.ref (N 0), .int sx, .ref w9]) ++ List.replicate (4 - (lg_sl ([.ref (N 0), .int sx, .ref w9])).length) Slot.unset).toArray = ls at hl ⊢
  have hl : lv_has ls 4 [(0, .ref (N 0)), (1, .int sx), (2, .ref w9)] := hl
  refine lv_aload_n hx hb dd_LW_exchange_0 rfl (lv_at hl 2 rfl) ?_
  refine lv_iconst (v := nI 0) hx hb dd_LW_exchange_1 (by decide +kernel) ?_
  refine lv_aload_n hx hb dd_LW_exchange_2 rfl (lv_at hl 0 rfl) ?_
  refine lv_iload_n hx hb dd_LW_exchange_3 rfl (lv_at hl 1 rfl) ?_
  refine hm_ci hS (hm_rV 1 (As := [.int sx]) (rest := [.int (nI 0), .ref w9]) ⟨hx, hb, hml, hown, hts⟩ hE hS hP (kc_RD_exchange l B D G M N O hI ex hX sx hs9 j hj hfree hbef) rfl hI.o tw_781 tw_778 tw_779 tw_780 tw_36 (by decide +kernel) rfl rfl ⟨by show 2 + 1 ≤ R.frames; omega, by show 8 + (3 + 11) + 33 ≤ R.locals; omega⟩ rfl hl.1 rfl (Nat.le_of_ble_eq_true rfl) dd_LW_exchange_4 ⟨by omega, by omega⟩) (fun r1 M2 H locs hw3 hP hS => ?_)
  refine W.widen (k := 1) (n := 2) (by omega) (by omega) ?_
  obtain ⟨rfl, O1, kx, kF⟩ := hw3
  have hw8 : M2 w9 = some (.inl (D.1 103, 1, .inr (.inl fw))) := (kF _ _ hw9).2.1 (by rw [how]; unfold cg; omega)
  have how8 : O1 w9 = 50 := (kF _ _ hw9).1.trans how
  refine lv_i2l hx hb dd_LW_exchange_7 rfl ?_
  refine lv_topl (fun w4 ew4 => ?_)
  refine hm_last (j := 0) hx hb hE.K hP hS hA_w9 3 hw8 rfl (vp_in_nI (by omega) (by omega)) (nI_clamp (by omega)) dd_LW_exchange_8 (fun H locs hP hS => ?_)
  obtain ⟨M5, eM5⟩ : ∃ z, z = hm_up M2 w9 (.inl (D.1 103, 1, .inr (.inl (vp_updL fw 0 w4)))) := ⟨_, rfl⟩
  rw [← eM5] at hP
  have f6 : M5 w9 = some (.inl (D.1 103, 1, .inr (.inl (vp_updL fw 0 w4)))) := by rw [eM5]; exact hm_up_s
  refine lv_goto (tgt := 18) hx hb dd_LW_exchange_9 (by decide) ?_
  refine lv_iconst (v := nI 0) hx hb dd_LW_exchange_18 (by decide +kernel) ?_
  have hF9 : cz_F O1 M2 O1 M5 pw := by rw [eM5]; exact cz_F.up (by rw [how8]; rfl)
  exact hm_Ei (v := nI 0) hx hb hr rfl hS hP (⟨rfl, O1, vp_updL fw 0 w4, by show vp_updL fw 0 w4 0 = _; rw [show vp_updL fw 0 w4 0 = w4 from if_pos rfl, ew4], f6, kx.kept hF9 (fun c h9 => pw_n (by omega)), (kF.mono (fun _ => Or.inl)).trans (hF9.mono (fun _ => Or.inr))⟩) hlocks (by omega) (by omega) dd_LW_exchange_19
set_option maxHeartbeats 4000000 in
set_option maxRecDepth 100000 in
theorem kc_LX1 (l : Launch) (B : Nat) (D : va_G) (G : Nat → Nat) (M : hm_M) (hfl : l.flags = flags0) (N O : Nat → Nat) (hI : im_R D G N O M) (ex : Nat → Option (Int32 × Int32)) (hX : ex_R B D N O M ex) (w9 : Nat) (fw : Nat → Int64) (hw9 : M w9 = some (.inl (D.1 103, 1, .inr (.inl fw)))) (hA_w9 : hm_A B w9) (how : O w9 = 50) (sx : Int32) (hs9 : ¬ (0 ≤ sx.toInt ∧ sx.toInt ≤ 3)) : Met l yy_LW_exchange ws_LW_exchange ({ frames := 7, cells := 1, slots := 6, locals := 112 }) (hm_Pc B D G M [.ref (N 0), .int sx, .ref w9]) (hm_Ni B D (fun r M1 => r = nI 1 ∧ M1 = M)) (1) (6) (hm_A B) := by
  refine Met.ofWH (cc := cd_LW_exchange) (maxL := 4) (ret := ((some FieldType.int))) (by decide) rfl ?_
  intro p e s m args below meth c s₁ B0 hml hv htab
  obtain ⟨rfl, hE, hP⟩ := hv
  have hx := B0.exec
  have hb := B0.bytes
  have hr := B0.returns
  have hts : ∀ w ∈ tb_G, w.before _ s = true := fun w h => atoms_spec (ws := ws_LW_exchange) B0.pre w (List.mem_cons_of_mem _ h)
  have hown : s.vm.findClass "RouteDeskLaw" = some m.cls := findClass_of_methodNamed B0.named
  have hlocks := B0.notSynchronized
  have hRf : (headSpec ws_LW_exchange { frames := 7, cells := 1, slots := 6, locals := 112 }).room.frames = 7 := rfl
  have hRl : (headSpec ws_LW_exchange { frames := 7, cells := 1, slots := 6, locals := 112 }).room.locals = 112 := rfl
  have hRc : (headSpec ws_LW_exchange { frames := 7, cells := 1, slots := 6, locals := 112 }).room.cells = 1 := rfl
  have hRs : (headSpec ws_LW_exchange { frames := 7, cells := 1, slots := 6, locals := 112 }).room.slots = 6 := rfl
  generalize (headSpec ws_LW_exchange { frames := 7, cells := 1, slots := 6, locals := 112 }).room = R at hRf hRl hRc hRs ⊢
  have hS : va_S (hm_A B) s.heap s.heap [] := va_S.rf
  have hl := lv_entry ([.ref (N 0), .int sx, .ref w9]) (n := 4) (Nat.le_of_ble_eq_true rfl)
  rw [lg_entry_eq]
  generalize (lg_sl ([.ref (N 0), .int sx, .ref w9]) ++ List.replicate (4 - (lg_sl ([.ref (N 0), .int sx, .ref w9])).length) Slot.unset).toArray = ls at hl ⊢
  have hl : lv_has ls 4 [(0, .ref (N 0)), (1, .int sx), (2, .ref w9)] := hl
  refine lv_aload_n hx hb dd_LW_exchange_0 rfl (lv_at hl 2 rfl) ?_
  refine lv_iconst (v := nI 0) hx hb dd_LW_exchange_1 (by decide +kernel) ?_
  refine lv_aload_n hx hb dd_LW_exchange_2 rfl (lv_at hl 0 rfl) ?_
  refine lv_iload_n hx hb dd_LW_exchange_3 rfl (lv_at hl 1 rfl) ?_
  obtain ⟨xa, xb, hsa, hsb, ⟨ha1, ha2, ha3, ha4⟩, hb1, hb2, hb3, hb4⟩ := ht_2 htab
  refine xt_catch 1 (As := [.int sx]) (rest := [.int (nI 0), .ref w9]) ⟨hx, hb, hml, hown, hts⟩ hE hS hP (kt_RD_exchange1 l B D G M hfl N O hI ex hX sx hs9) rfl hI.o tw_781 tw_778 tw_779 tw_780 tw_36 (by decide +kernel) rfl rfl ⟨by show 6 + 1 ≤ R.frames; omega, by show 8 + (3 + 11) + 90 ≤ R.locals; omega⟩ rfl hl.1 rfl (Nat.le_of_ble_eq_true rfl) dd_LW_exchange_4 ⟨by omega, by omega⟩ [] xa [xb] hsa (fun _ _ z hz => absurd hz List.not_mem_nil) (by unfold covers; rw [ha1, ha2]; rfl) (by rw [ha4]; decide) (by rw [ha4]; exact hts _ tw_776) (hE.nest 10 rfl) (fun v1 M2 H locs hw3 hP hS => ?_)
  refine W.widen (k := 1) (n := 6) (by omega) (by omega) ?_
  refine W.eq (g2 := F0 m 12 ls [.ref v1]) (by rw [ha3]) ?_
  have eM2 := hw3
  refine lv_astore_n (lv' := [(3, .ref v1), (0, .ref (N 0)), (1, .int sx), (2, .ref w9)]) hx hb dd_LW_exchange_12 rfl hl (by decide) rfl (fun ls hl => ?_)
  refine lv_iconst (v := nI 1) hx hb dd_LW_exchange_13 (by decide +kernel) ?_
  exact hm_Ei (v := nI 1) hx hb hr rfl hS hP (⟨rfl, eM2⟩) hlocks (by omega) (by omega) dd_LW_exchange_14
set_option maxHeartbeats 4000000 in
set_option maxRecDepth 100000 in
theorem kc_LX2 (l : Launch) (B : Nat) (D : va_G) (G : Nat → Nat) (M : hm_M) (hfl : l.flags = flags0) (N O : Nat → Nat) (hI : im_R D G N O M) (ex : Nat → Option (Int32 × Int32)) (hX : ex_R B D N O M ex) (w9 : Nat) (fw : Nat → Int64) (hw9 : M w9 = some (.inl (D.1 103, 1, .inr (.inl fw)))) (hA_w9 : hm_A B w9) (how : O w9 = 50) (sx : Int32) (hs9 : 0 ≤ sx.toInt ∧ sx.toInt ≤ 3) (hfull : ∀ k, k < 16 → ex k ≠ none) : Met l yy_LW_exchange ws_LW_exchange ({ frames := 7, cells := 1, slots := 6, locals := 112 }) (hm_Pc B D G M [.ref (N 0), .int sx, .ref w9]) (hm_Ni B D (fun r M1 => r = nI 2 ∧ M1 = M)) (1) (6) (hm_A B) := by
  refine Met.ofWH (cc := cd_LW_exchange) (maxL := 4) (ret := ((some FieldType.int))) (by decide) rfl ?_
  intro p e s m args below meth c s₁ B0 hml hv htab
  obtain ⟨rfl, hE, hP⟩ := hv
  have hx := B0.exec
  have hb := B0.bytes
  have hr := B0.returns
  have hts : ∀ w ∈ tb_G, w.before _ s = true := fun w h => atoms_spec (ws := ws_LW_exchange) B0.pre w (List.mem_cons_of_mem _ h)
  have hown : s.vm.findClass "RouteDeskLaw" = some m.cls := findClass_of_methodNamed B0.named
  have hlocks := B0.notSynchronized
  have hRf : (headSpec ws_LW_exchange { frames := 7, cells := 1, slots := 6, locals := 112 }).room.frames = 7 := rfl
  have hRl : (headSpec ws_LW_exchange { frames := 7, cells := 1, slots := 6, locals := 112 }).room.locals = 112 := rfl
  have hRc : (headSpec ws_LW_exchange { frames := 7, cells := 1, slots := 6, locals := 112 }).room.cells = 1 := rfl
  have hRs : (headSpec ws_LW_exchange { frames := 7, cells := 1, slots := 6, locals := 112 }).room.slots = 6 := rfl
  generalize (headSpec ws_LW_exchange { frames := 7, cells := 1, slots := 6, locals := 112 }).room = R at hRf hRl hRc hRs ⊢
  have hS : va_S (hm_A B) s.heap s.heap [] := va_S.rf
  have hl := lv_entry ([.ref (N 0), .int sx, .ref w9]) (n := 4) (Nat.le_of_ble_eq_true rfl)
  rw [lg_entry_eq]
  generalize (lg_sl ([.ref (N 0), .int sx, .ref w9]) ++ List.replicate (4 - (lg_sl ([.ref (N 0), .int sx, .ref w9])).length) Slot.unset).toArray = ls at hl ⊢
  have hl : lv_has ls 4 [(0, .ref (N 0)), (1, .int sx), (2, .ref w9)] := hl
  refine lv_aload_n hx hb dd_LW_exchange_0 rfl (lv_at hl 2 rfl) ?_
  refine lv_iconst (v := nI 0) hx hb dd_LW_exchange_1 (by decide +kernel) ?_
  refine lv_aload_n hx hb dd_LW_exchange_2 rfl (lv_at hl 0 rfl) ?_
  refine lv_iload_n hx hb dd_LW_exchange_3 rfl (lv_at hl 1 rfl) ?_
  obtain ⟨xa, xb, hsa, hsb, ⟨ha1, ha2, ha3, ha4⟩, hb1, hb2, hb3, hb4⟩ := ht_2 htab
  refine xt_catch 1 (As := [.int sx]) (rest := [.int (nI 0), .ref w9]) ⟨hx, hb, hml, hown, hts⟩ hE hS hP (kt_RD_exchange2 l B D G M hfl N O hI ex hX sx hs9 hfull) rfl hI.o tw_781 tw_778 tw_779 tw_780 tw_36 (by decide +kernel) rfl rfl ⟨by show 6 + 1 ≤ R.frames; omega, by show 8 + (3 + 11) + 90 ≤ R.locals; omega⟩ rfl hl.1 rfl (Nat.le_of_ble_eq_true rfl) dd_LW_exchange_4 ⟨by omega, by omega⟩ [xa] xb [] hsb (fun cX hcX z hz => by rw [List.mem_singleton.mp hz]; exact RowPassed.of_words (by rw [B0.admits.platform]) hown (by rw [ha4]; decide) (by rw [ha4]; exact hts _ tw_776) hcX (ev_nU (hE.nest 33 rfl))) (by unfold covers; rw [hb1, hb2]; rfl) (by rw [hb4]; decide) (by rw [hb4]; exact hts _ tw_777) (hE.nest 17 rfl) (fun v1 M2 H locs hw3 hP hS => ?_)
  refine W.widen (k := 1) (n := 6) (by omega) (by omega) ?_
  refine W.eq (g2 := F0 m 15 ls [.ref v1]) (by rw [hb3]) ?_
  have eM2 := hw3
  refine lv_astore_n (lv' := [(3, .ref v1), (0, .ref (N 0)), (1, .int sx), (2, .ref w9)]) hx hb dd_LW_exchange_15 rfl hl (by decide) rfl (fun ls hl => ?_)
  refine lv_iconst (v := nI 2) hx hb dd_LW_exchange_16 (by decide +kernel) ?_
  exact hm_Ei (v := nI 2) hx hb hr rfl hS hP (⟨rfl, eM2⟩) hlocks (by omega) (by omega) dd_LW_exchange_17
set_option maxHeartbeats 4000000 in
set_option maxRecDepth 100000 in
theorem kc_LQ0 (l : Launch) (B : Nat) (D : va_G) (G : Nat → Nat) (M : hm_M) (N O : Nat → Nat) (hI : im_R D G N O M) (qs : Nat → Bool) (hQ : qu_R B D N O M qs) (w9 : Nat) (fw : Nat → Int64) (hw9 : M w9 = some (.inl (D.1 103, 1, .inr (.inl fw)))) (hA_w9 : hm_A B w9) (how : O w9 = 50) (j : Nat) (hj : j < 16) (hfree : qs j = false) (hbef : ∀ k, k < j → qs k = true) : Met l yy_LW_queue ws_LW_queue ({ frames := 1, cells := 0, slots := 0, locals := 21 }) (hm_Pc B D G M [.ref (N 0), .ref w9]) (hm_Ni B D (fun r M1 => r = nI 0 ∧ ∃ (O1 : Nat → Nat) (f1 : Nat → Int64), f1 0 = (nI j).toInt64 ∧ M1 w9 = some (.inl (D.1 103, 1, .inr (.inl f1))) ∧ qu_R B D N O1 M1 (va_up qs j true) ∧ cz_F O M O1 M1 (cw 3))) (0) (0) (hm_A B) := by
  refine Met.ofWH (cc := cd_LW_queue) (maxL := 3) (ret := ((some FieldType.int))) (by decide) rfl ?_
  intro p e s m args below meth c s₁ B0 hml hv htab
  obtain ⟨rfl, hE, hP⟩ := hv
  have hx := B0.exec
  have hb := B0.bytes
  have hr := B0.returns
  have hts : ∀ w ∈ tb_G, w.before _ s = true := fun w h => atoms_spec (ws := ws_LW_queue) B0.pre w (List.mem_cons_of_mem _ h)
  have hown : s.vm.findClass "RouteDeskLaw" = some m.cls := findClass_of_methodNamed B0.named
  have hlocks := B0.notSynchronized
  have hRf : (headSpec ws_LW_queue { frames := 1, cells := 0, slots := 0, locals := 21 }).room.frames = 1 := rfl
  have hRl : (headSpec ws_LW_queue { frames := 1, cells := 0, slots := 0, locals := 21 }).room.locals = 21 := rfl
  have hRc : (headSpec ws_LW_queue { frames := 1, cells := 0, slots := 0, locals := 21 }).room.cells = 0 := rfl
  have hRs : (headSpec ws_LW_queue { frames := 1, cells := 0, slots := 0, locals := 21 }).room.slots = 0 := rfl
  generalize (headSpec ws_LW_queue { frames := 1, cells := 0, slots := 0, locals := 21 }).room = R at hRf hRl hRc hRs ⊢
  have hS : va_S (hm_A B) s.heap s.heap [] := va_S.rf
  have hl := lv_entry ([.ref (N 0), .ref w9]) (n := 3) (Nat.le_of_ble_eq_true rfl)
  rw [lg_entry_eq]
  generalize (lg_sl ([.ref (N 0), .ref w9]) ++ List.replicate (3 - (lg_sl ([.ref (N 0), .ref w9])).length) Slot.unset).toArray = ls at hl ⊢
  have hl : lv_has ls 3 [(0, .ref (N 0)), (1, .ref w9)] := hl
  refine lv_aload_n hx hb dd_LW_queue_0 rfl (lv_at hl 1 rfl) ?_
  refine lv_iconst (v := nI 0) hx hb dd_LW_queue_1 (by decide +kernel) ?_
  refine lv_aload_n hx hb dd_LW_queue_2 rfl (lv_at hl 0 rfl) ?_
  refine hm_ci hS (hm_rV 0 (As := []) (rest := [.int (nI 0), .ref w9]) ⟨hx, hb, hml, hown, hts⟩ hE hS hP (kc_RD_queue l B D G M N O hI qs hQ j hj hfree hbef) rfl hI.o tw_821 tw_818 tw_819 tw_820 tw_36 (by decide +kernel) rfl rfl ⟨by show 0 + 1 ≤ R.frames; omega, by show 8 + (2 + 11) + 0 ≤ R.locals; omega⟩ rfl hl.1 rfl (Nat.le_of_ble_eq_true rfl) dd_LW_queue_3 ⟨by omega, by omega⟩) (fun r1 M2 H locs hw3 hP hS => ?_)
  refine W.widen (k := 0) (n := 0) (by omega) (by omega) ?_
  obtain ⟨rfl, kx, kF⟩ := hw3
  have hw8 : M2 w9 = some (.inl (D.1 103, 1, .inr (.inl fw))) := (kF _ _ hw9).2.1 (by rw [how]; unfold cg; omega)
  have how8 : O w9 = 50 := (kF _ _ hw9).1.trans how
  refine lv_i2l hx hb dd_LW_queue_6 rfl ?_
  refine lv_topl (fun w4 ew4 => ?_)
  refine hm_last (j := 0) hx hb hE.K hP hS hA_w9 3 hw8 rfl (vp_in_nI (by omega) (by omega)) (nI_clamp (by omega)) dd_LW_queue_7 (fun H locs hP hS => ?_)
  obtain ⟨M5, eM5⟩ : ∃ z, z = hm_up M2 w9 (.inl (D.1 103, 1, .inr (.inl (vp_updL fw 0 w4)))) := ⟨_, rfl⟩
  rw [← eM5] at hP
  have f6 : M5 w9 = some (.inl (D.1 103, 1, .inr (.inl (vp_updL fw 0 w4)))) := by rw [eM5]; exact hm_up_s
  refine lv_goto (tgt := 14) hx hb dd_LW_queue_8 (by decide) ?_
  refine lv_iconst (v := nI 0) hx hb dd_LW_queue_14 (by decide +kernel) ?_
  have hF9 : cz_F O M2 O M5 pw := by rw [eM5]; exact cz_F.up (by rw [how8]; rfl)
  exact hm_Ei (v := nI 0) hx hb hr rfl hS hP (⟨rfl, O, vp_updL fw 0 w4, by show vp_updL fw 0 w4 0 = _; rw [show vp_updL fw 0 w4 0 = w4 from if_pos rfl, ew4], f6, kx.kept hF9 (fun c h9 => pw_n (by omega)), (kF.mono (fun _ => Or.inl)).trans (hF9.mono (fun _ => Or.inr))⟩) hlocks (by omega) (by omega) dd_LW_queue_15
set_option maxHeartbeats 4000000 in
set_option maxRecDepth 100000 in
theorem kc_LQ1 (l : Launch) (B : Nat) (D : va_G) (G : Nat → Nat) (M : hm_M) (hfl : l.flags = flags0) (N O : Nat → Nat) (hI : im_R D G N O M) (qs : Nat → Bool) (hQ : qu_R B D N O M qs) (w9 : Nat) (fw : Nat → Int64) (hw9 : M w9 = some (.inl (D.1 103, 1, .inr (.inl fw)))) (hA_w9 : hm_A B w9) (how : O w9 = 50) (hfull : ∀ k, k < 16 → qs k = true) : Met l yy_LW_queue ws_LW_queue ({ frames := 7, cells := 1, slots := 6, locals := 111 }) (hm_Pc B D G M [.ref (N 0), .ref w9]) (hm_Ni B D (fun r M1 => r = nI 1 ∧ M1 = M)) (1) (6) (hm_A B) := by
  refine Met.ofWH (cc := cd_LW_queue) (maxL := 3) (ret := ((some FieldType.int))) (by decide) rfl ?_
  intro p e s m args below meth c s₁ B0 hml hv htab
  obtain ⟨rfl, hE, hP⟩ := hv
  have hx := B0.exec
  have hb := B0.bytes
  have hr := B0.returns
  have hts : ∀ w ∈ tb_G, w.before _ s = true := fun w h => atoms_spec (ws := ws_LW_queue) B0.pre w (List.mem_cons_of_mem _ h)
  have hown : s.vm.findClass "RouteDeskLaw" = some m.cls := findClass_of_methodNamed B0.named
  have hlocks := B0.notSynchronized
  have hRf : (headSpec ws_LW_queue { frames := 7, cells := 1, slots := 6, locals := 111 }).room.frames = 7 := rfl
  have hRl : (headSpec ws_LW_queue { frames := 7, cells := 1, slots := 6, locals := 111 }).room.locals = 111 := rfl
  have hRc : (headSpec ws_LW_queue { frames := 7, cells := 1, slots := 6, locals := 111 }).room.cells = 1 := rfl
  have hRs : (headSpec ws_LW_queue { frames := 7, cells := 1, slots := 6, locals := 111 }).room.slots = 6 := rfl
  generalize (headSpec ws_LW_queue { frames := 7, cells := 1, slots := 6, locals := 111 }).room = R at hRf hRl hRc hRs ⊢
  have hS : va_S (hm_A B) s.heap s.heap [] := va_S.rf
  have hl := lv_entry ([.ref (N 0), .ref w9]) (n := 3) (Nat.le_of_ble_eq_true rfl)
  rw [lg_entry_eq]
  generalize (lg_sl ([.ref (N 0), .ref w9]) ++ List.replicate (3 - (lg_sl ([.ref (N 0), .ref w9])).length) Slot.unset).toArray = ls at hl ⊢
  have hl : lv_has ls 3 [(0, .ref (N 0)), (1, .ref w9)] := hl
  refine lv_aload_n hx hb dd_LW_queue_0 rfl (lv_at hl 1 rfl) ?_
  refine lv_iconst (v := nI 0) hx hb dd_LW_queue_1 (by decide +kernel) ?_
  refine lv_aload_n hx hb dd_LW_queue_2 rfl (lv_at hl 0 rfl) ?_
  obtain ⟨xa, hsa, ha1, ha2, ha3, ha4⟩ := ht_1 htab
  refine xt_catch 0 (As := []) (rest := [.int (nI 0), .ref w9]) ⟨hx, hb, hml, hown, hts⟩ hE hS hP (kt_RD_queue l B D G M hfl N O hI qs hQ hfull) rfl hI.o tw_821 tw_818 tw_819 tw_820 tw_36 (by decide +kernel) rfl rfl ⟨by show 6 + 1 ≤ R.frames; omega, by show 8 + (2 + 11) + 90 ≤ R.locals; omega⟩ rfl hl.1 rfl (Nat.le_of_ble_eq_true rfl) dd_LW_queue_3 ⟨by omega, by omega⟩ [] xa [] hsa (fun _ _ z hz => absurd hz List.not_mem_nil) (by unfold covers; rw [ha1, ha2]; rfl) (by rw [ha4]; decide) (by rw [ha4]; exact hts _ tw_777) (hE.nest 17 rfl) (fun v1 M2 H locs hw3 hP hS => ?_)
  refine W.widen (k := 1) (n := 6) (by omega) (by omega) ?_
  refine W.eq (g2 := F0 m 11 ls [.ref v1]) (by rw [ha3]) ?_
  have eM2 := hw3
  refine lv_astore_n (lv' := [(2, .ref v1), (0, .ref (N 0)), (1, .ref w9)]) hx hb dd_LW_queue_11 rfl hl (by decide) rfl (fun ls hl => ?_)
  refine lv_iconst (v := nI 1) hx hb dd_LW_queue_12 (by decide +kernel) ?_
  exact hm_Ei (v := nI 1) hx hb hr rfl hS hP (⟨rfl, eM2⟩) hlocks (by omega) (by omega) dd_LW_queue_13
set_option maxHeartbeats 4000000 in
set_option maxRecDepth 100000 in
theorem kc_LB1 (l : Launch) (B : Nat) (D : va_G) (G : Nat → Nat) (M : hm_M) (hfl : l.flags = flags0) (N O : Nat → Nat) (hI : im_R D G N O M) (t : List Nat) (hT : tp_R B D N O M t) (ex : Nat → Option (Int32 × Int32)) (hX : ex_R B D N O M ex) (qs : Nat → Bool) (hQ : qu_R B D N O M qs) (bs : List bd_T) (hB : bi_R B D G N O M bs) (hso8 : ∀ k e, ex k = some e → 0 ≤ e.1.toInt ∧ e.1.toInt ≤ 3) (x y : Int32) (q : Bool) (w9 : Nat) (fw : Nat → Int64) (hw9 : M w9 = some (.inl (D.1 103, 1, .inr (.inl fw)))) (hA_w9 : hm_A B w9) (how : O w9 = 50) (hgood : bi_ok ex qs t x y q = false) : Met l yy_LW_bind ws_LW_bind ({ frames := 9, cells := 3, slots := 110, locals := 201 }) (hm_Pc B D G M [.ref (N 0), .int x, .int y, .int (nI (bz q)), .ref w9]) (hm_Ni B D (fun r M1 => r = nI 1 ∧ ∃ (O1 : Nat → Nat), tp_R B D N O1 M1 [] ∧ cz_F O M O1 M1 (cg 1))) (3) (110) (hm_A B) := by
  refine Met.ofWH (cc := cd_LW_bind) (maxL := 6) (ret := ((some FieldType.int))) (by decide) rfl ?_
  intro p e s m args below meth c s₁ B0 hml hv htab
  obtain ⟨rfl, hE, hP⟩ := hv
  have hx := B0.exec
  have hb := B0.bytes
  have hr := B0.returns
  have hts : ∀ w ∈ tb_G, w.before _ s = true := fun w h => atoms_spec (ws := ws_LW_bind) B0.pre w (List.mem_cons_of_mem _ h)
  have hown : s.vm.findClass "RouteDeskLaw" = some m.cls := findClass_of_methodNamed B0.named
  have hlocks := B0.notSynchronized
  have hRf : (headSpec ws_LW_bind { frames := 9, cells := 3, slots := 110, locals := 201 }).room.frames = 9 := rfl
  have hRl : (headSpec ws_LW_bind { frames := 9, cells := 3, slots := 110, locals := 201 }).room.locals = 201 := rfl
  have hRc : (headSpec ws_LW_bind { frames := 9, cells := 3, slots := 110, locals := 201 }).room.cells = 3 := rfl
  have hRs : (headSpec ws_LW_bind { frames := 9, cells := 3, slots := 110, locals := 201 }).room.slots = 110 := rfl
  generalize (headSpec ws_LW_bind { frames := 9, cells := 3, slots := 110, locals := 201 }).room = R at hRf hRl hRc hRs ⊢
  have hS : va_S (hm_A B) s.heap s.heap [] := va_S.rf
  have hl := lv_entry ([.ref (N 0), .int x, .int y, .int (nI (bz q)), .ref w9]) (n := 6) (Nat.le_of_ble_eq_true rfl)
  rw [lg_entry_eq]
  generalize (lg_sl ([.ref (N 0), .int x, .int y, .int (nI (bz q)), .ref w9]) ++ List.replicate (6 - (lg_sl ([.ref (N 0), .int x, .int y, .int (nI (bz q)), .ref w9])).length) Slot.unset).toArray = ls at hl ⊢
  have hl : lv_has ls 6 [(0, .ref (N 0)), (1, .int x), (2, .int y), (3, .int (nI (bz q))), (4, .ref w9)] := hl
  refine lv_aload hx hb dd_LW_bind_0 (lv_at hl 4 rfl) ?_
  refine lv_iconst (v := nI 0) hx hb dd_LW_bind_2 (by decide +kernel) ?_
  refine lv_aload_n hx hb dd_LW_bind_3 rfl (lv_at hl 0 rfl) ?_
  refine lv_iload_n hx hb dd_LW_bind_4 rfl (lv_at hl 1 rfl) ?_
  refine lv_iload_n hx hb dd_LW_bind_5 rfl (lv_at hl 2 rfl) ?_
  refine lv_iload_n hx hb dd_LW_bind_6 rfl (lv_at hl 3 rfl) ?_
  obtain ⟨xa, xb, hsa, hsb, ⟨ha1, ha2, ha3, ha4⟩, hb1, hb2, hb3, hb4⟩ := ht_2 htab
  refine xt_catch 3 (As := [.int x, .int y, .int (nI (bz q))]) (rest := [.int (nI 0), .ref w9]) ⟨hx, hb, hml, hown, hts⟩ hE hS hP (kt_RD_bind1 l B D G M hfl N O hI t hT ex hX qs hQ bs hB hso8 x y q hgood) rfl hI.o tw_829 tw_826 tw_827 tw_828 tw_36 (by decide +kernel) rfl rfl ⟨by show 8 + 1 ≤ R.frames; omega, by show 8 + (6 + 11) + 176 ≤ R.locals; omega⟩ rfl hl.1 rfl (Nat.le_of_ble_eq_true rfl) dd_LW_bind_7 ⟨by omega, by omega⟩ [] xa [xb] hsa (fun _ _ z hz => absurd hz List.not_mem_nil) (by unfold covers; rw [ha1, ha2]; rfl) (by rw [ha4]; decide) (by rw [ha4]; exact hts _ tw_776) (hE.nest 10 rfl) (fun v1 M2 H locs hw3 hP hS => ?_)
  refine W.widen (k := 3) (n := 110) (by omega) (by omega) ?_
  refine W.eq (g2 := F0 m 22 ls [.ref v1]) (by rw [ha3]) ?_
  obtain ⟨O1, kx, kF⟩ := hw3
  have hw8 : M2 w9 = some (.inl (D.1 103, 1, .inr (.inl fw))) := (kF _ _ hw9).2.1 (by rw [how]; unfold cg; omega)
  refine lv_astore (lv' := [(5, .ref v1), (0, .ref (N 0)), (1, .int x), (2, .int y), (3, .int (nI (bz q))), (4, .ref w9)]) hx hb dd_LW_bind_22 hl (by decide) rfl (fun ls hl => ?_)
  refine lv_iconst (v := nI 1) hx hb dd_LW_bind_24 (by decide +kernel) ?_
  exact hm_Ei (v := nI 1) hx hb hr rfl hS hP (⟨rfl, O1, kx, kF⟩) hlocks (by omega) (by omega) dd_LW_bind_25
set_option maxHeartbeats 4000000 in
set_option maxRecDepth 100000 in
theorem kc_LB2 (l : Launch) (B : Nat) (D : va_G) (G : Nat → Nat) (M : hm_M) (hfl : l.flags = flags0) (N O : Nat → Nat) (hI : im_R D G N O M) (t : List Nat) (hT : tp_R B D N O M t) (ex : Nat → Option (Int32 × Int32)) (hX : ex_R B D N O M ex) (qs : Nat → Bool) (hQ : qu_R B D N O M qs) (bs : List bd_T) (hB : bi_R B D G N O M bs) (hso8 : ∀ k e, ex k = some e → 0 ≤ e.1.toInt ∧ e.1.toInt ≤ 3) (x y : Int32) (q : Bool) (w9 : Nat) (fw : Nat → Int64) (hw9 : M w9 = some (.inl (D.1 103, 1, .inr (.inl fw)))) (hA_w9 : hm_A B w9) (how : O w9 = 50) (hgood : bi_ok ex qs t x y q = true) (hany : bs.any (bd_is x y q t) = false) (hlen : bs.length = 120) : Met l yy_LW_bind ws_LW_bind ({ frames := 9, cells := 3, slots := 110, locals := 201 }) (hm_Pc B D G M [.ref (N 0), .int x, .int y, .int (nI (bz q)), .ref w9]) (hm_Ni B D (fun r M1 => r = nI 2 ∧ ∃ (O1 : Nat → Nat), tp_R B D N O1 M1 [] ∧ cz_F O M O1 M1 (cg 1))) (3) (110) (hm_A B) := by
  refine Met.ofWH (cc := cd_LW_bind) (maxL := 6) (ret := ((some FieldType.int))) (by decide) rfl ?_
  intro p e s m args below meth c s₁ B0 hml hv htab
  obtain ⟨rfl, hE, hP⟩ := hv
  have hx := B0.exec
  have hb := B0.bytes
  have hr := B0.returns
  have hts : ∀ w ∈ tb_G, w.before _ s = true := fun w h => atoms_spec (ws := ws_LW_bind) B0.pre w (List.mem_cons_of_mem _ h)
  have hown : s.vm.findClass "RouteDeskLaw" = some m.cls := findClass_of_methodNamed B0.named
  have hlocks := B0.notSynchronized
  have hRf : (headSpec ws_LW_bind { frames := 9, cells := 3, slots := 110, locals := 201 }).room.frames = 9 := rfl
  have hRl : (headSpec ws_LW_bind { frames := 9, cells := 3, slots := 110, locals := 201 }).room.locals = 201 := rfl
  have hRc : (headSpec ws_LW_bind { frames := 9, cells := 3, slots := 110, locals := 201 }).room.cells = 3 := rfl
  have hRs : (headSpec ws_LW_bind { frames := 9, cells := 3, slots := 110, locals := 201 }).room.slots = 110 := rfl
  generalize (headSpec ws_LW_bind { frames := 9, cells := 3, slots := 110, locals := 201 }).room = R at hRf hRl hRc hRs ⊢
  have hS : va_S (hm_A B) s.heap s.heap [] := va_S.rf
  have hl := lv_entry ([.ref (N 0), .int x, .int y, .int (nI (bz q)), .ref w9]) (n := 6) (Nat.le_of_ble_eq_true rfl)
  rw [lg_entry_eq]
  generalize (lg_sl ([.ref (N 0), .int x, .int y, .int (nI (bz q)), .ref w9]) ++ List.replicate (6 - (lg_sl ([.ref (N 0), .int x, .int y, .int (nI (bz q)), .ref w9])).length) Slot.unset).toArray = ls at hl ⊢
  have hl : lv_has ls 6 [(0, .ref (N 0)), (1, .int x), (2, .int y), (3, .int (nI (bz q))), (4, .ref w9)] := hl
  refine lv_aload hx hb dd_LW_bind_0 (lv_at hl 4 rfl) ?_
  refine lv_iconst (v := nI 0) hx hb dd_LW_bind_2 (by decide +kernel) ?_
  refine lv_aload_n hx hb dd_LW_bind_3 rfl (lv_at hl 0 rfl) ?_
  refine lv_iload_n hx hb dd_LW_bind_4 rfl (lv_at hl 1 rfl) ?_
  refine lv_iload_n hx hb dd_LW_bind_5 rfl (lv_at hl 2 rfl) ?_
  refine lv_iload_n hx hb dd_LW_bind_6 rfl (lv_at hl 3 rfl) ?_
  obtain ⟨xa, xb, hsa, hsb, ⟨ha1, ha2, ha3, ha4⟩, hb1, hb2, hb3, hb4⟩ := ht_2 htab
  refine xt_catch 3 (As := [.int x, .int y, .int (nI (bz q))]) (rest := [.int (nI 0), .ref w9]) ⟨hx, hb, hml, hown, hts⟩ hE hS hP (kt_RD_bind2 l B D G M hfl N O hI t hT ex hX qs hQ bs hB hso8 x y q hgood hany hlen) rfl hI.o tw_829 tw_826 tw_827 tw_828 tw_36 (by decide +kernel) rfl rfl ⟨by show 8 + 1 ≤ R.frames; omega, by show 8 + (6 + 11) + 176 ≤ R.locals; omega⟩ rfl hl.1 rfl (Nat.le_of_ble_eq_true rfl) dd_LW_bind_7 ⟨by omega, by omega⟩ [xa] xb [] hsb (fun cX hcX z hz => by rw [List.mem_singleton.mp hz]; exact RowPassed.of_words (by rw [B0.admits.platform]) hown (by rw [ha4]; decide) (by rw [ha4]; exact hts _ tw_776) hcX (ev_nU (hE.nest 33 rfl))) (by unfold covers; rw [hb1, hb2]; rfl) (by rw [hb4]; decide) (by rw [hb4]; exact hts _ tw_777) (hE.nest 17 rfl) (fun v1 M2 H locs hw3 hP hS => ?_)
  refine W.widen (k := 3) (n := 110) (by omega) (by omega) ?_
  refine W.eq (g2 := F0 m 26 ls [.ref v1]) (by rw [hb3]) ?_
  obtain ⟨O1, kx, kF⟩ := hw3
  have hw8 : M2 w9 = some (.inl (D.1 103, 1, .inr (.inl fw))) := (kF _ _ hw9).2.1 (by rw [how]; unfold cg; omega)
  refine lv_astore (lv' := [(5, .ref v1), (0, .ref (N 0)), (1, .int x), (2, .int y), (3, .int (nI (bz q))), (4, .ref w9)]) hx hb dd_LW_bind_26 hl (by decide) rfl (fun ls hl => ?_)
  refine lv_iconst (v := nI 2) hx hb dd_LW_bind_28 (by decide +kernel) ?_
  exact hm_Ei (v := nI 2) hx hb hr rfl hS hP (⟨rfl, O1, kx, kF⟩) hlocks (by omega) (by omega) dd_LW_bind_29
set_option maxHeartbeats 4000000 in
set_option maxRecDepth 100000 in
theorem kc_LB0 (l : Launch) (B : Nat) (D : va_G) (G : Nat → Nat) (M : hm_M) (N O : Nat → Nat) (hI : im_R D G N O M) (t : List Nat) (hT : tp_R B D N O M t) (ex : Nat → Option (Int32 × Int32)) (hX : ex_R B D N O M ex) (qs : Nat → Bool) (hQ : qu_R B D N O M qs) (bs : List bd_T) (hB : bi_R B D G N O M bs) (hso8 : ∀ k e, ex k = some e → 0 ≤ e.1.toInt ∧ e.1.toInt ≤ 3) (x y : Int32) (q : Bool) (w9 : Nat) (fw : Nat → Int64) (hw9 : M w9 = some (.inl (D.1 103, 1, .inr (.inl fw)))) (hA_w9 : hm_A B w9) (how : O w9 = 50) (hgood : bi_ok ex qs t x y q = true) (hany : bs.any (bd_is x y q t) = true) : Met l yy_LW_bind ws_LW_bind ({ frames := 9, cells := 2, slots := 104, locals := 201 }) (hm_Pc B D G M [.ref (N 0), .int x, .int y, .int (nI (bz q)), .ref w9]) (hm_Ni B D (fun r M1 => r = nI 0 ∧ ∃ (O1 : Nat → Nat) (f1 : Nat → Int64), f1 0 = 0 ∧ M1 w9 = some (.inl (D.1 103, 1, .inr (.inl f1))) ∧ tp_R B D N O1 M1 [] ∧ cz_F O M O1 M1 (cw 1))) (2) (104) (hm_A B) := by
  refine Met.ofWH (cc := cd_LW_bind) (maxL := 6) (ret := ((some FieldType.int))) (by decide) rfl ?_
  intro p e s m args below meth c s₁ B0 hml hv htab
  obtain ⟨rfl, hE, hP⟩ := hv
  have hx := B0.exec
  have hb := B0.bytes
  have hr := B0.returns
  have hts : ∀ w ∈ tb_G, w.before _ s = true := fun w h => atoms_spec (ws := ws_LW_bind) B0.pre w (List.mem_cons_of_mem _ h)
  have hown : s.vm.findClass "RouteDeskLaw" = some m.cls := findClass_of_methodNamed B0.named
  have hlocks := B0.notSynchronized
  have hRf : (headSpec ws_LW_bind { frames := 9, cells := 2, slots := 104, locals := 201 }).room.frames = 9 := rfl
  have hRl : (headSpec ws_LW_bind { frames := 9, cells := 2, slots := 104, locals := 201 }).room.locals = 201 := rfl
  have hRc : (headSpec ws_LW_bind { frames := 9, cells := 2, slots := 104, locals := 201 }).room.cells = 2 := rfl
  have hRs : (headSpec ws_LW_bind { frames := 9, cells := 2, slots := 104, locals := 201 }).room.slots = 104 := rfl
  generalize (headSpec ws_LW_bind { frames := 9, cells := 2, slots := 104, locals := 201 }).room = R at hRf hRl hRc hRs ⊢
  have hS : va_S (hm_A B) s.heap s.heap [] := va_S.rf
  have hl := lv_entry ([.ref (N 0), .int x, .int y, .int (nI (bz q)), .ref w9]) (n := 6) (Nat.le_of_ble_eq_true rfl)
  rw [lg_entry_eq]
  generalize (lg_sl ([.ref (N 0), .int x, .int y, .int (nI (bz q)), .ref w9]) ++ List.replicate (6 - (lg_sl ([.ref (N 0), .int x, .int y, .int (nI (bz q)), .ref w9])).length) Slot.unset).toArray = ls at hl ⊢
  have hl : lv_has ls 6 [(0, .ref (N 0)), (1, .int x), (2, .int y), (3, .int (nI (bz q))), (4, .ref w9)] := hl
  refine lv_aload hx hb dd_LW_bind_0 (lv_at hl 4 rfl) ?_
  refine lv_iconst (v := nI 0) hx hb dd_LW_bind_2 (by decide +kernel) ?_
  refine lv_aload_n hx hb dd_LW_bind_3 rfl (lv_at hl 0 rfl) ?_
  refine lv_iload_n hx hb dd_LW_bind_4 rfl (lv_at hl 1 rfl) ?_
  refine lv_iload_n hx hb dd_LW_bind_5 rfl (lv_at hl 2 rfl) ?_
  refine lv_iload_n hx hb dd_LW_bind_6 rfl (lv_at hl 3 rfl) ?_
  refine hm_ci hS (hm_rV 3 (As := [.int x, .int y, .int (nI (bz q))]) (rest := [.int (nI 0), .ref w9]) ⟨hx, hb, hml, hown, hts⟩ hE hS hP (kc_RD_bind0 l B D G M N O hI t hT ex hX qs hQ bs hB hso8 x y q hgood hany) rfl hI.o tw_829 tw_826 tw_827 tw_828 tw_36 (by decide +kernel) rfl rfl ⟨by show 8 + 1 ≤ R.frames; omega, by show 8 + (6 + 11) + 176 ≤ R.locals; omega⟩ rfl hl.1 rfl (Nat.le_of_ble_eq_true rfl) dd_LW_bind_7 ⟨by omega, by omega⟩) (fun r1 M2 H locs hw3 hP hS => ?_)
  refine W.widen (k := 2) (n := 104) (by omega) (by omega) ?_
  obtain ⟨rfl, O1, kx, kF⟩ := hw3
  have hw8 : M2 w9 = some (.inl (D.1 103, 1, .inr (.inl fw))) := (kF _ _ hw9).2.1 (by rw [how]; unfold cg; omega)
  have how8 : O1 w9 = 50 := (kF _ _ hw9).1.trans how
  refine hn_if_eq (tgt := 17) hx hb (by omega) dd_LW_bind_10 (by decide) (fun c4 => ?_) (fun c4 => absurd c4 (by omega))
  refine lv_lconst (v := 0) hx hb dd_LW_bind_17 (by decide +kernel) ?_
  refine hm_last (j := 0) hx hb hE.K hP hS hA_w9 3 hw8 rfl (vp_in_nI (by omega) (by omega)) (nI_clamp (by omega)) dd_LW_bind_18 (fun H locs hP hS => ?_)
  obtain ⟨M5, eM5⟩ : ∃ z, z = hm_up M2 w9 (.inl (D.1 103, 1, .inr (.inl (vp_updL fw 0 0)))) := ⟨_, rfl⟩
  rw [← eM5] at hP
  have f6 : M5 w9 = some (.inl (D.1 103, 1, .inr (.inl (vp_updL fw 0 0)))) := by rw [eM5]; exact hm_up_s
  refine lv_goto (tgt := 30) hx hb dd_LW_bind_19 (by decide) ?_
  refine lv_iconst (v := nI 0) hx hb dd_LW_bind_30 (by decide +kernel) ?_
  have hF9 : cz_F O1 M2 O1 M5 pw := by rw [eM5]; exact cz_F.up (by rw [how8]; rfl)
  exact hm_Ei (v := nI 0) hx hb hr rfl hS hP (⟨rfl, O1, vp_updL fw 0 0, by show vp_updL fw 0 0 0 = _; rw [show vp_updL fw 0 0 0 = 0 from if_pos rfl], f6, kx.kept hF9 (fun c h9 => pw_n (by omega)), (kF.mono (fun _ => Or.inl)).trans (hF9.mono (fun _ => Or.inr))⟩) hlocks (by omega) (by omega) dd_LW_bind_31
set_option maxHeartbeats 4000000 in
set_option maxRecDepth 100000 in
theorem kc_LBN (l : Launch) (B : Nat) (D : va_G) (G : Nat → Nat) (M : hm_M) (N O : Nat → Nat) (hI : im_R D G N O M) (t : List Nat) (hT : tp_R B D N O M t) (ex : Nat → Option (Int32 × Int32)) (hX : ex_R B D N O M ex) (qs : Nat → Bool) (hQ : qu_R B D N O M qs) (bs : List bd_T) (hB : bi_R B D G N O M bs) (hso8 : ∀ k e, ex k = some e → 0 ≤ e.1.toInt ∧ e.1.toInt ≤ 3) (x y : Int32) (q : Bool) (w9 : Nat) (fw : Nat → Int64) (hw9 : M w9 = some (.inl (D.1 103, 1, .inr (.inl fw)))) (hA_w9 : hm_A B w9) (how : O w9 = 50) (hgood : bi_ok ex qs t x y q = true) (hany : bs.any (bd_is x y q t) = false) (hlen : bs.length < 120) : Met l yy_LW_bind ws_LW_bind ({ frames := 9, cells := 4, slots := 310, locals := 201 }) (hm_Pc B D G M [.ref (N 0), .int x, .int y, .int (nI (bz q)), .ref w9]) (hm_Ni B D (fun r M1 => r = nI 0 ∧ ∃ (O1 : Nat → Nat) (f1 : Nat → Int64), f1 0 = 1 ∧ M1 w9 = some (.inl (D.1 103, 1, .inr (.inl f1))) ∧ tp_R B D N O1 M1 [] ∧ bi_R B D G N O1 M1 (bs ++ [(x, y, q, t)]) ∧ cz_F O M O1 M1 cg149)) (4) (310) (hm_A B) := by
  refine Met.ofWH (cc := cd_LW_bind) (maxL := 6) (ret := ((some FieldType.int))) (by decide) rfl ?_
  intro p e s m args below meth c s₁ B0 hml hv htab
  obtain ⟨rfl, hE, hP⟩ := hv
  have hx := B0.exec
  have hb := B0.bytes
  have hr := B0.returns
  have hts : ∀ w ∈ tb_G, w.before _ s = true := fun w h => atoms_spec (ws := ws_LW_bind) B0.pre w (List.mem_cons_of_mem _ h)
  have hown : s.vm.findClass "RouteDeskLaw" = some m.cls := findClass_of_methodNamed B0.named
  have hlocks := B0.notSynchronized
  have hRf : (headSpec ws_LW_bind { frames := 9, cells := 4, slots := 310, locals := 201 }).room.frames = 9 := rfl
  have hRl : (headSpec ws_LW_bind { frames := 9, cells := 4, slots := 310, locals := 201 }).room.locals = 201 := rfl
  have hRc : (headSpec ws_LW_bind { frames := 9, cells := 4, slots := 310, locals := 201 }).room.cells = 4 := rfl
  have hRs : (headSpec ws_LW_bind { frames := 9, cells := 4, slots := 310, locals := 201 }).room.slots = 310 := rfl
  generalize (headSpec ws_LW_bind { frames := 9, cells := 4, slots := 310, locals := 201 }).room = R at hRf hRl hRc hRs ⊢
  have hS : va_S (hm_A B) s.heap s.heap [] := va_S.rf
  have hl := lv_entry ([.ref (N 0), .int x, .int y, .int (nI (bz q)), .ref w9]) (n := 6) (Nat.le_of_ble_eq_true rfl)
  rw [lg_entry_eq]
  generalize (lg_sl ([.ref (N 0), .int x, .int y, .int (nI (bz q)), .ref w9]) ++ List.replicate (6 - (lg_sl ([.ref (N 0), .int x, .int y, .int (nI (bz q)), .ref w9])).length) Slot.unset).toArray = ls at hl ⊢
  have hl : lv_has ls 6 [(0, .ref (N 0)), (1, .int x), (2, .int y), (3, .int (nI (bz q))), (4, .ref w9)] := hl
  refine lv_aload hx hb dd_LW_bind_0 (lv_at hl 4 rfl) ?_
  refine lv_iconst (v := nI 0) hx hb dd_LW_bind_2 (by decide +kernel) ?_
  refine lv_aload_n hx hb dd_LW_bind_3 rfl (lv_at hl 0 rfl) ?_
  refine lv_iload_n hx hb dd_LW_bind_4 rfl (lv_at hl 1 rfl) ?_
  refine lv_iload_n hx hb dd_LW_bind_5 rfl (lv_at hl 2 rfl) ?_
  refine lv_iload_n hx hb dd_LW_bind_6 rfl (lv_at hl 3 rfl) ?_
  refine hm_ci hS (hm_rV 3 (As := [.int x, .int y, .int (nI (bz q))]) (rest := [.int (nI 0), .ref w9]) ⟨hx, hb, hml, hown, hts⟩ hE hS hP (kc_RD_bind1 l B D G M N O hI t hT ex hX qs hQ bs hB hso8 x y q hgood hany hlen) rfl hI.o tw_829 tw_826 tw_827 tw_828 tw_36 (by decide +kernel) rfl rfl ⟨by show 8 + 1 ≤ R.frames; omega, by show 8 + (6 + 11) + 176 ≤ R.locals; omega⟩ rfl hl.1 rfl (Nat.le_of_ble_eq_true rfl) dd_LW_bind_7 ⟨by omega, by omega⟩) (fun r1 M2 H locs hw3 hP hS => ?_)
  refine W.widen (k := 4) (n := 310) (by omega) (by omega) ?_
  obtain ⟨rfl, O1, kx, ky, kF⟩ := hw3
  have hw8 : M2 w9 = some (.inl (D.1 103, 1, .inr (.inl fw))) := (kF _ _ hw9).2.1 (by rw [how]; unfold cg2 cg; omega)
  have how8 : O1 w9 = 50 := (kF _ _ hw9).1.trans how
  refine hn_if_eq (tgt := 17) hx hb (by omega) dd_LW_bind_10 (by decide) (fun c4 => absurd c4 (by omega)) (fun c4 => ?_)
  refine lv_lconst (v := 1) hx hb dd_LW_bind_13 (by decide +kernel) ?_
  refine lv_goto (tgt := 18) hx hb dd_LW_bind_14 (by decide) ?_
  refine hm_last (j := 0) hx hb hE.K hP hS hA_w9 3 hw8 rfl (vp_in_nI (by omega) (by omega)) (nI_clamp (by omega)) dd_LW_bind_18 (fun H locs hP hS => ?_)
  obtain ⟨M5, eM5⟩ : ∃ z, z = hm_up M2 w9 (.inl (D.1 103, 1, .inr (.inl (vp_updL fw 0 1)))) := ⟨_, rfl⟩
  rw [← eM5] at hP
  have f6 : M5 w9 = some (.inl (D.1 103, 1, .inr (.inl (vp_updL fw 0 1)))) := by rw [eM5]; exact hm_up_s
  refine lv_goto (tgt := 30) hx hb dd_LW_bind_19 (by decide) ?_
  refine lv_iconst (v := nI 0) hx hb dd_LW_bind_30 (by decide +kernel) ?_
  have hF9 : cz_F O1 M2 O1 M5 pw := by rw [eM5]; exact cz_F.up (by rw [how8]; rfl)
  exact hm_Ei (v := nI 0) hx hb hr rfl hS hP (⟨rfl, O1, vp_updL fw 0 1, by show vp_updL fw 0 1 0 = _; rw [show vp_updL fw 0 1 0 = 1 from if_pos rfl], f6, kx.kept hF9 (fun c h9 => pw_n (by omega)), ky.kept hF9 (hI.kept kF (fun h9 => by unfold cg2 cg at h9; omega)) (fun c h9 => pw_n (by omega)) pw_0, (kF.mono (fun _ h9 => by unfold cg2 cg at h9; unfold cg149; omega)).trans (hF9.mono (fun _ h9 => Or.inr (Or.inr h9)))⟩) hlocks (by omega) (by omega) dd_LW_bind_31
set_option maxHeartbeats 4000000 in
set_option maxRecDepth 100000 in
theorem kc_LR0 (l : Launch) (B : Nat) (D : va_G) (G : Nat → Nat) (M : hm_M) (N O : Nat → Nat) (hI : im_R D G N O M) (ex : Nat → Option (Int32 × Int32)) (hX : ex_R B D N O M ex) (bs : List bd_T) (hB : bi_R B D G N O M bs) (key : List Nat) (hs : List (List Nat × List Nat)) (hM : ms_R B D G N O M key hs) (r0 : rs_T) (hR : rs_R B D N O M r0) (w9 : Nat) (fw : Nat → Int64) (hw9 : M w9 = some (.inl (D.1 103, 1, .inr (.inl fw)))) (hA_w9 : hm_A B w9) (how : O w9 = 50) (hkl : key.length ≤ 48) (hso8 : ∀ k e, ex k = some e → 0 ≤ e.1.toInt ∧ e.1.toInt ≤ 3) (x : Int32) (hx8 : (ex_at ex x).isSome = true) : Met l yy_LW_route ws_LW_route ({ frames := 10, cells := 0, slots := 0, locals := 237 }) (hm_Pc B D G M [.ref (N 0), .int x, .ref w9]) (hm_Ni B D (fun r M1 => r = nI 0 ∧ ∃ (r1 : rs_T) (O1 : Nat → Nat) (f1 : Nat → Int64), f1 0 = (nI (qu_n r1.2.2)).toInt64 ∧ M1 w9 = some (.inl (D.1 103, 1, .inr (.inl f1))) ∧ rt_F ex bs key hs (rt_0 r0 x) r1 ∧ rs_R B D N O1 M1 r1 ∧ cz_F O M O1 M1 (cw 6))) (0) (0) (hm_A B) := by
  refine Met.ofWH (cc := cd_LW_route) (maxL := 4) (ret := ((some FieldType.int))) (by decide) rfl ?_
  intro p e s m args below meth c s₁ B0 hml hv htab
  obtain ⟨rfl, hE, hP⟩ := hv
  have hx := B0.exec
  have hb := B0.bytes
  have hr := B0.returns
  have hts : ∀ w ∈ tb_G, w.before _ s = true := fun w h => atoms_spec (ws := ws_LW_route) B0.pre w (List.mem_cons_of_mem _ h)
  have hown : s.vm.findClass "RouteDeskLaw" = some m.cls := findClass_of_methodNamed B0.named
  have hlocks := B0.notSynchronized
  have hRf : (headSpec ws_LW_route { frames := 10, cells := 0, slots := 0, locals := 237 }).room.frames = 10 := rfl
  have hRl : (headSpec ws_LW_route { frames := 10, cells := 0, slots := 0, locals := 237 }).room.locals = 237 := rfl
  have hRc : (headSpec ws_LW_route { frames := 10, cells := 0, slots := 0, locals := 237 }).room.cells = 0 := rfl
  have hRs : (headSpec ws_LW_route { frames := 10, cells := 0, slots := 0, locals := 237 }).room.slots = 0 := rfl
  generalize (headSpec ws_LW_route { frames := 10, cells := 0, slots := 0, locals := 237 }).room = R at hRf hRl hRc hRs ⊢
  have hS : va_S (hm_A B) s.heap s.heap [] := va_S.rf
  have hl := lv_entry ([.ref (N 0), .int x, .ref w9]) (n := 4) (Nat.le_of_ble_eq_true rfl)
  rw [lg_entry_eq]
  generalize (lg_sl ([.ref (N 0), .int x, .ref w9]) ++ List.replicate (4 - (lg_sl ([.ref (N 0), .int x, .ref w9])).length) Slot.unset).toArray = ls at hl ⊢
  have hl : lv_has ls 4 [(0, .ref (N 0)), (1, .int x), (2, .ref w9)] := hl
  refine lv_aload_n hx hb dd_LW_route_0 rfl (lv_at hl 2 rfl) ?_
  refine lv_iconst (v := nI 0) hx hb dd_LW_route_1 (by decide +kernel) ?_
  refine lv_aload_n hx hb dd_LW_route_2 rfl (lv_at hl 0 rfl) ?_
  refine lv_iload_n hx hb dd_LW_route_3 rfl (lv_at hl 1 rfl) ?_
  refine hm_ci hS (hm_rV 1 (As := [.int x]) (rest := [.int (nI 0), .ref w9]) ⟨hx, hb, hml, hown, hts⟩ hE hS hP (kc_RD_route l B D G M N O hI ex hX bs hB key hs hM r0 hR hkl hso8 x hx8) rfl hI.o tw_895 tw_892 tw_893 tw_894 tw_36 (by decide +kernel) rfl rfl ⟨by show 9 + 1 ≤ R.frames; omega, by show 8 + (3 + 11) + 215 ≤ R.locals; omega⟩ rfl hl.1 rfl (Nat.le_of_ble_eq_true rfl) dd_LW_route_4 ⟨by omega, by omega⟩) (fun r1 M2 H locs hw3 hP hS => ?_)
  refine W.widen (k := 0) (n := 0) (by omega) (by omega) ?_
  obtain ⟨r1, krf, rfl, kx, kF⟩ := hw3
  have hw8 : M2 w9 = some (.inl (D.1 103, 1, .inr (.inl fw))) := (kF _ _ hw9).2.1 (by rw [how]; unfold cg; omega)
  have how8 : O w9 = 50 := (kF _ _ hw9).1.trans how
  refine lv_i2l hx hb dd_LW_route_7 rfl ?_
  refine lv_topl (fun w4 ew4 => ?_)
  refine hm_last (j := 0) hx hb hE.K hP hS hA_w9 3 hw8 rfl (vp_in_nI (by omega) (by omega)) (nI_clamp (by omega)) dd_LW_route_8 (fun H locs hP hS => ?_)
  obtain ⟨M5, eM5⟩ : ∃ z, z = hm_up M2 w9 (.inl (D.1 103, 1, .inr (.inl (vp_updL fw 0 w4)))) := ⟨_, rfl⟩
  rw [← eM5] at hP
  have f6 : M5 w9 = some (.inl (D.1 103, 1, .inr (.inl (vp_updL fw 0 w4)))) := by rw [eM5]; exact hm_up_s
  refine lv_goto (tgt := 15) hx hb dd_LW_route_9 (by decide) ?_
  refine lv_iconst (v := nI 0) hx hb dd_LW_route_15 (by decide +kernel) ?_
  have hF9 : cz_F O M2 O M5 pw := by rw [eM5]; exact cz_F.up (by rw [how8]; rfl)
  exact hm_Ei (v := nI 0) hx hb hr rfl hS hP (⟨rfl, r1, O, vp_updL fw 0 w4, by show vp_updL fw 0 w4 0 = _; rw [show vp_updL fw 0 w4 0 = w4 from if_pos rfl, ew4], f6, krf, rt_R.kept kx hF9 (fun c h9 => pw_n (by omega)), (kF.mono (fun _ => Or.inl)).trans (hF9.mono (fun _ => Or.inr))⟩) hlocks (by omega) (by omega) dd_LW_route_16
set_option maxHeartbeats 4000000 in
set_option maxRecDepth 100000 in
theorem kc_LR1 (l : Launch) (B : Nat) (D : va_G) (G : Nat → Nat) (M : hm_M) (hfl : l.flags = flags0) (N O : Nat → Nat) (hI : im_R D G N O M) (ex : Nat → Option (Int32 × Int32)) (hX : ex_R B D N O M ex) (w9 : Nat) (fw : Nat → Int64) (hw9 : M w9 = some (.inl (D.1 103, 1, .inr (.inl fw)))) (hA_w9 : hm_A B w9) (how : O w9 = 50) (x : Int32) (hx8 : ex_at ex x = none) : Met l yy_LW_route ws_LW_route ({ frames := 7, cells := 1, slots := 6, locals := 112 }) (hm_Pc B D G M [.ref (N 0), .int x, .ref w9]) (hm_Ni B D (fun r M1 => r = nI 1 ∧ M1 = M)) (1) (6) (hm_A B) := by
  refine Met.ofWH (cc := cd_LW_route) (maxL := 4) (ret := ((some FieldType.int))) (by decide) rfl ?_
  intro p e s m args below meth c s₁ B0 hml hv htab
  obtain ⟨rfl, hE, hP⟩ := hv
  have hx := B0.exec
  have hb := B0.bytes
  have hr := B0.returns
  have hts : ∀ w ∈ tb_G, w.before _ s = true := fun w h => atoms_spec (ws := ws_LW_route) B0.pre w (List.mem_cons_of_mem _ h)
  have hown : s.vm.findClass "RouteDeskLaw" = some m.cls := findClass_of_methodNamed B0.named
  have hlocks := B0.notSynchronized
  have hRf : (headSpec ws_LW_route { frames := 7, cells := 1, slots := 6, locals := 112 }).room.frames = 7 := rfl
  have hRl : (headSpec ws_LW_route { frames := 7, cells := 1, slots := 6, locals := 112 }).room.locals = 112 := rfl
  have hRc : (headSpec ws_LW_route { frames := 7, cells := 1, slots := 6, locals := 112 }).room.cells = 1 := rfl
  have hRs : (headSpec ws_LW_route { frames := 7, cells := 1, slots := 6, locals := 112 }).room.slots = 6 := rfl
  generalize (headSpec ws_LW_route { frames := 7, cells := 1, slots := 6, locals := 112 }).room = R at hRf hRl hRc hRs ⊢
  have hS : va_S (hm_A B) s.heap s.heap [] := va_S.rf
  have hl := lv_entry ([.ref (N 0), .int x, .ref w9]) (n := 4) (Nat.le_of_ble_eq_true rfl)
  rw [lg_entry_eq]
  generalize (lg_sl ([.ref (N 0), .int x, .ref w9]) ++ List.replicate (4 - (lg_sl ([.ref (N 0), .int x, .ref w9])).length) Slot.unset).toArray = ls at hl ⊢
  have hl : lv_has ls 4 [(0, .ref (N 0)), (1, .int x), (2, .ref w9)] := hl
  refine lv_aload_n hx hb dd_LW_route_0 rfl (lv_at hl 2 rfl) ?_
  refine lv_iconst (v := nI 0) hx hb dd_LW_route_1 (by decide +kernel) ?_
  refine lv_aload_n hx hb dd_LW_route_2 rfl (lv_at hl 0 rfl) ?_
  refine lv_iload_n hx hb dd_LW_route_3 rfl (lv_at hl 1 rfl) ?_
  obtain ⟨xa, hsa, ha1, ha2, ha3, ha4⟩ := ht_1 htab
  refine xt_catch 1 (As := [.int x]) (rest := [.int (nI 0), .ref w9]) ⟨hx, hb, hml, hown, hts⟩ hE hS hP (kt_RD_route l B D G M hfl N O hI ex hX x hx8) rfl hI.o tw_895 tw_892 tw_893 tw_894 tw_36 (by decide +kernel) rfl rfl ⟨by show 6 + 1 ≤ R.frames; omega, by show 8 + (3 + 11) + 90 ≤ R.locals; omega⟩ rfl hl.1 rfl (Nat.le_of_ble_eq_true rfl) dd_LW_route_4 ⟨by omega, by omega⟩ [] xa [] hsa (fun _ _ z hz => absurd hz List.not_mem_nil) (by unfold covers; rw [ha1, ha2]; rfl) (by rw [ha4]; decide) (by rw [ha4]; exact hts _ tw_776) (hE.nest 10 rfl) (fun v1 M2 H locs hw3 hP hS => ?_)
  refine W.widen (k := 1) (n := 6) (by omega) (by omega) ?_
  refine W.eq (g2 := F0 m 12 ls [.ref v1]) (by rw [ha3]) ?_
  have eM2 := hw3
  refine lv_astore_n (lv' := [(3, .ref v1), (0, .ref (N 0)), (1, .int x), (2, .ref w9)]) hx hb dd_LW_route_12 rfl hl (by decide) rfl (fun ls hl => ?_)
  refine lv_iconst (v := nI 1) hx hb dd_LW_route_13 (by decide +kernel) ?_
  exact hm_Ei (v := nI 1) hx hb hr rfl hS hP (⟨rfl, eM2⟩) hlocks (by omega) (by omega) dd_LW_route_14
set_option maxHeartbeats 4000000 in
set_option maxRecDepth 100000 in
theorem kc_LF0 (l : Launch) (B : Nat) (D : va_G) (G : Nat → Nat) (M : hm_M) (N O : Nat → Nat) (hI : im_R D G N O M) (ps : Nat → Bool) (od : Nat → Int32) (fo : Nat → Bool) (hR : rt_R B D N O M ps od fo) (w9 : Nat) (fw : Nat → Int64) (hw9 : M w9 = some (.inl (D.1 103, 1, .inr (.inl fw)))) (hA_w9 : hm_A B w9) (how : O w9 = 50) (i : Int32) (hne : ¬ fo_r fo i = -1) : Met l yy_LW_found ws_LW_found ({ frames := 2, cells := 0, slots := 0, locals := 45 }) (hm_Pc B D G M [.ref (N 0), .int i, .ref w9]) (hm_Ni B D (fun r M1 => r = nI 0 ∧ ∃ (O1 : Nat → Nat) (f1 : Nat → Int64), f1 0 = (fo_r fo i).toInt64 ∧ M1 w9 = some (.inl (D.1 103, 1, .inr (.inl f1))) ∧ cz_F O M O1 M1 pw)) (0) (0) (hm_A B) := by
  refine Met.ofWH (cc := cd_LW_found) (maxL := 4) (ret := ((some FieldType.int))) (by decide) rfl ?_
  intro p e s m args below meth c s₁ B0 hml hv htab
  obtain ⟨rfl, hE, hP⟩ := hv
  have hx := B0.exec
  have hb := B0.bytes
  have hr := B0.returns
  have hts : ∀ w ∈ tb_G, w.before _ s = true := fun w h => atoms_spec (ws := ws_LW_found) B0.pre w (List.mem_cons_of_mem _ h)
  have hown : s.vm.findClass "RouteDeskLaw" = some m.cls := findClass_of_methodNamed B0.named
  have hlocks := B0.notSynchronized
  have hRf : (headSpec ws_LW_found { frames := 2, cells := 0, slots := 0, locals := 45 }).room.frames = 2 := rfl
  have hRl : (headSpec ws_LW_found { frames := 2, cells := 0, slots := 0, locals := 45 }).room.locals = 45 := rfl
  have hRc : (headSpec ws_LW_found { frames := 2, cells := 0, slots := 0, locals := 45 }).room.cells = 0 := rfl
  have hRs : (headSpec ws_LW_found { frames := 2, cells := 0, slots := 0, locals := 45 }).room.slots = 0 := rfl
  generalize (headSpec ws_LW_found { frames := 2, cells := 0, slots := 0, locals := 45 }).room = R at hRf hRl hRc hRs ⊢
  have hS : va_S (hm_A B) s.heap s.heap [] := va_S.rf
  have hl := lv_entry ([.ref (N 0), .int i, .ref w9]) (n := 4) (Nat.le_of_ble_eq_true rfl)
  rw [lg_entry_eq]
  generalize (lg_sl ([.ref (N 0), .int i, .ref w9]) ++ List.replicate (4 - (lg_sl ([.ref (N 0), .int i, .ref w9])).length) Slot.unset).toArray = ls at hl ⊢
  have hl : lv_has ls 4 [(0, .ref (N 0)), (1, .int i), (2, .ref w9)] := hl
  refine lv_aload_n hx hb dd_LW_found_0 rfl (lv_at hl 2 rfl) ?_
  refine lv_iconst (v := nI 0) hx hb dd_LW_found_1 (by decide +kernel) ?_
  refine lv_aload_n hx hb dd_LW_found_2 rfl (lv_at hl 0 rfl) ?_
  refine lv_iload_n hx hb dd_LW_found_3 rfl (lv_at hl 1 rfl) ?_
  refine hm_ci hS (hm_rV 1 (As := [.int i]) (rest := [.int (nI 0), .ref w9]) ⟨hx, hb, hml, hown, hts⟩ hE hS hP (kc_RD_found l B D G M N O hI ps od fo hR i hne) rfl hI.o tw_959 tw_956 tw_957 tw_958 tw_36 (by decide +kernel) rfl rfl ⟨by show 1 + 1 ≤ R.frames; omega, by show 8 + (3 + 11) + 23 ≤ R.locals; omega⟩ rfl hl.1 rfl (Nat.le_of_ble_eq_true rfl) dd_LW_found_4 ⟨by omega, by omega⟩) (fun r1 M2 H locs hw3 hP hS => ?_)
  refine W.widen (k := 0) (n := 0) (by omega) (by omega) ?_
  obtain ⟨rfl, eM2⟩ := hw3
  rw [eM2] at hP
  refine lv_i2l hx hb dd_LW_found_7 rfl ?_
  refine lv_topl (fun w4 ew4 => ?_)
  refine hm_last (j := 0) hx hb hE.K hP hS hA_w9 3 hw9 rfl (vp_in_nI (by omega) (by omega)) (nI_clamp (by omega)) dd_LW_found_8 (fun H locs hP hS => ?_)
  obtain ⟨M5, eM5⟩ : ∃ z, z = hm_up M w9 (.inl (D.1 103, 1, .inr (.inl (vp_updL fw 0 w4)))) := ⟨_, rfl⟩
  rw [← eM5] at hP
  have f6 : M5 (N 0) = some (.inr (0, [.ref (N 1), .ref (N 2), .ref (N 3), .ref (N 4), .ref (N 5), .ref (N 7)])) := by rw [eM5]; exact hm_up_o (hm_ne hI.o hw9 (by intro h9; cases h9)) hI.o
  have f7 : M5 w9 = some (.inl (D.1 103, 1, .inr (.inl (vp_updL fw 0 w4)))) := by rw [eM5]; exact hm_up_s
  refine lv_goto (tgt := 15) hx hb dd_LW_found_9 (by decide) ?_
  refine lv_iconst (v := nI 0) hx hb dd_LW_found_15 (by decide +kernel) ?_
  have how8 := how
  have hF9 : cz_F O M O M5 pw := by rw [eM5]; exact cz_F.up (by rw [how8]; rfl)
  exact hm_Ei (v := nI 0) hx hb hr rfl hS hP (⟨rfl, O, vp_updL fw 0 w4, by show vp_updL fw 0 w4 0 = _; rw [show vp_updL fw 0 w4 0 = w4 from if_pos rfl, ew4], f7, hF9⟩) hlocks (by omega) (by omega) dd_LW_found_16
set_option maxHeartbeats 4000000 in
set_option maxRecDepth 100000 in
theorem kc_LF1 (l : Launch) (B : Nat) (D : va_G) (G : Nat → Nat) (M : hm_M) (hfl : l.flags = flags0) (N O : Nat → Nat) (hI : im_R D G N O M) (ps : Nat → Bool) (od : Nat → Int32) (fo : Nat → Bool) (hR : rt_R B D N O M ps od fo) (w9 : Nat) (fw : Nat → Int64) (hw9 : M w9 = some (.inl (D.1 103, 1, .inr (.inl fw)))) (hA_w9 : hm_A B w9) (how : O w9 = 50) (i : Int32) (hne : fo_r fo i = -1) : Met l yy_LW_found ws_LW_found ({ frames := 7, cells := 1, slots := 6, locals := 112 }) (hm_Pc B D G M [.ref (N 0), .int i, .ref w9]) (hm_Ni B D (fun r M1 => r = nI 1 ∧ M1 = M)) (1) (6) (hm_A B) := by
  refine Met.ofWH (cc := cd_LW_found) (maxL := 4) (ret := ((some FieldType.int))) (by decide) rfl ?_
  intro p e s m args below meth c s₁ B0 hml hv htab
  obtain ⟨rfl, hE, hP⟩ := hv
  have hx := B0.exec
  have hb := B0.bytes
  have hr := B0.returns
  have hts : ∀ w ∈ tb_G, w.before _ s = true := fun w h => atoms_spec (ws := ws_LW_found) B0.pre w (List.mem_cons_of_mem _ h)
  have hown : s.vm.findClass "RouteDeskLaw" = some m.cls := findClass_of_methodNamed B0.named
  have hlocks := B0.notSynchronized
  have hRf : (headSpec ws_LW_found { frames := 7, cells := 1, slots := 6, locals := 112 }).room.frames = 7 := rfl
  have hRl : (headSpec ws_LW_found { frames := 7, cells := 1, slots := 6, locals := 112 }).room.locals = 112 := rfl
  have hRc : (headSpec ws_LW_found { frames := 7, cells := 1, slots := 6, locals := 112 }).room.cells = 1 := rfl
  have hRs : (headSpec ws_LW_found { frames := 7, cells := 1, slots := 6, locals := 112 }).room.slots = 6 := rfl
  generalize (headSpec ws_LW_found { frames := 7, cells := 1, slots := 6, locals := 112 }).room = R at hRf hRl hRc hRs ⊢
  have hS : va_S (hm_A B) s.heap s.heap [] := va_S.rf
  have hl := lv_entry ([.ref (N 0), .int i, .ref w9]) (n := 4) (Nat.le_of_ble_eq_true rfl)
  rw [lg_entry_eq]
  generalize (lg_sl ([.ref (N 0), .int i, .ref w9]) ++ List.replicate (4 - (lg_sl ([.ref (N 0), .int i, .ref w9])).length) Slot.unset).toArray = ls at hl ⊢
  have hl : lv_has ls 4 [(0, .ref (N 0)), (1, .int i), (2, .ref w9)] := hl
  refine lv_aload_n hx hb dd_LW_found_0 rfl (lv_at hl 2 rfl) ?_
  refine lv_iconst (v := nI 0) hx hb dd_LW_found_1 (by decide +kernel) ?_
  refine lv_aload_n hx hb dd_LW_found_2 rfl (lv_at hl 0 rfl) ?_
  refine lv_iload_n hx hb dd_LW_found_3 rfl (lv_at hl 1 rfl) ?_
  obtain ⟨xa, hsa, ha1, ha2, ha3, ha4⟩ := ht_1 htab
  refine xt_catch 1 (As := [.int i]) (rest := [.int (nI 0), .ref w9]) ⟨hx, hb, hml, hown, hts⟩ hE hS hP (kt_RD_found l B D G M hfl N O hI ps od fo hR i hne) rfl hI.o tw_959 tw_956 tw_957 tw_958 tw_36 (by decide +kernel) rfl rfl ⟨by show 6 + 1 ≤ R.frames; omega, by show 8 + (3 + 11) + 90 ≤ R.locals; omega⟩ rfl hl.1 rfl (Nat.le_of_ble_eq_true rfl) dd_LW_found_4 ⟨by omega, by omega⟩ [] xa [] hsa (fun _ _ z hz => absurd hz List.not_mem_nil) (by unfold covers; rw [ha1, ha2]; rfl) (by rw [ha4]; decide) (by rw [ha4]; exact hts _ tw_955) (hE.nest 22 rfl) (fun v1 M2 H locs hw3 hP hS => ?_)
  refine W.widen (k := 1) (n := 6) (by omega) (by omega) ?_
  refine W.eq (g2 := F0 m 12 ls [.ref v1]) (by rw [ha3]) ?_
  have eM2 := hw3
  refine lv_astore_n (lv' := [(3, .ref v1), (0, .ref (N 0)), (1, .int i), (2, .ref w9)]) hx hb dd_LW_found_12 rfl hl (by decide) rfl (fun ls hl => ?_)
  refine lv_iconst (v := nI 1) hx hb dd_LW_found_13 (by decide +kernel) ?_
  exact hm_Ei (v := nI 1) hx hb hr rfl hS hP (⟨rfl, eM2⟩) hlocks (by omega) (by omega) dd_LW_found_14
