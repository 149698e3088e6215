/-! calls of inherited methods; bytes -/
section HCU
variable {p : Program} {l : Launch} {e : Env} {R : Room} {s : State} {m : MethodId} {args : Array Value} {below : List Frame} {meth : Method} {c : Code} {H : Heap} {locs : List Loc} {cells slots : Nat} {Q : State → Prop}
variable {cc : ByteArray} {pc : Nat} {ls : Array Slot} {rest st0 : List Value} {B : Nat} {D : va_G} {G : Nat → Nat} {M : hm_M} {a : Array Value} {mc ms : Nat} {H0 : Heap}
variable {x y : MethodName} {bytes : ByteArray} {maxL index nL : Nat} {ret : Option FieldType} {rm : Room} {own C : String} {Qc : Array Value → State → Outcome → State → Prop} {b : Nat} {As : List Value}
/-- a private method is the one that is run, whatever the receiver's class -/
theorem hm_selP {n : Nat} (hins : (Cond.instantiable C n).before args s = true) (hpriv : (Cond.privateMethod y).before args s = true) (hinst : (Cond.instanceMethod y).before args s = true) (hsame : (Cond.sameMethod y.cls y.cls y.name y.desc).before args s = true) : (Cond.selects C y y).before args s = true := by
  obtain ⟨c, k, hc, hk, -, -, -, -⟩ := Cond.instantiable_spec hins
  obtain ⟨mk, methM, hnamed, hmethM, -, -⟩ := Cond.instanceMethod_spec hinst
  obtain ⟨c2, k2, r, hc2, hk2, hni, hfound, hn2⟩ := Cond.sameMethod_found hsame
  have hr : r = mk := Option.some.inj (hn2.symm.trans hnamed)
  subst hr
  have hcls : r.cls = c2 := Option.some.inj ((findClass_of_methodNamed hnamed).symm.trans hc2)
  have hsel : selectMethod {} s.vm c r = .method r := selectMethod_private hmethM (Cond.privateMethod_at hpriv r methM hnamed hmethM)
  simp only [Cond.before, Cond.holds, Cond.value, hc, hfound, hnamed, hsel, hcls, hk2]
  simp; exact hni
/-- super.y(..) -/
theorem hm_rSU (n : Nat) {ci : Nat} {r : vw_C} {fs : List Value} (S : CallFix p m c cc nL s args tb_G own) (hE : ev_E B D G s) (hS : va_S (hm_A B) s.heap H locs) (hP : hm_P D cl_W M H) (hM : Met l y (Cond.code y bytes maxL ret :: tb_G) rm (hm_Pc B D G M (.ref b :: As)) Qc mc ms (hm_A B))
    (hcl : cl_W[ci]? = some r) (he : M b = some (.inr (ci, fs))) (hc : Cond.code y bytes maxL ret ∈ tb_G) (hl : Cond.methodLink own index y ∈ tb_G) (hin : Cond.instanceMethod y ∈ tb_G) (hsa : Cond.sameMethod y.cls y.cls y.name y.desc ∈ tb_G) (hsu : Cond.superclass own y.cls ∈ tb_G) (hi : Cond.initialized y.cls ∈ tb_G) (hd : y.name ≠ "<init>" ∧ (parseMethodDescriptor y.desc).map (fun d => d.parameters.length) = some n) (hrc : rm.cells = mc) (hrs : rm.slots = ms) (hR : rm.frames + 1 ≤ R.frames ∧ 8 + (maxL + 11) + rm.locals ≤ R.locals)
    (hn : As.length = n) (hsize : ls.size = nL) (hstk : st0 = As.reverse ++ .ref b :: rest) (hW : (rest.map fun v => v.category).sum ≤ 8) (hdg : decode cc pc = .ok (.invokespecial index, 3)) (hf : cells + mc ≤ R.cells ∧ slots + ms ≤ R.slots) :
    va_Run p l e R s m args below meth c H locs cells slots mc ms (F0 m pc ls st0) rest (Qc (Value.ref b :: As).toArray) (hm_A B) := by
  have hG : GoodIn tb_G (va_wsSU own index y (Cond.code y bytes maxL ret :: tb_G)) := fun w hw => by
    unfold va_wsSU at hw
    rcases List.mem_append.mp hw with h | h
    · simp only [List.mem_cons, List.not_mem_nil, or_false] at h
      rcases h with h | h | h | h | h <;> subst h
      · exact ⟨hl, tb_good hl⟩
      · exact ⟨hsa, tb_good hsa⟩
      · exact ⟨hsu, tb_good hsu⟩
      · exact ⟨hin, tb_good hin⟩
      · exact ⟨hi, tb_good hi⟩
    · exact tg_go hc w h
  exact va_runSU (C := r.1) (As := As) (rest := rest) (hE.K.1.1 ci r hcl).2 S hM (va_cwSU n S.2.2.2.2 hG rfl hrc hrs hd hR) ⟨hm_blind, hm_recv hE.K hP hcl he, fun U hU hW => ⟨rfl, hE.go hS hU hW, by rw [hU]; exact hP⟩⟩ rfl hn hsize hstk (lv_room hW) hdg hf
/-- an overriding method -/
theorem hm_rO (n : Nat) {ci : Nat} {r : vw_C} {fs : List Value} {b0 : ByteArray} {m0 : Nat} {r0 : Option FieldType} (S : CallFix p m c cc nL s args tb_G own) (hE : ev_E B D G s) (hS : va_S (hm_A B) s.heap H locs) (hP : hm_P D cl_W M H) (hM : Met l y (Cond.code y bytes maxL ret :: tb_G) rm (hm_Pc B D G M (.ref b :: As)) Qc mc ms (hm_A B))
    (hcl : cl_W[ci]? = some r) (he : M b = some (.inr (ci, fs))) (hc : Cond.code y bytes maxL ret ∈ tb_G) (hl : Cond.methodLink own index x ∈ tb_G) (hsa : Cond.sameMethod x.cls x.cls x.name x.desc ∈ tb_G) (hix : Cond.instanceMethod x ∈ tb_G) (hse : Cond.selects r.1 x y ∈ tb_G) (hin : Cond.instanceMethod y ∈ tb_G) (hi : Cond.initialized y.cls ∈ tb_G) (h0 : Cond.code x b0 m0 r0 ∈ tb_G) (hd : x.cls ≠ "java/lang/invoke/MethodHandle" ∧ x.cls ≠ "java/lang/invoke/VarHandle" ∧ (parseMethodDescriptor x.desc).map (fun d => d.parameters.length) = some n) (hrc : rm.cells = mc) (hrs : rm.slots = ms) (hR : rm.frames + 1 ≤ R.frames ∧ 8 + (maxL + 11) + rm.locals ≤ R.locals)
    (hn : As.length = n) (hsize : ls.size = nL) (hstk : st0 = As.reverse ++ .ref b :: rest) (hW : (rest.map fun v => v.category).sum ≤ 8) (hdg : decode cc pc = .ok (.invokevirtual index, 3)) (hf : cells + mc ≤ R.cells ∧ slots + ms ≤ R.slots) :
    va_Run p l e R s m args below meth c H locs cells slots mc ms (F0 m pc ls st0) rest (Qc (Value.ref b :: As).toArray) (hm_A B) := by
  have hG : GoodIn tb_G (va_wsO own index r.1 x.cls x y (Cond.code y bytes maxL ret :: tb_G)) := fun w hw => by
    unfold va_wsO at hw
    rcases List.mem_append.mp hw with h | h
    · simp only [List.mem_cons, List.not_mem_nil, or_false] at h
      rcases h with h | h | h | h | h | h <;> subst h
      · exact ⟨hl, tb_good hl⟩
      · exact ⟨hsa, tb_good hsa⟩
      · exact ⟨hix, tb_good hix⟩
      · exact ⟨hse, tb_good hse⟩
      · exact ⟨hin, tb_good hin⟩
      · exact ⟨hi, tb_good hi⟩
    · exact tg_go hc w h
  exact va_runU (C := r.1) (owner := x.cls) (x := x) (As := As) (rest := rest) S hM (va_cwO n S.2.2.2.2 hG rfl hrc hrs h0 hd hR) ⟨hm_blind, hm_recv hE.K hP hcl he, fun U hU hW => ⟨rfl, hE.go hS hU hW, by rw [hU]; exact hP⟩⟩ rfl hn hsize hstk (lv_room hW) hdg hf
end HCU
/-- every element is a byte that is a letter -/
def by_F (n : Nat) (f : Nat → Int32) : Prop := ∀ j, j < n → ∃ c, c < 128 ∧ f j = nI c
theorem by_fits : ∀ c, c < 128 → fits .byte (.int (nI c)) = true ∧ narrow .byte (.int (nI c)) = .int (nI c) ∧ vp_nar .byte (nI c) = nI c ∧ vp_nar .char (nI c) = nI c := by decide +kernel
theorem by_F.fit {n : Nat} {f : Nat → Int32} (h : by_F n f) (j : Nat) (hj : j < n) : fits .byte (.int (f j)) = true := by
  obtain ⟨c, hc, e⟩ := h j hj
  rw [e]; exact (by_fits c hc).1
theorem hi_big : (2147483639 : Int32).toInt = 2147483639 := by decide
theorem hi_max {a b : Nat} (ha : a < 2 ^ 31) (hb : b < 2 ^ 31) : (if nI a < nI b then nI b else nI a) = nI (max a b) := by
  by_cases h : a < b
  · rw [if_pos (by rw [Int32.lt_iff_toInt_lt, nI_toInt ha, nI_toInt hb]; omega), Nat.max_eq_right (by omega)]
  · rw [if_neg (by rw [Int32.lt_iff_toInt_lt, nI_toInt ha, nI_toInt hb]; omega), Nat.max_eq_left (by omega)]
theorem hi_min {a b : Nat} (ha : a < 2 ^ 31) (hb : b < 2 ^ 31) : (if nI b < nI a then nI b else nI a) = nI (min a b) := by
  by_cases h : b < a
  · rw [if_pos (by rw [Int32.lt_iff_toInt_lt, nI_toInt ha, nI_toInt hb]; omega), Nat.min_eq_right (by omega)]
  · rw [if_neg (by rw [Int32.lt_iff_toInt_lt, nI_toInt ha, nI_toInt hb]; omega), Nat.min_eq_left (by omega)]
theorem hm_uu {M : hm_M} {a : Nat} {x y : va_E} : hm_up (hm_up M a x) a y = hm_up M a y := by
  funext z; unfold hm_up; split <;> rfl
theorem by_F0 {n : Nat} : by_F n (fun _ => 0) := fun _ _ => ⟨0, by decide, rfl⟩
theorem by_F.cpy {n0 n1 : Nat} {f g : Nat → Int32} (h : by_F n0 f) (hg : by_F n1 g) {sp dp n : Nat} (hs : sp + n ≤ n0) : by_F n1 (va_cpy f g sp dp n) := fun j hj => by
  unfold va_cpy
  split
  · exact h _ (by omega)
  · exact hg _ hj
theorem by_cpy {f g : Nat → Int32} {sp n j : Nat} (h : j < n) : va_cpy f g sp 0 n j = f (sp + j) := by
  rw [va_cpy, if_pos ⟨Nat.zero_le _, by omega⟩, Nat.sub_zero]
theorem by_F.up {n : Nat} {f : Nat → Int32} (h : by_F n f) {c : Nat} (hc : c < 128) (i : Nat) : by_F n (upd f i (nI c)) := fun j hj => by
  unfold upd
  split
  · exact ⟨c, hc, rfl⟩
  · exact h j hj
theorem by_cell {D : va_G} {m : Nat} {f : Nat → Int32} (hf : by_F m f) : ∀ (i : Nat) (x : Value), (vp_cell (D.1 100) (m, .inl f)).slots[i]? = some x → fits .byte x = true := by
  intro i x hx
  have hx2 : (arrV (D.1 100) m (fun j => .int (f j))).slots[i]? = some x := hx
  by_cases h : i < m
  · rw [arrV_read _ _ h] at hx2
    cases hx2
    exact hf.fit i h
  · rw [Array.getElem?_eq_none (by rw [arrV_size]; omega)] at hx2
    cases hx2

set_option maxHeartbeats 4000000 in
set_option maxRecDepth 100000 in
theorem kc_AS_newLength (l : Launch) (B : Nat) (D : va_G) (G : Nat → Nat) (M : hm_M) (a b q : Nat) (ha : a ≤ 100000) (hb9 : b ≤ 100000) (hq : q ≤ 100000) (h0 : 0 < a + b) : Met l yy_AS_newLength ws_AS_newLength ({ frames := 1, cells := 0, slots := 0, locals := 24 }) (hm_Pc B D G M [.int (nI a), .int (nI b), .int (nI q)]) (hm_Ni B D (fun r M1 => r = nI (a + max b q) ∧ M1 = M)) (0) (0) (hm_A B) := by
  refine Met.ofW (cc := cd_AS_newLength) (maxL := 4) (ret := ((some FieldType.int))) (by decide) rfl ?_
  intro p e s m args below meth c s₁ B0 hml hv
  obtain ⟨rfl, hE, hP⟩ := hv
  have hx := B0.exec
  have hb := B0.bytes
  have hr := B0.returns
  have hts : ∀ w ∈ tb_G, w.before _ s = true := fun w h => atoms_spec (ws := ws_AS_newLength) B0.pre w (List.mem_cons_of_mem _ h)
  have hown : s.vm.findClass "jdk/internal/util/ArraysSupport" = some m.cls := findClass_of_methodNamed B0.named
  have hlocks := B0.notSynchronized
  have hRf : (headSpec ws_AS_newLength { frames := 1, cells := 0, slots := 0, locals := 24 }).room.frames = 1 := rfl
  have hRl : (headSpec ws_AS_newLength { frames := 1, cells := 0, slots := 0, locals := 24 }).room.locals = 24 := rfl
  have hRc : (headSpec ws_AS_newLength { frames := 1, cells := 0, slots := 0, locals := 24 }).room.cells = 0 := rfl
  have hRs : (headSpec ws_AS_newLength { frames := 1, cells := 0, slots := 0, locals := 24 }).room.slots = 0 := rfl
  generalize (headSpec ws_AS_newLength { frames := 1, cells := 0, slots := 0, locals := 24 }).room = R at hRf hRl hRc hRs ⊢
  have hS : va_S (hm_A B) s.heap s.heap [] := va_S.rf
  have hl := lv_entry ([.int (nI a), .int (nI b), .int (nI q)]) (n := 4) (Nat.le_of_ble_eq_true rfl)
  rw [lg_entry_eq]
  generalize (lg_sl ([.int (nI a), .int (nI b), .int (nI q)]) ++ List.replicate (4 - (lg_sl ([.int (nI a), .int (nI b), .int (nI q)])).length) Slot.unset).toArray = ls at hl ⊢
  have hl : lv_has ls 4 [(0, .int (nI a)), (1, .int (nI b)), (2, .int (nI q))] := hl
  refine lv_iload_n hx hb dd_AS_newLength_0 rfl (lv_at hl 0 rfl) ?_
  refine lv_iload_n hx hb dd_AS_newLength_1 rfl (lv_at hl 1 rfl) ?_
  refine lv_iload_n hx hb dd_AS_newLength_2 rfl (lv_at hl 2 rfl) ?_
  refine va_mmax hx hb (by rw [hml]; exact hl.1.symm) hown (hts _ tw_235) (hts _ tw_236) (hts _ tw_48) (hts _ tw_237) (by show _ ≤ _; rw [hRf]; exact Nat.le_of_ble_eq_true rfl) (by show _ ≤ _; rw [hRl]; exact Nat.le_of_ble_eq_true rfl) (by omega) (by omega) dd_AS_newLength_3 ?_
  rw [hi_max (a := b) (b := q) (by omega) (by omega)]
  refine hn_iadd hx hb dd_AS_newLength_6 ?_
  refine lv_istore_n (lv' := [(3, .int (nI (a + (max b q)))), (0, .int (nI a)), (1, .int (nI b)), (2, .int (nI q))]) hx hb dd_AS_newLength_7 rfl hl (by decide) rfl (fun ls hl => ?_)
  refine lv_iconst (v := nI 0) hx hb dd_AS_newLength_8 (by decide +kernel) ?_
  refine lv_iload_n hx hb dd_AS_newLength_9 rfl (lv_at hl 0 rfl) ?_
  refine hn_icmp_ge (tgt := 21) hx hb (by omega) (by omega) dd_AS_newLength_10 (by decide) (fun c1 => absurd c1 (by omega)) (fun c1 => ?_)
  refine lv_iload_n hx hb dd_AS_newLength_13 rfl (lv_at hl 0 rfl) ?_
  refine lv_ldc (v := 2147483639) hx hb hown (hts _ tw_238) dd_AS_newLength_14 ?_
  refine hi_icmp_gt (tgt := 21) hx hb dd_AS_newLength_16 (by decide) (fun c2 => absurd c2 (by rw [nI_toInt (by omega), hi_big]; omega)) (fun c2 => ?_)
  refine lv_iload_n hx hb dd_AS_newLength_19 rfl (lv_at hl 0 rfl) ?_
  exact hm_Ei (v := nI (a + (max b q))) hx hb hr rfl hS hP (⟨rfl, rfl⟩) hlocks (by omega) (by omega) dd_AS_newLength_20
set_option maxHeartbeats 4000000 in
set_option maxRecDepth 100000 in
theorem kc_PC_checkFromTo0 (l : Launch) (B : Nat) (D : va_G) (G : Nat → Nat) (M : hm_M) (i j n : Nat) (hi : i ≤ j) (hj : j ≤ n) (hn : n < 2 ^ 31) : Met l yy_PC_checkFromToIndex ws_PC_checkFromToIndex ({ frames := 0, cells := 0, slots := 0, locals := 0 }) (hm_Pc B D G M [.int (nI i), .int (nI j), .int (nI n), .null]) (hm_Ni B D (fun r M1 => r = nI i ∧ M1 = M)) (0) (0) (hm_A B) := by
  refine Met.ofW (cc := cd_PC_checkFromToIndex) (maxL := 4) (ret := ((some FieldType.int))) (by decide) rfl ?_
  intro p e s m args below meth c s₁ B0 hml hv
  obtain ⟨rfl, hE, hP⟩ := hv
  have hx := B0.exec
  have hb := B0.bytes
  have hr := B0.returns
  have hts : ∀ w ∈ tb_G, w.before _ s = true := fun w h => atoms_spec (ws := ws_PC_checkFromToIndex) B0.pre w (List.mem_cons_of_mem _ h)
  have hown : s.vm.findClass "jdk/internal/util/Preconditions" = some m.cls := findClass_of_methodNamed B0.named
  have hlocks := B0.notSynchronized
  have hRf : (headSpec ws_PC_checkFromToIndex { frames := 0, cells := 0, slots := 0, locals := 0 }).room.frames = 0 := rfl
  have hRl : (headSpec ws_PC_checkFromToIndex { frames := 0, cells := 0, slots := 0, locals := 0 }).room.locals = 0 := rfl
  have hRc : (headSpec ws_PC_checkFromToIndex { frames := 0, cells := 0, slots := 0, locals := 0 }).room.cells = 0 := rfl
  have hRs : (headSpec ws_PC_checkFromToIndex { frames := 0, cells := 0, slots := 0, locals := 0 }).room.slots = 0 := rfl
  generalize (headSpec ws_PC_checkFromToIndex { frames := 0, cells := 0, slots := 0, locals := 0 }).room = R at hRf hRl hRc hRs ⊢
  have hS : va_S (hm_A B) s.heap s.heap [] := va_S.rf
  have hl := lv_entry ([.int (nI i), .int (nI j), .int (nI n), .null]) (n := 4) (Nat.le_of_ble_eq_true rfl)
  rw [lg_entry_eq]
  generalize (lg_sl ([.int (nI i), .int (nI j), .int (nI n), .null]) ++ List.replicate (4 - (lg_sl ([.int (nI i), .int (nI j), .int (nI n), .null])).length) Slot.unset).toArray = ls at hl ⊢
  have hl : lv_has ls 4 [(0, .int (nI i)), (1, .int (nI j)), (2, .int (nI n)), (3, .null)] := hl
  refine lv_iload_n hx hb dd_PC_checkFromToIndex_0 rfl (lv_at hl 0 rfl) ?_
  refine hn_if_lt (tgt := 14) hx hb (by omega) dd_PC_checkFromToIndex_1 (by decide) ?_
  refine lv_iload_n hx hb dd_PC_checkFromToIndex_4 rfl (lv_at hl 0 rfl) ?_
  refine lv_iload_n hx hb dd_PC_checkFromToIndex_5 rfl (lv_at hl 1 rfl) ?_
  refine hn_icmp_gt (tgt := 14) hx hb (by omega) (by omega) dd_PC_checkFromToIndex_6 (by decide) (fun c2 => absurd c2 (by omega)) (fun c2 => ?_)
  refine lv_iload_n hx hb dd_PC_checkFromToIndex_9 rfl (lv_at hl 1 rfl) ?_
  refine lv_iload_n hx hb dd_PC_checkFromToIndex_10 rfl (lv_at hl 2 rfl) ?_
  refine hn_icmp_le (tgt := 22) hx hb (by omega) (by omega) dd_PC_checkFromToIndex_11 (by decide) (fun c3 => ?_) (fun c3 => absurd c3 (by omega))
  refine lv_iload_n hx hb dd_PC_checkFromToIndex_22 rfl (lv_at hl 0 rfl) ?_
  exact hm_Ei (v := nI i) hx hb hr rfl hS hP (⟨rfl, rfl⟩) hlocks (by omega) (by omega) dd_PC_checkFromToIndex_23
set_option maxHeartbeats 4000000 in
set_option maxRecDepth 100000 in
theorem kc_PC_checkFromTo1 (l : Launch) (B : Nat) (D : va_G) (G : Nat → Nat) (M : hm_M) (z : Nat) (i j n : Nat) (hi : i ≤ j) (hj : j ≤ n) (hn : n < 2 ^ 31) : Met l yy_PC_checkFromToIndex ws_PC_checkFromToIndex ({ frames := 0, cells := 0, slots := 0, locals := 0 }) (hm_Pc B D G M [.int (nI i), .int (nI j), .int (nI n), .ref z]) (hm_Ni B D (fun r M1 => r = nI i ∧ M1 = M)) (0) (0) (hm_A B) := by
  refine Met.ofW (cc := cd_PC_checkFromToIndex) (maxL := 4) (ret := ((some FieldType.int))) (by decide) rfl ?_
  intro p e s m args below meth c s₁ B0 hml hv
  obtain ⟨rfl, hE, hP⟩ := hv
  have hx := B0.exec
  have hb := B0.bytes
  have hr := B0.returns
  have hts : ∀ w ∈ tb_G, w.before _ s = true := fun w h => atoms_spec (ws := ws_PC_checkFromToIndex) B0.pre w (List.mem_cons_of_mem _ h)
  have hown : s.vm.findClass "jdk/internal/util/Preconditions" = some m.cls := findClass_of_methodNamed B0.named
  have hlocks := B0.notSynchronized
  have hRf : (headSpec ws_PC_checkFromToIndex { frames := 0, cells := 0, slots := 0, locals := 0 }).room.frames = 0 := rfl
  have hRl : (headSpec ws_PC_checkFromToIndex { frames := 0, cells := 0, slots := 0, locals := 0 }).room.locals = 0 := rfl
  have hRc : (headSpec ws_PC_checkFromToIndex { frames := 0, cells := 0, slots := 0, locals := 0 }).room.cells = 0 := rfl
  have hRs : (headSpec ws_PC_checkFromToIndex { frames := 0, cells := 0, slots := 0, locals := 0 }).room.slots = 0 := rfl
  generalize (headSpec ws_PC_checkFromToIndex { frames := 0, cells := 0, slots := 0, locals := 0 }).room = R at hRf hRl hRc hRs ⊢
  have hS : va_S (hm_A B) s.heap s.heap [] := va_S.rf
  have hl := lv_entry ([.int (nI i), .int (nI j), .int (nI n), .ref z]) (n := 4) (Nat.le_of_ble_eq_true rfl)
  rw [lg_entry_eq]
  generalize (lg_sl ([.int (nI i), .int (nI j), .int (nI n), .ref z]) ++ List.replicate (4 - (lg_sl ([.int (nI i), .int (nI j), .int (nI n), .ref z])).length) Slot.unset).toArray = ls at hl ⊢
  have hl : lv_has ls 4 [(0, .int (nI i)), (1, .int (nI j)), (2, .int (nI n)), (3, .ref z)] := hl
  refine lv_iload_n hx hb dd_PC_checkFromToIndex_0 rfl (lv_at hl 0 rfl) ?_
  refine hn_if_lt (tgt := 14) hx hb (by omega) dd_PC_checkFromToIndex_1 (by decide) ?_
  refine lv_iload_n hx hb dd_PC_checkFromToIndex_4 rfl (lv_at hl 0 rfl) ?_
  refine lv_iload_n hx hb dd_PC_checkFromToIndex_5 rfl (lv_at hl 1 rfl) ?_
  refine hn_icmp_gt (tgt := 14) hx hb (by omega) (by omega) dd_PC_checkFromToIndex_6 (by decide) (fun c2 => absurd c2 (by omega)) (fun c2 => ?_)
  refine lv_iload_n hx hb dd_PC_checkFromToIndex_9 rfl (lv_at hl 1 rfl) ?_
  refine lv_iload_n hx hb dd_PC_checkFromToIndex_10 rfl (lv_at hl 2 rfl) ?_
  refine hn_icmp_le (tgt := 22) hx hb (by omega) (by omega) dd_PC_checkFromToIndex_11 (by decide) (fun c3 => ?_) (fun c3 => absurd c3 (by omega))
  refine lv_iload_n hx hb dd_PC_checkFromToIndex_22 rfl (lv_at hl 0 rfl) ?_
  exact hm_Ei (v := nI i) hx hb hr rfl hS hP (⟨rfl, rfl⟩) hlocks (by omega) (by omega) dd_PC_checkFromToIndex_23
set_option maxHeartbeats 4000000 in
set_option maxRecDepth 100000 in
theorem kc_ST_checkBounds (l : Launch) (B : Nat) (D : va_G) (G : Nat → Nat) (M : hm_M) (i j n : Nat) (hi : i ≤ j) (hj : j ≤ n) (hn : n < 2 ^ 31) : Met l yy_ST_checkBoundsBeginEnd ws_ST_checkBoundsBeginEnd ({ frames := 1, cells := 0, slots := 0, locals := 23 }) (hm_Pc B D G M [.int (nI i), .int (nI j), .int (nI n)]) (hm_Nv B D (fun M1 => M1 = M)) (0) (0) (hm_A B) := by
  refine Met.ofW (cc := cd_ST_checkBoundsBeginEnd) (maxL := 3) (ret := none) (by decide) rfl ?_
  intro p e s m args below meth c s₁ B0 hml hv
  obtain ⟨rfl, hE, hP⟩ := hv
  have hx := B0.exec
  have hb := B0.bytes
  have hr := B0.returns
  have hts : ∀ w ∈ tb_G, w.before _ s = true := fun w h => atoms_spec (ws := ws_ST_checkBoundsBeginEnd) B0.pre w (List.mem_cons_of_mem _ h)
  have hown : s.vm.findClass "java/lang/String" = some m.cls := findClass_of_methodNamed B0.named
  have hlocks := B0.notSynchronized
  have hRf : (headSpec ws_ST_checkBoundsBeginEnd { frames := 1, cells := 0, slots := 0, locals := 23 }).room.frames = 1 := rfl
  have hRl : (headSpec ws_ST_checkBoundsBeginEnd { frames := 1, cells := 0, slots := 0, locals := 23 }).room.locals = 23 := rfl
  have hRc : (headSpec ws_ST_checkBoundsBeginEnd { frames := 1, cells := 0, slots := 0, locals := 23 }).room.cells = 0 := rfl
  have hRs : (headSpec ws_ST_checkBoundsBeginEnd { frames := 1, cells := 0, slots := 0, locals := 23 }).room.slots = 0 := rfl
  generalize (headSpec ws_ST_checkBoundsBeginEnd { frames := 1, cells := 0, slots := 0, locals := 23 }).room = R at hRf hRl hRc hRs ⊢
  have hS : va_S (hm_A B) s.heap s.heap [] := va_S.rf
  have hl := lv_entry ([.int (nI i), .int (nI j), .int (nI n)]) (n := 3) (Nat.le_of_ble_eq_true rfl)
  rw [lg_entry_eq]
  generalize (lg_sl ([.int (nI i), .int (nI j), .int (nI n)]) ++ List.replicate (3 - (lg_sl ([.int (nI i), .int (nI j), .int (nI n)])).length) Slot.unset).toArray = ls at hl ⊢
  have hl : lv_has ls 3 [(0, .int (nI i)), (1, .int (nI j)), (2, .int (nI n))] := hl
  refine lv_iload_n hx hb dd_ST_checkBoundsBeginEnd_0 rfl (lv_at hl 0 rfl) ?_
  refine lv_iload_n hx hb dd_ST_checkBoundsBeginEnd_1 rfl (lv_at hl 1 rfl) ?_
  refine lv_iload_n hx hb dd_ST_checkBoundsBeginEnd_2 rfl (lv_at hl 2 rfl) ?_
  rcases hE.2.2.2.2.2.2.1 with hZf | ⟨zf, hZf⟩
  · refine va_gets hx hb hZf hS hown (hts _ tw_286) (fun _ h9 => h9) dd_ST_checkBoundsBeginEnd_3 ?_
    refine hm_ci hS (hm_rS 4 (As := [.int (nI i), .int (nI j), .int (nI n), .null]) (rest := []) ⟨hx, hb, hml, hown, hts⟩ hE hS hP (kc_PC_checkFromTo0 l B D G M i j n hi hj hn) tw_466 tw_464 tw_465 tw_52 (by decide +kernel) rfl rfl ⟨by show 0 + 1 ≤ R.frames; omega, by show 8 + (4 + 11) + 0 ≤ R.locals; omega⟩ rfl hl.1 rfl (Nat.le_of_ble_eq_true rfl) dd_ST_checkBoundsBeginEnd_6 ⟨by omega, by omega⟩) (fun r1 M2 H locs hw3 hP hS => ?_)
    refine W.widen (k := 0) (n := 0) (by omega) (by omega) ?_
    obtain ⟨rfl, eM2⟩ := hw3
    rw [eM2] at hP
    refine lv_pop hx hb dd_ST_checkBoundsBeginEnd_9 rfl ?_
    exact hm_Ev hx hb hr hS hP (rfl) hlocks (by omega) (by omega) dd_ST_checkBoundsBeginEnd_10
  · refine va_gets hx hb hZf hS hown (hts _ tw_286) (fun _ h9 => h9) dd_ST_checkBoundsBeginEnd_3 ?_
    refine hm_ci hS (hm_rS 4 (As := [.int (nI i), .int (nI j), .int (nI n), .ref zf]) (rest := []) ⟨hx, hb, hml, hown, hts⟩ hE hS hP (kc_PC_checkFromTo1 l B D G M zf i j n hi hj hn) tw_466 tw_464 tw_465 tw_52 (by decide +kernel) rfl rfl ⟨by show 0 + 1 ≤ R.frames; omega, by show 8 + (4 + 11) + 0 ≤ R.locals; omega⟩ rfl hl.1 rfl (Nat.le_of_ble_eq_true rfl) dd_ST_checkBoundsBeginEnd_6 ⟨by omega, by omega⟩) (fun r4 M5 H locs hw6 hP hS => ?_)
    refine W.widen (k := 0) (n := 0) (by omega) (by omega) ?_
    obtain ⟨rfl, eM5⟩ := hw6
    rw [eM5] at hP
    refine lv_pop hx hb dd_ST_checkBoundsBeginEnd_9 rfl ?_
    exact hm_Ev hx hb hr hS hP (rfl) hlocks (by omega) (by omega) dd_ST_checkBoundsBeginEnd_10
set_option maxHeartbeats 4000000 in
set_option maxRecDepth 100000 in
theorem kc_AR_checkLength (l : Launch) (B : Nat) (D : va_G) (G : Nat → Nat) (M : hm_M) (i j : Nat) (hi : i ≤ j) (hj : j < 2 ^ 31) : Met l yy_AR_checkLength ws_AR_checkLength ({ frames := 0, cells := 0, slots := 0, locals := 0 }) (hm_Pc B D G M [.int (nI i), .int (nI j)]) (hm_Nv B D (fun M1 => M1 = M)) (0) (0) (hm_A B) := by
  refine Met.ofW (cc := cd_AR_checkLength) (maxL := 2) (ret := none) (by decide) rfl ?_
  intro p e s m args below meth c s₁ B0 hml hv
  obtain ⟨rfl, hE, hP⟩ := hv
  have hx := B0.exec
  have hb := B0.bytes
  have hr := B0.returns
  have hts : ∀ w ∈ tb_G, w.before _ s = true := fun w h => atoms_spec (ws := ws_AR_checkLength) B0.pre w (List.mem_cons_of_mem _ h)
  have hown : s.vm.findClass "java/util/Arrays" = some m.cls := findClass_of_methodNamed B0.named
  have hlocks := B0.notSynchronized
  have hRf : (headSpec ws_AR_checkLength { frames := 0, cells := 0, slots := 0, locals := 0 }).room.frames = 0 := rfl
  have hRl : (headSpec ws_AR_checkLength { frames := 0, cells := 0, slots := 0, locals := 0 }).room.locals = 0 := rfl
  have hRc : (headSpec ws_AR_checkLength { frames := 0, cells := 0, slots := 0, locals := 0 }).room.cells = 0 := rfl
  have hRs : (headSpec ws_AR_checkLength { frames := 0, cells := 0, slots := 0, locals := 0 }).room.slots = 0 := rfl
  generalize (headSpec ws_AR_checkLength { frames := 0, cells := 0, slots := 0, locals := 0 }).room = R at hRf hRl hRc hRs ⊢
  have hS : va_S (hm_A B) s.heap s.heap [] := va_S.rf
  have hl := lv_entry ([.int (nI i), .int (nI j)]) (n := 2) (Nat.le_of_ble_eq_true rfl)
  rw [lg_entry_eq]
  generalize (lg_sl ([.int (nI i), .int (nI j)]) ++ List.replicate (2 - (lg_sl ([.int (nI i), .int (nI j)])).length) Slot.unset).toArray = ls at hl ⊢
  have hl : lv_has ls 2 [(0, .int (nI i)), (1, .int (nI j))] := hl
  refine lv_iload_n hx hb dd_AR_checkLength_0 rfl (lv_at hl 1 rfl) ?_
  refine lv_iload_n hx hb dd_AR_checkLength_1 rfl (lv_at hl 0 rfl) ?_
  refine hn_icmp_ge (tgt := 37) hx hb (by omega) (by omega) dd_AR_checkLength_2 (by decide) (fun c1 => ?_) (fun c1 => absurd c1 (by omega))
  exact hm_Ev hx hb hr hS hP (rfl) hlocks (by omega) (by omega) dd_AR_checkLength_37
set_option maxHeartbeats 4000000 in
set_option maxRecDepth 100000 in
theorem kc_SL_canEncode (l : Launch) (B : Nat) (D : va_G) (G : Nat → Nat) (M : hm_M) (c9 : Nat) (hc : c9 < 128) : Met l yy_SL_canEncode ws_SL_canEncode ({ frames := 0, cells := 0, slots := 0, locals := 0 }) (hm_Pc B D G M [.int (nI c9)]) (hm_Ni B D (fun r M1 => r = nI 1 ∧ M1 = M)) (0) (0) (hm_A B) := by
  refine Met.ofW (cc := cd_SL_canEncode) (maxL := 1) (ret := ((some FieldType.boolean))) (by decide) rfl ?_
  intro p e s m args below meth c s₁ B0 hml hv
  obtain ⟨rfl, hE, hP⟩ := hv
  have hx := B0.exec
  have hb := B0.bytes
  have hr := B0.returns
  have hts : ∀ w ∈ tb_G, w.before _ s = true := fun w h => atoms_spec (ws := ws_SL_canEncode) B0.pre w (List.mem_cons_of_mem _ h)
  have hown : s.vm.findClass "java/lang/StringLatin1" = some m.cls := findClass_of_methodNamed B0.named
  have hlocks := B0.notSynchronized
  have hRf : (headSpec ws_SL_canEncode { frames := 0, cells := 0, slots := 0, locals := 0 }).room.frames = 0 := rfl
  have hRl : (headSpec ws_SL_canEncode { frames := 0, cells := 0, slots := 0, locals := 0 }).room.locals = 0 := rfl
  have hRc : (headSpec ws_SL_canEncode { frames := 0, cells := 0, slots := 0, locals := 0 }).room.cells = 0 := rfl
  have hRs : (headSpec ws_SL_canEncode { frames := 0, cells := 0, slots := 0, locals := 0 }).room.slots = 0 := rfl
  generalize (headSpec ws_SL_canEncode { frames := 0, cells := 0, slots := 0, locals := 0 }).room = R at hRf hRl hRc hRs ⊢
  have hS : va_S (hm_A B) s.heap s.heap [] := va_S.rf
  have hl := lv_entry ([.int (nI c9)]) (n := 1) (Nat.le_of_ble_eq_true rfl)
  rw [lg_entry_eq]
  generalize (lg_sl ([.int (nI c9)]) ++ List.replicate (1 - (lg_sl ([.int (nI c9)])).length) Slot.unset).toArray = ls at hl ⊢
  have hl : lv_has ls 1 [(0, .int (nI c9))] := hl
  refine lv_iload_n hx hb dd_SL_canEncode_0 rfl (lv_at hl 0 rfl) ?_
  refine lv_sipush (v := nI 255) hx hb dd_SL_canEncode_1 (by decide +kernel) ?_
  refine hn_icmp_gt (tgt := 11) hx hb (by omega) (by omega) dd_SL_canEncode_4 (by decide) (fun c1 => absurd c1 (by omega)) (fun c1 => ?_)
  refine lv_iconst (v := nI 1) hx hb dd_SL_canEncode_7 (by decide +kernel) ?_
  refine lv_goto (tgt := 12) hx hb dd_SL_canEncode_8 (by decide) ?_
  exact hm_Ei (v := nI 1) hx hb hr rfl hS hP (⟨rfl, rfl⟩) hlocks (by omega) (by omega) dd_SL_canEncode_12
set_option maxHeartbeats 4000000 in
set_option maxRecDepth 100000 in
theorem kc_AR_copyOf0 (l : Launch) (B : Nat) (D : va_G) (G : Nat → Nat) (M : hm_M) (v mm : Nat) (f : Nat → Int32) (hv : M v = some (.inl (D.1 100, mm, .inl f))) (hf : by_F mm f) (hm9 : mm ≤ 100) (hA_v : hm_A B v) (n : Nat) (hn : n ≤ 100) : Met l yy_AR_copyOf0 ws_AR_copyOf0 ({ frames := 1, cells := 1, slots := 100, locals := 40 }) (hm_Pc B D G M [.ref v, .int (nI n)]) (hm_Nr B D (fun q M1 => ∃ g, M q = none ∧ B ≤ q ∧ M1 = hm_up M q (.inl (D.1 100, n, .inl g)) ∧ by_F n g ∧ ∀ j, j < mm → j < n → g j = f j)) (1) (100) (hm_A B) := by
  refine Met.ofW (cc := cd_AR_copyOf0) (maxL := 3) (ret := ((some (FieldType.array FieldType.byte)))) (by decide) rfl ?_
  intro p e s m args below meth c s₁ B0 hml hv
  obtain ⟨rfl, hE, hP⟩ := hv
  have hx := B0.exec
  have hb := B0.bytes
  have hr := B0.returns
  have hts : ∀ w ∈ tb_G, w.before _ s = true := fun w h => atoms_spec (ws := ws_AR_copyOf0) B0.pre w (List.mem_cons_of_mem _ h)
  have hown : s.vm.findClass "java/util/Arrays" = some m.cls := findClass_of_methodNamed B0.named
  have hlocks := B0.notSynchronized
  have hRf : (headSpec ws_AR_copyOf0 { frames := 1, cells := 1, slots := 100, locals := 40 }).room.frames = 1 := rfl
  have hRl : (headSpec ws_AR_copyOf0 { frames := 1, cells := 1, slots := 100, locals := 40 }).room.locals = 40 := rfl
  have hRc : (headSpec ws_AR_copyOf0 { frames := 1, cells := 1, slots := 100, locals := 40 }).room.cells = 1 := rfl
  have hRs : (headSpec ws_AR_copyOf0 { frames := 1, cells := 1, slots := 100, locals := 40 }).room.slots = 100 := rfl
  generalize (headSpec ws_AR_copyOf0 { frames := 1, cells := 1, slots := 100, locals := 40 }).room = R at hRf hRl hRc hRs ⊢
  have hS : va_S (hm_A B) s.heap s.heap [] := va_S.rf
  have hl := lv_entry ([.ref v, .int (nI n)]) (n := 3) (Nat.le_of_ble_eq_true rfl)
  rw [lg_entry_eq]
  generalize (lg_sl ([.ref v, .int (nI n)]) ++ List.replicate (3 - (lg_sl ([.ref v, .int (nI n)])).length) Slot.unset).toArray = ls at hl ⊢
  have hl : lv_has ls 3 [(0, .ref v), (1, .int (nI n))] := hl
  refine lv_iload_n hx hb dd_AR_copyOf0_0 rfl (lv_at hl 1 rfl) ?_
  refine lv_aload_n hx hb dd_AR_copyOf0_1 rfl (lv_at hl 0 rfl) ?_
  refine hm_alen (v := nI mm) hx hb hE.K hP 0 hv rfl rfl dd_AR_copyOf0_2 ?_
  refine hn_icmp_ne (tgt := 14) hx hb (by omega) (by omega) dd_AR_copyOf0_3 (by decide) (fun c1 => ?_) (fun c1 => ?_)
  · have c1 := c1
    refine lv_iload_n hx hb dd_AR_copyOf0_14 rfl (lv_at hl 1 rfl) ?_
    refine hm_newa (atype := .byte) (ty := .byte) (N' := n) (a0 := (n, .inl (fun _ => 0))) hx hb (hts _ tw_108) rfl hE.K hP hS 0 rfl (fun _ h9 => by cases h9) rfl (nI_pos (by omega)) (nI_clamp (by omega)) (by show _ * _ ≤ _; simp only [componentBytes]; omega) (by omega) (by omega) dd_AR_copyOf0_15 (fun q2 H hB_q2 hn_q2 hP hS => ?_)
    have hA_q2 : hm_A B q2 := Nat.le_trans hE.2.1 hB_q2
    obtain ⟨M3, eM3⟩ : ∃ z, z = hm_up M q2 (.inl (D.1 100, n, .inl (fun _ => 0))) := ⟨_, rfl⟩
    rw [← eM3] at hP
    have ne4 : v ≠ q2 := hm_neN hv hn_q2
    have f5 : M3 v = some (.inl (D.1 100, mm, .inl f)) := by rw [eM3]; exact hm_up_o ne4 hv
    have f6 : M3 q2 = some (.inl (D.1 100, n, .inl (fun _ => 0))) := by rw [eM3]; exact hm_up_s
    refine W.widen (k := 1) (n := n) (by omega) (by omega) ?_
    refine lv_astore_n (lv' := [(2, .ref q2), (0, .ref v), (1, .int (nI n))]) hx hb dd_AR_copyOf0_17 rfl hl (by decide) rfl (fun ls hl => ?_)
    refine lv_aload_n hx hb dd_AR_copyOf0_18 rfl (lv_at hl 1 rfl) ?_
    refine lv_iconst (v := nI 0) hx hb dd_AR_copyOf0_19 (by decide +kernel) ?_
    refine lv_aload_n hx hb dd_AR_copyOf0_20 rfl (lv_at hl 0 rfl) ?_
    refine lv_iconst (v := nI 0) hx hb dd_AR_copyOf0_21 (by decide +kernel) ?_
    refine lv_aload_n hx hb dd_AR_copyOf0_22 rfl (lv_at hl 1 rfl) ?_
    refine hm_alen (v := nI mm) hx hb hE.K hP 0 f5 rfl rfl dd_AR_copyOf0_23 ?_
    refine lv_iload_n hx hb dd_AR_copyOf0_24 rfl (lv_at hl 2 rfl) ?_
    refine va_mmin hx hb (by rw [hml]; exact hl.1.symm) hown (hts _ tw_253) (hts _ tw_254) (hts _ tw_48) (hts _ tw_255) (by show _ ≤ _; rw [hRf]; exact Nat.le_of_ble_eq_true rfl) (by show _ ≤ _; rw [hRl]; exact Nat.le_of_ble_eq_true rfl) (by omega) (by omega) dd_AR_copyOf0_25 ?_
    rw [hi_min (a := mm) (b := n) (by omega) (by omega)]
    refine hm_copyb (sp := 0) (dp := 0) (n := min mm n) hx hb (by rw [hml]; exact hl.1.symm) hown (hts _ tw_256) (hts _ tw_258) (hts _ tw_257) (hts _ tw_50) hE.K hP hS hA_q2 0 f5 f6 rfl rfl (by omega) (by omega) (by omega) (by omega) (fun i h9 => hf.fit _ (by omega)) (by show _ ≤ _; rw [hRf]; exact Nat.le_of_ble_eq_true rfl) (by show _ ≤ _; rw [hRl]; exact Nat.le_of_ble_eq_true rfl) dd_AR_copyOf0_28 (fun H locs hP hS => ?_)
    obtain ⟨M7, eM7⟩ : ∃ z, z = hm_up M3 q2 (.inl (D.1 100, n, .inl (va_cpy f (fun _ => 0) 0 0 (min mm n)))) := ⟨_, rfl⟩
    rw [← eM7] at hP
    have f8 : M7 v = some (.inl (D.1 100, mm, .inl f)) := by rw [eM7]; exact hm_up_o ne4 f5
    have f9 : M7 q2 = some (.inl (D.1 100, n, .inl (va_cpy f (fun _ => 0) 0 0 (min mm n)))) := by rw [eM7]; exact hm_up_s
    refine lv_aload_n hx hb dd_AR_copyOf0_31 rfl (lv_at hl 0 rfl) ?_
    exact hm_Er (v := q2) hx hb hr (Or.inr ⟨_, rfl⟩) hS hP (⟨_, hn_q2, hA_q2, by rw [eM7, eM3]; exact hm_uu, hf.cpy by_F0 (by omega), fun j h1 h2 => by rw [by_cpy (by omega), Nat.zero_add]⟩) hlocks (by omega) (by omega) dd_AR_copyOf0_32
  · have c1 := c1
    refine lv_aload_n hx hb dd_AR_copyOf0_6 rfl (lv_at hl 0 rfl) ?_
    refine hm_clone (ad := "[B") hx hb (by rw [hml]; exact hl.1.symm) hown (hts _ tw_246) (hts _ tw_247) (hts _ tw_248) (hts _ tw_249) (hts _ tw_250) (hE.nest 9 rfl) hE.K hP hS hA_v (fun q h9 => Nat.le_trans hE.2.1 h9) 0 hv rfl (hE.K.1.2 0 _ rfl).2 (by_cell hf) (by show _ ≤ _; rw [hRf]; exact Nat.le_of_ble_eq_true rfl) (by show _ ≤ _; rw [hRl]; exact Nat.le_of_ble_eq_true rfl) (by omega) (by show _ + mm ≤ _; omega) dd_AR_copyOf0_7 (fun q10 H hB_q10 hn_q10 hP hS => ?_)
    have hA_q10 : hm_A B q10 := Nat.le_trans hE.2.1 hB_q10
    obtain ⟨M11, eM11⟩ : ∃ z, z = hm_up M q10 (.inl (D.1 100, mm, .inl f)) := ⟨_, rfl⟩
    rw [← eM11] at hP
    have ne12 : v ≠ q10 := hm_neN hv hn_q10
    have f13 : M11 v = some (.inl (D.1 100, mm, .inl f)) := by rw [eM11]; exact hm_up_o ne12 hv
    have f14 : M11 q10 = some (.inl (D.1 100, mm, .inl f)) := by rw [eM11]; exact hm_up_s
    refine W.widen (k := 1) (n := 100) (by omega) (by show _ + mm ≤ _; omega) ?_
    refine va_castA hx hb hown (hts _ tw_252) (hm_one hE.K hP f14 hA_q10) 0 rfl (hE.K.1.2 0 _ rfl).2 dd_AR_copyOf0_10 ?_
    exact hm_Er (v := q10) hx hb hr (Or.inr ⟨_, rfl⟩) hS hP (⟨f, hn_q10, hA_q10, by rw [eM11, c1], by rw [c1]; exact hf, fun j _ _ => rfl⟩) hlocks (by omega) (by omega) dd_AR_copyOf0_13
set_option maxHeartbeats 4000000 in
set_option maxRecDepth 100000 in
theorem kc_AR_copyOfRangeByte (l : Launch) (B : Nat) (D : va_G) (G : Nat → Nat) (M : hm_M) (v mm : Nat) (f : Nat → Int32) (hv : M v = some (.inl (D.1 100, mm, .inl f))) (hf : by_F mm f) (hm9 : mm ≤ 100) (i n : Nat) (hi : i ≤ n) (hn : n ≤ mm) : Met l yy_AR_copyOfRangeByte ws_AR_copyOfRangeByte ({ frames := 1, cells := 1, slots := 100, locals := 40 }) (hm_Pc B D G M [.ref v, .int (nI i), .int (nI n)]) (hm_Nr B D (fun q M1 => ∃ g, M q = none ∧ B ≤ q ∧ M1 = hm_up M q (.inl (D.1 100, (n - i), .inl g)) ∧ by_F (n - i) g ∧ ∀ j, j < n - i → g j = f (i + j))) (1) (100) (hm_A B) := by
  refine Met.ofW (cc := cd_AR_copyOfRangeByte) (maxL := 5) (ret := ((some (FieldType.array FieldType.byte)))) (by decide) rfl ?_
  intro p e s m args below meth c s₁ B0 hml hv
  obtain ⟨rfl, hE, hP⟩ := hv
  have hx := B0.exec
  have hb := B0.bytes
  have hr := B0.returns
  have hts : ∀ w ∈ tb_G, w.before _ s = true := fun w h => atoms_spec (ws := ws_AR_copyOfRangeByte) B0.pre w (List.mem_cons_of_mem _ h)
  have hown : s.vm.findClass "java/util/Arrays" = some m.cls := findClass_of_methodNamed B0.named
  have hlocks := B0.notSynchronized
  have hRf : (headSpec ws_AR_copyOfRangeByte { frames := 1, cells := 1, slots := 100, locals := 40 }).room.frames = 1 := rfl
  have hRl : (headSpec ws_AR_copyOfRangeByte { frames := 1, cells := 1, slots := 100, locals := 40 }).room.locals = 40 := rfl
  have hRc : (headSpec ws_AR_copyOfRangeByte { frames := 1, cells := 1, slots := 100, locals := 40 }).room.cells = 1 := rfl
  have hRs : (headSpec ws_AR_copyOfRangeByte { frames := 1, cells := 1, slots := 100, locals := 40 }).room.slots = 100 := rfl
  generalize (headSpec ws_AR_copyOfRangeByte { frames := 1, cells := 1, slots := 100, locals := 40 }).room = R at hRf hRl hRc hRs ⊢
  have hS : va_S (hm_A B) s.heap s.heap [] := va_S.rf
  have hl := lv_entry ([.ref v, .int (nI i), .int (nI n)]) (n := 5) (Nat.le_of_ble_eq_true rfl)
  rw [lg_entry_eq]
  generalize (lg_sl ([.ref v, .int (nI i), .int (nI n)]) ++ List.replicate (5 - (lg_sl ([.ref v, .int (nI i), .int (nI n)])).length) Slot.unset).toArray = ls at hl ⊢
  have hl : lv_has ls 5 [(0, .ref v), (1, .int (nI i)), (2, .int (nI n))] := hl
  refine lv_iload_n hx hb dd_AR_copyOfRangeByte_0 rfl (lv_at hl 1 rfl) ?_
  refine lv_iload_n hx hb dd_AR_copyOfRangeByte_1 rfl (lv_at hl 2 rfl) ?_
  refine hm_cv hS (hm_rS 2 (As := [.int (nI i), .int (nI n)]) (rest := []) ⟨hx, hb, hml, hown, hts⟩ hE hS hP (kc_AR_checkLength l B D G M i n hi (by omega)) tw_394 tw_392 tw_393 tw_49 (by decide +kernel) rfl rfl ⟨by show 0 + 1 ≤ R.frames; omega, by show 8 + (2 + 11) + 0 ≤ R.locals; omega⟩ rfl hl.1 rfl (Nat.le_of_ble_eq_true rfl) dd_AR_copyOfRangeByte_2 ⟨by omega, by omega⟩) (fun M2 H locs hw3 hP hS => ?_)
  refine W.widen (k := 0) (n := 0) (by omega) (by omega) ?_
  rw [hw3] at hP
  refine lv_iload_n hx hb dd_AR_copyOfRangeByte_5 rfl (lv_at hl 2 rfl) ?_
  refine lv_iload_n hx hb dd_AR_copyOfRangeByte_6 rfl (lv_at hl 1 rfl) ?_
  refine hn_isub hx hb (by omega) dd_AR_copyOfRangeByte_7 ?_
  refine lv_istore_n (lv' := [(3, .int (nI (n - i))), (0, .ref v), (1, .int (nI i)), (2, .int (nI n))]) hx hb dd_AR_copyOfRangeByte_8 rfl hl (by decide) rfl (fun ls hl => ?_)
  refine lv_iload_n hx hb dd_AR_copyOfRangeByte_9 rfl (lv_at hl 0 rfl) ?_
  refine hm_newa (atype := .byte) (ty := .byte) (N' := n - i) (a0 := (n - i, .inl (fun _ => 0))) hx hb (hts _ tw_108) rfl hE.K hP hS 0 rfl (fun _ h9 => by cases h9) rfl (nI_pos (by omega)) (nI_clamp (by omega)) (by show _ * _ ≤ _; simp only [componentBytes]; omega) (by omega) (by omega) dd_AR_copyOfRangeByte_10 (fun q4 H hB_q4 hn_q4 hP hS => ?_)
  have hA_q4 : hm_A B q4 := Nat.le_trans hE.2.1 hB_q4
  obtain ⟨M5, eM5⟩ : ∃ z, z = hm_up M q4 (.inl (D.1 100, n - i, .inl (fun _ => 0))) := ⟨_, rfl⟩
  rw [← eM5] at hP
  have ne6 : v ≠ q4 := hm_neN hv hn_q4
  have f7 : M5 v = some (.inl (D.1 100, mm, .inl f)) := by rw [eM5]; exact hm_up_o ne6 hv
  have f8 : M5 q4 = some (.inl (D.1 100, n - i, .inl (fun _ => 0))) := by rw [eM5]; exact hm_up_s
  refine W.widen (k := 1) (n := n - i) (by omega) (by omega) ?_
  refine lv_astore (lv' := [(4, .ref q4), (3, .int (nI (n - i))), (0, .ref v), (1, .int (nI i)), (2, .int (nI n))]) hx hb dd_AR_copyOfRangeByte_12 hl (by decide) rfl (fun ls hl => ?_)
  refine lv_aload_n hx hb dd_AR_copyOfRangeByte_14 rfl (lv_at hl 2 rfl) ?_
  refine lv_iload_n hx hb dd_AR_copyOfRangeByte_15 rfl (lv_at hl 3 rfl) ?_
  refine lv_aload hx hb dd_AR_copyOfRangeByte_16 (lv_at hl 0 rfl) ?_
  refine lv_iconst (v := nI 0) hx hb dd_AR_copyOfRangeByte_18 (by decide +kernel) ?_
  refine lv_aload_n hx hb dd_AR_copyOfRangeByte_19 rfl (lv_at hl 2 rfl) ?_
  refine hm_alen (v := nI mm) hx hb hE.K hP 0 f7 rfl rfl dd_AR_copyOfRangeByte_20 ?_
  refine lv_iload_n hx hb dd_AR_copyOfRangeByte_21 rfl (lv_at hl 3 rfl) ?_
  refine hn_isub hx hb (by omega) dd_AR_copyOfRangeByte_22 ?_
  refine lv_iload_n hx hb dd_AR_copyOfRangeByte_23 rfl (lv_at hl 1 rfl) ?_
  refine va_mmin hx hb (by rw [hml]; exact hl.1.symm) hown (hts _ tw_253) (hts _ tw_254) (hts _ tw_48) (hts _ tw_255) (by show _ ≤ _; rw [hRf]; exact Nat.le_of_ble_eq_true rfl) (by show _ ≤ _; rw [hRl]; exact Nat.le_of_ble_eq_true rfl) (by omega) (by omega) dd_AR_copyOfRangeByte_24 ?_
  rw [hi_min (a := mm - i) (b := n - i) (by omega) (by omega)]
  refine hm_copyb (sp := i) (dp := 0) (n := min (mm - i) (n - i)) hx hb (by rw [hml]; exact hl.1.symm) hown (hts _ tw_256) (hts _ tw_258) (hts _ tw_257) (hts _ tw_50) hE.K hP hS hA_q4 0 f7 f8 rfl rfl (by omega) (by omega) (by omega) (by omega) (fun i h9 => hf.fit _ (by omega)) (by show _ ≤ _; rw [hRf]; exact Nat.le_of_ble_eq_true rfl) (by show _ ≤ _; rw [hRl]; exact Nat.le_of_ble_eq_true rfl) dd_AR_copyOfRangeByte_27 (fun H locs hP hS => ?_)
  obtain ⟨M9, eM9⟩ : ∃ z, z = hm_up M5 q4 (.inl (D.1 100, n - i, .inl (va_cpy f (fun _ => 0) i 0 (min (mm - i) (n - i))))) := ⟨_, rfl⟩
  rw [← eM9] at hP
  have f10 : M9 v = some (.inl (D.1 100, mm, .inl f)) := by rw [eM9]; exact hm_up_o ne6 f7
  have f11 : M9 q4 = some (.inl (D.1 100, n - i, .inl (va_cpy f (fun _ => 0) i 0 (min (mm - i) (n - i))))) := by rw [eM9]; exact hm_up_s
  refine lv_aload hx hb dd_AR_copyOfRangeByte_30 (lv_at hl 0 rfl) ?_
  exact hm_Er (v := q4) hx hb hr (Or.inr ⟨_, rfl⟩) hS hP (⟨_, hn_q4, hA_q4, by rw [eM9, eM5]; exact hm_uu, hf.cpy by_F0 (by omega), fun j h1 => by rw [by_cpy (by omega)]⟩) hlocks (by omega) (by omega) dd_AR_copyOfRangeByte_32
set_option maxHeartbeats 4000000 in
set_option maxRecDepth 100000 in
theorem kc_AR_copyOfRange (l : Launch) (B : Nat) (D : va_G) (G : Nat → Nat) (M : hm_M) (v mm : Nat) (f : Nat → Int32) (hv : M v = some (.inl (D.1 100, mm, .inl f))) (hf : by_F mm f) (hm9 : mm ≤ 100) (i n : Nat) (hi : i ≤ n) (hn : n ≤ mm) (hfr : hm_A B v ∨ ¬ (i = 0 ∧ n = mm)) : Met l yy_AR_copyOfRange ws_AR_copyOfRange ({ frames := 2, cells := 1, slots := 100, locals := 64 }) (hm_Pc B D G M [.ref v, .int (nI i), .int (nI n)]) (hm_Nr B D (fun q M1 => ∃ g, M q = none ∧ B ≤ q ∧ M1 = hm_up M q (.inl (D.1 100, (n - i), .inl g)) ∧ by_F (n - i) g ∧ ∀ j, j < n - i → g j = f (i + j))) (1) (100) (hm_A B) := by
  refine Met.ofW (cc := cd_AR_copyOfRange) (maxL := 3) (ret := ((some (FieldType.array FieldType.byte)))) (by decide) rfl ?_
  intro p e s m args below meth c s₁ B0 hml hv
  obtain ⟨rfl, hE, hP⟩ := hv
  have hx := B0.exec
  have hb := B0.bytes
  have hr := B0.returns
  have hts : ∀ w ∈ tb_G, w.before _ s = true := fun w h => atoms_spec (ws := ws_AR_copyOfRange) B0.pre w (List.mem_cons_of_mem _ h)
  have hown : s.vm.findClass "java/util/Arrays" = some m.cls := findClass_of_methodNamed B0.named
  have hlocks := B0.notSynchronized
  have hRf : (headSpec ws_AR_copyOfRange { frames := 2, cells := 1, slots := 100, locals := 64 }).room.frames = 2 := rfl
  have hRl : (headSpec ws_AR_copyOfRange { frames := 2, cells := 1, slots := 100, locals := 64 }).room.locals = 64 := rfl
  have hRc : (headSpec ws_AR_copyOfRange { frames := 2, cells := 1, slots := 100, locals := 64 }).room.cells = 1 := rfl
  have hRs : (headSpec ws_AR_copyOfRange { frames := 2, cells := 1, slots := 100, locals := 64 }).room.slots = 100 := rfl
  generalize (headSpec ws_AR_copyOfRange { frames := 2, cells := 1, slots := 100, locals := 64 }).room = R at hRf hRl hRc hRs ⊢
  have hS : va_S (hm_A B) s.heap s.heap [] := va_S.rf
  have hl := lv_entry ([.ref v, .int (nI i), .int (nI n)]) (n := 3) (Nat.le_of_ble_eq_true rfl)
  rw [lg_entry_eq]
  generalize (lg_sl ([.ref v, .int (nI i), .int (nI n)]) ++ List.replicate (3 - (lg_sl ([.ref v, .int (nI i), .int (nI n)])).length) Slot.unset).toArray = ls at hl ⊢
  have hl : lv_has ls 3 [(0, .ref v), (1, .int (nI i)), (2, .int (nI n))] := hl
  refine lv_iload_n hx hb dd_AR_copyOfRange_0 rfl (lv_at hl 1 rfl) ?_
  refine hn_if_ne (tgt := 10) hx hb (by omega) dd_AR_copyOfRange_1 (by decide) (fun c1 => ?_) (fun c1 => ?_)
  · refine lv_aload_n hx hb dd_AR_copyOfRange_10 rfl (lv_at hl 0 rfl) ?_
    refine lv_iload_n hx hb dd_AR_copyOfRange_11 rfl (lv_at hl 1 rfl) ?_
    refine lv_iload_n hx hb dd_AR_copyOfRange_12 rfl (lv_at hl 2 rfl) ?_
    refine hm_cr hS (hm_rS 3 (As := [.ref v, .int (nI i), .int (nI n)]) (rest := []) ⟨hx, hb, hml, hown, hts⟩ hE hS hP (kc_AR_copyOfRangeByte l B D G M v mm f hv hf hm9 i n hi hn) tw_391 tw_389 tw_390 tw_49 (by decide +kernel) rfl rfl ⟨by show 1 + 1 ≤ R.frames; omega, by show 8 + (5 + 11) + 40 ≤ R.locals; omega⟩ rfl hl.1 rfl (Nat.le_of_ble_eq_true rfl) dd_AR_copyOfRange_13 ⟨by omega, by omega⟩) (fun r2 M3 H locs hw4 hP hS => ?_)
    refine W.widen (k := 1) (n := 100) (by omega) (by omega) ?_
    obtain ⟨g, k1, k2, eM3, k3, k4⟩ := hw4
    exact hm_Er (v := r2) hx hb hr (Or.inr ⟨_, rfl⟩) hS hP (⟨g, k1, k2, eM3, k3, k4⟩) hlocks (by omega) (by omega) dd_AR_copyOfRange_16
  · have c1 := c1
    refine lv_iload_n hx hb dd_AR_copyOfRange_4 rfl (lv_at hl 2 rfl) ?_
    refine lv_aload_n hx hb dd_AR_copyOfRange_5 rfl (lv_at hl 0 rfl) ?_
    refine hm_alen (v := nI mm) hx hb hE.K hP 0 hv rfl rfl dd_AR_copyOfRange_6 ?_
    refine hn_icmp_eq (tgt := 17) hx hb (by omega) (by omega) dd_AR_copyOfRange_7 (by decide) (fun c5 => ?_) (fun c5 => ?_)
    · have c2 := c5
      refine lv_aload_n hx hb dd_AR_copyOfRange_17 rfl (lv_at hl 0 rfl) ?_
      refine hm_clone (ad := "[B") hx hb (by rw [hml]; exact hl.1.symm) hown (hts _ tw_246) (hts _ tw_247) (hts _ tw_248) (hts _ tw_249) (hts _ tw_250) (hE.nest 9 rfl) hE.K hP hS (hfr.resolve_right (fun h9 => h9 ⟨c1, by omega⟩)) (fun q h9 => Nat.le_trans hE.2.1 h9) 0 hv rfl (hE.K.1.2 0 _ rfl).2 (by_cell hf) (by show _ ≤ _; rw [hRf]; exact Nat.le_of_ble_eq_true rfl) (by show _ ≤ _; rw [hRl]; exact Nat.le_of_ble_eq_true rfl) (by omega) (by show _ + mm ≤ _; omega) dd_AR_copyOfRange_18 (fun q6 H hB_q6 hn_q6 hP hS => ?_)
      have hA_q6 : hm_A B q6 := Nat.le_trans hE.2.1 hB_q6
      obtain ⟨M7, eM7⟩ : ∃ z, z = hm_up M q6 (.inl (D.1 100, mm, .inl f)) := ⟨_, rfl⟩
      rw [← eM7] at hP
      have ne8 : v ≠ q6 := hm_neN hv hn_q6
      have f9 : M7 v = some (.inl (D.1 100, mm, .inl f)) := by rw [eM7]; exact hm_up_o ne8 hv
      have f10 : M7 q6 = some (.inl (D.1 100, mm, .inl f)) := by rw [eM7]; exact hm_up_s
      refine W.widen (k := 1) (n := 100) (by omega) (by show _ + mm ≤ _; omega) ?_
      refine va_castA hx hb hown (hts _ tw_252) (hm_one hE.K hP f10 hA_q6) 0 rfl (hE.K.1.2 0 _ rfl).2 dd_AR_copyOfRange_21 ?_
      exact hm_Er (v := q6) hx hb hr (Or.inr ⟨_, rfl⟩) hS hP (⟨f, hn_q6, hA_q6, by rw [eM7, c1, c2]; rfl, by rw [c1, c2]; exact hf, fun j _ => by rw [c1, Nat.zero_add]⟩) hlocks (by omega) (by omega) dd_AR_copyOfRange_24
    · refine lv_aload_n hx hb dd_AR_copyOfRange_10 rfl (lv_at hl 0 rfl) ?_
      refine lv_iload_n hx hb dd_AR_copyOfRange_11 rfl (lv_at hl 1 rfl) ?_
      refine lv_iload_n hx hb dd_AR_copyOfRange_12 rfl (lv_at hl 2 rfl) ?_
      refine hm_cr hS (hm_rS 3 (As := [.ref v, .int (nI i), .int (nI n)]) (rest := []) ⟨hx, hb, hml, hown, hts⟩ hE hS hP (kc_AR_copyOfRangeByte l B D G M v mm f hv hf hm9 i n hi hn) tw_391 tw_389 tw_390 tw_49 (by decide +kernel) rfl rfl ⟨by show 1 + 1 ≤ R.frames; omega, by show 8 + (5 + 11) + 40 ≤ R.locals; omega⟩ rfl hl.1 rfl (Nat.le_of_ble_eq_true rfl) dd_AR_copyOfRange_13 ⟨by omega, by omega⟩) (fun r11 M12 H locs hw13 hP hS => ?_)
      refine W.widen (k := 1) (n := 100) (by omega) (by omega) ?_
      obtain ⟨g, k1, k2, eM12, k3, k4⟩ := hw13
      exact hm_Er (v := r11) hx hb hr (Or.inr ⟨_, rfl⟩) hS hP (⟨g, k1, k2, eM12, k3, k4⟩) hlocks (by omega) (by omega) dd_AR_copyOfRange_16
