/-! throws: the words of it -/
theorem xl_lays {C n d : String} {A : Nat → Prop} {U : State} {args : Array Value} (h : ev_L C n d A U U.heap) : (Cond.laysStatic C n d).before args U = true := by
  obtain ⟨c, k, i, f, a, cell, h1, h2, h3, h4, h5, h6, h7, h8, h9, -⟩ := h
  simp [Cond.before, Cond.holds, Cond.value, h1, h2, h3, h4, h5, h6, h7, h8, h9]
theorem xl_ref {C n d : String} {A : Nat → Prop} {U : State} {args : Array Value} (h : va_Zq C n d A U U.heap) : (Cond.isRef (.static C n d)).before args U = true := by
  rcases h with h | ⟨t, h⟩
  · obtain ⟨cf, kf, fi, f, a, cell, h1, h2, h3, h4, h5, h6, h7, h8⟩ := h
    simp [Cond.before, Cond.holds, Cond.value, Term.eval, State.fieldNamed?, h1, h2, h4, h5, h6, h7]
  · obtain ⟨cf, kf, fi, f, a, cell, h1, h2, h3, h4, h5, h6, h7, h8⟩ := h
    simp [Cond.before, Cond.holds, Cond.value, Term.eval, State.fieldNamed?, h1, h2, h4, h5, h6, h7]
theorem xl_decl {x : MethodName} {bytes : ByteArray} {maxL : Nat} {ret : Option FieldType} {U : State} {args : Array Value} (h1 : (Cond.instanceMethod x).before args U = true) (h2 : (Cond.code x bytes maxL ret).before args U = true) : (Cond.declares x).before args U = true := by
  obtain ⟨mk, meth, hn, hm, hs, -⟩ := Cond.instanceMethod_spec h1
  obtain ⟨meth2, c, hm2, -, -, -, -, -, -, hsig⟩ := Cond.code_spec hn h2
  cases hm.symm.trans hm2
  simp [Cond.before, Cond.holds, Cond.value, hn, hm, hs, hsig]
theorem xw_395 : (Jvm.Cond.codeSync ({ cls := "java/lang/Throwable", name := "fillInStackTrace", desc := "()Ljava/lang/Throwable;" } : Jvm.MethodName) prog_28_method_18_code (1 : Nat) (Option.some (Jvm.ClassFile.FieldType.object "java/lang/Throwable"))) ∈ tb_G := tb_2 155 rfl rfl
set_option maxRecDepth 100000 in
theorem xo_IAE {args : Array Value} {s : State} {B : Nat} {D : va_G} {G : Nat → Nat} (hts : ∀ w ∈ tb_G, w.before args s = true) (hE : ev_E B D G s) : ∀ a ∈ Bundle.ownAtomsX "RouteDesk" 63 "java/lang/IllegalArgumentException" 7 prog_16_method_2_code ["java/lang/RuntimeException", "java/lang/Exception"], a.before args s = true := by
  refine List.forall_mem_cons.mpr ⟨hts _ tw_53, ?_⟩
  refine List.forall_mem_cons.mpr ⟨hts _ tw_417, ?_⟩
  refine List.forall_mem_cons.mpr ⟨hts _ tw_426, ?_⟩
  refine List.forall_mem_cons.mpr ⟨hts _ xw_395, ?_⟩
  refine List.forall_mem_cons.mpr ⟨hts _ tw_433, ?_⟩
  refine List.forall_mem_cons.mpr ⟨hts _ tw_435, ?_⟩
  refine List.forall_mem_cons.mpr ⟨hts _ tw_418, ?_⟩
  refine List.forall_mem_cons.mpr ⟨hts _ tw_419, ?_⟩
  refine List.forall_mem_cons.mpr ⟨hts _ tw_74, ?_⟩
  refine List.forall_mem_cons.mpr ⟨hts _ tw_75, ?_⟩
  refine List.forall_mem_cons.mpr ⟨hts _ tw_420, ?_⟩
  refine List.forall_mem_cons.mpr ⟨hts _ tw_425, ?_⟩
  refine List.forall_mem_cons.mpr ⟨hts _ tw_431, ?_⟩
  refine List.forall_mem_cons.mpr ⟨hts _ tw_526, ?_⟩
  refine List.forall_mem_cons.mpr ⟨hts _ tw_407, ?_⟩
  refine List.forall_mem_cons.mpr ⟨hts _ tw_527, ?_⟩
  refine List.forall_mem_cons.mpr ⟨hts _ tw_409, ?_⟩
  refine List.forall_mem_cons.mpr ⟨hts _ tw_528, ?_⟩
  refine List.forall_mem_cons.mpr ⟨hts _ tw_411, ?_⟩
  refine List.forall_mem_cons.mpr ⟨hts _ tw_421, ?_⟩
  refine List.forall_mem_cons.mpr ⟨xl_lays hE.2.2.2.2.2.2.2.2.2.1.2, ?_⟩
  refine List.forall_mem_cons.mpr ⟨hts _ tw_423, ?_⟩
  refine List.forall_mem_cons.mpr ⟨xl_lays hE.2.2.2.2.2.2.2.2.2.2.2, ?_⟩
  refine List.forall_mem_cons.mpr ⟨hts _ tw_413, ?_⟩
  refine List.forall_mem_cons.mpr ⟨hts _ tw_522, ?_⟩
  refine List.forall_mem_cons.mpr ⟨hts _ tw_523, ?_⟩
  refine List.forall_mem_cons.mpr ⟨hts _ tw_525, ?_⟩
  refine List.forall_mem_cons.mpr ⟨hts _ tw_413, ?_⟩
  refine List.forall_mem_cons.mpr ⟨hts _ tw_513, ?_⟩
  refine List.forall_mem_cons.mpr ⟨hts _ tw_514, ?_⟩
  refine List.forall_mem_cons.mpr ⟨hts _ tw_515, ?_⟩
  refine List.forall_mem_cons.mpr ⟨hts _ tw_516, ?_⟩
  refine List.forall_mem_cons.mpr ⟨xl_decl (hts _ tw_516) (hts _ tw_517), ?_⟩
  refine List.forall_mem_cons.mpr ⟨hts _ tw_516, ?_⟩
  refine List.forall_mem_cons.mpr ⟨hts _ tw_517, ?_⟩
  refine List.forall_mem_cons.mpr ⟨hts _ tw_518, ?_⟩
  refine List.forall_mem_cons.mpr ⟨hts _ tw_519, ?_⟩
  refine List.forall_mem_cons.mpr ⟨xl_decl (hts _ tw_519) (hts _ tw_520), ?_⟩
  refine List.forall_mem_cons.mpr ⟨hts _ tw_519, ?_⟩
  refine List.forall_mem_cons.mpr ⟨hts _ tw_520, ?_⟩
  refine List.forall_mem_cons.mpr ⟨hts _ tw_521, ?_⟩
  refine List.forall_mem_cons.mpr ⟨hts _ tw_522, ?_⟩
  refine List.forall_mem_cons.mpr ⟨xl_decl (hts _ tw_522) (hts _ tw_523), ?_⟩
  refine List.forall_mem_cons.mpr ⟨hts _ tw_784, ?_⟩
  refine List.forall_mem_cons.mpr ⟨hts _ tw_396, ?_⟩
  refine List.forall_mem_cons.mpr ⟨va_Nw.use rfl (hE.nest 10 rfl), ?_⟩
  refine List.forall_mem_cons.mpr ⟨hts _ tw_404, ?_⟩
  refine List.forall_mem_cons.mpr ⟨hts _ tw_405, ?_⟩
  refine List.forall_mem_cons.mpr ⟨hts _ tw_406, ?_⟩
  refine List.forall_mem_cons.mpr ⟨hts _ tw_408, ?_⟩
  refine List.forall_mem_cons.mpr ⟨hts _ tw_410, ?_⟩
  refine List.forall_mem_cons.mpr ⟨hts _ tw_412, ?_⟩
  refine List.forall_mem_cons.mpr ⟨xl_ref hE.2.2.2.2.2.2.2.2.2.1.1, ?_⟩
  refine List.forall_mem_cons.mpr ⟨xl_ref hE.2.2.2.2.2.2.2.2.2.2.1, ?_⟩
  refine List.forall_mem_cons.mpr ⟨hts _ tw_524, ?_⟩
  refine List.forall_mem_cons.mpr ⟨hts _ tw_415, ?_⟩
  refine List.forall_mem_cons.mpr ⟨hts _ tw_414, ?_⟩
  exact fun _ h => absurd h List.not_mem_nil
set_option maxRecDepth 100000 in
theorem xo_ISE {args : Array Value} {s : State} {B : Nat} {D : va_G} {G : Nat → Nat} (hts : ∀ w ∈ tb_G, w.before args s = true) (hE : ev_E B D G s) : ∀ a ∈ Bundle.ownAtomsX "RouteDesk" 73 "java/lang/IllegalStateException" 7 prog_17_method_2_code ["java/lang/RuntimeException", "java/lang/Exception"], a.before args s = true := by
  refine List.forall_mem_cons.mpr ⟨hts _ tw_53, ?_⟩
  refine List.forall_mem_cons.mpr ⟨hts _ tw_417, ?_⟩
  refine List.forall_mem_cons.mpr ⟨hts _ tw_426, ?_⟩
  refine List.forall_mem_cons.mpr ⟨hts _ xw_395, ?_⟩
  refine List.forall_mem_cons.mpr ⟨hts _ tw_433, ?_⟩
  refine List.forall_mem_cons.mpr ⟨hts _ tw_435, ?_⟩
  refine List.forall_mem_cons.mpr ⟨hts _ tw_418, ?_⟩
  refine List.forall_mem_cons.mpr ⟨hts _ tw_419, ?_⟩
  refine List.forall_mem_cons.mpr ⟨hts _ tw_74, ?_⟩
  refine List.forall_mem_cons.mpr ⟨hts _ tw_75, ?_⟩
  refine List.forall_mem_cons.mpr ⟨hts _ tw_420, ?_⟩
  refine List.forall_mem_cons.mpr ⟨hts _ tw_425, ?_⟩
  refine List.forall_mem_cons.mpr ⟨hts _ tw_431, ?_⟩
  refine List.forall_mem_cons.mpr ⟨hts _ tw_526, ?_⟩
  refine List.forall_mem_cons.mpr ⟨hts _ tw_407, ?_⟩
  refine List.forall_mem_cons.mpr ⟨hts _ tw_527, ?_⟩
  refine List.forall_mem_cons.mpr ⟨hts _ tw_409, ?_⟩
  refine List.forall_mem_cons.mpr ⟨hts _ tw_528, ?_⟩
  refine List.forall_mem_cons.mpr ⟨hts _ tw_411, ?_⟩
  refine List.forall_mem_cons.mpr ⟨hts _ tw_421, ?_⟩
  refine List.forall_mem_cons.mpr ⟨xl_lays hE.2.2.2.2.2.2.2.2.2.1.2, ?_⟩
  refine List.forall_mem_cons.mpr ⟨hts _ tw_423, ?_⟩
  refine List.forall_mem_cons.mpr ⟨xl_lays hE.2.2.2.2.2.2.2.2.2.2.2, ?_⟩
  refine List.forall_mem_cons.mpr ⟨hts _ tw_413, ?_⟩
  refine List.forall_mem_cons.mpr ⟨hts _ tw_522, ?_⟩
  refine List.forall_mem_cons.mpr ⟨hts _ tw_523, ?_⟩
  refine List.forall_mem_cons.mpr ⟨hts _ tw_525, ?_⟩
  refine List.forall_mem_cons.mpr ⟨hts _ tw_413, ?_⟩
  refine List.forall_mem_cons.mpr ⟨hts _ tw_810, ?_⟩
  refine List.forall_mem_cons.mpr ⟨hts _ tw_811, ?_⟩
  refine List.forall_mem_cons.mpr ⟨hts _ tw_812, ?_⟩
  refine List.forall_mem_cons.mpr ⟨hts _ tw_516, ?_⟩
  refine List.forall_mem_cons.mpr ⟨xl_decl (hts _ tw_516) (hts _ tw_517), ?_⟩
  refine List.forall_mem_cons.mpr ⟨hts _ tw_516, ?_⟩
  refine List.forall_mem_cons.mpr ⟨hts _ tw_517, ?_⟩
  refine List.forall_mem_cons.mpr ⟨hts _ tw_518, ?_⟩
  refine List.forall_mem_cons.mpr ⟨hts _ tw_519, ?_⟩
  refine List.forall_mem_cons.mpr ⟨xl_decl (hts _ tw_519) (hts _ tw_520), ?_⟩
  refine List.forall_mem_cons.mpr ⟨hts _ tw_519, ?_⟩
  refine List.forall_mem_cons.mpr ⟨hts _ tw_520, ?_⟩
  refine List.forall_mem_cons.mpr ⟨hts _ tw_521, ?_⟩
  refine List.forall_mem_cons.mpr ⟨hts _ tw_522, ?_⟩
  refine List.forall_mem_cons.mpr ⟨xl_decl (hts _ tw_522) (hts _ tw_523), ?_⟩
  refine List.forall_mem_cons.mpr ⟨hts _ tw_809, ?_⟩
  refine List.forall_mem_cons.mpr ⟨hts _ tw_800, ?_⟩
  refine List.forall_mem_cons.mpr ⟨va_Nw.use rfl (hE.nest 17 rfl), ?_⟩
  refine List.forall_mem_cons.mpr ⟨hts _ tw_802, ?_⟩
  refine List.forall_mem_cons.mpr ⟨hts _ tw_428, ?_⟩
  refine List.forall_mem_cons.mpr ⟨hts _ tw_803, ?_⟩
  refine List.forall_mem_cons.mpr ⟨hts _ tw_804, ?_⟩
  refine List.forall_mem_cons.mpr ⟨hts _ tw_805, ?_⟩
  refine List.forall_mem_cons.mpr ⟨hts _ tw_806, ?_⟩
  refine List.forall_mem_cons.mpr ⟨xl_ref hE.2.2.2.2.2.2.2.2.2.1.1, ?_⟩
  refine List.forall_mem_cons.mpr ⟨xl_ref hE.2.2.2.2.2.2.2.2.2.2.1, ?_⟩
  refine List.forall_mem_cons.mpr ⟨hts _ tw_524, ?_⟩
  refine List.forall_mem_cons.mpr ⟨hts _ tw_415, ?_⟩
  refine List.forall_mem_cons.mpr ⟨hts _ tw_807, ?_⟩
  exact fun _ h => absurd h List.not_mem_nil
set_option maxRecDepth 100000 in
theorem xo_NSE {args : Array Value} {s : State} {B : Nat} {D : va_G} {G : Nat → Nat} (hts : ∀ w ∈ tb_G, w.before args s = true) (hE : ev_E B D G s) : ∀ a ∈ Bundle.ownAtomsX "RouteDesk" 186 "java/util/NoSuchElementException" 13 prog_35_method_4_code ["java/lang/RuntimeException", "java/lang/Exception"], a.before args s = true := by
  refine List.forall_mem_cons.mpr ⟨hts _ tw_53, ?_⟩
  refine List.forall_mem_cons.mpr ⟨hts _ tw_417, ?_⟩
  refine List.forall_mem_cons.mpr ⟨hts _ tw_426, ?_⟩
  refine List.forall_mem_cons.mpr ⟨hts _ xw_395, ?_⟩
  refine List.forall_mem_cons.mpr ⟨hts _ tw_433, ?_⟩
  refine List.forall_mem_cons.mpr ⟨hts _ tw_435, ?_⟩
  refine List.forall_mem_cons.mpr ⟨hts _ tw_418, ?_⟩
  refine List.forall_mem_cons.mpr ⟨hts _ tw_419, ?_⟩
  refine List.forall_mem_cons.mpr ⟨hts _ tw_74, ?_⟩
  refine List.forall_mem_cons.mpr ⟨hts _ tw_75, ?_⟩
  refine List.forall_mem_cons.mpr ⟨hts _ tw_420, ?_⟩
  refine List.forall_mem_cons.mpr ⟨hts _ tw_425, ?_⟩
  refine List.forall_mem_cons.mpr ⟨hts _ tw_431, ?_⟩
  refine List.forall_mem_cons.mpr ⟨hts _ tw_526, ?_⟩
  refine List.forall_mem_cons.mpr ⟨hts _ tw_407, ?_⟩
  refine List.forall_mem_cons.mpr ⟨hts _ tw_527, ?_⟩
  refine List.forall_mem_cons.mpr ⟨hts _ tw_409, ?_⟩
  refine List.forall_mem_cons.mpr ⟨hts _ tw_528, ?_⟩
  refine List.forall_mem_cons.mpr ⟨hts _ tw_411, ?_⟩
  refine List.forall_mem_cons.mpr ⟨hts _ tw_421, ?_⟩
  refine List.forall_mem_cons.mpr ⟨xl_lays hE.2.2.2.2.2.2.2.2.2.1.2, ?_⟩
  refine List.forall_mem_cons.mpr ⟨hts _ tw_423, ?_⟩
  refine List.forall_mem_cons.mpr ⟨xl_lays hE.2.2.2.2.2.2.2.2.2.2.2, ?_⟩
  refine List.forall_mem_cons.mpr ⟨hts _ tw_413, ?_⟩
  refine List.forall_mem_cons.mpr ⟨hts _ tw_522, ?_⟩
  refine List.forall_mem_cons.mpr ⟨hts _ tw_523, ?_⟩
  refine List.forall_mem_cons.mpr ⟨hts _ tw_525, ?_⟩
  refine List.forall_mem_cons.mpr ⟨hts _ tw_413, ?_⟩
  refine List.forall_mem_cons.mpr ⟨hts _ tw_975, ?_⟩
  refine List.forall_mem_cons.mpr ⟨hts _ tw_976, ?_⟩
  refine List.forall_mem_cons.mpr ⟨hts _ tw_977, ?_⟩
  refine List.forall_mem_cons.mpr ⟨hts _ tw_516, ?_⟩
  refine List.forall_mem_cons.mpr ⟨xl_decl (hts _ tw_516) (hts _ tw_517), ?_⟩
  refine List.forall_mem_cons.mpr ⟨hts _ tw_516, ?_⟩
  refine List.forall_mem_cons.mpr ⟨hts _ tw_517, ?_⟩
  refine List.forall_mem_cons.mpr ⟨hts _ tw_518, ?_⟩
  refine List.forall_mem_cons.mpr ⟨hts _ tw_519, ?_⟩
  refine List.forall_mem_cons.mpr ⟨xl_decl (hts _ tw_519) (hts _ tw_520), ?_⟩
  refine List.forall_mem_cons.mpr ⟨hts _ tw_519, ?_⟩
  refine List.forall_mem_cons.mpr ⟨hts _ tw_520, ?_⟩
  refine List.forall_mem_cons.mpr ⟨hts _ tw_521, ?_⟩
  refine List.forall_mem_cons.mpr ⟨hts _ tw_522, ?_⟩
  refine List.forall_mem_cons.mpr ⟨xl_decl (hts _ tw_522) (hts _ tw_523), ?_⟩
  refine List.forall_mem_cons.mpr ⟨hts _ tw_974, ?_⟩
  refine List.forall_mem_cons.mpr ⟨hts _ tw_965, ?_⟩
  refine List.forall_mem_cons.mpr ⟨va_Nw.use rfl (hE.nest 22 rfl), ?_⟩
  refine List.forall_mem_cons.mpr ⟨hts _ tw_967, ?_⟩
  refine List.forall_mem_cons.mpr ⟨hts _ tw_429, ?_⟩
  refine List.forall_mem_cons.mpr ⟨hts _ tw_968, ?_⟩
  refine List.forall_mem_cons.mpr ⟨hts _ tw_969, ?_⟩
  refine List.forall_mem_cons.mpr ⟨hts _ tw_970, ?_⟩
  refine List.forall_mem_cons.mpr ⟨hts _ tw_971, ?_⟩
  refine List.forall_mem_cons.mpr ⟨xl_ref hE.2.2.2.2.2.2.2.2.2.1.1, ?_⟩
  refine List.forall_mem_cons.mpr ⟨xl_ref hE.2.2.2.2.2.2.2.2.2.2.1, ?_⟩
  refine List.forall_mem_cons.mpr ⟨hts _ tw_524, ?_⟩
  refine List.forall_mem_cons.mpr ⟨hts _ tw_415, ?_⟩
  refine List.forall_mem_cons.mpr ⟨hts _ tw_972, ?_⟩
  exact fun _ h => absurd h List.not_mem_nil
section XTI
variable {p : Program} {l : Launch} {e : Env} {R : Room} {s : State} {m : MethodId} {args : Array Value} {below : List Frame} {meth : Method} {c : Code} {H : Heap} {locs : List Loc} {cells slots : Nat} {Q : State → Prop}
variable {cc : ByteArray} {pc : Nat} {ls : Array Slot} {rest : List Value}
set_option maxHeartbeats 2000000 in
/-- a new exception's constructor with a message, stack traces off: but for the exception nothing has moved -/
theorem xt_init (hexec : p.tables.exec = Jvm.exec) (hb : c.code = cc) (hml : c.maxLocals = ls.size) (hfl : l.flags = flags0) {own cls : String} {names : List String} {ic ix : Nat} {rx : ByteArray}
    (x0 : decode rx 0 = .ok (.aload_n 0, 1)) (x1 : decode rx 1 = .ok (.aload_n 1, 1)) (x2 : decode rx 2 = .ok (.invokespecial ix, 3)) (x5 : decode rx 5 = .ok (.return_, 1))
    (hown : s.vm.findClass own = some m.cls) (hcls : Bundle.fit cls = true) (hnames : ∀ n ∈ names, Bundle.fit n = true) (h : ∀ a ∈ Bundle.ownAtomsX own ic cls ix rx names, a.before args s = true)
    {A : Nat → Prop} (hS : va_S A s.heap H locs) (hL9 : ev_L Bundle.tN "UNASSIGNED_STACK" Bundle.steD A s s.heap)
    {a : Nat} {cX : ClassId} {kX : Class} (hfoundX : s.vm.findClass cls = some cX) (hkX : s.vm.classes[cX]? = some kX) (hcell : H[a]? = some (freshCell cX kX)) (hnew : s.heap.size ≤ a) {msg : Value} (hmsg : msg.isRef = true)
    (hRf : names.length + 3 < R.frames) (hRl : (rest.map fun v => v.category).sum + (13 * (names.length + 1) + 42) ≤ R.locals) (hdg : decode cc pc = .ok (.invokespecial ic, 3))
    (kk : ∀ ce : Cell, ce.cls = cX → ce.vm.isStatics = false → W p l e R s m args below meth c (H.setIfInBounds a ce) locs cells slots Q (F0 m (pc + 3) ls rest)) : W p l e R s m args below meth c H locs cells slots Q (F0 m pc ls (msg :: .ref a :: rest)) := by
  intro T hT X
  have htr : e.platform.stackTraces = false := Launch.traces_off hfl X.admits
  have howns : e.platform.frameOwnsMonitors = true := by rw [X.admits.platform]
  have hfin : e.platform.finalization = false := by rw [X.admits.platform]
  have hpl : e.platform.magicAccessors = ({} : Platform).magicAccessors := by rw [X.admits.platform]
  have w : ∀ z, z ∈ Bundle.ownAtomsX own ic cls ix rx names → z.holds args s none s [] = true := fun z hz => h z hz
  obtain ⟨Tc, Z0, L, -, Y⟩ := ThrowableC.of_atoms (args := args) howns hfin hpl (fun z hz => h z (by simp [Bundle.ownAtomsX, hz]))
  obtain ⟨Z, Mc, LZ, LM, hnZ⟩ := Init0T.ofS_atoms (args := args) hpl L Y (fun z hz => h z (by simp [Bundle.ownAtomsX, hz]))
  obtain ⟨P1, Ps, hlen, L1, hLs, hP1m, hlink1, hlink⟩ := Bundle.chainSX (args := args) hpl hnZ x0 x1 x2 x5 names cls hcls hnames (fun z hz => h z (by simp [Bundle.ownAtomsX, hz]))
  have hfound : s.vm.findClass cls = some P1.m.cls := findClass_of_methodNamed hP1m
  cases Option.some.inj (hfoundX.symm.trans hfound)
  obtain ⟨c1, kX', hc1, hk, hord, -, -, hn6⟩ := Cond.instantiable_spec (w (.instantiable cls 6) (by simp [Bundle.ownAtomsX]))
  cases Option.some.inj (hc1.symm.trans hfound)
  cases Option.some.inj (hkX.symm.trans hk)
  have sel : ∀ (f : MethodName) (fm : MethodId), s.methodNamed? f = some fm → (f.cls ≠ "java/lang/invoke/MethodHandle" ∧ f.cls ≠ "java/lang/invoke/VarHandle") → (Cond.selects cls f f).holds args s none s [] = true → selectMethod e.platform s.vm P1.m.cls fm = .method fm := fun f fm hf hn hw => by
    obtain ⟨c2, r2, m2, q1, q2, q3, q4, -⟩ := Cond.selects_spec hw
    cases Option.some.inj (q1.symm.trans hfound)
    cases Option.some.inj (q2.symm.trans (State.methodFound?_of_named hf hn))
    cases Option.some.inj (q3.symm.trans hf)
    rw [Launch.admits_selectMethod X.admits]; exact q4
  have hsel0 := sel Bundle.tFill0 _ Y.fill0 (by decide) (w (.selects cls Bundle.tFill0 Bundle.tFill0) (by simp [Bundle.ownAtomsX]))
  have hselF := sel Bundle.tFill _ Y.fill (by decide) (w (.selects cls Bundle.tFill Bundle.tFill) (by simp [Bundle.ownAtomsX]))
  obtain ⟨cS, hcS, hiss⟩ := Y.statics
  obtain ⟨u0, hu0⟩ := Cond.staticRefV Y.unassigned L.unassignedStatic L.statics hcS hiss (w (.isRef (.static Bundle.tN "UNASSIGNED_STACK" Bundle.steD)) (by simp [Bundle.ownAtomsX]))
  obtain ⟨sen, hsen⟩ := Cond.staticRefV Y.sentinel L.sentinelStatic L.statics hcS hiss (w (.isRef (.static Bundle.tN "SUPPRESSED_SENTINEL" Bundle.listD)) (by simp [Bundle.ownAtomsX]))
  obtain ⟨ci198, i198, fB, hk198, hg198, ha198, hsB, -, hnB, htB, hffB⟩ := Cond.ownField (t := .object "java/lang/Object") Y.found L.cls (by decide +kernel) (w (.fieldLink Bundle.tN 198 Bundle.tN "backtrace" "Ljava/lang/Object;") (by simp [Bundle.ownAtomsX])) (w (.lays Bundle.tN Bundle.tN "backtrace" "Ljava/lang/Object;") (by simp [Bundle.ownAtomsX])) e.platform hpl
  -- the statics' cell is not of those that are written
  have hHS : T.heap[Tc.aS]? = some cS := by
    obtain ⟨c9, k9, i9, f9, a9, cell9, q1, q2, q3, q4, q5, q6, q7, q8, q9, q10⟩ := hL9
    have e1 := (State.fieldFound?_spec q2).1
    cases q1.symm.trans Y.found
    cases e1.symm.trans L.cls
    cases q4.symm.trans L.statics
    rw [hT, hS.2.1 _ (Array.getElem?_eq_some_iff.mp hcS).1 q10]
    exact hcS
  have hneS : Tc.aS ≠ a := Nat.ne_of_lt (Nat.lt_of_lt_of_le (Array.getElem?_eq_some_iff.mp hcS).1 hnew)
  have hknownS : cS.vm ≠ .unknown := fun hu => by rw [hu] at hiss; cases hiss
  obtain ⟨iM, hffM⟩ := Y.msg
  obtain ⟨tyC, dC, hdC, hdnC⟩ := Cond.laysAt hfound hk Y.cause (w (.lays cls Bundle.tN "cause" "Ljava/lang/Throwable;") (by simp [Bundle.ownAtomsX]))
  obtain ⟨tyS, dS, hdS, hdnS⟩ := Cond.laysAt hfound hk Y.stack (w (.lays cls Bundle.tN "stackTrace" Bundle.steD) (by simp [Bundle.ownAtomsX]))
  obtain ⟨tyP, dP, hdP, hdnP⟩ := Cond.laysAt hfound hk Y.supp (w (.lays cls Bundle.tN "suppressedExceptions" Bundle.listD) (by simp [Bundle.ownAtomsX]))
  obtain ⟨tyM, dM, hdM, hdnM⟩ := Cond.laysAt hfound hk hffM (w (.lays cls Bundle.tN "detailMessage" "Ljava/lang/String;") (by simp [Bundle.ownAtomsX]))
  obtain ⟨tyB, dB, hdB, hdnB⟩ := Cond.laysAt hfound hk hffB (w (.lays cls Bundle.tN "backtrace" "Ljava/lang/Object;") (by simp [Bundle.ownAtomsX]))
  have bC := Cond.laysApart hdB hdC hdnB hdnC (by rw [hnB, Y.causeName]; decide)
  have bS := Cond.laysApart hdB hdS hdnB hdnS (by rw [hnB, Y.stackName]; decide)
  have bP := Cond.laysApart hdB hdP hdnB hdnP (by rw [hnB, Y.suppName]; decide)
  have hskip : SkipFacts Tc e.platform s (fun u => u) u0 ((preparedCellV Tc.toThrowableT (freshCell P1.m.cls kX) a u0 sen).withEntry T.cur) :=
    ⟨{ ci198 := ci198, i198 := i198, fBack := fB }, ⟨hk198, hg198, ha198, hsB⟩, by
      have := fresh_default (c := P1.m.cls) tyB
      rw [htB] at this
      simpa [preparedCellV, Cell.setSlot, Cell.withEntry, Array.getElem?_setIfInBounds, bC, bS, bP, bC.symm, bS.symm, bP.symm, defaultValue] using this, fun _ _ => rfl⟩
  obtain ⟨tm, methC, cdC, kC, vm₁, hnC, -, -, -, -, -, -, -, hW₁, st1⟩ := Steps.initColdS (tb := p.tables) (e := e) (below := below) (s := s) (U := T) X.here hexec X.warmed hpl hown (t := Bundle.initS cls) rfl rfl (Bundle.fit_spec hcls).2
    (w (.methodLink own ic (Bundle.initS cls)) (by simp [Bundle.ownAtomsX])) (h (.instanceMethod (Bundle.initS cls)) (by cases names <;> simp [Bundle.ownAtomsX, Bundle.chainSAtomsX, Bundle.passSAtoms])) (bytes := rx) (maxL := 2) (h (.code (Bundle.initS cls) rx 2 none) (by cases names <;> simp [Bundle.ownAtomsX, Bundle.chainSAtomsX, Bundle.passSAtoms]))
    (f := F0 m pc ls (msg :: .ref a :: rest)) rfl (a := a) (msg := msg) (rest := rest) rfl (by rw [hb]; exact hdg)
  cases Option.some.inj (hnC.symm.trans hP1m)
  have X₁ := X.noted hW₁
  have hcellT : T.heap[a]? = some (freshCell P1.m.cls kX) := by rw [hT]; exact hcell
  obtain ⟨vm₂, X₂, st2⟩ := X₁.ctorMessageOffV hexec (g := F0 m pc ls rest) rfl (by rw [hml]) Tc L Z LZ Mc LM (P1 :: Ps)
    (fun P hP => by rcases List.mem_cons.mp hP with rfl | hP; exact L1; exact hLs P hP) ⟨hlink1, hlink⟩ (u0 := u0) (sen := sen) (self := a) hmsg (cell := freshCell P1.m.cls kX) (cellS := cS)
    hcellT (fun _ => by simp) (by simp) rfl rfl hsel0 hselF hHS hneS hknownS hu0 hsen
    (Takes.of_laid hk hord tyC (by rw [Y.causeType]; rfl)) (Takes.of_laid hk hord tyS (by rw [Y.stackType]; exact fits_refV_array _ u0)) (Takes.of_laid hk hord tyP (by rw [Y.suppType]; exact fits_refV_object _ sen))
    (Takes.of_laid hk hord tyM (by rw [Y.msgType]; exact fits_refV_object _ ⟨msg, hmsg⟩)) Y.objLocals hskip htr [] (by rw [hb]; exact hdg)
    (by simp only [List.length_cons, hlen]; omega) (by simp only [List.length_cons, hlen]; show 2 * 0 + _ + _ ≤ _; omega)
  have X₃ := Stand.forget X₂ (fun q hq => by
    simp only [List.mem_cons, List.not_mem_nil, or_false] at hq
    rcases hq with rfl | rfl | rfl | rfl | rfl <;> exact hnew)
  obtain ⟨t, g1, g2⟩ := kk (plainBareV Tc.toThrowableT (freshCell P1.m.cls kX) a u0 sen msg) rfl rfl _ (by rw [← hT]; rfl) X₃
  refine ⟨t, st1 _ (fun acts => ?_), g2⟩
  rw [doInvoke_state]
  exact st2 _ g1
end XTI
