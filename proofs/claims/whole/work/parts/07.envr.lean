/-! the surroundings of every method: the classes and array classes, the words that are not good ones, the statics, the String constants. B: where the law's own cells begin; G: the addresses of constants. -/
def ev_ty (D : va_G) : List (ClassId × FieldType) := [(D.1 100, .byte), (D.1 101, .boolean), (D.1 102, .int), (D.1 103, .long), (D.1 104, .object "java/lang/Object"), (D.1 105, .object "RouteDesk$Exchange")]
def ev_nest : List Cond := [(Jvm.Cond.methodLinkNest "RouteDesk" (35 : Nat) ({ cls := "RouteDesk$Message", name := "<init>", desc := "()V" } : Jvm.MethodName) "RouteDesk"),
  (Jvm.Cond.fieldLinkNest "RouteDesk" (206 : Nat) "RouteDesk$Message" "key" "Ljava/lang/String;" "RouteDesk"),
  (Jvm.Cond.fieldLinkNest "RouteDesk$HeaderText" (47 : Nat) "RouteDesk$Message" "headers" "Ljava/util/ArrayList;" "RouteDesk"),
  (Jvm.Cond.fieldLinkNest "RouteDesk" (203 : Nat) "RouteDesk$Message" "headers" "Ljava/util/ArrayList;" "RouteDesk"),
  (Jvm.Cond.methodLinkNest "RouteDesk" (42 : Nat) ({ cls := "RouteDesk$Routing", name := "<init>", desc := "()V" } : Jvm.MethodName) "RouteDesk"),
  (Jvm.Cond.fieldLinkNest "RouteDesk" (187 : Nat) "RouteDesk$Routing" "isPassed" "[Z" "RouteDesk"),
  (Jvm.Cond.fieldLinkNest "RouteDesk" (168 : Nat) "RouteDesk$Routing" "order" "[I" "RouteDesk"),
  (Jvm.Cond.fieldLinkNest "RouteDesk" (165 : Nat) "RouteDesk$Routing" "passedCount" "I" "RouteDesk"),
  (Jvm.Cond.fieldLinkNest "RouteDesk" (175 : Nat) "RouteDesk$Routing" "foundCount" "I" "RouteDesk"),
  (Jvm.Cond.castable "[B" "java/lang/Cloneable"),
  (Jvm.Cond.castable "java/lang/IllegalArgumentException" "java/lang/IllegalArgumentException"),
  (Jvm.Cond.fieldLinkNest "RouteDesk$Message" (49 : Nat) "RouteDesk$Header" "name" "Ljava/lang/String;" "RouteDesk"),
  (Jvm.Cond.fieldLinkNest "RouteDesk$HeaderText" (64 : Nat) "RouteDesk$Header" "name" "Ljava/lang/String;" "RouteDesk"),
  (Jvm.Cond.fieldLinkNest "RouteDesk$Message" (29 : Nat) "RouteDesk$Header" "value" "Ljava/lang/String;" "RouteDesk"),
  (Jvm.Cond.fieldLinkNest "RouteDesk$HeaderText" (72 : Nat) "RouteDesk$Header" "value" "Ljava/lang/String;" "RouteDesk"),
  (Jvm.Cond.fieldLinkNest "RouteDesk" (112 : Nat) "RouteDesk$Exchange" "sort" "I" "RouteDesk"),
  (Jvm.Cond.fieldLinkNest "RouteDesk" (78 : Nat) "RouteDesk$Exchange" "other" "I" "RouteDesk"),
  (Jvm.Cond.castable "java/lang/IllegalStateException" "java/lang/IllegalStateException"),
  (Jvm.Cond.fieldLinkNest "RouteDesk" (100 : Nat) "RouteDesk$Binding" "from" "I" "RouteDesk"),
  (Jvm.Cond.fieldLinkNest "RouteDesk" (256 : Nat) "RouteDesk$Binding" "to" "I" "RouteDesk"),
  (Jvm.Cond.fieldLinkNest "RouteDesk" (252 : Nat) "RouteDesk$Binding" "toQueue" "Z" "RouteDesk"),
  (Jvm.Cond.fieldLinkNest "RouteDesk" (216 : Nat) "RouteDesk$Binding" "text" "Ljava/lang/String;" "RouteDesk"),
  (Jvm.Cond.castable "java/util/NoSuchElementException" "java/util/NoSuchElementException"),
  (Jvm.Cond.castable "RouteDesk$Binding" "RouteDesk$Binding"),
  (Jvm.Cond.castable "RouteDesk$Header" "RouteDesk$Header"),
  (Jvm.Cond.castable "RouteDesk" "java/lang/Object"),
  (Jvm.Cond.castable "RouteDesk$Message" "java/lang/Object"),
  (Jvm.Cond.castable "RouteDesk$Routing" "java/lang/Object"),
  (Jvm.Cond.castable "RouteDeskModel" "java/lang/Object"),
  (Jvm.Cond.castable "RouteDesk$Exchange" "java/lang/Object"),
  (Jvm.Cond.castable "java/lang/String" "java/lang/Object"),
  (Jvm.Cond.castable "RouteDesk$Binding" "java/lang/Object"),
  (Jvm.Cond.castable "RouteDesk$Header" "java/lang/Object"),
  (Jvm.Cond.not (Jvm.Cond.castable "java/lang/IllegalStateException" "java/lang/IllegalArgumentException"))]
def ev_nb : Cond → Bool
  | .methodLinkNest .. => true
  | .fieldLinkNest .. => true
  | .castable .. => true
  | .not (.castable ..) => true
  | _ => false
theorem ev_nba : ∀ w ∈ ev_nest, ev_nb w = true := by decide +kernel
theorem ev_nN {C T : String} {s U : State} (hW : s.WarmedH U.vm) (hZ : va_Nw (.not (.castable C T)) s) : va_Nw (.not (.castable C T)) U := by
  have hA := hW.alike
  simp only [va_Nw, Cond.before, Cond.holds, Cond.value, hA.findClass, hA.assignable] at hZ ⊢
  exact hZ
theorem ev_nU {C T : String} {A : Array Value} {s : State} (hZ : va_Nw (.not (.castable C T)) s) : (Cond.not (.castable C T)).before A s = true := by
  simp only [va_Nw, Cond.before, Cond.holds, Cond.value] at hZ ⊢
  exact hZ
theorem ev_nw {w : Cond} {s U : State} (hb : ev_nb w = true) (hW : s.WarmedH U.vm) (h : va_Nw w s) : va_Nw w U := by
  cases w with
  | not w2 => cases w2 <;> first | exact ev_nN hW h | (exfalso; revert hb; simp [ev_nb]; done)
  | _ => first | exact va_Nw.warmM hW h | exact va_Nw.warmF hW h | exact va_Nw.warmC hW h | (exfalso; revert hb; simp [ev_nb]; done)
/-- where a static field lies -/
def ev_L (C n d : String) (A : Nat → Prop) (U : State) (H : Heap) : Prop := ∃ (c : ClassId) (k : Class) (i : Nat) (f : Field) (a : Nat) (cell : Cell), U.vm.findClass C = some c ∧ U.fieldFound? C n d = some (c, k, i, f) ∧ f.isStatic = true ∧ k.statics = some a ∧ H[a]? = some cell ∧ cell.vm.isStatics = true ∧ cell.cls = c ∧ f.slot < cell.slots.size ∧ k.staticTypes[f.slot]? = some f.type ∧ ¬ A a
theorem ev_L.moved {C n d : String} {A : Nat → Prop} {u U : State} {H : Heap} (hvm : u.vm.Alike U.vm) (h : ev_L C n d A u H) : ev_L C n d A U H := by
  obtain ⟨c, k, i, f, a, cell, h1, h2, h3, h4, h5, h6, h7, h8, h9, h10⟩ := h
  obtain ⟨k', hi', he⟩ := State.fieldFound?_setVm hvm h2
  exact ⟨c, k', i, f, a, cell, by rw [hvm.findClass]; exact h1, hi', h3, by rw [he]; exact h4, h5, h6, h7, h8, by rw [he]; exact h9, h10⟩
theorem ev_L.kept {C n d : String} {A : Nat → Prop} {U : State} {H H1 : Heap} (h : ev_L C n d A U H) (hq : ∀ a : Nat, a < H.size → ¬ A a → H1[a]? = H[a]?) : ev_L C n d A U H1 := by
  obtain ⟨c, k, i, f, a, cell, h1, h2, h3, h4, h5, h6, h7, h8, h9, h10⟩ := h
  exact ⟨c, k, i, f, a, cell, h1, h2, h3, h4, by rw [hq a (Array.getElem?_eq_some_iff.mp h5).1 h10]; exact h5, h6, h7, h8, h9, h10⟩
def ev_str : List (String × Nat × String × Nat) := [("RouteDesk$HeaderText", 22, "all", 1), ("RouteDesk$HeaderText", 28, "any", 2), ("RouteDesk$Message", 7, "", 3), ("java/lang/StringLatin1", 151, "", 4), ("RouteDesk", 61, "no such sort", 5), ("RouteDesk", 71, "there are 16 exchanges", 6), ("RouteDesk", 82, "there are 16 queues", 7), ("RouteDesk", 110, "no such exchange or queue", 8), ("RouteDesk", 119, "no text for that sort", 9), ("RouteDesk", 125, "there are 120 bindings", 10), ("RouteDesk", 160, "no such exchange", 11), ("RouteDesk", 184, "no such queue was found", 12)]
/-- the surroundings -/
def ev_E (B : Nat) (D : va_G) (G : Nat → Nat) (U : State) : Prop :=
  hm_K B D cl_W (ev_ty D) U ∧ B ≤ U.heap.size ∧ (∀ w ∈ ev_nest, va_Nw w U) ∧ (va_AO "java/lang/Object" U ∧ va_AO "RouteDesk$Exchange" U) ∧
  va_Z "java/lang/String" "COMPACT_STRINGS" "Z" (.int (nI 1)) (hm_A B) U U.heap ∧
  va_Z "java/util/ArrayList" "DEFAULTCAPACITY_EMPTY_ELEMENTDATA" "[Ljava/lang/Object;" (.ref (G 0)) (hm_A B) U U.heap ∧
  va_Zq "jdk/internal/util/Preconditions" "SIOOBE_FORMATTER" "Ljava/util/function/BiFunction;" (hm_A B) U U.heap ∧
  (∀ q ∈ ev_str, vk_R q.1 q.2.1 q.2.2.1 (G q.2.2.2) U) ∧ (va_Mi "[Ljava/lang/Object;" (G 20) U ∧ va_Dc U) ∧
  (va_Zq Bundle.tN "UNASSIGNED_STACK" Bundle.steD (hm_A B) U U.heap ∧ ev_L Bundle.tN "UNASSIGNED_STACK" Bundle.steD (hm_A B) U U.heap) ∧
  (va_Zq Bundle.tN "SUPPRESSED_SENTINEL" Bundle.listD (hm_A B) U U.heap ∧ ev_L Bundle.tN "SUPPRESSED_SENTINEL" Bundle.listD (hm_A B) U U.heap)
theorem ev_E.go {B : Nat} {D : va_G} {G : Nat → Nat} {s U : State} {H : Heap} {locs : List Loc} (h : ev_E B D G s) (hS : va_S (hm_A B) s.heap H locs) (hU : U.heap = H) (hW : s.WarmedH U.vm) : ev_E B D G U := by
  obtain ⟨h1, h2, h3, ⟨h4, h5⟩, h6, h7, h8, h9, ⟨h10, h11⟩, ⟨h12, h13⟩, ⟨h14, h15⟩⟩ := h
  subst hU
  have ha := hW.alike
  exact ⟨hm_K.moved ha h1, Nat.le_trans h2 hS.1, fun w hw => ev_nw (ev_nba w hw) hW (h3 w hw), ⟨va_AO.moved ha h4, va_AO.moved ha h5⟩, va_Z.moved ha (h6.kept hS.2.1), va_Z.moved ha (h7.kept hS.2.1), va_Zq.moved ha (h8.kept hS.2.1), fun q hq => vk_R.warm hW (h9 q hq), ⟨va_Mi.moved ha h10, va_Dc.moved ha h11⟩, ⟨va_Zq.moved ha (h12.kept hS.2.1), ev_L.moved ha (h13.kept hS.2.1)⟩, ⟨va_Zq.moved ha (h14.kept hS.2.1), ev_L.moved ha (h15.kept hS.2.1)⟩⟩
theorem ev_E.K {B : Nat} {D : va_G} {G : Nat → Nat} {s : State} (h : ev_E B D G s) : hm_K B D cl_W (ev_ty D) s := h.1
theorem hm_gc {B : Nat} {D : va_G} {G : Nat → Nat} {s : State} {M : hm_M} {H : Heap} {a : Nat} {x : vp_A} (hE : ev_E B D G s) (hP : hm_P D cl_W M H) (ha : M a = some (.inl (D.1 104, x))) : ∃ cell : Cell, H[a]? = some cell ∧ cell.vm.isStatics = false ∧ s.vm.findClass "[Ljava/lang/Object;" = some cell.cls := by
  obtain ⟨cell, h1, h2, h3, h4⟩ := (hP a _ ha).arr
  have hf : s.vm.findClass "[Ljava/lang/Object;" = some (D.1 104) := va_nmO (hE.K.1.2 4 _ rfl).2 rfl
  rcases h2 with h2 | ⟨h2, -⟩
  · exact ⟨cell, h1, hm_vmS h4, by rw [h2]; exact hf⟩
  · exfalso
    have g1 := ((hE.K.1.2 4 _ rfl).1 0 (fun _ => .null)).2
    have g2 := (hE.K.2.2.1 0 (fun _ => .null)).2
    obtain ⟨k1, e1, c1, q1⟩ := g1
    obtain ⟨k2, e2, c2, q2⟩ := g2
    have e1 : s.vm.classes[D.1 104]? = some k1 := e1
    have e2 : s.vm.classes[D.1 100]? = some k2 := e2
    have h2 : D.1 104 = D.1 100 := h2
    rw [h2, e2] at e1
    cases e1
    rw [q2] at q1
    cases q1
theorem ev_E.nest {B : Nat} {D : va_G} {G : Nat → Nat} {s : State} (h : ev_E B D G s) {w : Cond} (i : Nat) (hi : ev_nest[i]? = some w) : va_Nw w s := h.2.2.1 w (List.mem_of_getElem? hi)
theorem ev_E.str {B : Nat} {D : va_G} {G : Nat → Nat} {s : State} (h : ev_E B D G s) {q : String × Nat × String × Nat} (i : Nat) (hi : ev_str[i]? = some q) : vk_R q.1 q.2.1 q.2.2.1 (G q.2.2.2) s := h.2.2.2.2.2.2.2.1 q (List.mem_of_getElem? hi)
theorem ev_E.blind {B : Nat} {D : va_G} {G : Nat → Nat} {U : State} (h : ev_E B D G U) (g : JFrame) (mk : MethodId) (a : Array Value) : ev_E B D G (U.calling g mk a) :=
  h.go (H := U.heap) (locs := []) va_S.rf rfl (State.WarmedH.refl U)
/-- contracts: a method's start, its end -/
def hm_Pc (B : Nat) (D : va_G) (G : Nat → Nat) (M : hm_M) (av : List Value) : Array Value → State → Prop := va_Pc av (fun U => ev_E B D G U ∧ hm_P D cl_W M U.heap)
def hm_T (D : va_G) : hm_M → State → Prop := fun M t => hm_P D cl_W M t.heap
theorem hm_blind {B : Nat} {D : va_G} {G : Nat → Nat} {M : hm_M} {av : List Value} : FrameBlind (hm_Pc B D G M av) := fun a U g mk q => ⟨q.1, q.2.1.blind g mk a, q.2.2⟩
def hm_Ni (B : Nat) (D : va_G) (post : Int32 → hm_M → Prop) := va_Qi post (hm_T D) (hm_A B)
def hm_Nl (B : Nat) (D : va_G) (post : Int64 → hm_M → Prop) := va_Ql post (hm_T D) (hm_A B)
def hm_Nv (B : Nat) (D : va_G) (post : hm_M → Prop) := va_Qv post (hm_T D) (hm_A B)
def hm_Nr (B : Nat) (D : va_G) (post : Nat → hm_M → Prop) : Array Value → State → Outcome → State → Prop := va_Qr (S := hm_M) (fun _ => True) (fun u a t => post a u ∧ hm_P D cl_W u t.heap) (hm_A B)
def hm_Nq (B : Nat) (D : va_G) (post : Option Nat → hm_M → Prop) := va_Qq post (hm_T D) (hm_A B)
section HMC
variable {p : Program} {l : Launch} {e : Env} {R : Room} {s : State} {m : MethodId} {args : Array Value} {below : List Frame} {meth : Method} {c : Code} {H : Heap} {locs : List Loc} {cells slots : Nat} {Q : State → Prop}
variable {cc : ByteArray} {pc : Nat} {ls : Array Slot} {rest st0 : List Value} {B : Nat} {D : va_G} {G : Nat → Nat} {M : hm_M} {a : Array Value} {mc ms : Nat} {H0 : Heap}
theorem hm_ci {post : Int32 → hm_M → Prop} (hS : va_S (hm_A B) H0 H locs) (hr : va_Run p l e R s m args below meth c H locs cells slots mc ms (F0 m pc ls st0) rest (hm_Ni B D post a) (hm_A B))
    (kk : ∀ (r : Int32) (M1 : hm_M) (H1 : Heap) (locs1 : List Loc), post r M1 → hm_P D cl_W M1 H1 → va_S (hm_A B) H0 H1 locs1 → W p l e R s m args below meth c H1 locs1 (cells + mc) (slots + ms) Q (F0 m (pc + 3) ls (.int r :: rest))) : W p l e R s m args below meth c H locs cells slots Q (F0 m pc ls st0) :=
  va_calli hr hS (fun _ _ h => h) (fun _ h => h) (fun r u t H1 locs1 ht hvm hw hB hz hk hS1 => kk r u H1 locs1 hw (by rw [← ht]; exact hB) hS1)
theorem hm_cl {post : Int64 → hm_M → Prop} (hS : va_S (hm_A B) H0 H locs) (hr : va_Run p l e R s m args below meth c H locs cells slots mc ms (F0 m pc ls st0) rest (hm_Nl B D post a) (hm_A B))
    (kk : ∀ (r : Int64) (M1 : hm_M) (H1 : Heap) (locs1 : List Loc), post r M1 → hm_P D cl_W M1 H1 → va_S (hm_A B) H0 H1 locs1 → W p l e R s m args below meth c H1 locs1 (cells + mc) (slots + ms) Q (F0 m (pc + 3) ls (.long r :: rest))) : W p l e R s m args below meth c H locs cells slots Q (F0 m pc ls st0) :=
  va_calll hr hS (fun _ _ h => h) (fun _ h => h) (fun r u t H1 locs1 ht hvm hw hB hz hk hS1 => kk r u H1 locs1 hw (by rw [← ht]; exact hB) hS1)
theorem hm_cv {post : hm_M → Prop} (hS : va_S (hm_A B) H0 H locs) (hr : va_Run p l e R s m args below meth c H locs cells slots mc ms (F0 m pc ls st0) rest (hm_Nv B D post a) (hm_A B))
    (kk : ∀ (M1 : hm_M) (H1 : Heap) (locs1 : List Loc), post M1 → hm_P D cl_W M1 H1 → va_S (hm_A B) H0 H1 locs1 → W p l e R s m args below meth c H1 locs1 (cells + mc) (slots + ms) Q (F0 m (pc + 3) ls rest)) : W p l e R s m args below meth c H locs cells slots Q (F0 m pc ls st0) :=
  va_callv hr hS (fun _ _ h => h) (fun _ h => h) (fun u t H1 locs1 ht hvm hw hB hz hk hS1 => kk u H1 locs1 hw (by rw [← ht]; exact hB) hS1)
theorem hm_cr {post : Nat → hm_M → Prop} (hS : va_S (hm_A B) H0 H locs) (hr : va_Run p l e R s m args below meth c H locs cells slots mc ms (F0 m pc ls st0) rest (hm_Nr B D post a) (hm_A B))
    (kk : ∀ (r : Nat) (M1 : hm_M) (H1 : Heap) (locs1 : List Loc), post r M1 → hm_P D cl_W M1 H1 → va_S (hm_A B) H0 H1 locs1 → W p l e R s m args below meth c H1 locs1 (cells + mc) (slots + ms) Q (F0 m (pc + 3) ls (.ref r :: rest))) : W p l e R s m args below meth c H locs cells slots Q (F0 m pc ls st0) :=
  va_callr hr hS (fun _ _ h => h) (fun _ h => h) (fun u ra t H1 locs1 ht hvm hw hB hz hk hS1 => kk ra u H1 locs1 hB.1 (by rw [← ht]; exact hB.2) hS1)
theorem hm_cq {post : Option Nat → hm_M → Prop} (hS : va_S (hm_A B) H0 H locs) (hr : va_Run p l e R s m args below meth c H locs cells slots mc ms (F0 m pc ls st0) rest (hm_Nq B D post a) (hm_A B))
    (kk : ∀ (r : Option Nat) (M1 : hm_M) (H1 : Heap) (locs1 : List Loc), post r M1 → hm_P D cl_W M1 H1 → va_S (hm_A B) H0 H1 locs1 → W p l e R s m args below meth c H1 locs1 (cells + mc) (slots + ms) Q (F0 m (pc + 3) ls (va_rf r :: rest))) : W p l e R s m args below meth c H locs cells slots Q (F0 m pc ls st0) :=
  va_callq hr hS (fun _ _ h => h) (fun _ h => h) (fun r u t H1 locs1 ht hvm hw hB hz hk hS1 => kk r u H1 locs1 hw (by rw [← ht]; exact hB) hS1)
/-- the calls' words, out of the good ones -/
theorem tg_go {y : MethodName} {b : ByteArray} {n : Nat} {r : Option FieldType} (h : Cond.code y b n r ∈ tb_G) : GoodIn tb_G (Cond.code y b n r :: tb_G) := fun w hw => by
  rcases List.mem_cons.mp hw with e | e
  · rw [e]; exact ⟨h, tb_good h⟩
  · exact ⟨e, tb_good e⟩
variable {y : MethodName} {bytes : ByteArray} {maxL index nL : Nat} {ret : Option FieldType} {rm : Room} {own C : String} {Qc : Array Value → State → Outcome → State → Prop} {b : Nat} {As : List Value}
/-- invokestatic of a method with a contract -/
theorem hm_rS (n : Nat) (S : CallFix p m c cc nL s args tb_G own) (hE : ev_E B D G s) (hS : va_S (hm_A B) s.heap H locs) (hP : hm_P D cl_W M H) (hM : Met l y (Cond.code y bytes maxL ret :: tb_G) rm (hm_Pc B D G M As) Qc mc ms (hm_A B))
    (hc : Cond.code y bytes maxL ret ∈ tb_G) (hl : Cond.methodLink own index y ∈ tb_G) (hst : Cond.static y ∈ tb_G) (hi : Cond.initialized y.cls ∈ tb_G) (hd : y.cls ≠ "java/lang/invoke/MethodHandle" ∧ y.cls ≠ "java/lang/invoke/VarHandle" ∧ (parseMethodDescriptor y.desc).map (fun d => d.parameters.length) = some n) (hrc : rm.cells = mc) (hrs : rm.slots = ms) (hR : rm.frames + 1 ≤ R.frames ∧ 8 + (maxL + 11) + rm.locals ≤ R.locals)
    (hn : As.length = n) (hsize : ls.size = nL) (hstk : st0 = As.reverse ++ rest) (hW : (rest.map fun v => v.category).sum ≤ 8) (hdg : decode cc pc = .ok (.invokestatic index, 3)) (hf : cells + mc ≤ R.cells ∧ slots + ms ≤ R.slots) :
    va_Run p l e R s m args below meth c H locs cells slots mc ms (F0 m pc ls st0) rest (Qc As.toArray) (hm_A B) :=
  va_runS (As := As) (rest := rest) S hM ⟨callB_of n S.2.2.2.2 (tg_go hc) rfl hrc hrs (S.2.2.2.2 _ hi) (S.2.2.2.2 _ hl) hd hR, S.2.2.2.2 _ hst⟩ ⟨hm_blind, fun U hU hW => ⟨rfl, hE.go hS hU hW, by rw [hU]; exact hP⟩⟩ rfl hn hsize hstk (lv_room hW) hdg hf
/-- invokevirtual of a method of the receiver's own class -/
theorem hm_rV (n : Nat) {ci : Nat} {r : vw_C} {fs : List Value} (S : CallFix p m c cc nL s args tb_G own) (hE : ev_E B D G s) (hS : va_S (hm_A B) s.heap H locs) (hP : hm_P D cl_W M H) (hM : Met l y (Cond.code y bytes maxL ret :: tb_G) rm (hm_Pc B D G M (.ref b :: As)) Qc mc ms (hm_A B))
    (hcl : cl_W[ci]? = some r) (he : M b = some (.inr (ci, fs))) (hc : Cond.code y bytes maxL ret ∈ tb_G) (hl : Cond.methodLink own index y ∈ tb_G) (hin : Cond.instanceMethod y ∈ tb_G) (hse : Cond.selects r.1 y y ∈ tb_G) (hi : Cond.initialized y.cls ∈ tb_G) (hd : y.cls ≠ "java/lang/invoke/MethodHandle" ∧ y.cls ≠ "java/lang/invoke/VarHandle" ∧ (parseMethodDescriptor y.desc).map (fun d => d.parameters.length) = some n) (hrc : rm.cells = mc) (hrs : rm.slots = ms) (hR : rm.frames + 1 ≤ R.frames ∧ 8 + (maxL + 11) + rm.locals ≤ R.locals)
    (hn : As.length = n) (hsize : ls.size = nL) (hstk : st0 = As.reverse ++ .ref b :: rest) (hW : (rest.map fun v => v.category).sum ≤ 8) (hdg : decode cc pc = .ok (.invokevirtual index, 3)) (hf : cells + mc ≤ R.cells ∧ slots + ms ≤ R.slots) :
    va_Run p l e R s m args below meth c H locs cells slots mc ms (F0 m pc ls st0) rest (Qc (Value.ref b :: As).toArray) (hm_A B) :=
  va_runV (C := r.1) (As := As) (rest := rest) S hM ⟨callB_of n S.2.2.2.2 (tg_go hc) rfl hrc hrs (S.2.2.2.2 _ hi) (S.2.2.2.2 _ hl) hd hR, S.2.2.2.2 _ hin, S.2.2.2.2 _ hse⟩ ⟨hm_blind, hm_recv hE.K hP hcl he, fun U hU hW => ⟨rfl, hE.go hS hU hW, by rw [hU]; exact hP⟩⟩ rfl hn hsize hstk (lv_room hW) hdg hf
/-- invokespecial of a constructor -/
theorem hm_rI (n : Nat) (S : CallFix p m c cc nL s args tb_G own) (hE : ev_E B D G s) (hS : va_S (hm_A B) s.heap H locs) (hP : hm_P D cl_W M H) (hM : Met l y (Cond.code y bytes maxL none :: tb_G) rm (hm_Pc B D G M (.ref b :: As)) Qc mc ms (hm_A B))
    (hc : Cond.code y bytes maxL none ∈ tb_G) (hl : Cond.methodLink own index y ∈ tb_G) (hin : Cond.instanceMethod y ∈ tb_G) (hi : Cond.initialized y.cls ∈ tb_G) (hy1 : y.name = "<init>") (hd : y.cls ≠ "java/lang/invoke/MethodHandle" ∧ y.cls ≠ "java/lang/invoke/VarHandle" ∧ (parseMethodDescriptor y.desc).map (fun d => d.parameters.length) = some n) (hrc : rm.cells = mc) (hrs : rm.slots = ms) (hR : rm.frames + 1 ≤ R.frames ∧ 8 + (maxL + 11) + rm.locals ≤ R.locals)
    (hn : As.length = n) (hsize : ls.size = nL) (hstk : st0 = As.reverse ++ .ref b :: rest) (hW : (rest.map fun v => v.category).sum ≤ 8) (hdg : decode cc pc = .ok (.invokespecial index, 3)) (hf : cells + mc ≤ R.cells ∧ slots + ms ≤ R.slots) :
    va_Run p l e R s m args below meth c H locs cells slots mc ms (F0 m pc ls st0) rest (Qc (Value.ref b :: As).toArray) (hm_A B) :=
  va_runI (As := As) (rest := rest) S hM ⟨callB_of n S.2.2.2.2 (tg_go hc) rfl hrc hrs (S.2.2.2.2 _ hi) (S.2.2.2.2 _ hl) hd hR, hy1, S.2.2.2.2 _ hin⟩ ⟨hm_blind, fun U hU hW => ⟨rfl, hE.go hS hU hW, by rw [hU]; exact hP⟩⟩ rfl hn hsize hstk (lv_room hW) hdg hf
/-- invokespecial of a private constructor of a nest mate -/
theorem hm_rIN (n : Nat) {host : String} (S : CallFix p m c cc nL s args tb_G own) (hE : ev_E B D G s) (hS : va_S (hm_A B) s.heap H locs) (hP : hm_P D cl_W M H) (hM : Met l y (Cond.code y bytes maxL none :: tb_G) rm (hm_Pc B D G M (.ref b :: As)) Qc mc ms (hm_A B))
    (hc : Cond.code y bytes maxL none ∈ tb_G) (hl : va_Nw (.methodLinkNest own index y host) s) (hin : Cond.instanceMethod y ∈ tb_G) (hi : Cond.initialized y.cls ∈ tb_G) (hy1 : y.name = "<init>") (hd : y.cls ≠ "java/lang/invoke/MethodHandle" ∧ y.cls ≠ "java/lang/invoke/VarHandle" ∧ (parseMethodDescriptor y.desc).map (fun d => d.parameters.length) = some n) (hrc : rm.cells = mc) (hrs : rm.slots = ms) (hR : rm.frames + 1 ≤ R.frames ∧ 8 + (maxL + 11) + rm.locals ≤ R.locals)
    (hn : As.length = n) (hsize : ls.size = nL) (hstk : st0 = As.reverse ++ .ref b :: rest) (hW : (rest.map fun v => v.category).sum ≤ 8) (hdg : decode cc pc = .ok (.invokespecial index, 3)) (hf : cells + mc ≤ R.cells ∧ slots + ms ≤ R.slots) :
    va_Run p l e R s m args below meth c H locs cells slots mc ms (F0 m pc ls st0) rest (Qc (Value.ref b :: As).toArray) (hm_A B) :=
  va_runIN (As := As) (rest := rest) S hM ⟨va_cnB n S.2.2.2.2 (tg_go hc) rfl hrc hrs hl (S.2.2.2.2 _ hi) hd hR, hy1, S.2.2.2.2 _ hin⟩ ⟨hm_blind, fun U hU hW => ⟨rfl, hE.go hS hU hW, by rw [hU]; exact hP⟩⟩ rfl hn hsize hstk (lv_room hW) hdg hf
/-- the end of a method -/
theorem hm_Ei {post : Int32 → hm_M → Prop} {v : Int32} {ty : FieldType} (hexec : p.tables.exec = Jvm.exec) (hb : c.code = cc) (hr : meth.sig.returnType = some ty) (hn : narrow ty (.int v) = .int v) (hS : va_S (hm_A B) s.heap H locs) (hP : hm_P D cl_W M H) (hp : post v M) (hlocks : meth.locks = false) (hc : cells ≤ mc) (hs : slots ≤ ms) (hdg : decode cc pc = .ok (.ireturn, 1)) :
    W p l e R s m args below meth c H locs cells slots (MQ below (hm_Ni B D post) args s mc ms (hm_A B)) (F0 m pc ls [.int v]) :=
  W.widen hc hs (W.zret hexec hb hr hn (fun t ht hW => ⟨⟨v, M, rfl, hp, by show hm_P D cl_W M t.heap; rw [ht]; exact hP⟩, hS.F ht⟩) hS.2.2 hdg hlocks)
theorem hm_El {post : Int64 → hm_M → Prop} {v : Int64} (hexec : p.tables.exec = Jvm.exec) (hb : c.code = cc) (hr : meth.sig.returnType = some .long) (hS : va_S (hm_A B) s.heap H locs) (hP : hm_P D cl_W M H) (hp : post v M) (hlocks : meth.locks = false) (hc : cells ≤ mc) (hs : slots ≤ ms) (hdg : decode cc pc = .ok (.lreturn, 1)) :
    W p l e R s m args below meth c H locs cells slots (MQ below (hm_Nl B D post) args s mc ms (hm_A B)) (F0 m pc ls [.long v]) :=
  W.widen hc hs (W.lret hexec hb hr (fun t ht hW => ⟨⟨v, M, rfl, hp, by show hm_P D cl_W M t.heap; rw [ht]; exact hP⟩, hS.F ht⟩) hS.2.2 hdg hlocks)
theorem hm_Ev {post : hm_M → Prop} (hexec : p.tables.exec = Jvm.exec) (hb : c.code = cc) (hr : meth.sig.returnType = none) (hS : va_S (hm_A B) s.heap H locs) (hP : hm_P D cl_W M H) (hp : post M) (hlocks : meth.locks = false) (hc : cells ≤ mc) (hs : slots ≤ ms) (hdg : decode cc pc = .ok (.return_, 1)) :
    W p l e R s m args below meth c H locs cells slots (MQ below (hm_Nv B D post) args s mc ms (hm_A B)) (F0 m pc ls []) :=
  W.widen hc hs (W.vret hexec hb hr (fun t ht hW => ⟨⟨M, rfl, hp, by show hm_P D cl_W M t.heap; rw [ht]; exact hP⟩, hS.F ht⟩) hS.2.2 hdg hlocks)
theorem hm_Er {post : Nat → hm_M → Prop} {v : Nat} {rt : FieldType} (hexec : p.tables.exec = Jvm.exec) (hb : c.code = cc) (hr : meth.sig.returnType = some rt) (hrt : (∃ n, rt = .object n) ∨ ∃ t, rt = .array t) (hS : va_S (hm_A B) s.heap H locs) (hP : hm_P D cl_W M H) (hp : post v M) (hlocks : meth.locks = false) (hc : cells ≤ mc) (hs : slots ≤ ms) (hdg : decode cc pc = .ok (.areturn, 1)) :
    W p l e R s m args below meth c H locs cells slots (MQ below (hm_Nr B D post) args s mc ms (hm_A B)) (F0 m pc ls [.ref v]) :=
  W.widen hc hs (W.aret hexec hb hr hrt (Or.inr ⟨v, rfl⟩) (fun t ht hW => ⟨⟨M, v, rfl, trivial, hp, by show hm_P D cl_W M t.heap; rw [ht]; exact hP⟩, hS.F ht⟩) hS.2.2 hdg hlocks)
theorem hm_Eq {post : Option Nat → hm_M → Prop} {v : Option Nat} {rt : FieldType} (hexec : p.tables.exec = Jvm.exec) (hb : c.code = cc) (hr : meth.sig.returnType = some rt) (hrt : (∃ n, rt = .object n) ∨ ∃ t, rt = .array t) (hS : va_S (hm_A B) s.heap H locs) (hP : hm_P D cl_W M H) (hp : post v M) (hlocks : meth.locks = false) (hc : cells ≤ mc) (hs : slots ≤ ms) (hdg : decode cc pc = .ok (.areturn, 1)) :
    W p l e R s m args below meth c H locs cells slots (MQ below (hm_Nq B D post) args s mc ms (hm_A B)) (F0 m pc ls [va_rf v]) :=
  W.widen hc hs (W.aret hexec hb hr hrt (va_rf_or v) (fun t ht hW => ⟨⟨v, M, rfl, hp, by show hm_P D cl_W M t.heap; rw [ht]; exact hP⟩, hS.F ht⟩) hS.2.2 hdg hlocks)
end HMC
