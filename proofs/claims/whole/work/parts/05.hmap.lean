/-! THE HEAP AS A MAP: a ghost map M from addresses to what the cell holds; every row says how M turns. -/
abbrev hm_M : Type := Nat → Option va_E
/-- whose class an array's cell may have: the one that is named, or (rows of bytes of the String constants) one of four others -/
def hm_cls (D : va_G) (c c' : ClassId) : Prop := c = c' ∨ (c' = D.1 100 ∧ ∃ i, 111 ≤ i ∧ i ≤ 114 ∧ c = D.1 i)
def hm_vm (x : VmData) : Prop := x ≠ .unknown ∧ ∀ k, x ≠ .statics k
theorem hm_vm0 : hm_vm .none := ⟨fun h => (by cases h), fun k h => (by cases h)⟩
theorem vp_sz (cA : ClassId) (x : vp_A) : (vp_cell cA x).slots.size = x.1 := by
  obtain ⟨n, f | f | f | f | f⟩ := x <;> exact arrV_size _ _ _
/-- a row that holds at least what b holds, and whose length is b's as an int -/
def hm_sl (a b : Array Value) : Prop := b.size ≤ a.size ∧ Int32.ofNat a.size = Int32.ofNat b.size ∧ ∀ j, j < b.size → a[j]? = b[j]?
theorem hm_sl0 {a : Array Value} : hm_sl a a := ⟨Nat.le_refl _, rfl, fun _ _ => rfl⟩
theorem hm_sl.get {a b : Array Value} (h : hm_sl a b) {j : Nat} {v : Value} (hj : b[j]? = some v) : a[j]? = some v := by
  rw [h.2.2 j (Array.getElem?_eq_some_iff.mp hj).1]; exact hj
/-- a cell that was there before the law began, as far as it is known -/
def hm_wk (D : va_G) (cl : List vw_C) (q : Nat × va_E) (H : Heap) : Prop := match q.2 with
  | .inl a => ∃ cell : Cell, H[q.1]? = some cell ∧ hm_cls D cell.cls a.1 ∧ hm_sl cell.slots (vp_cell a.1 a.2).slots ∧ hm_vm cell.vm
  | .inr o => ∃ r : vw_C, cl[o.1]? = some r ∧ ∃ cell : Cell, H[q.1]? = some cell ∧ cell.cls = D.1 o.1 ∧ hm_vm cell.vm ∧ ∀ k, k < r.2.2 → cell.slots[D.2 o.1 k]? = some (vp_V o.2 k)
def hm_at (D : va_G) (cl : List vw_C) (q : Nat × va_E) (H : Heap) : Prop := va_at D cl q H ∨ (q.1 < D.2 900 0 ∧ hm_wk D cl q H)
theorem hm_at.kept {D : va_G} {cl : List vw_C} {q : Nat × va_E} {H H1 : Heap} (h : hm_at D cl q H) (hq : H1[q.1]? = H[q.1]?) : hm_at D cl q H1 := by
  rcases h with h | ⟨h0, h⟩
  · exact Or.inl (h.kept hq)
  · refine Or.inr ⟨h0, ?_⟩
    obtain ⟨a, e⟩ := q
    cases e with
    | inl x =>
      obtain ⟨cell, h1, h2⟩ := h
      exact ⟨cell, by rw [hq]; exact h1, h2⟩
    | inr o =>
      obtain ⟨r, h1, cell, h2, h3⟩ := h
      exact ⟨r, h1, cell, by rw [hq]; exact h2, h3⟩
theorem hm_at.arr {D : va_G} {cl : List vw_C} {a : Nat} {x : ClassId × vp_A} {H : Heap} (h : hm_at D cl (a, .inl x) H) : ∃ cell : Cell, H[a]? = some cell ∧ hm_cls D cell.cls x.1 ∧ hm_sl cell.slots (vp_cell x.1 x.2).slots ∧ hm_vm cell.vm := by
  rcases h with h | ⟨-, h⟩
  · refine ⟨_, h, Or.inl ?_, hm_sl0, ?_⟩
    · obtain ⟨cA, n, f | f | f | f | f⟩ := x <;> rfl
    · obtain ⟨cA, n, f | f | f | f | f⟩ := x <;> exact hm_vm0
  · exact h
theorem hm_at.obj {D : va_G} {cl : List vw_C} {a : Nat} {o : Nat × List Value} {H : Heap} (h : hm_at D cl (a, .inr o) H) : ∃ r : vw_C, cl[o.1]? = some r ∧ ∃ cell : Cell, H[a]? = some cell ∧ cell.cls = D.1 o.1 ∧ hm_vm cell.vm ∧ ∀ k, k < r.2.2 → cell.slots[D.2 o.1 k]? = some (vp_V o.2 k) := by
  rcases h with h | ⟨-, h⟩
  · obtain ⟨r, h1, cell, h2, h3, h4, h5⟩ := h
    exact ⟨r, h1, cell, h2, h3, by rw [h4]; exact hm_vm0, h5⟩
  · exact h
theorem hm_at.lt {D : va_G} {cl : List vw_C} {q : Nat × va_E} {H : Heap} (h : hm_at D cl q H) : q.1 < H.size := by
  obtain ⟨a, e⟩ := q
  cases e with
  | inl x =>
    obtain ⟨cell, h1, -⟩ := h.arr
    exact (Array.getElem?_eq_some_iff.mp h1).1
  | inr o =>
    obtain ⟨r, -, cell, h1, -⟩ := h.obj
    exact (Array.getElem?_eq_some_iff.mp h1).1
def hm_P (D : va_G) (cl : List vw_C) (M : hm_M) (H : Heap) : Prop := ∀ (a : Nat) (x : va_E), M a = some x → hm_at D cl (a, x) H
def hm_up (M : hm_M) (a : Nat) (x : va_E) : hm_M := fun q => if q = a then some x else M q
theorem hm_up_s {M : hm_M} {a : Nat} {x : va_E} : hm_up M a x a = some x := if_pos rfl
theorem hm_up_n {M : hm_M} {a q : Nat} {x : va_E} (h : q ≠ a) : hm_up M a x q = M q := if_neg h
theorem hm_up_o {M : hm_M} {a q : Nat} {x y : va_E} (h : q ≠ a) (hy : M q = some y) : hm_up M a x q = some y := (hm_up_n h).trans hy
theorem hm_ne {M : hm_M} {a b : Nat} {x y : va_E} (ha : M a = some x) (hb : M b = some y) (h : x ≠ y) : a ≠ b := fun e => h (Option.some.inj (by rw [← ha, ← hb, e]))
theorem hm_neN {M : hm_M} {a b : Nat} {x : va_E} (ha : M a = some x) (hb : M b = none) : a ≠ b := fun e => by rw [e, hb] at ha; cases ha
theorem hm_P.lt {D : va_G} {cl : List vw_C} {M : hm_M} {H : Heap} {a : Nat} {x : va_E} (h : hm_P D cl M H) (hx : M a = some x) : a < H.size := (h a x hx).lt
theorem hm_P.fresh {D : va_G} {cl : List vw_C} {M : hm_M} {H : Heap} {q : Nat} (h : hm_P D cl M H) (hq : H.size ≤ q) : M q = none := by
  cases hm : M q with
  | none => rfl
  | some x => have := h.lt hm; omega
theorem hm_P.up {D : va_G} {cl : List vw_C} {M : hm_M} {H H1 : Heap} {a : Nat} {x : va_E} (h : hm_P D cl M H) (hx0 : va_at D cl (a, x) H1) (oq : ∀ q : Nat, q ≠ a → H1[q]? = H[q]?) : hm_P D cl (hm_up M a x) H1 := by
  intro q y hq
  by_cases e : q = a
  · subst e
    rw [hm_up_s] at hq
    cases hq
    exact Or.inl hx0
  · rw [hm_up_n e] at hq
    exact (h q y hq).kept (oq q e)
theorem hm_P.new {D : va_G} {cl : List vw_C} {M : hm_M} {H H1 : Heap} {x : va_E} (h : hm_P D cl M H) (hx0 : va_at D cl (H.size, x) H1) (oq : ∀ q : Nat, q < H.size → H1[q]? = H[q]?) : hm_P D cl (hm_up M H.size x) H1 := by
  intro q y hq
  by_cases e : q = H.size
  · subst e
    rw [hm_up_s] at hq
    cases hq
    exact Or.inl hx0
  · rw [hm_up_n e] at hq
    exact (h q y hq).kept (oq q (h.lt hq))
theorem hm_P.kept {D : va_G} {cl : List vw_C} {M : hm_M} {H H1 : Heap} (h : hm_P D cl M H) (oq : ∀ q : Nat, q < H.size → H1[q]? = H[q]?) : hm_P D cl M H1 := fun q y hq => (h q y hq).kept (oq q (h.lt hq))
def hm_A (B : Nat) : Nat → Prop := fun q => B ≤ q
/-- the classes, the array classes; where the law's own cells begin -/
def hm_K (B : Nat) (D : va_G) (cl : List vw_C) (tys : List (ClassId × FieldType)) (U : State) : Prop := va_K D cl tys U ∧ D.2 900 0 ≤ B ∧ ArrOfT U (D.1 100) .byte ∧ ∀ i, 111 ≤ i → i ≤ 114 → ArrOfT U (D.1 i) .byte
theorem hm_K.moved {B : Nat} {D : va_G} {cl : List vw_C} {tys : List (ClassId × FieldType)} {u U : State} (hvm : u.vm.Alike U.vm) (h : hm_K B D cl tys u) : hm_K B D cl tys U := ⟨va_K.moved hvm h.1, h.2.1, arrOfT_moved hvm h.2.2.1, fun i h1 h2 => arrOfT_moved hvm (h.2.2.2 i h1 h2)⟩
theorem hm_ao {B : Nat} {D : va_G} {cl : List vw_C} {tys : List (ClassId × FieldType)} {s : State} {cA : ClassId} {ty : FieldType} {t0 : Nat} {cell : Cell} (hK : hm_K B D cl tys s) (ht : tys[t0]? = some (cA, ty)) (hc : hm_cls D cell.cls cA) (hv : hm_vm cell.vm) : s.isArrayOf cell ty := by
  have h1 := (hK.1.2 t0 _ ht).1 0 (fun _ => .null)
  rcases hc with hc | ⟨hc, i, g1, g2, g3⟩
  · refine ⟨hv.2, ?_⟩
    rw [hc]; exact h1.2
  · have h2 := hK.2.2.1 0 (fun _ => .null)
    have h3 := hK.2.2.2 i g1 g2 0 (fun _ => .null)
    obtain ⟨k1, e1, c1, q1⟩ := h1.2
    obtain ⟨k2, e2, c2, q2⟩ := h2.2
    have e1 : s.vm.classes[cA]? = some k1 := e1
    have e2 : s.vm.classes[D.1 100]? = some k2 := e2
    rw [hc, e2] at e1
    cases e1
    rw [q2] at q1
    cases q1
    refine ⟨hv.2, ?_⟩
    rw [g3]; exact h3.2
theorem hm_st {B : Nat} {D : va_G} {cl : List vw_C} {tys : List (ClassId × FieldType)} {s : State} {q : Nat × va_E} {H : Heap} (hK : hm_K B D cl tys s) (h : hm_at D cl q H) (hA : hm_A B q.1) : va_at D cl q H := by
  rcases h with h | ⟨h, -⟩
  · exact h
  · have h1 := hK.2.1
    have h2 : B ≤ q.1 := hA
    omega
theorem hm_one {B : Nat} {D : va_G} {cl : List vw_C} {tys : List (ClassId × FieldType)} {s : State} {M : hm_M} {H : Heap} {a : Nat} {x : va_E} (hK : hm_K B D cl tys s) (h : hm_P D cl M H) (hx : M a = some x) (hA : hm_A B a) : va_P D cl [(a, x)] H := by
  intro k q hk
  cases k with
  | zero => cases hk; exact hm_st hK (h a x hx) hA
  | succ k => simp at hk
theorem hm_vmS {x : VmData} (h : hm_vm x) : x.isStatics = false := by
  cases hv : x with
  | statics k => exact absurd hv (h.2 k)
  | _ => rfl
section HMR
variable {p : Program} {l : Launch} {e : Env} {R : Room} {s : State} {m : MethodId} {args : Array Value} {below : List Frame} {meth : Method} {c : Code} {H : Heap} {locs : List Loc} {cells slots : Nat} {Q : State → Prop}
variable {cc : ByteArray} {pc : Nat} {ls : Array Slot} {rest : List Value} {D : va_G} {cl : List vw_C} {B : Nat} {a : Nat} {tys : List (ClassId × FieldType)} {M : hm_M} {H0 : Heap}
theorem hm_get (hexec : p.tables.exec = Jvm.exec) (hb : c.code = cc) {own ref C : String} {T : u_T} {N ci index : Nat} {Ts : List Cond} (hts : ∀ w ∈ Ts, w.before args s = true) (hin : ∀ w ∈ u_ws C T N, w ∈ Ts) (hown : s.vm.findClass own = some m.cls) (hK : hm_K B D cl tys s) (hP : hm_P D cl M H) {fs : List Value} (he : M a = some (.inr (ci, fs))) (hc : cl[ci]? = some (C, T, N)) (k : Nat) (hk : k < N) (hlink : (Cond.fieldLink own index ref (T k).2.1 (T k).2.2.1).before args s = true) (hsame : ∀ x, s.fieldFound? (T k).1 (T k).2.1 (T k).2.2.1 = some x → s.fieldFound? ref (T k).2.1 (T k).2.2.1 = some x) {v : Value} (hv : fs[k]? = some v) (hdg : decode cc pc = .ok (.getfield index, 3))
    (kk : W p l e R s m args below meth c H locs cells slots Q (F0 m (pc + 3) ls (v :: rest))) : W p l e R s m args below meth c H locs cells slots Q (F0 m pc ls (.ref a :: rest)) :=
  by
  obtain ⟨r, h1, cell, q1, q2, q3, q4⟩ := (hP a _ he).obj
  have hr : r = (C, T, N) := Option.some.inj (h1.symm.trans hc)
  subst hr
  obtain ⟨hS, hfc, kC, hkC, hkind⟩ := hK.1.1 ci _ hc
  obtain ⟨cf, kf, fi, f, hi, hsl⟩ := hS k hk
  refine W.getf hexec hb hown hlink (hsame _ hi) (u_facts hfc hkC (u_lays hts hin hk) hi).1 q1 q3.1 (v := v) ?_ rfl rfl hdg kk
  rw [hsl, q4 k hk]
  simp [vp_V, hv]
theorem hm_getN (hexec : p.tables.exec = Jvm.exec) (hb : c.code = cc) {own ref C host : String} {T : u_T} {N ci index : Nat} {Ts : List Cond} (hts : ∀ w ∈ Ts, w.before args s = true) (hin : ∀ w ∈ u_ws C T N, w ∈ Ts) (hown : s.vm.findClass own = some m.cls) (hK : hm_K B D cl tys s) (hP : hm_P D cl M H) {fs : List Value} (he : M a = some (.inr (ci, fs))) (hc : cl[ci]? = some (C, T, N)) (k : Nat) (hk : k < N) (hlink : (Cond.fieldLinkNest own index ref (T k).2.1 (T k).2.2.1 host).before args s = true) (hsame : ∀ x, s.fieldFound? (T k).1 (T k).2.1 (T k).2.2.1 = some x → s.fieldFound? ref (T k).2.1 (T k).2.2.1 = some x) {v : Value} (hv : fs[k]? = some v) (hdg : decode cc pc = .ok (.getfield index, 3))
    (kk : W p l e R s m args below meth c H locs cells slots Q (F0 m (pc + 3) ls (v :: rest))) : W p l e R s m args below meth c H locs cells slots Q (F0 m pc ls (.ref a :: rest)) :=
  by
  obtain ⟨r, h1, cell, q1, q2, q3, q4⟩ := (hP a _ he).obj
  have hr : r = (C, T, N) := Option.some.inj (h1.symm.trans hc)
  subst hr
  obtain ⟨hS, hfc, kC, hkC, hkind⟩ := hK.1.1 ci _ hc
  obtain ⟨cf, kf, fi, f, hi, hsl⟩ := hS k hk
  refine va_Wgetf hexec hb hown hlink (hsame _ hi) (u_facts hfc hkC (u_lays hts hin hk) hi).1 q1 q3.1 (v := v) ?_ rfl rfl hdg kk
  rw [hsl, q4 k hk]
  simp [vp_V, hv]
theorem hm_put (hexec : p.tables.exec = Jvm.exec) (hb : c.code = cc) {own ref C : String} {T : u_T} {N ci index : Nat} {Ts : List Cond} (hts : ∀ w ∈ Ts, w.before args s = true) (hin : ∀ w ∈ u_ws C T N, w ∈ Ts) (ty0 : Nat → FieldType) (hty : ∀ k, k < N → parseFieldDescriptor (T k).2.2.1 = some (ty0 k)) (hnm : ∀ a, a < N → ∀ b, b < N → a ≠ b → (T a).2.1 ≠ (T b).2.1) (hown : s.vm.findClass own = some m.cls) (hK : hm_K B D cl tys s) (hP : hm_P D cl M H) (hS0 : va_S (hm_A B) H0 H locs) (hA : hm_A B a) {fs : List Value} (he : M a = some (.inr (ci, fs))) (hc : cl[ci]? = some (C, T, N)) (k : Nat) (hk : k < N) (hlink : (Cond.fieldLink own index ref (T k).2.1 (T k).2.2.1).before args s = true) (hsame : ∀ x, s.fieldFound? (T k).1 (T k).2.1 (T k).2.2.1 = some x → s.fieldFound? ref (T k).2.1 (T k).2.2.1 = some x) (hfin : (T k).2.2.2 = false) {ty : FieldType} {v : Value} (hd : parseFieldDescriptor (T k).2.2.1 = some ty) (hn : narrow ty v = v) (hfit : fits ty v = true) (hl : k < fs.length)
    (hdg : decode cc pc = .ok (.putfield index, 3)) (kk : ∀ (H1 : Heap) (locs1 : List Loc), hm_P D cl (hm_up M a (.inr (ci, fs.set k v))) H1 → va_S (hm_A B) H0 H1 locs1 → W p l e R s m args below meth c H1 locs1 cells slots Q (F0 m (pc + 3) ls rest)) : W p l e R s m args below meth c H locs cells slots Q (F0 m pc ls (v :: .ref a :: rest)) := by
  have hap := va_apart (own := own) hts hin ty0 hty hnm hK.1 hc
  obtain ⟨r, h1, cell, q1, q2, q3, q4⟩ := hm_st hK (hP a _ he) hA
  have hr : r = (C, T, N) := Option.some.inj (h1.symm.trans hc)
  subst hr
  obtain ⟨hS, hfc, kC, hkC, hkind⟩ := hK.1.1 ci _ hc
  obtain ⟨cf, kf, fi, f, hi, hsl⟩ := hS k hk
  have hlay := hts _ (hin _ (u_in_lay hk))
  unfold u_lay at hlay
  rw [if_neg (by rw [hfin]; decide)] at hlay
  have hst := (u_facts hfc hkC (u_lays hts hin hk) hi).1
  have h6 := u_store hfc hkC hkind hlay hi hd hn hfit
  refine W.putK hexec hb (f := f) ⟨hown, hlink, ⟨_, _, _, hsame _ hi⟩, hst⟩ (by rw [q2]; exact h6) q1 q3 (by rw [hsl]; exact k2_hasslot (q4 k hk)) rfl rfl hdg fun H' e1 e2 e3 => ?_
  rw [hsl] at e1 ⊢
  exact kk H' _ (hP.up ⟨_, hc, t_OB.to (V := updV (vp_V fs) k v) ⟨_, e1, q2, q3, t_set q4 hap hk v⟩ (fun j _ => vp_updV_set hl v j)⟩ e3) (hS0.put e2 e3 hA)
theorem hm_putN (hexec : p.tables.exec = Jvm.exec) (hb : c.code = cc) {own ref C host : String} {T : u_T} {N ci index : Nat} {Ts : List Cond} (hts : ∀ w ∈ Ts, w.before args s = true) (hin : ∀ w ∈ u_ws C T N, w ∈ Ts) (ty0 : Nat → FieldType) (hty : ∀ k, k < N → parseFieldDescriptor (T k).2.2.1 = some (ty0 k)) (hnm : ∀ a, a < N → ∀ b, b < N → a ≠ b → (T a).2.1 ≠ (T b).2.1) (hown : s.vm.findClass own = some m.cls) (hK : hm_K B D cl tys s) (hP : hm_P D cl M H) (hS0 : va_S (hm_A B) H0 H locs) (hA : hm_A B a) {fs : List Value} (he : M a = some (.inr (ci, fs))) (hc : cl[ci]? = some (C, T, N)) (k : Nat) (hk : k < N) (hlink : (Cond.fieldLinkNest own index ref (T k).2.1 (T k).2.2.1 host).before args s = true) (hsame : ∀ x, s.fieldFound? (T k).1 (T k).2.1 (T k).2.2.1 = some x → s.fieldFound? ref (T k).2.1 (T k).2.2.1 = some x) (hfin : (T k).2.2.2 = false) {ty : FieldType} {v : Value} (hd : parseFieldDescriptor (T k).2.2.1 = some ty) (hn : narrow ty v = v) (hfit : fits ty v = true) (hl : k < fs.length)
    (hdg : decode cc pc = .ok (.putfield index, 3)) (kk : ∀ (H1 : Heap) (locs1 : List Loc), hm_P D cl (hm_up M a (.inr (ci, fs.set k v))) H1 → va_S (hm_A B) H0 H1 locs1 → W p l e R s m args below meth c H1 locs1 cells slots Q (F0 m (pc + 3) ls rest)) : W p l e R s m args below meth c H locs cells slots Q (F0 m pc ls (v :: .ref a :: rest)) := by
  have hap := va_apart (own := own) hts hin ty0 hty hnm hK.1 hc
  obtain ⟨r, h1, cell, q1, q2, q3, q4⟩ := hm_st hK (hP a _ he) hA
  have hr : r = (C, T, N) := Option.some.inj (h1.symm.trans hc)
  subst hr
  obtain ⟨hS, hfc, kC, hkC, hkind⟩ := hK.1.1 ci _ hc
  obtain ⟨cf, kf, fi, f, hi, hsl⟩ := hS k hk
  have hlay := hts _ (hin _ (u_in_lay hk))
  unfold u_lay at hlay
  rw [if_neg (by rw [hfin]; decide)] at hlay
  have hst := (u_facts hfc hkC (u_lays hts hin hk) hi).1
  have h6 := u_store hfc hkC hkind hlay hi hd hn hfit
  refine va_WputK hexec hb (f := f) hown hlink (hsame _ hi) hst (by rw [q2]; exact h6) q1 q3 (by rw [hsl]; exact k2_hasslot (q4 k hk)) rfl rfl hdg fun H' e1 e2 e3 => ?_
  rw [hsl] at e1 ⊢
  exact kk H' _ (hP.up ⟨_, hc, t_OB.to (V := updV (vp_V fs) k v) ⟨_, e1, q2, q3, t_set q4 hap hk v⟩ (fun j _ => vp_updV_set hl v j)⟩ e3) (hS0.put e2 e3 hA)
theorem hm_putF (hexec : p.tables.exec = Jvm.exec) (hb : c.code = cc) {own ref C : String} {T : u_T} {N ci index : Nat} {Ts : List Cond} (hts : ∀ w ∈ Ts, w.before args s = true) (hin : ∀ w ∈ u_ws C T N, w ∈ Ts) (ty0 : Nat → FieldType) (hty : ∀ k, k < N → parseFieldDescriptor (T k).2.2.1 = some (ty0 k)) (hnm : ∀ a, a < N → ∀ b, b < N → a ≠ b → (T a).2.1 ≠ (T b).2.1) (hown : s.vm.findClass own = some m.cls) (hK : hm_K B D cl tys s) (hP : hm_P D cl M H) (hS0 : va_S (hm_A B) H0 H locs) (hA : hm_A B a) {fs : List Value} (he : M a = some (.inr (ci, fs))) (hc : cl[ci]? = some (C, T, N)) (k : Nat) (hk : k < N) (hlink : (Cond.fieldLink own index ref (T k).2.1 (T k).2.2.1).before args s = true) (hsame : ∀ x, s.fieldFound? (T k).1 (T k).2.1 (T k).2.2.1 = some x → s.fieldFound? ref (T k).2.1 (T k).2.2.1 = some x) (hfin : (T k).2.2.2 = true) (hin2 : meth.name = "<init>") (hdecl : (T k).1 = own) {ty : FieldType} {v : Value} (hd : parseFieldDescriptor (T k).2.2.1 = some ty) (hn : narrow ty v = v) (hfit : fits ty v = true) (hl : k < fs.length)
    (hdg : decode cc pc = .ok (.putfield index, 3)) (kk : ∀ (H1 : Heap) (locs1 : List Loc), hm_P D cl (hm_up M a (.inr (ci, fs.set k v))) H1 → va_S (hm_A B) H0 H1 locs1 → W p l e R s m args below meth c H1 locs1 cells slots Q (F0 m (pc + 3) ls rest)) : W p l e R s m args below meth c H locs cells slots Q (F0 m pc ls (v :: .ref a :: rest)) := by
  have hap := va_apart (own := own) hts hin ty0 hty hnm hK.1 hc
  obtain ⟨r, h1, cell, q1, q2, q3, q4⟩ := hm_st hK (hP a _ he) hA
  have hr : r = (C, T, N) := Option.some.inj (h1.symm.trans hc)
  subst hr
  obtain ⟨hS, hfc, kC, hkC, hkind⟩ := hK.1.1 ci _ hc
  obtain ⟨cf, kf, fi, f, hi, hsl⟩ := hS k hk
  have hlay := hts _ (hin _ (u_in_lay hk))
  unfold u_lay at hlay
  rw [if_pos hfin] at hlay
  have hst := (u_facts hfc hkC (u_lays hts hin hk) hi).1
  have hcf : m.cls = cf := by
    obtain ⟨_, _, c', _, _, _, -, -, hf', -, -, -, hown2, -⟩ := Cond.laysFinal_spec hlay
    have e1 : c' = cf := by have := hi.symm.trans hf'; simp at this; exact this.1.symm
    rw [hdecl] at hown2
    rw [← e1]; exact Option.some.inj (hown.symm.trans hown2)
  have h6 := u_fits hfc hkC hkind (Or.inr hlay) hi hd hn hfit
  refine W.putFinK hexec hb hown hlink (hsame _ hi) hst hcf hin2 (by rw [q2]; exact h6) q1 q3 (by rw [hsl]; exact k2_hasslot (q4 k hk)) rfl rfl hdg fun H' e1 e2 e3 => ?_
  rw [hsl] at e1 ⊢
  exact kk H' _ (hP.up ⟨_, hc, t_OB.to (V := updV (vp_V fs) k v) ⟨_, e1, q2, q3, t_set q4 hap hk v⟩ (fun j _ => vp_updV_set hl v j)⟩ e3) (hS0.put e2 e3 hA)
theorem hm_new (hexec : p.tables.exec = Jvm.exec) (hb : c.code = cc) {own C : String} {T : u_T} {N n ci index : Nat} {Ts : List Cond} (hts : ∀ w ∈ Ts, w.before args s = true) (hin : ∀ w ∈ u_ws C T N, w ∈ Ts) (ty : Nat → FieldType) (hty : ∀ k, k < N → parseFieldDescriptor (T k).2.2.1 = some (ty k)) (hown : s.vm.findClass own = some m.cls) (hcl : (Cond.classLink own index C).before args s = true) (hinst : (Cond.instantiable C n).before args s = true) (hini : (Cond.initialized C).before args s = true)
    (hK : hm_K B D cl tys s) (hP : hm_P D cl M H) (hS : va_S (hm_A B) H0 H locs) (hc : cl[ci]? = some (C, T, N)) {fs : List Value} (hfs : ∀ j, j < N → defaultValue (ty j) = vp_V fs j) (hcells : cells + 1 ≤ R.cells) (hslots : slots + n ≤ R.slots) (hdg : decode cc pc = .ok (.new index, 3))
    (kk : ∀ (q : Nat) (H1 : Heap), H0.size ≤ q → M q = none → hm_P D cl (hm_up M q (.inr (ci, fs))) H1 → va_S (hm_A B) H0 H1 locs →
      W p l e R s m args below meth c H1 locs (cells + 1) (slots + n) Q (F0 m (pc + 3) ls (.ref q :: rest))) : W p l e R s m args below meth c H locs cells slots Q (F0 m pc ls rest) := by
  have hKn := hK.1.1 ci _ hc
  refine W.newcK hexec hb hown hcl hinst hini rfl hdg hcells hslots hKn.2.1 rfl fun H1 kC hkC e1 z1 o1 => ?_
  refine kk H.size H1 hS.1 (hP.fresh (Nat.le_refl _)) (hP.new ⟨_, hc, (u_born ty hts hin hKn hkC e1 hty).to hfs⟩ o1) ⟨Nat.le_trans hS.1 (by omega), fun x h1 h2 => (o1 x (Nat.lt_of_lt_of_le h1 hS.1)).trans (hS.2.1 x h1 h2), hS.2.2⟩
/-- a new array of numbers: its class is the one that the tables name -/
theorem hm_newa (hexec : p.tables.exec = Jvm.exec) (hb : c.code = cc) {atype : ArrayType} (harr : (Cond.arrayClass (newarray.typeOf atype)).before args s = true) {ty : FieldType} (hty : newarray.typeOf atype = ty) (hK : hm_K B D cl tys s) (hP : hm_P D cl M H) (hS : va_S (hm_A B) H0 H locs) (t0 : Nat) {cA : ClassId} (ht : tys[t0]? = some (cA, ty)) (hno : ∀ C, ty ≠ .object C)
    {n : Int32} {N' : Nat} {a0 : vp_A} (ha : vp_cell cA a0 = arrV cA N' (fun _ => defaultValue ty)) (hn : ¬ n < 0) (hN : n.toNatClampNeg = N') (hbytes : N' * componentBytes ty ≤ 536870912) (hcells : cells + 1 ≤ R.cells) (hslots : slots + N' ≤ R.slots) (hdg : decode cc pc = .ok (.newarray atype, 2))
    (kk : ∀ (q : Nat) (H1 : Heap), H0.size ≤ q → M q = none → hm_P D cl (hm_up M q (.inl (cA, a0))) H1 → va_S (hm_A B) H0 H1 locs →
      W p l e R s m args below meth c H1 locs (cells + 1) (slots + N') Q (F0 m (pc + 2) ls (.ref q :: rest))) : W p l e R s m args below meth c H locs cells slots Q (F0 m pc ls (.int n :: rest)) := by
  subst hty
  refine va_newaK hexec hb harr rfl hdg rfl hn hN hbytes hcells hslots rfl fun H1 cA' e1 z1 o1 hAr hNm => ?_
  have hr := (hK.1.2 t0 _ ht).2
  have hcA : cA' = cA := by
    have h2 : s.vm.findClass ("[" ++ (newarray.typeOf atype).toString) = some cA := by
      revert hr hno
      generalize newarray.typeOf atype = ty
      intro hno hr
      cases ty with
      | object C => exact absurd rfl (hno C)
      | _ => exact hr
    exact Option.some.inj (hNm.symm.trans h2)
  subst hcA
  refine kk H.size H1 hS.1 (hP.fresh (Nat.le_refl _)) (hP.new ?_ o1) ⟨Nat.le_trans hS.1 (by omega), fun x h1 h2 => (o1 x (Nat.lt_of_lt_of_le h1 hS.1)).trans (hS.2.1 x h1 h2), hS.2.2⟩
  show H1[H.size]? = some (vp_cell _ _)
  rw [ha]
  exact e1
theorem hm_newq (hexec : p.tables.exec = Jvm.exec) (hb : c.code = cc) {own C : String} {index : Nat} (hown : s.vm.findClass own = some m.cls) (hclink : (Cond.classLink own index C).before args s = true) (hover : va_AO C s) (hK : hm_K B D cl tys s) (hP : hm_P D cl M H) (hS : va_S (hm_A B) H0 H locs) (t0 : Nat) {cA : ClassId} (ht : tys[t0]? = some (cA, .object C))
    {n : Int32} {N' : Nat} (hn : ¬ n < 0) (hN : n.toNatClampNeg = N') (hbytes : N' * 4 ≤ 536870912) (hcells : cells + 1 ≤ R.cells) (hslots : slots + N' ≤ R.slots) (hdg : decode cc pc = .ok (.anewarray index, 3))
    (kk : ∀ (q : Nat) (H1 : Heap), H0.size ≤ q → M q = none → hm_P D cl (hm_up M q (.inl (cA, N', .inr (.inr (.inr (.inr (fun _ => none))))))) H1 → va_S (hm_A B) H0 H1 locs →
      W p l e R s m args below meth c H1 locs (cells + 1) (slots + N') Q (F0 m (pc + 3) ls (.ref q :: rest))) : W p l e R s m args below meth c H locs cells slots Q (F0 m pc ls (.int n :: rest)) := by
  subst hN
  refine W.anew hexec hb hown hclink (va_AO.use hover) rfl hdg rfl hn hbytes hcells hslots fun cA' kA comp f1 f2 f3 f4 => ?_
  obtain ⟨kA2, comp2, k1, k2, k3, k4⟩ := (hK.1.2 t0 _ ht).2
  have hcA : cA' = cA := Option.some.inj (f1.symm.trans k4)
  subst hcA
  generalize hH1 : H.push ({ cls := cA', slots := Array.replicate n.toNatClampNeg .null, vm := .none } : Cell) = H1
  have z1 : H1.size = H.size + 1 := by rw [← hH1, Array.size_push]
  have e1 : H1[H.size]? = some (arrV cA' n.toNatClampNeg (fun _ => .null)) := by rw [← hH1, Array.getElem?_push_size, ← arrV_new]
  have o1 : ∀ q : Nat, q < H.size → H1[q]? = H[q]? := fun q hq => by rw [← hH1, Array.getElem?_push, if_neg (Nat.ne_of_lt hq)]
  refine kk H.size H1 hS.1 (hP.fresh (Nat.le_refl _)) (hP.new ?_ o1) ⟨Nat.le_trans hS.1 (by omega), fun x h1 h2 => (o1 x (Nat.lt_of_lt_of_le h1 hS.1)).trans (hS.2.1 x h1 h2), hS.2.2⟩
  show H1[H.size]? = some (vp_cell _ _)
  rw [vp_cell_q]
  exact e1
theorem hm_alen (hexec : p.tables.exec = Jvm.exec) (hb : c.code = cc) (hK : hm_K B D cl tys s) (hP : hm_P D cl M H) (t0 : Nat) {cA : ClassId} {x : vp_A} (ha : M a = some (.inl (cA, x))) {ty : FieldType} (ht : tys[t0]? = some (cA, ty)) {v : Int32} (hv : Int32.ofNat x.1 = v) (hdg : decode cc pc = .ok (.arraylength, 1))
    (kk : W p l e R s m args below meth c H locs cells slots Q (F0 m (pc + 1) ls (.int v :: rest))) : W p l e R s m args below meth c H locs cells slots Q (F0 m pc ls (.ref a :: rest)) :=
  by
  subst hv
  obtain ⟨cell, h1, h2, h3, h4⟩ := (hP a _ ha).arr
  refine W.alen (n := Int32.ofNat x.1) hexec hb h1 (hm_ao hK ht h2 h4) ?_ rfl rfl hdg kk
  refine Eq.trans h3.2.1 ?_
  obtain ⟨n, f | f | f | f | f⟩ := x
  · rw [vp_cell_i, arrV_size] <;> rfl
  · rw [vp_cell_l, arrV_size] <;> rfl
  · rw [vp_cell_f, arrV_size] <;> rfl
  · rw [vp_cell_d, arrV_size] <;> rfl
  · rw [vp_cell_q, arrV_size] <;> rfl
theorem hm_iald (hexec : p.tables.exec = Jvm.exec) (hb : c.code = cc) (hK : hm_K B D cl tys s) (hP : hm_P D cl M H) (t0 : Nat) {cA : ClassId} {n : Nat} {f : Nat → Int32} (ha : M a = some (.inl (cA, n, .inl f))) (ht : tys[t0]? = some (cA, .int)) {i : Int32} (hin : vp_in i n) {j : Nat} (hj : i.toNatClampNeg = j) (hdg : decode cc pc = .ok (.iaload, 1))
    (kk : W p l e R s m args below meth c H locs cells slots Q (F0 m (pc + 1) ls (.int (f j) :: rest))) : W p l e R s m args below meth c H locs cells slots Q (F0 m pc ls (.int i :: .ref a :: rest)) := by
  subst hj
  obtain ⟨cell, h1, h2, h3, h4⟩ := (hP a _ ha).arr
  have hlt : i.toNatClampNeg < n := Nat.not_le.mp fun q => hin (Or.inr q)
  exact W.iald (v := .int (f i.toNatClampNeg)) hexec hb h1 (hm_ao hK ht h2 h4) h4.1 (fun q => hin (q.imp id (fun q2 => Nat.le_trans (by have h9 := h3.1; rw [vp_sz] at h9; exact h9) q2))) (h3.get (by show (arrV _ _ _).slots[_]? = _; rw [arrV_read _ _ hlt])) rfl rfl hdg kk
theorem hm_bald (hexec : p.tables.exec = Jvm.exec) (hb : c.code = cc) (hK : hm_K B D cl tys s) (hP : hm_P D cl M H) (t0 : Nat) {cA : ClassId} {n : Nat} {f : Nat → Int32} (ha : M a = some (.inl (cA, n, .inl f))) (ht : tys[t0]? = some (cA, .byte)) {i : Int32} (hin : vp_in i n) {j : Nat} (hj : i.toNatClampNeg = j) (hdg : decode cc pc = .ok (.baload, 1))
    (kk : W p l e R s m args below meth c H locs cells slots Q (F0 m (pc + 1) ls (.int (f j) :: rest))) : W p l e R s m args below meth c H locs cells slots Q (F0 m pc ls (.int i :: .ref a :: rest)) := by
  subst hj
  obtain ⟨cell, h1, h2, h3, h4⟩ := (hP a _ ha).arr
  have hlt : i.toNatClampNeg < n := Nat.not_le.mp fun q => hin (Or.inr q)
  exact W.bald (v := .int (f i.toNatClampNeg)) hexec hb h1 (hm_ao hK ht h2 h4) h4.1 (fun q => hin (q.imp id (fun q2 => Nat.le_trans (by have h9 := h3.1; rw [vp_sz] at h9; exact h9) q2))) (h3.get (by show (arrV _ _ _).slots[_]? = _; rw [arrV_read _ _ hlt])) rfl rfl hdg kk
theorem hm_zald (hexec : p.tables.exec = Jvm.exec) (hb : c.code = cc) (hK : hm_K B D cl tys s) (hP : hm_P D cl M H) (t0 : Nat) {cA : ClassId} {n : Nat} {f : Nat → Int32} (ha : M a = some (.inl (cA, n, .inl f))) (ht : tys[t0]? = some (cA, .boolean)) {i : Int32} (hin : vp_in i n) {j : Nat} (hj : i.toNatClampNeg = j) (hdg : decode cc pc = .ok (.baload, 1))
    (kk : W p l e R s m args below meth c H locs cells slots Q (F0 m (pc + 1) ls (.int (f j) :: rest))) : W p l e R s m args below meth c H locs cells slots Q (F0 m pc ls (.int i :: .ref a :: rest)) := by
  subst hj
  obtain ⟨cell, h1, h2, h3, h4⟩ := (hP a _ ha).arr
  have hlt : i.toNatClampNeg < n := Nat.not_le.mp fun q => hin (Or.inr q)
  exact W.zald (v := .int (f i.toNatClampNeg)) hexec hb h1 (hm_ao hK ht h2 h4) h4.1 (fun q => hin (q.imp id (fun q2 => Nat.le_trans (by have h9 := h3.1; rw [vp_sz] at h9; exact h9) q2))) (h3.get (by show (arrV _ _ _).slots[_]? = _; rw [arrV_read _ _ hlt])) rfl rfl hdg kk
theorem hm_cald (hexec : p.tables.exec = Jvm.exec) (hb : c.code = cc) (hK : hm_K B D cl tys s) (hP : hm_P D cl M H) (t0 : Nat) {cA : ClassId} {n : Nat} {f : Nat → Int32} (ha : M a = some (.inl (cA, n, .inl f))) (ht : tys[t0]? = some (cA, .char)) {i : Int32} (hin : vp_in i n) {j : Nat} (hj : i.toNatClampNeg = j) (hdg : decode cc pc = .ok (.caload, 1))
    (kk : W p l e R s m args below meth c H locs cells slots Q (F0 m (pc + 1) ls (.int (f j) :: rest))) : W p l e R s m args below meth c H locs cells slots Q (F0 m pc ls (.int i :: .ref a :: rest)) := by
  subst hj
  obtain ⟨cell, h1, h2, h3, h4⟩ := (hP a _ ha).arr
  have hlt : i.toNatClampNeg < n := Nat.not_le.mp fun q => hin (Or.inr q)
  exact W.cald (v := .int (f i.toNatClampNeg)) hexec hb h1 (hm_ao hK ht h2 h4) h4.1 (fun q => hin (q.imp id (fun q2 => Nat.le_trans (by have h9 := h3.1; rw [vp_sz] at h9; exact h9) q2))) (h3.get (by show (arrV _ _ _).slots[_]? = _; rw [arrV_read _ _ hlt])) rfl rfl hdg kk
theorem hm_lald (hexec : p.tables.exec = Jvm.exec) (hb : c.code = cc) (hK : hm_K B D cl tys s) (hP : hm_P D cl M H) (t0 : Nat) {cA : ClassId} {n : Nat} {f : Nat → Int64} (ha : M a = some (.inl (cA, n, .inr (.inl f)))) (ht : tys[t0]? = some (cA, .long)) {i : Int32} (hin : vp_in i n) {j : Nat} (hj : i.toNatClampNeg = j) (hdg : decode cc pc = .ok (.laload, 1))
    (kk : W p l e R s m args below meth c H locs cells slots Q (F0 m (pc + 1) ls (.long (f j) :: rest))) : W p l e R s m args below meth c H locs cells slots Q (F0 m pc ls (.int i :: .ref a :: rest)) := by
  subst hj
  obtain ⟨cell, h1, h2, h3, h4⟩ := (hP a _ ha).arr
  have hlt : i.toNatClampNeg < n := Nat.not_le.mp fun q => hin (Or.inr q)
  exact W.lald (v := .long (f i.toNatClampNeg)) hexec hb h1 (hm_ao hK ht h2 h4) h4.1 (fun q => hin (q.imp id (fun q2 => Nat.le_trans (by have h9 := h3.1; rw [vp_sz] at h9; exact h9) q2))) (h3.get (by show (arrV _ _ _).slots[_]? = _; rw [arrV_read _ _ hlt])) rfl rfl hdg kk
theorem hm_aald (hexec : p.tables.exec = Jvm.exec) (hb : c.code = cc) (hK : hm_K B D cl tys s) (hP : hm_P D cl M H) (t0 : Nat) {cA : ClassId} {C : String} {n : Nat} {f : Nat → Option Nat} (ha : M a = some (.inl (cA, n, .inr (.inr (.inr (.inr f)))))) (ht : tys[t0]? = some (cA, .object C)) {i : Int32} (hin : vp_in i n) {j : Nat} (hj : i.toNatClampNeg = j) (hdg : decode cc pc = .ok (.aaload, 1))
    (kk : W p l e R s m args below meth c H locs cells slots Q (F0 m (pc + 1) ls (va_rf (f j) :: rest))) : W p l e R s m args below meth c H locs cells slots Q (F0 m pc ls (.int i :: .ref a :: rest)) := by
  subst hj
  obtain ⟨cell, h1, h2, h3, h4⟩ := (hP a _ ha).arr
  have hlt : i.toNatClampNeg < n := Nat.not_le.mp fun q => hin (Or.inr q)
  exact W.aald (v := va_rf (f i.toNatClampNeg)) (ty := .object C) hexec hb h1 (hm_ao hK ht h2 h4) rfl h4.1 (fun q => hin (q.imp id (fun q2 => Nat.le_trans (by have h9 := h3.1; rw [vp_sz] at h9; exact h9) q2))) (h3.get (by show (arrV _ _ _).slots[_]? = _; rw [arrV_read _ _ hlt])) rfl rfl hdg kk
theorem hm_iast (hexec : p.tables.exec = Jvm.exec) (hb : c.code = cc) (hK : hm_K B D cl tys s) (hP : hm_P D cl M H) (hS : va_S (hm_A B) H0 H locs) (hA : hm_A B a) (t0 : Nat) {cA : ClassId} {n : Nat} {f : Nat → Int32} (ha : M a = some (.inl (cA, n, .inl f))) (ht : tys[t0]? = some (cA, .int)) {i : Int32} {x : Int32} (hin : vp_in i n) {j : Nat} (hj : i.toNatClampNeg = j) (hdg : decode cc pc = .ok (.iastore, 1))
    (kk : ∀ (H1 : Heap) (locs1 : List Loc), hm_P D cl (hm_up M a (.inl (cA, n, .inl (upd f j x)))) H1 → va_S (hm_A B) H0 H1 locs1 → W p l e R s m args below meth c H1 locs1 cells slots Q (F0 m (pc + 1) ls rest)) : W p l e R s m args below meth c H locs cells slots Q (F0 m pc ls (.int x :: .int i :: .ref a :: rest)) := by
  subst hj
  refine W.iast hexec hb (hm_st hK (hP a _ ha) hA) ((hK.1.2 t0 _ ht).1 n (fun j => .int (f j))) (fun q => by cases q) (by show ¬ (i < 0 ∨ (arrV _ _ _).slots.size ≤ _); rw [arrV_size]; exact hin) rfl rfl hdg fun H1 e z oq => ?_
  refine kk H1 _ (hP.up ?_ oq) (hS.put z oq hA)
  show H1[a]? = some (vp_cell _ _)
  rw [e, vp_cell_i, vp_cell_i, arrV_store]
  congr 2
  funext q
  by_cases hq : q = i.toNatClampNeg
  · subst hq
    simp [updV, upd]
  · simp [updV, upd, hq]
theorem hm_bast (hexec : p.tables.exec = Jvm.exec) (hb : c.code = cc) (hK : hm_K B D cl tys s) (hP : hm_P D cl M H) (hS : va_S (hm_A B) H0 H locs) (hA : hm_A B a) (t0 : Nat) {cA : ClassId} {n : Nat} {f : Nat → Int32} (ha : M a = some (.inl (cA, n, .inl f))) (ht : tys[t0]? = some (cA, .byte)) {i : Int32} {x y : Int32} (hin : vp_in i n) {j : Nat} (hj : i.toNatClampNeg = j) (hy : vp_nar .byte x = y) (hdg : decode cc pc = .ok (.bastore, 1))
    (kk : ∀ (H1 : Heap) (locs1 : List Loc), hm_P D cl (hm_up M a (.inl (cA, n, .inl (upd f j y)))) H1 → va_S (hm_A B) H0 H1 locs1 → W p l e R s m args below meth c H1 locs1 cells slots Q (F0 m (pc + 1) ls rest)) : W p l e R s m args below meth c H locs cells slots Q (F0 m pc ls (.int x :: .int i :: .ref a :: rest)) := by
  subst hj hy
  refine W.bast hexec hb (hm_st hK (hP a _ ha) hA) ((hK.1.2 t0 _ ht).1 n (fun j => .int (f j))) (fun q => by cases q) (by show ¬ (i < 0 ∨ (arrV _ _ _).slots.size ≤ _); rw [arrV_size]; exact hin) rfl rfl hdg fun H1 e z oq => ?_
  refine kk H1 _ (hP.up ?_ oq) (hS.put z oq hA)
  show H1[a]? = some (vp_cell _ _)
  rw [e, vp_cell_i, vp_cell_i, arrV_store]
  congr 2
  funext q
  by_cases hq : q = i.toNatClampNeg
  · subst hq
    simp [updV, upd]
    rfl
  · simp [updV, upd, hq]
theorem hm_zast (hexec : p.tables.exec = Jvm.exec) (hb : c.code = cc) (hK : hm_K B D cl tys s) (hP : hm_P D cl M H) (hS : va_S (hm_A B) H0 H locs) (hA : hm_A B a) (t0 : Nat) {cA : ClassId} {n : Nat} {f : Nat → Int32} (ha : M a = some (.inl (cA, n, .inl f))) (ht : tys[t0]? = some (cA, .boolean)) {i : Int32} {x y : Int32} (hin : vp_in i n) {j : Nat} (hj : i.toNatClampNeg = j) (hy : vp_nar .boolean x = y) (hdg : decode cc pc = .ok (.bastore, 1))
    (kk : ∀ (H1 : Heap) (locs1 : List Loc), hm_P D cl (hm_up M a (.inl (cA, n, .inl (upd f j y)))) H1 → va_S (hm_A B) H0 H1 locs1 → W p l e R s m args below meth c H1 locs1 cells slots Q (F0 m (pc + 1) ls rest)) : W p l e R s m args below meth c H locs cells slots Q (F0 m pc ls (.int x :: .int i :: .ref a :: rest)) := by
  subst hj hy
  refine W.zast hexec hb (hm_st hK (hP a _ ha) hA) ((hK.1.2 t0 _ ht).1 n (fun j => .int (f j))) (fun q => by cases q) (by show ¬ (i < 0 ∨ (arrV _ _ _).slots.size ≤ _); rw [arrV_size]; exact hin) rfl rfl hdg fun H1 e z oq => ?_
  refine kk H1 _ (hP.up ?_ oq) (hS.put z oq hA)
  show H1[a]? = some (vp_cell _ _)
  rw [e, vp_cell_i, vp_cell_i, arrV_store]
  congr 2
  funext q
  by_cases hq : q = i.toNatClampNeg
  · subst hq
    simp [updV, upd]
    rfl
  · simp [updV, upd, hq]
theorem hm_last (hexec : p.tables.exec = Jvm.exec) (hb : c.code = cc) (hK : hm_K B D cl tys s) (hP : hm_P D cl M H) (hS : va_S (hm_A B) H0 H locs) (hA : hm_A B a) (t0 : Nat) {cA : ClassId} {n : Nat} {f : Nat → Int64} (ha : M a = some (.inl (cA, n, .inr (.inl f)))) (ht : tys[t0]? = some (cA, .long)) {i : Int32} {x : Int64} (hin : vp_in i n) {j : Nat} (hj : i.toNatClampNeg = j) (hdg : decode cc pc = .ok (.lastore, 1))
    (kk : ∀ (H1 : Heap) (locs1 : List Loc), hm_P D cl (hm_up M a (.inl (cA, n, .inr (.inl (vp_updL f j x))))) H1 → va_S (hm_A B) H0 H1 locs1 → W p l e R s m args below meth c H1 locs1 cells slots Q (F0 m (pc + 1) ls rest)) : W p l e R s m args below meth c H locs cells slots Q (F0 m pc ls (.long x :: .int i :: .ref a :: rest)) := by
  subst hj
  refine W.last hexec hb (hm_st hK (hP a _ ha) hA) ((hK.1.2 t0 _ ht).1 n (fun j => .long (f j))) (fun q => by cases q) (by show ¬ (i < 0 ∨ (arrV _ _ _).slots.size ≤ _); rw [arrV_size]; exact hin) rfl rfl hdg fun H1 e z oq => ?_
  refine kk H1 _ (hP.up ?_ oq) (hS.put z oq hA)
  show H1[a]? = some (vp_cell _ _)
  rw [e, vp_cell_l, vp_cell_l, arrV_store]
  congr 2
  funext q
  by_cases hq : q = i.toNatClampNeg
  · subst hq
    simp [updV, vp_updL]
  · simp [updV, vp_updL, hq]
theorem hm_aastN (hexec : p.tables.exec = Jvm.exec) (hb : c.code = cc) (hK : hm_K B D cl tys s) (hP : hm_P D cl M H) (hS : va_S (hm_A B) H0 H locs) (hA : hm_A B a) (t0 : Nat) {cA : ClassId} {C : String} {n : Nat} {f : Nat → Option Nat} (ha : M a = some (.inl (cA, n, .inr (.inr (.inr (.inr f)))))) (ht : tys[t0]? = some (cA, .object C)) {i : Int32} (hin : vp_in i n) {j : Nat} (hj : i.toNatClampNeg = j) (hdg : decode cc pc = .ok (.aastore, 1))
    (kk : ∀ (H1 : Heap) (locs1 : List Loc), hm_P D cl (hm_up M a (.inl (cA, n, .inr (.inr (.inr (.inr (va_up f j none))))))) H1 → va_S (hm_A B) H0 H1 locs1 → W p l e R s m args below meth c H1 locs1 cells slots Q (F0 m (pc + 1) ls rest)) : W p l e R s m args below meth c H locs cells slots Q (F0 m pc ls (.null :: .int i :: .ref a :: rest)) := by
  subst hj
  refine va_WaastN (C := C) hexec hb (hm_st hK (hP a _ ha) hA) ((hK.1.2 t0 _ ht).1 n (fun j => va_rf (f j))) (fun h => by cases h) (by show ¬ (i < 0 ∨ (arrV _ _ _).slots.size ≤ _); rw [arrV_size]; exact hin) rfl rfl hdg fun H1 e z oq => ?_
  refine kk H1 _ (hP.up ?_ oq) (hS.put z oq hA)
  show H1[a]? = some (vp_cell _ _)
  rw [e, vp_cell_q, vp_cell_q, arrV_store]
  congr 2
  funext q
  by_cases hq : q = i.toNatClampNeg
  · subst hq
    simp [updV, va_up, va_rf]
  · simp [updV, va_up, hq]
/-- a reference goes into an array whose class takes it -/
theorem hm_aast (hexec : p.tables.exec = Jvm.exec) (hb : c.code = cc) (hK : hm_K B D cl tys s) (hP : hm_P D cl M H) (hS : va_S (hm_A B) H0 H locs) (hA : hm_A B a) (t0 ci : Nat) {cA : ClassId} {C : String} {r : vw_C} {n v : Nat} {vs : List Value} {f : Nat → Option Nat} (ha : M a = some (.inl (cA, n, .inr (.inr (.inr (.inr f)))))) (ht : tys[t0]? = some (cA, .object C)) (hv : M v = some (.inr (ci, vs))) (hc : cl[ci]? = some r) (hcast : va_Nw (.castable r.1 C) s) {i : Int32} (hin : vp_in i n) {j : Nat} (hj : i.toNatClampNeg = j) (hdg : decode cc pc = .ok (.aastore, 1))
    (kk : ∀ (H1 : Heap) (locs1 : List Loc), hm_P D cl (hm_up M a (.inl (cA, n, .inr (.inr (.inr (.inr (va_up f j (some v)))))))) H1 → va_S (hm_A B) H0 H1 locs1 → W p l e R s m args below meth c H1 locs1 cells slots Q (F0 m (pc + 1) ls rest)) : W p l e R s m args below meth c H locs cells slots Q (F0 m pc ls (.ref v :: .int i :: .ref a :: rest)) := by
  subst hj
  have hlt : i.toNatClampNeg < n := Nat.not_le.mp fun q => hin (Or.inr q)
  have h0 : ¬ i < 0 := fun q => hin (Or.inl q)
  obtain ⟨r', hr', cellV, g1, g2, g3, -⟩ := (hP v _ hv).obj
  have hcls := (hK.1.1 ci r hc).2
  obtain ⟨kA, comp, k1, k2, k3, -⟩ := (hK.1.2 t0 _ ht).2
  obtain ⟨c0, t1, f1, f2, f3⟩ := Cond.castable_spec (va_Nw.use (A := args) rfl hcast)
  have e1 : c0 = D.1 ci := Option.some.inj (f1.symm.trans hcls.1)
  have e2 : t1 = comp := Option.some.inj (f2.symm.trans k3)
  subst e1 e2
  obtain ⟨kC, hkC, -⟩ := hcls.2
  obtain ⟨kT, hkT, -⟩ := Vm.findClass_spec f2
  refine W.aast hexec hb (hm_st hK (hP a _ ha) hA) (fun q h => by cases h) (fun h => by cases h) k1 k2 rfl hkT ⟨h0, by show _ < (arrV _ _ _).slots.size; rw [arrV_size]; exact hlt⟩ g1 (fun q h => g3.2 q h) (by rw [g2]; exact hkC) (by rw [g2]; exact f3) rfl rfl hdg fun H1 e z oq => ?_
  refine kk H1 _ (hP.up ?_ oq) (hS.put z oq hA)
  show H1[a]? = some (vp_cell _ _)
  rw [e, vp_cell_q, vp_cell_q, arrV_store]
  congr 2
  funext q
  by_cases hq : q = i.toNatClampNeg
  · subst hq
    simp [updV, va_up, va_rf]
  · simp [updV, va_up, hq]
/-- .. the object's own class is the component's -/
theorem hm_aastS (hexec : p.tables.exec = Jvm.exec) (hb : c.code = cc) (hK : hm_K B D cl tys s) (hP : hm_P D cl M H) (hS : va_S (hm_A B) H0 H locs) (hA : hm_A B a) (t0 ci : Nat) {cA : ClassId} {r : vw_C} {n v : Nat} {vs : List Value} {f : Nat → Option Nat} (ha : M a = some (.inl (cA, n, .inr (.inr (.inr (.inr f)))))) (ht : tys[t0]? = some (cA, .object r.1)) (hv : M v = some (.inr (ci, vs))) (hc : cl[ci]? = some r) {i : Int32} (hin : vp_in i n) {j : Nat} (hj : i.toNatClampNeg = j) (hdg : decode cc pc = .ok (.aastore, 1))
    (kk : ∀ (H1 : Heap) (locs1 : List Loc), hm_P D cl (hm_up M a (.inl (cA, n, .inr (.inr (.inr (.inr (va_up f j (some v)))))))) H1 → va_S (hm_A B) H0 H1 locs1 → W p l e R s m args below meth c H1 locs1 cells slots Q (F0 m (pc + 1) ls rest)) : W p l e R s m args below meth c H locs cells slots Q (F0 m pc ls (.ref v :: .int i :: .ref a :: rest)) := by
  subst hj
  have hlt : i.toNatClampNeg < n := Nat.not_le.mp fun q => hin (Or.inr q)
  have h0 : ¬ i < 0 := fun q => hin (Or.inl q)
  obtain ⟨r', hr', cellV, g1, g2, g3, -⟩ := (hP v _ hv).obj
  have hcls := (hK.1.1 ci r hc).2
  obtain ⟨kA, comp, k1, k2, k3, -⟩ := (hK.1.2 t0 _ ht).2
  have hcomp : comp = D.1 ci := Option.some.inj (k3.symm.trans hcls.1)
  subst hcomp
  obtain ⟨kC, hkC, -⟩ := hcls.2
  refine W.aast hexec hb (hm_st hK (hP a _ ha) hA) (fun q h => by cases h) (fun h => by cases h) k1 k2 rfl hkC ⟨h0, by show _ < (arrV _ _ _).slots.size; rw [arrV_size]; exact hlt⟩ g1 (fun q h => g3.2 q h) (by rw [g2]; exact hkC) (by rw [g2]; exact va_assign hcls) rfl rfl hdg fun H1 e z oq => ?_
  refine kk H1 _ (hP.up ?_ oq) (hS.put z oq hA)
  show H1[a]? = some (vp_cell _ _)
  rw [e, vp_cell_q, vp_cell_q, arrV_store]
  congr 2
  funext q
  by_cases hq : q = i.toNatClampNeg
  · subst hq
    simp [updV, va_up, va_rf]
  · simp [updV, va_up, hq]
theorem hq_aload_n (hexec : p.tables.exec = Jvm.exec) (hb : c.code = cc) {k : Fin 4} {i : Nat} {o : Option Nat} (hdg : decode cc pc = .ok (.aload_n k, 1)) (hi : (k : Nat) = i) (hl : ls[i]? = some (.val (va_rf o)))
    (k : W p l e R s m args below meth c H locs cells slots Q (F0 m (pc + 1) ls (va_rf o :: rest))) : W p l e R s m args below meth c H locs cells slots Q (F0 m pc ls rest) := by
  cases o with
  | none => exact lv_aload_nN hexec hb hdg hi hl k
  | some x => exact lv_aload_n hexec hb hdg hi hl k
theorem hq_aload (hexec : p.tables.exec = Jvm.exec) (hb : c.code = cc) {i : Nat} {o : Option Nat} (hdg : decode cc pc = .ok (.aload i, 2)) (hl : ls[i]? = some (.val (va_rf o)))
    (k : W p l e R s m args below meth c H locs cells slots Q (F0 m (pc + 2) ls (va_rf o :: rest))) : W p l e R s m args below meth c H locs cells slots Q (F0 m pc ls rest) := by
  cases o with
  | none => exact lv_aloadN hexec hb hdg hl k
  | some x => exact lv_aload hexec hb hdg hl k
theorem hq_astore_n (hexec : p.tables.exec = Jvm.exec) (hb : c.code = cc) {k : Fin 4} {i nL : Nat} {o : Option Nat} {lv lv' : List (Nat × Value)} (hdg : decode cc pc = .ok (.astore_n k, 1)) (hi : (k : Nat) = i) (h : lv_has ls nL lv) (hn : i < nL) (hl : (i, va_rf o) :: lv.filter (fun q => !(q.1 == i) && !(q.1 + 1 == i && q.2.category == 2)) = lv')
    (kk : ∀ ls' : Array Slot, lv_has ls' nL lv' → W p l e R s m args below meth c H locs cells slots Q (F0 m (pc + 1) ls' rest)) : W p l e R s m args below meth c H locs cells slots Q (F0 m pc ls (va_rf o :: rest)) := by
  cases o with
  | none => exact lv_astore_nN hexec hb hdg hi h hn hl kk
  | some x => exact lv_astore_n hexec hb hdg hi h hn hl kk
theorem hm_recv {ci : Nat} {r : vw_C} {fs : List Value} (hK : hm_K B D cl tys s) (hP : hm_P D cl M H) (hc : cl[ci]? = some r) (he : M a = some (.inr (ci, fs))) : ∃ cell : Cell, H[a]? = some cell ∧ cell.vm.isStatics = false ∧ s.vm.findClass r.1 = some cell.cls :=
  by
  obtain ⟨r', h1, cell, q1, q2, q3, -⟩ := (hP a _ he).obj
  refine ⟨cell, q1, ?_, by rw [q2]; exact (hK.1.1 ci r hc).2.1⟩
  cases hv : cell.vm with
  | statics k => exact absurd hv (q3.2 k)
  | _ => rfl
end HMR
