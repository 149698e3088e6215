/-! System.arraycopy and clone over the heap as a map -/
theorem nn_I {n : Nat} (h : n < 2 ^ 31) : (nI n).toInt = (((nI n).toNatClampNeg : Nat) : Int) := by rw [nI_clamp h, nI_toInt h]
section HCP
variable {p : Program} {l : Launch} {e : Env} {R : Room} {s : State} {m : MethodId} {args : Array Value} {below : List Frame} {meth : Method} {c : Code} {H : Heap} {locs : List Loc} {cells slots : Nat} {Q : State → Prop}
variable {cc : ByteArray} {pc : Nat} {ls : Array Slot} {rest : List Value} {D : va_G} {cl : List vw_C} {B : Nat} {a : Nat} {tys : List (ClassId × FieldType)} {M : hm_M} {H0 : Heap}
theorem hm_copyb (hexec : p.tables.exec = Jvm.exec) (hb : c.code = cc) (hml : c.maxLocals = ls.size) {own : String} {index : Nat} (hown : s.vm.findClass own = some m.cls) (hlink : (Cond.methodLink own index arraycopyName).before args s = true) (hnat : (Cond.native arraycopyName).before args s = true) (hstat : (Cond.static arraycopyName).before args s = true) (hini : (Cond.initialized "java/lang/System").before args s = true)
    (hK : hm_K B D cl tys s) (hP : hm_P D cl M H) (hS : va_S (hm_A B) H0 H locs) (hA : hm_A B a) (t0 : Nat) {a0 : Nat} {cA : ClassId} {n0 n1 : Nat} {f g : Nat → Int32} {ty : FieldType} (ha0 : M a0 = some (.inl (cA, n0, .inl f))) (ha1 : M a = some (.inl (cA, n1, .inl g))) (ht : tys[t0]? = some (cA, ty)) (hprim : refKind ty = false)
    {sp dp n : Nat} (h4 : sp + n ≤ n0) (h5 : dp + n ≤ n1) (hn0 : n0 < 2 ^ 31) (hn1 : n1 < 2 ^ 31) (hfit : ∀ i, i < n → fits ty (.int (f (sp + i))) = true)
    (hframes : 1 ≤ R.frames) (hlocals : (rest.map fun v => v.category).sum + (nativeFrameWords "java/lang/System" "arraycopy" 5 + 11) ≤ R.locals) (hdg : decode cc pc = .ok (.invokestatic index, 3))
    (kk : ∀ (H1 : Heap) (locs1 : List Loc), hm_P D cl (hm_up M a (.inl (cA, n1, .inl (va_cpy f g sp dp n)))) H1 → va_S (hm_A B) H0 H1 locs1 → W p l e R s m args below meth c H1 locs1 cells slots Q (F0 m (pc + 3) ls rest)) : W p l e R s m args below meth c H locs cells slots Q (F0 m pc ls (.int (nI n) :: .int (nI dp) :: .ref a :: .int (nI sp) :: .ref a0 :: rest)) := by
  have cs := nI_clamp (n := sp) (by omega)
  have cd := nI_clamp (n := dp) (by omega)
  have cn := nI_clamp (n := n) (by omega)
  intro T hT X
  obtain ⟨c0c, hc0, hcc0, hcs0, hcv0⟩ := (hP a0 _ ha0).arr
  have hc1 : H[a]? = some (vp_cell cA (n1, .inl g)) := hm_st hK (hP a _ ha1) hA
  obtain ⟨-, k0, hk0, cm0, hkk0⟩ := hm_ao hK ht hcc0 hcv0
  obtain ⟨-, k1, hk1, cm1, hkk1⟩ := (hK.1.2 t0 _ ht).1 n1 (fun j => .int (g j))
  obtain ⟨vm', X', step⟩ := X.arraycopy hexec hown hlink hnat hstat hini (src := a0) (dst := a) (cs := c0c) (cd := vp_cell cA (n1, .inl g)) (srcPos := nI sp) (destPos := nI dp) (n := nI n) (by rw [hT]; exact hc0) (by rw [hT]; exact hc1)
    (fun q h => hcv0.2 q h) (fun _ h => by cases h) hcv0.1 (fun h => by cases h) hk0 hk1 hkk0 hkk1 (by simp [hprim]) (nI_pos (by omega)) (nI_pos (by omega)) (nI_pos (by omega))
    (by rw [nn_I (n := sp) (by omega), nn_I (n := n) (by omega), cs, cn]; have h9 : n0 ≤ c0c.slots.size := by have h8 := hcs0.1; rw [show (vp_cell cA (n0, .inl f)).slots.size = n0 from arrV_size _ _ _] at h8; exact h8
        omega)
    (by rw [nn_I (n := dp) (by omega), nn_I (n := n) (by omega), cd, cn]; show ¬ _ > ((arrV cA n1 (fun j => .int (g j))).slots.size : Int); rw [arrV_size]; omega)
    (fun vm₁ _ i hi => by
      rw [cn] at hi
      rw [cs]
      have e : c0c.slots.getD (sp + i) .null = .int (f (sp + i)) := by
        rw [Array.getD_eq_getD_getElem?, hcs0.get (show (arrV cA n0 (fun j => .int (f j))).slots[_]? = _ from arrV_read _ _ (by omega))]
        rfl
      refine ⟨?_, ?_⟩
      · rw [e]
        exact hfit i hi
      · rw [e]
        exact trivial)
    (g := F0 m pc ls (.int (nI n) :: .int (nI dp) :: .ref a :: .int (nI sp) :: .ref a0 :: rest)) rfl (by rw [hml]) (rest := rest) rfl (by rw [hb]; exact hdg) hframes (by show 2 * 0 + _ + _ ≤ _; omega)
  have e1 : copied c0c (vp_cell cA (n1, .inl g)) (nI sp) (nI dp) (nI n) = vp_cell cA (n1, .inl (va_cpy f g sp dp n)) := by
    have h := va_copied (fun z => .int z) cA cA (n1 := n1) (dp := (nI dp).toNatClampNeg) f g (sp := (nI sp).toNatClampNeg) (n := (nI n).toNatClampNeg) (n0 := n0) (by rw [cs, cn]; exact h4)
    have h2 : copied (vp_cell cA (n0, .inl f)) (vp_cell cA (n1, .inl g)) (nI sp) (nI dp) (nI n) = vp_cell cA (n1, .inl (va_cpy f g (nI sp).toNatClampNeg (nI dp).toNatClampNeg (nI n).toNatClampNeg)) := h
    have h3 : copied c0c (vp_cell cA (n1, .inl g)) (nI sp) (nI dp) (nI n) = copied (vp_cell cA (n0, .inl f)) (vp_cell cA (n1, .inl g)) (nI sp) (nI dp) (nI n) := by
      have h4 : c0c.stretch (nI sp).toNatClampNeg (nI n).toNatClampNeg = (vp_cell cA (n0, .inl f)).stretch (nI sp).toNatClampNeg (nI n).toNatClampNeg := by
        unfold Cell.stretch
        apply List.map_congr_left
        intro i hi
        have hi := List.mem_range.mp hi
        rw [cs, cn] at *
        have hr9 : (vp_cell cA (n0, .inl f)).slots[sp + i]? = some (.int (f (sp + i))) := arrV_read _ _ (by omega)
        rw [Array.getD_eq_getD_getElem?, Array.getD_eq_getD_getElem?, hcs0.get hr9, hr9]
      unfold copied; rw [h4]
    rw [h3, h2, cs, cd, cn]
  rw [e1] at X' step
  have hl : a < H.size := (Array.getElem?_eq_some_iff.mp hc1).1
  have hheap : ((T.setVm vm').setCell a (vp_cell cA (n1, .inl (va_cpy f g sp dp n)))).heap = H.setIfInBounds a (vp_cell cA (n1, .inl (va_cpy f g sp dp n))) := by rw [← hT]; rfl
  have oq : ∀ q : Nat, q ≠ a → (H.setIfInBounds a (vp_cell cA (n1, .inl (va_cpy f g sp dp n))))[q]? = H[q]? := fun q hq => by simp [Array.getElem?_setIfInBounds, Ne.symm hq]
  obtain ⟨t, a1, b1⟩ := kk _ _ (hP.up (show (H.setIfInBounds a _)[a]? = some _ by simp [Array.getElem?_setIfInBounds, hl]) oq) ⟨by simp; exact hS.1, fun q g1 g2 => by
      rw [oq q (fun e => g2 (by rw [e]; exact hA))]
      exact hS.2.1 q g1 g2, fun q hq => by
      rcases List.mem_append.mp hq with h | h
      · exact hS.2.2 q h
      · obtain ⟨z, -, hz⟩ := List.mem_map.mp h
        rw [← hz]
        exact hA⟩ _ hheap X'
  exact ⟨t, step t a1, b1⟩
theorem hm_copyq (hexec : p.tables.exec = Jvm.exec) (hb : c.code = cc) (hml : c.maxLocals = ls.size) {own : String} {index : Nat} (hown : s.vm.findClass own = some m.cls) (hlink : (Cond.methodLink own index arraycopyName).before args s = true) (hnat : (Cond.native arraycopyName).before args s = true) (hstat : (Cond.static arraycopyName).before args s = true) (hini : (Cond.initialized "java/lang/System").before args s = true)
    (hK : hm_K B D cl tys s) (hP : hm_P D cl M H) (hS : va_S (hm_A B) H0 H locs) (hA : hm_A B a) (t0 ci : Nat) {a0 : Nat} {cA : ClassId} {n0 n1 : Nat} {f g : Nat → Option Nat} {C : String} {r : vw_C} (ha0 : M a0 = some (.inl (cA, n0, .inr (.inr (.inr (.inr f)))))) (ha1 : M a = some (.inl (cA, n1, .inr (.inr (.inr (.inr g)))))) (ht : tys[t0]? = some (cA, .object C)) (hc : cl[ci]? = some r) (hcast : va_Nw (.castable r.1 C) s)
    {sp dp n : Nat} (h4 : sp + n ≤ n0) (h5 : dp + n ≤ n1) (hn0 : n0 < 2 ^ 31) (hn1 : n1 < 2 ^ 31) (hel : ∀ i, i < n → ∀ y : Nat, f (sp + i) = some y → ∃ fs, M y = some (.inr (ci, fs)))
    (hframes : 1 ≤ R.frames) (hlocals : (rest.map fun v => v.category).sum + (nativeFrameWords "java/lang/System" "arraycopy" 5 + 11) ≤ R.locals) (hdg : decode cc pc = .ok (.invokestatic index, 3))
    (kk : ∀ (H1 : Heap) (locs1 : List Loc), hm_P D cl (hm_up M a (.inl (cA, n1, .inr (.inr (.inr (.inr (va_cpy f g sp dp n))))))) H1 → va_S (hm_A B) H0 H1 locs1 → W p l e R s m args below meth c H1 locs1 cells slots Q (F0 m (pc + 3) ls rest)) : W p l e R s m args below meth c H locs cells slots Q (F0 m pc ls (.int (nI n) :: .int (nI dp) :: .ref a :: .int (nI sp) :: .ref a0 :: rest)) := by
  have cs := nI_clamp (n := sp) (by omega)
  have cd := nI_clamp (n := dp) (by omega)
  have cn := nI_clamp (n := n) (by omega)
  intro T hT X
  obtain ⟨c0c, hc0, hcc0, hcs0, hcv0⟩ := (hP a0 _ ha0).arr
  have hc1 : H[a]? = some (vp_cell cA (n1, .inr (.inr (.inr (.inr g))))) := hm_st hK (hP a _ ha1) hA
  obtain ⟨-, k0, hk0, cm0, hkk0⟩ := hm_ao hK ht hcc0 hcv0
  obtain ⟨-, k1, hk1, cm1, hkk1⟩ := (hK.1.2 t0 _ ht).1 n1 (fun j => va_rf (g j))
  obtain ⟨vm', X', step⟩ := X.arraycopy hexec hown hlink hnat hstat hini (src := a0) (dst := a) (cs := c0c) (cd := vp_cell cA (n1, .inr (.inr (.inr (.inr g))))) (srcPos := nI sp) (destPos := nI dp) (n := nI n) (by rw [hT]; exact hc0) (by rw [hT]; exact hc1)
    (fun q h => hcv0.2 q h) (fun _ h => by cases h) hcv0.1 (fun h => by cases h) hk0 hk1 hkk0 hkk1 rfl (nI_pos (by omega)) (nI_pos (by omega)) (nI_pos (by omega))
    (by rw [nn_I (n := sp) (by omega), nn_I (n := n) (by omega), cs, cn]; have h9 : n0 ≤ c0c.slots.size := by have h8 := hcs0.1; rw [show (vp_cell cA (n0, .inr (.inr (.inr (.inr f))))).slots.size = n0 from arrV_size _ _ _] at h8; exact h8
        omega)
    (by rw [nn_I (n := dp) (by omega), nn_I (n := n) (by omega), cd, cn]; show ¬ _ > ((arrV cA n1 (fun j => va_rf (g j))).slots.size : Int); rw [arrV_size]; omega)
    (fun vm₁ hal i hi => by
      rw [cn] at hi
      rw [cs]
      have e : c0c.slots.getD (sp + i) .null = va_rf (f (sp + i)) := by
        rw [Array.getD_eq_getD_getElem?, hcs0.get (show (arrV cA n0 (fun j => va_rf (f j))).slots[_]? = _ from arrV_read _ _ (by omega))]
        rfl
      rw [e]
      cases hy : f (sp + i) with
      | none => exact ⟨rfl, trivial⟩
      | some y =>
        obtain ⟨fs, hfs⟩ := hel i hi y hy
        obtain ⟨r', hr', cellV, g1, g2, g3, -⟩ := (hP y _ hfs).obj
        obtain ⟨kA, comp, r1, r2, r3, -⟩ := (hK.1.2 t0 _ ht).2
        cases hk1.symm.trans r1
        cases hkk1.symm.trans r2
        have hcls := (hK.1.1 ci r hc).2
        obtain ⟨c0, t1, f1, f2, f3⟩ := Cond.castable_spec (va_Nw.use (A := args) rfl hcast)
        have e1 : c0 = D.1 ci := Option.some.inj (f1.symm.trans hcls.1)
        have e2 : t1 = _ := Option.some.inj (f2.symm.trans r3)
        subst e1 e2
        obtain ⟨kC, hkC, -⟩ := hcls.2
        obtain ⟨kE, hkE, -⟩ := Vm.findClass_spec r3
        obtain ⟨kC', hkC', -⟩ := hal.2.2 _ _ hkC
        obtain ⟨kE', hkE', -⟩ := hal.2.2 _ _ hkE
        refine ⟨rfl, cellV, (show T.heap[y]? = some cellV by rw [hT]; exact g1), (fun q h => g3.2 q h), ⟨kC', by rw [g2]; exact hkC'⟩, ?_, ?_⟩
        · exact ⟨kE', hkE'⟩
        · show vm₁.assignable _ _ = true
          rw [hal.assignable, g2]
          exact f3)
    (g := F0 m pc ls (.int (nI n) :: .int (nI dp) :: .ref a :: .int (nI sp) :: .ref a0 :: rest)) rfl (by rw [hml]) (rest := rest) rfl (by rw [hb]; exact hdg) hframes (by show 2 * 0 + _ + _ ≤ _; omega)
  have e1 : copied c0c (vp_cell cA (n1, .inr (.inr (.inr (.inr g))))) (nI sp) (nI dp) (nI n) = vp_cell cA (n1, .inr (.inr (.inr (.inr (va_cpy f g sp dp n))))) := by
    have h := va_copied (fun z => va_rf z) cA cA (n1 := n1) (dp := (nI dp).toNatClampNeg) f g (sp := (nI sp).toNatClampNeg) (n := (nI n).toNatClampNeg) (n0 := n0) (by rw [cs, cn]; exact h4)
    have h2 : copied (vp_cell cA (n0, .inr (.inr (.inr (.inr f))))) (vp_cell cA (n1, .inr (.inr (.inr (.inr g))))) (nI sp) (nI dp) (nI n) = vp_cell cA (n1, .inr (.inr (.inr (.inr (va_cpy f g (nI sp).toNatClampNeg (nI dp).toNatClampNeg (nI n).toNatClampNeg))))) := h
    have h3 : copied c0c (vp_cell cA (n1, .inr (.inr (.inr (.inr g))))) (nI sp) (nI dp) (nI n) = copied (vp_cell cA (n0, .inr (.inr (.inr (.inr f))))) (vp_cell cA (n1, .inr (.inr (.inr (.inr g))))) (nI sp) (nI dp) (nI n) := by
      have h4 : c0c.stretch (nI sp).toNatClampNeg (nI n).toNatClampNeg = (vp_cell cA (n0, .inr (.inr (.inr (.inr f))))).stretch (nI sp).toNatClampNeg (nI n).toNatClampNeg := by
        unfold Cell.stretch
        apply List.map_congr_left
        intro i hi
        have hi := List.mem_range.mp hi
        rw [cs, cn] at *
        have hr9 : (vp_cell cA (n0, .inr (.inr (.inr (.inr f))))).slots[sp + i]? = some (va_rf (f (sp + i))) := arrV_read _ _ (by omega)
        rw [Array.getD_eq_getD_getElem?, Array.getD_eq_getD_getElem?, hcs0.get hr9, hr9]
      unfold copied; rw [h4]
    rw [h3, h2, cs, cd, cn]
  rw [e1] at X' step
  have hl : a < H.size := (Array.getElem?_eq_some_iff.mp hc1).1
  have hheap : ((T.setVm vm').setCell a (vp_cell cA (n1, .inr (.inr (.inr (.inr (va_cpy f g sp dp n))))))).heap = H.setIfInBounds a (vp_cell cA (n1, .inr (.inr (.inr (.inr (va_cpy f g sp dp n)))))) := by rw [← hT]; rfl
  have oq : ∀ q : Nat, q ≠ a → (H.setIfInBounds a (vp_cell cA (n1, .inr (.inr (.inr (.inr (va_cpy f g sp dp n)))))))[q]? = H[q]? := fun q hq => by simp [Array.getElem?_setIfInBounds, Ne.symm hq]
  obtain ⟨t, a1, b1⟩ := kk _ _ (hP.up (show (H.setIfInBounds a _)[a]? = some _ by simp [Array.getElem?_setIfInBounds, hl]) oq) ⟨by simp; exact hS.1, fun q g1 g2 => by
      rw [oq q (fun e => g2 (by rw [e]; exact hA))]
      exact hS.2.1 q g1 g2, fun q hq => by
      rcases List.mem_append.mp hq with h | h
      · exact hS.2.2 q h
      · obtain ⟨z, -, hz⟩ := List.mem_map.mp h
        rw [← hz]
        exact hA⟩ _ hheap X'
  exact ⟨t, step t a1, b1⟩
theorem hm_clone (hexec : p.tables.exec = Jvm.exec) (hb : c.code = cc) (hml : c.maxLocals = ls.size) {own ad : String} {index : Nat} (hown : s.vm.findClass own = some m.cls)
    (hlink : (Cond.methodLink own index ⟨ad, "clone", "()Ljava/lang/Object;"⟩).before args s = true) (hsame : (Cond.sameMethod ad "java/lang/Object" "clone" "()Ljava/lang/Object;").before args s = true)
    (hnat : (Cond.native ⟨"java/lang/Object", "clone", "()Ljava/lang/Object;"⟩).before args s = true) (hinst : (Cond.instanceMethod ⟨"java/lang/Object", "clone", "()Ljava/lang/Object;"⟩).before args s = true)
    (hsel : (Cond.selects ad ⟨ad, "clone", "()Ljava/lang/Object;"⟩ ⟨"java/lang/Object", "clone", "()Ljava/lang/Object;"⟩).before args s = true) (hcl : va_Nw (.castable ad "java/lang/Cloneable") s)
    (hK : hm_K B D cl tys s) (hP : hm_P D cl M H) (hS : va_S (hm_A B) H0 H locs) (h0a : hm_A B a) (hA : ∀ q, H0.size ≤ q → hm_A B q) (t0 : Nat) {cA : ClassId} {x : vp_A} {ty : FieldType} (ha : M a = some (.inl (cA, x))) (ht : tys[t0]? = some (cA, ty))
    (hnm : s.vm.findClass ad = some cA) (hfit : ∀ (i : Nat) (v : Value), (vp_cell cA x).slots[i]? = some v → fits ty v = true)
    (hframes : 1 ≤ R.frames) (hlocals : (rest.map fun v => v.category).sum + 14 ≤ R.locals) (hcells : cells + 1 ≤ R.cells) (hslots : slots + x.1 ≤ R.slots) (hdg : decode cc pc = .ok (.invokevirtual index, 3))
    (kk : ∀ (q : Nat) (H1 : Heap), H0.size ≤ q → M q = none → hm_P D cl (hm_up M q (.inl (cA, x))) H1 → va_S (hm_A B) H0 H1 locs →
      W p l e R s m args below meth c H1 locs (cells + 1) (slots + x.1) Q (F0 m (pc + 3) ls (.ref q :: rest))) : W p l e R s m args below meth c H locs cells slots Q (F0 m pc ls (.ref a :: rest)) := by
  have hsz : (vp_cell cA x).slots.size = x.1 := by
    obtain ⟨n, f | f | f | f | f⟩ := x <;> exact arrV_size _ _ _
  have hvm0 : (vp_cell cA x).vm = .none := by
    obtain ⟨n, f | f | f | f | f⟩ := x <;> rfl
  have hcl0 : (vp_cell cA x).cls = cA := by
    obtain ⟨n, f | f | f | f | f⟩ := x <;> rfl
  have hcellE : ({ cls := (vp_cell cA x).cls, slots := (vp_cell cA x).slots } : Cell) = vp_cell cA x := by
    obtain ⟨n, f | f | f | f | f⟩ := x <;> rfl
  obtain ⟨c0, t0', f1, f2, f3⟩ := Cond.castable_spec (va_Nw.use (A := args) rfl hcl)
  cases hnm.symm.trans f1
  intro T hT X
  have hcellT : T.heap[a]? = some (vp_cell cA x) := by rw [hT]; exact hm_st hK (hP a _ ha) h0a
  obtain ⟨-, kA, hkA, comp, hkind⟩ := State.isArrayOf_alike X.warmed.alike ((hK.1.2 t0 _ ht).1 0 (fun _ => .null))
  obtain ⟨-, kS, hkS, compS, hkindS⟩ := (hK.1.2 t0 _ ht).1 0 (fun _ => .null)
  obtain ⟨vm', X', st⟩ := X.cloneArray hexec hown hlink hsame hnat hinst hsel (a := a) (cell := vp_cell cA x) hcellT (fun k h => by rw [hvm0] at h; cases h) (by rw [hvm0]; exact fun h => by cases h) (by rw [hcl0]; exact hnm) f2 (by rw [hcl0]; exact f3)
    (fun i v hv => by
      rw [hcl0]
      have hk' : T.vm.classes[cA]? = some kA := hkA
      simpa [State.fitsSlot, State.slotType?, hk', hkind] using hfit i v hv)
    (g := F0 m pc ls (.ref a :: rest)) rfl (by rw [hml]) rfl (by rw [hb]; exact hdg) hframes (by show 2 * 0 + _ + 14 ≤ _; omega) hcells (by rw [hsz]; exact hslots) (hloader := by rw [hcl0]; exact Vm.clonesLoader_of_array hkS hkindS)
  rw [hcellE, hsz] at X'
  generalize hH1 : H.push (vp_cell cA x) = H1
  have z1 : H1.size = H.size + 1 := by rw [← hH1, Array.size_push]
  have e1 : H1[H.size]? = some (vp_cell cA x) := by rw [← hH1, Array.getElem?_push_size]
  have o1 : ∀ q : Nat, q < H.size → H1[q]? = H[q]? := fun q hq => by rw [← hH1, Array.getElem?_push, if_neg (Nat.ne_of_lt hq)]
  obtain ⟨t, b1, b2⟩ := kk H.size H1 hS.1 (hP.fresh (Nat.le_refl _)) (hP.new e1 o1) ⟨Nat.le_trans hS.1 (by omega), fun y h1 h2 => (o1 y (Nat.lt_of_lt_of_le h1 hS.1)).trans (hS.2.1 y h1 h2), hS.2.2⟩
    ((T.setVm vm').pushCell (vp_cell cA x)) (by rw [← hH1, ← hT]; rfl) X'
  refine ⟨t, st t ?_, b2⟩
  rw [hcellE, hT]
  exact b1
end HCP
