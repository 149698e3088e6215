theorem tx_inj {x y : Nat} (hx : x < 128) (hy : y < 128) (h : nI x = nI y) : x = y := (nI_eq (by omega) (by omega)).mp h
theorem tx_uni {D : va_G} {M : hm_M} {a : Nat} {t u : List Nat} (ht : tx_S D M a t) (hu : tx_S D M a u) : t = u := by
  obtain ⟨v, f, h1, h2, h3, h4, h5⟩ := ht
  obtain ⟨w, g, g1, g2, g3, g4, g5⟩ := hu
  rw [h1] at g1
  cases g1
  rw [h2] at g2
  have e : t.length = u.length ∧ f = g := by
    have := Option.some.inj g2
    simpa using this
  exact tx_ext e.1 (fun j hj => tx_inj (tx_lt h4 j) (tx_lt g4 j) (by rw [← h3 j hj, ← g3 j (by omega), e.2]))
/-- a stretch of a text -/
def tx_sl (t : List Nat) (a b : Nat) : List Nat := (t.take b).drop a
theorem tx_sl_len {t : List Nat} {a b : Nat} (h : b ≤ t.length) : (tx_sl t a b).length = b - a := by
  simp [tx_sl, Nat.min_eq_left h]
theorem tx_sl_get {t : List Nat} {a b j : Nat} (h : b ≤ t.length) (hj : a + j < b) : (tx_sl t a b).getD j 0 = t.getD (a + j) 0 := by
  rw [List.getD_eq_getElem?_getD, List.getD_eq_getElem?_getD, tx_sl, List.getElem?_drop, List.getElem?_take, if_pos hj]
theorem tx_sl_eq {t u : List Nat} {a b c d : Nat} (hb : b ≤ t.length) (hd : d ≤ u.length) (hab : a ≤ b) (hcd : c ≤ d) (hl : b - a = d - c) (h : ∀ j, j < b - a → t.getD (a + j) 0 = u.getD (c + j) 0) : tx_sl t a b = tx_sl u c d := by
  refine tx_ext (by rw [tx_sl_len hb, tx_sl_len hd, hl]) (fun j hj => ?_)
  rw [tx_sl_len hb] at hj
  rw [tx_sl_get hb (by omega), tx_sl_get hd (by omega)]
  exact h j hj
theorem tx_sl_ne {t u : List Nat} {a b c d j : Nat} (hb : b ≤ t.length) (hd : d ≤ u.length) (hj : j < b - a) (hl : b - a = d - c) (h : ¬ t.getD (a + j) 0 = u.getD (c + j) 0) : ¬ tx_sl t a b = tx_sl u c d := by
  intro e
  apply h
  rw [← tx_sl_get (a := a) hb (by omega), ← tx_sl_get (a := c) hd (by omega), e]
theorem tx_sl_all (t : List Nat) : tx_sl t 0 t.length = t := by simp [tx_sl]
theorem hi_b1 {p : Prop} [Decidable p] (h : p) : nI (if p then 1 else 0) = nI 1 := by rw [if_pos h]
theorem hi_b0 {p : Prop} [Decidable p] (h : ¬ p) : nI (if p then 1 else 0) = nI 0 := by rw [if_neg h]

set_option maxHeartbeats 4000000 in
set_option maxRecDepth 100000 in
theorem kc_ST_equals (l : Launch) (B : Nat) (D : va_G) (G : Nat → Nat) (M : hm_M) (a : Nat) (t : List Nat) (ht : tx_S D M a t) (b : Nat) (u : List Nat) (hu : tx_S D M b u) : Met l yy_ST_equals ws_ST_equals ({ frames := 1, cells := 0, slots := 0, locals := 22 }) (hm_Pc B D G M [.ref a, .ref b]) (hm_Ni B D (fun r M1 => r = nI (if t = u then 1 else 0) ∧ M1 = M)) (0) (0) (hm_A B) := by
  refine Met.ofW (cc := cd_ST_equals) (maxL := 3) (ret := ((some FieldType.boolean))) (by decide) rfl ?_
  intro p e s m args below meth c s₁ B0 hml hv
  obtain ⟨rfl, hE, hP⟩ := hv
  have hx := B0.exec
  have hb := B0.bytes
  have hr := B0.returns
  have hts : ∀ w ∈ tb_G, w.before _ s = true := fun w h => atoms_spec (ws := ws_ST_equals) B0.pre w (List.mem_cons_of_mem _ h)
  have hown : s.vm.findClass "java/lang/String" = some m.cls := findClass_of_methodNamed B0.named
  have hlocks := B0.notSynchronized
  have hRf : (headSpec ws_ST_equals { frames := 1, cells := 0, slots := 0, locals := 22 }).room.frames = 1 := rfl
  have hRl : (headSpec ws_ST_equals { frames := 1, cells := 0, slots := 0, locals := 22 }).room.locals = 22 := rfl
  have hRc : (headSpec ws_ST_equals { frames := 1, cells := 0, slots := 0, locals := 22 }).room.cells = 0 := rfl
  have hRs : (headSpec ws_ST_equals { frames := 1, cells := 0, slots := 0, locals := 22 }).room.slots = 0 := rfl
  generalize (headSpec ws_ST_equals { frames := 1, cells := 0, slots := 0, locals := 22 }).room = R at hRf hRl hRc hRs ⊢
  have hS : va_S (hm_A B) s.heap s.heap [] := va_S.rf
  have hl := lv_entry ([.ref a, .ref b]) (n := 3) (Nat.le_of_ble_eq_true rfl)
  rw [lg_entry_eq]
  generalize (lg_sl ([.ref a, .ref b]) ++ List.replicate (3 - (lg_sl ([.ref a, .ref b])).length) Slot.unset).toArray = ls at hl ⊢
  have hl : lv_has ls 3 [(0, .ref a), (1, .ref b)] := hl
  obtain ⟨v, f, h1, h2, h3, h4, h5⟩ := id ht
  obtain ⟨w, g, g1, g2, g3, g4, g5⟩ := id hu
  refine lv_aload_n hx hb dd_ST_equals_0 rfl (lv_at hl 0 rfl) ?_
  refine lv_aload_n hx hb dd_ST_equals_1 rfl (lv_at hl 1 rfl) ?_
  refine lv_acmp_ne (rx := some a) (ry := some b) (tgt := 7) hx hb dd_ST_equals_2 (by decide) (fun c1 => ?_) (fun c1 => ?_)
  · refine lv_aload_n hx hb dd_ST_equals_7 rfl (lv_at hl 1 rfl) ?_
    refine va_instE hx hb hown (hts _ tw_592) (hm_recv hE.K hP rfl g1) dd_ST_equals_8 ?_
    refine hi_if_eq (tgt := 54) hx hb dd_ST_equals_11 (by decide) (fun c2 => absurd c2 (by decide)) (fun c2 => ?_)
    refine lv_aload_n hx hb dd_ST_equals_14 rfl (lv_at hl 1 rfl) ?_
    refine va_castE hx hb hown (hts _ tw_592) (hm_recv hE.K hP rfl g1) dd_ST_equals_15 ?_
    refine lv_astore_n (lv' := [(2, .ref b), (0, .ref a), (1, .ref b)]) hx hb dd_ST_equals_18 rfl hl (by decide) rfl (fun ls hl => ?_)
    refine va_gets hx hb hE.2.2.2.2.1 hS hown (hts _ tw_495) (fun _ h9 => h9) dd_ST_equals_19 ?_
    refine hn_if_eq (tgt := 36) hx hb (by omega) dd_ST_equals_22 (by decide) (fun c3 => absurd c3 (by omega)) (fun c3 => ?_)
    refine lv_aload_n hx hb dd_ST_equals_25 rfl (lv_at hl 1 rfl) ?_
    refine hm_get (ci := 8) (C := rn_ST) (T := ft_ST) (N := 2) hx hb hts fi_ST hown hE.K hP h1 rfl 1 (by decide) (hts _ tw_551) (fun _ h9 => h9) rfl dd_ST_equals_26 ?_
    refine lv_aload_n hx hb dd_ST_equals_29 rfl (lv_at hl 0 rfl) ?_
    refine hm_get (ci := 8) (C := rn_ST) (T := ft_ST) (N := 2) hx hb hts fi_ST hown hE.K hP g1 rfl 1 (by decide) (hts _ tw_551) (fun _ h9 => h9) rfl dd_ST_equals_30 ?_
    refine hn_icmp_ne (tgt := 54) hx hb (by omega) (by omega) dd_ST_equals_33 (by decide) (fun c4 => absurd c4 (by omega)) (fun c4 => ?_)
    refine lv_aload_n hx hb dd_ST_equals_36 rfl (lv_at hl 1 rfl) ?_
    refine hm_get (ci := 8) (C := rn_ST) (T := ft_ST) (N := 2) hx hb hts fi_ST hown hE.K hP h1 rfl 0 (by decide) (hts _ tw_550) (fun _ h9 => h9) rfl dd_ST_equals_37 ?_
    refine lv_aload_n hx hb dd_ST_equals_40 rfl (lv_at hl 0 rfl) ?_
    refine hm_get (ci := 8) (C := rn_ST) (T := ft_ST) (N := 2) hx hb hts fi_ST hown hE.K hP g1 rfl 0 (by decide) (hts _ tw_550) (fun _ h9 => h9) rfl dd_ST_equals_41 ?_
    refine hm_ci hS (hm_rS 2 (As := [.ref v, .ref w]) (rest := []) ⟨hx, hb, hml, hown, hts⟩ hE hS hP (kc_SL_equals l B D G M v w f g t u h2 h3 h4 h5 g2 g3 g4 g5) tw_595 tw_593 tw_594 tw_51 (by decide +kernel) rfl rfl ⟨by show 0 + 1 ≤ R.frames; omega, by show 8 + (3 + 11) + 0 ≤ R.locals; omega⟩ rfl hl.1 rfl (Nat.le_of_ble_eq_true rfl) dd_ST_equals_44 ⟨by omega, by omega⟩) (fun r5 M6 H locs hw7 hP hS => ?_)
    refine W.widen (k := 0) (n := 0) (by omega) (by omega) ?_
    obtain ⟨rfl, eM6⟩ := hw7
    rw [eM6] at hP
    refine hn_if_eq (tgt := 54) hx hb (by split <;> omega) dd_ST_equals_47 (by decide) (fun c8 => ?_) (fun c8 => ?_)
    · have n9 : ¬ t = u := fun q => by rw [if_pos q] at c8; omega
      refine lv_iconst (v := nI 0) hx hb dd_ST_equals_54 (by decide +kernel) ?_
      exact hm_Ei (v := nI 0) hx hb hr rfl hS hP (⟨by first | exact (hi_b1 n9).symm | exact (hi_b0 n9).symm, rfl⟩) hlocks (by omega) (by omega) dd_ST_equals_55
    · have n9 : t = u := by
        by_cases q : t = u
        · exact q
        · rw [if_neg q] at c8; omega
      refine lv_iconst (v := nI 1) hx hb dd_ST_equals_50 (by decide +kernel) ?_
      refine lv_goto (tgt := 55) hx hb dd_ST_equals_51 (by decide) ?_
      exact hm_Ei (v := nI 1) hx hb hr rfl hS hP (⟨by first | exact (hi_b1 n9).symm | exact (hi_b0 n9).symm, rfl⟩) hlocks (by omega) (by omega) dd_ST_equals_55
  · refine lv_iconst (v := nI 1) hx hb dd_ST_equals_5 (by decide +kernel) ?_
    exact hm_Ei (v := nI 1) hx hb hr rfl hS hP (⟨(hi_b1 (tx_uni ht (by rw [Option.some.inj c1]; exact hu))).symm, rfl⟩) hlocks (by omega) (by omega) dd_ST_equals_6
/-- an ArrayList at a: its elements' addresses, all of the class number ci -/
def al_L (B : Nat) (D : va_G) (G : Nat → Nat) (M : hm_M) (ci a : Nat) (xs : List Nat) : Prop := ∃ (d n : Nat) (f : Nat → Option Nat) (mo : Int32), M a = some (.inr (9, [.ref d, .int (nI xs.length), .int mo])) ∧ M d = some (.inl (D.1 104, n, .inr (.inr (.inr (.inr f))))) ∧ (∀ j, f j = xs[j]?) ∧ xs.length ≤ n ∧ n ≤ 1000 ∧ (∀ x ∈ xs, ∃ fs, M x = some (.inr (ci, fs))) ∧ ((n = 0 ∧ d = G 0) ∨ (0 < n ∧ B ≤ d ∧ d ≠ G 0))
theorem al_get {xs : List Nat} {i : Nat} (h : i < xs.length) : xs[i]? = some (xs.getD i 0) := by rw [List.getD_eq_getElem?_getD, List.getElem?_eq_getElem h]; rfl
set_option maxHeartbeats 4000000 in
set_option maxRecDepth 100000 in
theorem kc_AL_size (l : Launch) (B : Nat) (D : va_G) (G : Nat → Nat) (M : hm_M) (ci a : Nat) (xs : List Nat) (ha : al_L B D G M ci a xs) : Met l yy_AL_size ws_AL_size ({ frames := 0, cells := 0, slots := 0, locals := 0 }) (hm_Pc B D G M [.ref a]) (hm_Ni B D (fun r M1 => r = nI xs.length ∧ M1 = M)) (0) (0) (hm_A B) := by
  refine Met.ofW (cc := cd_AL_size) (maxL := 1) (ret := ((some FieldType.int))) (by decide) rfl ?_
  intro p e s m args below meth c s₁ B0 hml hv
  obtain ⟨rfl, hE, hP⟩ := hv
  have hx := B0.exec
  have hb := B0.bytes
  have hr := B0.returns
  have hts : ∀ w ∈ tb_G, w.before _ s = true := fun w h => atoms_spec (ws := ws_AL_size) B0.pre w (List.mem_cons_of_mem _ h)
  have hown : s.vm.findClass "java/util/ArrayList" = some m.cls := findClass_of_methodNamed B0.named
  have hlocks := B0.notSynchronized
  have hRf : (headSpec ws_AL_size { frames := 0, cells := 0, slots := 0, locals := 0 }).room.frames = 0 := rfl
  have hRl : (headSpec ws_AL_size { frames := 0, cells := 0, slots := 0, locals := 0 }).room.locals = 0 := rfl
  have hRc : (headSpec ws_AL_size { frames := 0, cells := 0, slots := 0, locals := 0 }).room.cells = 0 := rfl
  have hRs : (headSpec ws_AL_size { frames := 0, cells := 0, slots := 0, locals := 0 }).room.slots = 0 := rfl
  generalize (headSpec ws_AL_size { frames := 0, cells := 0, slots := 0, locals := 0 }).room = R at hRf hRl hRc hRs ⊢
  have hS : va_S (hm_A B) s.heap s.heap [] := va_S.rf
  have hl := lv_entry ([.ref a]) (n := 1) (Nat.le_of_ble_eq_true rfl)
  rw [lg_entry_eq]
  generalize (lg_sl ([.ref a]) ++ List.replicate (1 - (lg_sl ([.ref a])).length) Slot.unset).toArray = ls at hl ⊢
  have hl : lv_has ls 1 [(0, .ref a)] := hl
  obtain ⟨d, n, f, mo, h1, h2, h3, h4, h5, h6, h7⟩ := id ha
  refine lv_aload_n hx hb dd_AL_size_0 rfl (lv_at hl 0 rfl) ?_
  refine hm_get (ci := 9) (C := rn_AL) (T := ft_AL) (N := 3) hx hb hts fi_AL hown hE.K hP h1 rfl 1 (by decide) (hts _ tw_126) (fun _ h9 => h9) rfl dd_AL_size_1 ?_
  exact hm_Ei (v := nI xs.length) hx hb hr rfl hS hP (⟨rfl, rfl⟩) hlocks (by omega) (by omega) dd_AL_size_4
set_option maxHeartbeats 4000000 in
set_option maxRecDepth 100000 in
theorem kc_AL_elementData (l : Launch) (B : Nat) (D : va_G) (G : Nat → Nat) (M : hm_M) (ci a : Nat) (xs : List Nat) (ha : al_L B D G M ci a xs) (i : Nat) (hi : i < xs.length) : Met l yy_AL_elementData ws_AL_elementData ({ frames := 0, cells := 0, slots := 0, locals := 0 }) (hm_Pc B D G M [.ref a, .int (nI i)]) (hm_Nr B D (fun r M1 => r = xs.getD i 0 ∧ M1 = M)) (0) (0) (hm_A B) := by
  refine Met.ofW (cc := cd_AL_elementData) (maxL := 2) (ret := ((some (FieldType.object "java/lang/Object")))) (by decide) rfl ?_
  intro p e s m args below meth c s₁ B0 hml hv
  obtain ⟨rfl, hE, hP⟩ := hv
  have hx := B0.exec
  have hb := B0.bytes
  have hr := B0.returns
  have hts : ∀ w ∈ tb_G, w.before _ s = true := fun w h => atoms_spec (ws := ws_AL_elementData) B0.pre w (List.mem_cons_of_mem _ h)
  have hown : s.vm.findClass "java/util/ArrayList" = some m.cls := findClass_of_methodNamed B0.named
  have hlocks := B0.notSynchronized
  have hRf : (headSpec ws_AL_elementData { frames := 0, cells := 0, slots := 0, locals := 0 }).room.frames = 0 := rfl
  have hRl : (headSpec ws_AL_elementData { frames := 0, cells := 0, slots := 0, locals := 0 }).room.locals = 0 := rfl
  have hRc : (headSpec ws_AL_elementData { frames := 0, cells := 0, slots := 0, locals := 0 }).room.cells = 0 := rfl
  have hRs : (headSpec ws_AL_elementData { frames := 0, cells := 0, slots := 0, locals := 0 }).room.slots = 0 := rfl
  generalize (headSpec ws_AL_elementData { frames := 0, cells := 0, slots := 0, locals := 0 }).room = R at hRf hRl hRc hRs ⊢
  have hS : va_S (hm_A B) s.heap s.heap [] := va_S.rf
  have hl := lv_entry ([.ref a, .int (nI i)]) (n := 2) (Nat.le_of_ble_eq_true rfl)
  rw [lg_entry_eq]
  generalize (lg_sl ([.ref a, .int (nI i)]) ++ List.replicate (2 - (lg_sl ([.ref a, .int (nI i)])).length) Slot.unset).toArray = ls at hl ⊢
  have hl : lv_has ls 2 [(0, .ref a), (1, .int (nI i))] := hl
  obtain ⟨d, n, f, mo, h1, h2, h3, h4, h5, h6, h7⟩ := id ha
  refine lv_aload_n hx hb dd_AL_elementData_0 rfl (lv_at hl 0 rfl) ?_
  refine hm_get (ci := 9) (C := rn_AL) (T := ft_AL) (N := 3) hx hb hts fi_AL hown hE.K hP h1 rfl 0 (by decide) (hts _ tw_125) (fun _ h9 => h9) rfl dd_AL_elementData_1 ?_
  refine lv_iload_n hx hb dd_AL_elementData_4 rfl (lv_at hl 1 rfl) ?_
  refine hm_aald (j := i) hx hb hE.K hP 4 h2 rfl (vp_in_nI (by omega) (by omega)) (nI_clamp (by omega)) dd_AL_elementData_5 ?_
  rw [h3 i, al_get hi]
  exact hm_Er (v := xs.getD i 0) hx hb hr (Or.inl ⟨_, rfl⟩) hS hP (⟨rfl, rfl⟩) hlocks (by omega) (by omega) dd_AL_elementData_6
set_option maxHeartbeats 4000000 in
set_option maxRecDepth 100000 in
theorem kc_AL_get (l : Launch) (B : Nat) (D : va_G) (G : Nat → Nat) (M : hm_M) (ci a : Nat) (xs : List Nat) (ha : al_L B D G M ci a xs) (i : Nat) (hi : i < xs.length) : Met l yy_AL_get ws_AL_get ({ frames := 2, cells := 0, slots := 0, locals := 43 }) (hm_Pc B D G M [.ref a, .int (nI i)]) (hm_Nr B D (fun r M1 => r = xs.getD i 0 ∧ M1 = M)) (0) (0) (hm_A B) := by
  refine Met.ofW (cc := cd_AL_get) (maxL := 2) (ret := ((some (FieldType.object "java/lang/Object")))) (by decide) rfl ?_
  intro p e s m args below meth c s₁ B0 hml hv
  obtain ⟨rfl, hE, hP⟩ := hv
  have hx := B0.exec
  have hb := B0.bytes
  have hr := B0.returns
  have hts : ∀ w ∈ tb_G, w.before _ s = true := fun w h => atoms_spec (ws := ws_AL_get) B0.pre w (List.mem_cons_of_mem _ h)
  have hown : s.vm.findClass "java/util/ArrayList" = some m.cls := findClass_of_methodNamed B0.named
  have hlocks := B0.notSynchronized
  have hRf : (headSpec ws_AL_get { frames := 2, cells := 0, slots := 0, locals := 43 }).room.frames = 2 := rfl
  have hRl : (headSpec ws_AL_get { frames := 2, cells := 0, slots := 0, locals := 43 }).room.locals = 43 := rfl
  have hRc : (headSpec ws_AL_get { frames := 2, cells := 0, slots := 0, locals := 43 }).room.cells = 0 := rfl
  have hRs : (headSpec ws_AL_get { frames := 2, cells := 0, slots := 0, locals := 43 }).room.slots = 0 := rfl
  generalize (headSpec ws_AL_get { frames := 2, cells := 0, slots := 0, locals := 43 }).room = R at hRf hRl hRc hRs ⊢
  have hS : va_S (hm_A B) s.heap s.heap [] := va_S.rf
  have hl := lv_entry ([.ref a, .int (nI i)]) (n := 2) (Nat.le_of_ble_eq_true rfl)
  rw [lg_entry_eq]
  generalize (lg_sl ([.ref a, .int (nI i)]) ++ List.replicate (2 - (lg_sl ([.ref a, .int (nI i)])).length) Slot.unset).toArray = ls at hl ⊢
  have hl : lv_has ls 2 [(0, .ref a), (1, .int (nI i))] := hl
  obtain ⟨d, n, f, mo, h1, h2, h3, h4, h5, h6, h7⟩ := id ha
  refine lv_iload_n hx hb dd_AL_get_0 rfl (lv_at hl 1 rfl) ?_
  refine lv_aload_n hx hb dd_AL_get_1 rfl (lv_at hl 0 rfl) ?_
  refine hm_get (ci := 9) (C := rn_AL) (T := ft_AL) (N := 3) hx hb hts fi_AL hown hE.K hP h1 rfl 1 (by decide) (hts _ tw_126) (fun _ h9 => h9) rfl dd_AL_get_2 ?_
  refine hm_ci hS (hm_rS 2 (As := [.int (nI i), .int (nI xs.length)]) (rest := []) ⟨hx, hb, hml, hown, hts⟩ hE hS hP (kc_OB_checkIndex l B D G M i xs.length hi (by omega)) tw_338 tw_336 tw_337 tw_59 (by decide +kernel) rfl rfl ⟨by show 1 + 1 ≤ R.frames; omega, by show 8 + (2 + 11) + 22 ≤ R.locals; omega⟩ rfl hl.1 rfl (Nat.le_of_ble_eq_true rfl) dd_AL_get_5 ⟨by omega, by omega⟩) (fun r1 M2 H locs hw3 hP hS => ?_)
  refine W.widen (k := 0) (n := 0) (by omega) (by omega) ?_
  obtain ⟨rfl, eM2⟩ := hw3
  rw [eM2] at hP
  refine lv_pop hx hb dd_AL_get_8 rfl ?_
  refine lv_aload_n hx hb dd_AL_get_9 rfl (lv_at hl 0 rfl) ?_
  refine lv_iload_n hx hb dd_AL_get_10 rfl (lv_at hl 1 rfl) ?_
  refine hm_cr hS (hm_rV 1 (As := [.int (nI i)]) (rest := []) ⟨hx, hb, hml, hown, hts⟩ hE hS hP (kc_AL_elementData l B D G M ci a xs ha i hi) rfl h1 tw_343 tw_340 tw_341 tw_342 tw_43 (by decide +kernel) rfl rfl ⟨by show 0 + 1 ≤ R.frames; omega, by show 8 + (2 + 11) + 0 ≤ R.locals; omega⟩ rfl hl.1 rfl (Nat.le_of_ble_eq_true rfl) dd_AL_get_11 ⟨by omega, by omega⟩) (fun r4 M5 H locs hw6 hP hS => ?_)
  refine W.widen (k := 0) (n := 0) (by omega) (by omega) ?_
  obtain ⟨rfl, eM5⟩ := hw6
  rw [eM5] at hP
  exact hm_Er (v := xs.getD i 0) hx hb hr (Or.inl ⟨_, rfl⟩) hS hP (⟨rfl, rfl⟩) hlocks (by omega) (by omega) dd_AL_get_14
set_option maxHeartbeats 4000000 in
set_option maxRecDepth 100000 in
theorem kc_LO_lowestOneBit (l : Launch) (B : Nat) (D : va_G) (G : Nat → Nat) (M : hm_M) (x : Int64) : Met l yy_LO_lowestOneBit ws_LO_lowestOneBit ({ frames := 0, cells := 0, slots := 0, locals := 0 }) (hm_Pc B D G M [.long x]) (hm_Nl B D (fun r M1 => r = x &&& (-x) ∧ M1 = M)) (0) (0) (hm_A B) := by
  refine Met.ofW (cc := cd_LO_lowestOneBit) (maxL := 2) (ret := ((some FieldType.long))) (by decide) rfl ?_
  intro p e s m args below meth c s₁ B0 hml hv
  obtain ⟨rfl, hE, hP⟩ := hv
  have hx := B0.exec
  have hb := B0.bytes
  have hr := B0.returns
  have hts : ∀ w ∈ tb_G, w.before _ s = true := fun w h => atoms_spec (ws := ws_LO_lowestOneBit) B0.pre w (List.mem_cons_of_mem _ h)
  have hown : s.vm.findClass "java/lang/Long" = some m.cls := findClass_of_methodNamed B0.named
  have hlocks := B0.notSynchronized
  have hRf : (headSpec ws_LO_lowestOneBit { frames := 0, cells := 0, slots := 0, locals := 0 }).room.frames = 0 := rfl
  have hRl : (headSpec ws_LO_lowestOneBit { frames := 0, cells := 0, slots := 0, locals := 0 }).room.locals = 0 := rfl
  have hRc : (headSpec ws_LO_lowestOneBit { frames := 0, cells := 0, slots := 0, locals := 0 }).room.cells = 0 := rfl
  have hRs : (headSpec ws_LO_lowestOneBit { frames := 0, cells := 0, slots := 0, locals := 0 }).room.slots = 0 := rfl
  generalize (headSpec ws_LO_lowestOneBit { frames := 0, cells := 0, slots := 0, locals := 0 }).room = R at hRf hRl hRc hRs ⊢
  have hS : va_S (hm_A B) s.heap s.heap [] := va_S.rf
  have hl := lv_entry ([.long x]) (n := 2) (Nat.le_of_ble_eq_true rfl)
  rw [lg_entry_eq]
  generalize (lg_sl ([.long x]) ++ List.replicate (2 - (lg_sl ([.long x])).length) Slot.unset).toArray = ls at hl ⊢
  have hl : lv_has ls 2 [(0, .long x)] := hl
  refine lv_lload_n hx hb dd_LO_lowestOneBit_0 rfl (lv_at hl 0 rfl) ?_
  refine lv_lload_n hx hb dd_LO_lowestOneBit_1 rfl (lv_at hl 0 rfl) ?_
  refine lv_lneg hx hb dd_LO_lowestOneBit_2 ?_
  refine lv_topl (fun w1 ew1 => ?_)
  refine lv_land hx hb dd_LO_lowestOneBit_3 ?_
  refine lv_topl (fun w2 ew2 => ?_)
  exact hm_El (v := w2) hx hb hr hS hP (⟨by rw [ew2, ew1], rfl⟩) hlocks (by omega) (by omega) dd_LO_lowestOneBit_4
set_option maxHeartbeats 4000000 in
set_option maxRecDepth 100000 in
theorem kc_TX_find (l : Launch) (B : Nat) (D : va_G) (G : Nat → Nat) (M : hm_M) (a : Nat) (t : List Nat) (ht : tx_S D M a t) (ch i n : Nat) (hch : ch < 128) (hin : i ≤ n) (hn : n ≤ t.length) : Met l yy_TX_find ws_TX_find ({ frames := 4, cells := 0, slots := 0, locals := 85 }) (hm_Pc B D G M [.ref a, .int (nI ch), .int (nI i), .int (nI n)]) (hm_Ni B D (fun r M1 => ∃ k : Nat, r = nI k ∧ i ≤ k ∧ k ≤ n ∧ (∀ j, i ≤ j → j < k → ¬ t.getD j 0 = ch) ∧ (k < n → t.getD k 0 = ch) ∧ M1 = M)) (0) (0) (hm_A B) := by
  refine Met.ofW (cc := cd_TX_find) (maxL := 5) (ret := ((some FieldType.int))) (by decide) rfl ?_
  intro p e s m args below meth c s₁ B0 hml hv
  obtain ⟨rfl, hE, hP⟩ := hv
  have hx := B0.exec
  have hb := B0.bytes
  have hr := B0.returns
  have hts : ∀ w ∈ tb_G, w.before _ s = true := fun w h => atoms_spec (ws := ws_TX_find) B0.pre w (List.mem_cons_of_mem _ h)
  have hown : s.vm.findClass "RouteDesk$Texts" = some m.cls := findClass_of_methodNamed B0.named
  have hlocks := B0.notSynchronized
  have hRf : (headSpec ws_TX_find { frames := 4, cells := 0, slots := 0, locals := 85 }).room.frames = 4 := rfl
  have hRl : (headSpec ws_TX_find { frames := 4, cells := 0, slots := 0, locals := 85 }).room.locals = 85 := rfl
  have hRc : (headSpec ws_TX_find { frames := 4, cells := 0, slots := 0, locals := 85 }).room.cells = 0 := rfl
  have hRs : (headSpec ws_TX_find { frames := 4, cells := 0, slots := 0, locals := 85 }).room.slots = 0 := rfl
  generalize (headSpec ws_TX_find { frames := 4, cells := 0, slots := 0, locals := 85 }).room = R at hRf hRl hRc hRs ⊢
  have hS : va_S (hm_A B) s.heap s.heap [] := va_S.rf
  have hl := lv_entry ([.ref a, .int (nI ch), .int (nI i), .int (nI n)]) (n := 5) (Nat.le_of_ble_eq_true rfl)
  rw [lg_entry_eq]
  generalize (lg_sl ([.ref a, .int (nI ch), .int (nI i), .int (nI n)]) ++ List.replicate (5 - (lg_sl ([.ref a, .int (nI ch), .int (nI i), .int (nI n)])).length) Slot.unset).toArray = ls at hl ⊢
  have hl : lv_has ls 5 [(0, .ref a), (1, .int (nI ch)), (2, .int (nI i)), (3, .int (nI n))] := hl
  have q9 := ht
  obtain ⟨v, f, h1, h2, h3, h4, h5⟩ := id ht
  have hc9 := tx_lt h4
  refine lv_iload_n hx hb dd_TX_find_0 rfl (lv_at hl 2 rfl) ?_
  refine lv_istore (lv' := [(4, .int (nI i)), (0, .ref a), (1, .int (nI ch)), (2, .int (nI i)), (3, .int (nI n))]) hx hb dd_TX_find_1 hl (by decide) rfl (fun ls hl => ?_)
  have lp3 : ∀ (n9 : Nat) (k : Nat), (i ≤ k) → (k ≤ n) → (∀ j, i ≤ j → j < k → ¬ t.getD j 0 = ch) → n - k < n9 → ∀ (H : Heap) (locs : List Loc) (ls : Array Slot), hm_P D cl_W M H → va_S (hm_A B) s.heap H locs → lv_has ls 5 [(0, .ref a), (1, .int (nI ch)), (2, .int (nI i)), (3, .int (nI n)), (4, .int (nI k))] → W p l e R s m ([.ref a, .int (nI ch), .int (nI i), .int (nI n)] : List Value).toArray below meth c H locs (0) (0) (MQ below (hm_Ni B D (fun r M1 => ∃ k : Nat, r = nI k ∧ i ≤ k ∧ k ≤ n ∧ (∀ j, i ≤ j → j < k → ¬ t.getD j 0 = ch) ∧ (k < n → t.getD k 0 = ch) ∧ M1 = M)) ([.ref a, .int (nI ch), .int (nI i), .int (nI n)] : List Value).toArray s (0) (0) (hm_A B)) (F0 m 3 ls []) := by
    intro n9
    induction n9 with
    | zero => intro k hk1 hk hk2 hm; exact absurd hm (Nat.not_lt_zero _)
    | succ n9 ih3 =>
      intro k hk1 hk hk2 hm H locs ls hP hS hl
      refine lv_iload hx hb dd_TX_find_3 (lv_at hl 4 rfl) ?_
      refine lv_iload_n hx hb dd_TX_find_5 rfl (lv_at hl 3 rfl) ?_
      refine hn_icmp_ge (tgt := 28) hx hb (by omega) (by omega) dd_TX_find_6 (by decide) (fun c1 => ?_) (fun c1 => ?_)
      · refine lv_iload_n hx hb dd_TX_find_28 rfl (lv_at hl 3 rfl) ?_
        exact hm_Ei (v := nI n) hx hb hr rfl hS hP (⟨n, rfl, hin, Nat.le_refl _, fun j h8 h9 => hk2 j h8 (by omega), fun h9 => absurd h9 (Nat.lt_irrefl _), rfl⟩) hlocks (by omega) (by omega) dd_TX_find_29
      · refine lv_aload_n hx hb dd_TX_find_9 rfl (lv_at hl 0 rfl) ?_
        refine lv_iload hx hb dd_TX_find_10 (lv_at hl 4 rfl) ?_
        refine hm_ci hS (hm_rV 1 (As := [.int (nI k)]) (rest := []) ⟨hx, hb, hml, hown, hts⟩ hE hS hP (kc_ST_charAt l B D G M a t ht k (by omega)) rfl h1 tw_619 tw_616 tw_617 tw_618 tw_39 (by decide +kernel) rfl rfl ⟨by show 3 + 1 ≤ R.frames; omega, by show 8 + (2 + 11) + 64 ≤ R.locals; omega⟩ rfl hl.1 rfl (Nat.le_of_ble_eq_true rfl) dd_TX_find_12 ⟨by omega, by omega⟩) (fun r2 M3 H locs hw4 hP hS => ?_)
        refine W.widen (k := 0) (n := 0) (by omega) (by omega) ?_
        obtain ⟨rfl, eM3⟩ := hw4
        rw [eM3] at hP
        have bM3 := tx_lt h4 k
        refine lv_iload_n hx hb dd_TX_find_15 rfl (lv_at hl 1 rfl) ?_
        refine hn_icmp_ne (tgt := 22) hx hb (by omega) (by omega) dd_TX_find_16 (by decide) (fun c5 => ?_) (fun c5 => ?_)
        · have c2 := c5
          refine lv_iinc (v := nI (k + 1)) (lv' := [(4, .int (nI (k + 1))), (0, .ref a), (1, .int (nI ch)), (2, .int (nI i)), (3, .int (nI n))]) hx hb dd_TX_find_22 hl (k := 4) rfl (nI_1 k) (by decide) rfl (fun ls hl => ?_)
          refine lv_goto (tgt := 3) hx hb dd_TX_find_25 (by decide) ?_
          exact ih3 (k + 1) (by omega) (by omega) (fun j h8 h9 => by
              by_cases q : j = k
              · subst q; exact c2
              · exact hk2 j h8 (by omega)) (by omega) _ _ _ hP hS (lv_sub hl [1, 2, 3, 4, 0] rfl)
        · have c2 := c5
          refine lv_iload hx hb dd_TX_find_19 (lv_at hl 4 rfl) ?_
          exact hm_Ei (v := nI k) hx hb hr rfl hS hP (⟨k, rfl, hk1, by omega, hk2, fun _ => c2, rfl⟩) hlocks (by omega) (by omega) dd_TX_find_21
  exact lp3 _ i (Nat.le_refl _) (hin) (fun j h8 h9 => absurd h9 (by omega)) (Nat.lt_succ_self _) _ _ _ hP hS (lv_sub hl [1, 2, 3, 4, 0] rfl)
