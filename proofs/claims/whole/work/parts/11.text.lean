/-! texts: a byte array that holds the letters t; a String of them -/
def tx_S (D : va_G) (M : hm_M) (a : Nat) (t : List Nat) : Prop := ∃ (v : Nat) (f : Nat → Int32), M a = some (.inr (8, [.ref v, .int (nI 0)])) ∧ M v = some (.inl (D.1 100, t.length, .inl f)) ∧ (∀ j, j < t.length → f j = nI (t.getD j 0)) ∧ (∀ c ∈ t, c < 128) ∧ t.length ≤ 1000
theorem tx_c : ∀ c, c < 128 → nI c &&& nI 255 = nI c ∧ ((nI c).toUInt32 % 65536).toInt32 = nI c ∧ narrow .char (.int (nI c)) = .int (nI c) := by decide +kernel
theorem tx_lt {t : List Nat} (h : ∀ c ∈ t, c < 128) (j : Nat) : t.getD j 0 < 128 := by
  by_cases hj : j < t.length
  · rw [List.getD_eq_getElem?_getD, List.getElem?_eq_getElem hj]; exact h _ (List.getElem_mem hj)
  · rw [List.getD_eq_getElem?_getD, List.getElem?_eq_none (by omega)]; decide
theorem tx_ext {t u : List Nat} (hl : t.length = u.length) (h : ∀ j, j < t.length → t.getD j 0 = u.getD j 0) : t = u := by
  apply List.ext_getElem hl
  intro j h1 h2
  have := h j h1
  rw [List.getD_eq_getElem?_getD, List.getD_eq_getElem?_getD, List.getElem?_eq_getElem h1, List.getElem?_eq_getElem h2] at this
  exact this
theorem hi_bool (b : Prop) (h : Decidable b) : narrow .boolean (.int (nI (if b then 1 else 0))) = .int (nI (if b then 1 else 0)) := by split <;> rfl

set_option maxHeartbeats 4000000 in
set_option maxRecDepth 100000 in
theorem kc_ST_coder (l : Launch) (B : Nat) (D : va_G) (G : Nat → Nat) (M : hm_M) (a : Nat) (t : List Nat) (ht : tx_S D M a t) : Met l yy_ST_coder ws_ST_coder ({ frames := 0, cells := 0, slots := 0, locals := 0 }) (hm_Pc B D G M [.ref a]) (hm_Ni B D (fun r M1 => r = nI 0 ∧ M1 = M)) (0) (0) (hm_A B) := by
  refine Met.ofW (cc := cd_ST_coder) (maxL := 1) (ret := ((some FieldType.byte))) (by decide) rfl ?_
  intro p e s m args below meth c s₁ B0 hml hv
  obtain ⟨rfl, hE, hP⟩ := hv
  have hx := B0.exec
  have hb := B0.bytes
  have hr := B0.returns
  have hts : ∀ w ∈ tb_G, w.before _ s = true := fun w h => atoms_spec (ws := ws_ST_coder) B0.pre w (List.mem_cons_of_mem _ h)
  have hown : s.vm.findClass "java/lang/String" = some m.cls := findClass_of_methodNamed B0.named
  have hlocks := B0.notSynchronized
  have hRf : (headSpec ws_ST_coder { frames := 0, cells := 0, slots := 0, locals := 0 }).room.frames = 0 := rfl
  have hRl : (headSpec ws_ST_coder { frames := 0, cells := 0, slots := 0, locals := 0 }).room.locals = 0 := rfl
  have hRc : (headSpec ws_ST_coder { frames := 0, cells := 0, slots := 0, locals := 0 }).room.cells = 0 := rfl
  have hRs : (headSpec ws_ST_coder { frames := 0, cells := 0, slots := 0, locals := 0 }).room.slots = 0 := rfl
  generalize (headSpec ws_ST_coder { frames := 0, cells := 0, slots := 0, locals := 0 }).room = R at hRf hRl hRc hRs ⊢
  have hS : va_S (hm_A B) s.heap s.heap [] := va_S.rf
  have hl := lv_entry ([.ref a]) (n := 1) (Nat.le_of_ble_eq_true rfl)
  rw [lg_entry_eq]
  generalize (lg_sl ([.ref a]) ++ List.replicate (1 - (lg_sl ([.ref a])).length) Slot.unset).toArray = ls at hl ⊢
  have hl : lv_has ls 1 [(0, .ref a)] := hl
  obtain ⟨v, f, h1, h2, h3, h4, h5⟩ := ht
  refine va_gets hx hb hE.2.2.2.2.1 hS hown (hts _ tw_495) (fun _ h9 => h9) dd_ST_coder_0 ?_
  refine hn_if_eq (tgt := 13) hx hb (by omega) dd_ST_coder_3 (by decide) (fun c1 => absurd c1 (by omega)) (fun c1 => ?_)
  refine lv_aload_n hx hb dd_ST_coder_6 rfl (lv_at hl 0 rfl) ?_
  refine hm_get (ci := 8) (C := rn_ST) (T := ft_ST) (N := 2) hx hb hts fi_ST hown hE.K hP h1 rfl 1 (by decide) (hts _ tw_551) (fun _ h9 => h9) rfl dd_ST_coder_7 ?_
  refine lv_goto (tgt := 14) hx hb dd_ST_coder_10 (by decide) ?_
  exact hm_Ei (v := nI 0) hx hb hr rfl hS hP (⟨rfl, rfl⟩) hlocks (by omega) (by omega) dd_ST_coder_14
set_option maxHeartbeats 4000000 in
set_option maxRecDepth 100000 in
theorem kc_ST_isLatin1 (l : Launch) (B : Nat) (D : va_G) (G : Nat → Nat) (M : hm_M) (a : Nat) (t : List Nat) (ht : tx_S D M a t) : Met l yy_ST_isLatin1 ws_ST_isLatin1 ({ frames := 0, cells := 0, slots := 0, locals := 0 }) (hm_Pc B D G M [.ref a]) (hm_Ni B D (fun r M1 => r = nI 1 ∧ M1 = M)) (0) (0) (hm_A B) := by
  refine Met.ofW (cc := cd_ST_isLatin1) (maxL := 1) (ret := ((some FieldType.boolean))) (by decide) rfl ?_
  intro p e s m args below meth c s₁ B0 hml hv
  obtain ⟨rfl, hE, hP⟩ := hv
  have hx := B0.exec
  have hb := B0.bytes
  have hr := B0.returns
  have hts : ∀ w ∈ tb_G, w.before _ s = true := fun w h => atoms_spec (ws := ws_ST_isLatin1) B0.pre w (List.mem_cons_of_mem _ h)
  have hown : s.vm.findClass "java/lang/String" = some m.cls := findClass_of_methodNamed B0.named
  have hlocks := B0.notSynchronized
  have hRf : (headSpec ws_ST_isLatin1 { frames := 0, cells := 0, slots := 0, locals := 0 }).room.frames = 0 := rfl
  have hRl : (headSpec ws_ST_isLatin1 { frames := 0, cells := 0, slots := 0, locals := 0 }).room.locals = 0 := rfl
  have hRc : (headSpec ws_ST_isLatin1 { frames := 0, cells := 0, slots := 0, locals := 0 }).room.cells = 0 := rfl
  have hRs : (headSpec ws_ST_isLatin1 { frames := 0, cells := 0, slots := 0, locals := 0 }).room.slots = 0 := rfl
  generalize (headSpec ws_ST_isLatin1 { frames := 0, cells := 0, slots := 0, locals := 0 }).room = R at hRf hRl hRc hRs ⊢
  have hS : va_S (hm_A B) s.heap s.heap [] := va_S.rf
  have hl := lv_entry ([.ref a]) (n := 1) (Nat.le_of_ble_eq_true rfl)
  rw [lg_entry_eq]
  generalize (lg_sl ([.ref a]) ++ List.replicate (1 - (lg_sl ([.ref a])).length) Slot.unset).toArray = ls at hl ⊢
  have hl : lv_has ls 1 [(0, .ref a)] := hl
  obtain ⟨v, f, h1, h2, h3, h4, h5⟩ := ht
  refine va_gets hx hb hE.2.2.2.2.1 hS hown (hts _ tw_495) (fun _ h9 => h9) dd_ST_isLatin1_0 ?_
  refine hn_if_eq (tgt := 17) hx hb (by omega) dd_ST_isLatin1_3 (by decide) (fun c1 => absurd c1 (by omega)) (fun c1 => ?_)
  refine lv_aload_n hx hb dd_ST_isLatin1_6 rfl (lv_at hl 0 rfl) ?_
  refine hm_get (ci := 8) (C := rn_ST) (T := ft_ST) (N := 2) hx hb hts fi_ST hown hE.K hP h1 rfl 1 (by decide) (hts _ tw_551) (fun _ h9 => h9) rfl dd_ST_isLatin1_7 ?_
  refine hn_if_ne (tgt := 17) hx hb (by omega) dd_ST_isLatin1_10 (by decide) (fun c2 => absurd c2 (by omega)) (fun c2 => ?_)
  refine lv_iconst (v := nI 1) hx hb dd_ST_isLatin1_13 (by decide +kernel) ?_
  refine lv_goto (tgt := 18) hx hb dd_ST_isLatin1_14 (by decide) ?_
  exact hm_Ei (v := nI 1) hx hb hr rfl hS hP (⟨rfl, rfl⟩) hlocks (by omega) (by omega) dd_ST_isLatin1_18
set_option maxHeartbeats 4000000 in
set_option maxRecDepth 100000 in
theorem kc_ST_isEmpty (l : Launch) (B : Nat) (D : va_G) (G : Nat → Nat) (M : hm_M) (a : Nat) (t : List Nat) (ht : tx_S D M a t) : Met l yy_ST_isEmpty ws_ST_isEmpty ({ frames := 0, cells := 0, slots := 0, locals := 0 }) (hm_Pc B D G M [.ref a]) (hm_Ni B D (fun r M1 => r = nI (if t = [] then 1 else 0) ∧ M1 = M)) (0) (0) (hm_A B) := by
  refine Met.ofW (cc := cd_ST_isEmpty) (maxL := 1) (ret := ((some FieldType.boolean))) (by decide) rfl ?_
  intro p e s m args below meth c s₁ B0 hml hv
  obtain ⟨rfl, hE, hP⟩ := hv
  have hx := B0.exec
  have hb := B0.bytes
  have hr := B0.returns
  have hts : ∀ w ∈ tb_G, w.before _ s = true := fun w h => atoms_spec (ws := ws_ST_isEmpty) B0.pre w (List.mem_cons_of_mem _ h)
  have hown : s.vm.findClass "java/lang/String" = some m.cls := findClass_of_methodNamed B0.named
  have hlocks := B0.notSynchronized
  have hRf : (headSpec ws_ST_isEmpty { frames := 0, cells := 0, slots := 0, locals := 0 }).room.frames = 0 := rfl
  have hRl : (headSpec ws_ST_isEmpty { frames := 0, cells := 0, slots := 0, locals := 0 }).room.locals = 0 := rfl
  have hRc : (headSpec ws_ST_isEmpty { frames := 0, cells := 0, slots := 0, locals := 0 }).room.cells = 0 := rfl
  have hRs : (headSpec ws_ST_isEmpty { frames := 0, cells := 0, slots := 0, locals := 0 }).room.slots = 0 := rfl
  generalize (headSpec ws_ST_isEmpty { frames := 0, cells := 0, slots := 0, locals := 0 }).room = R at hRf hRl hRc hRs ⊢
  have hS : va_S (hm_A B) s.heap s.heap [] := va_S.rf
  have hl := lv_entry ([.ref a]) (n := 1) (Nat.le_of_ble_eq_true rfl)
  rw [lg_entry_eq]
  generalize (lg_sl ([.ref a]) ++ List.replicate (1 - (lg_sl ([.ref a])).length) Slot.unset).toArray = ls at hl ⊢
  have hl : lv_has ls 1 [(0, .ref a)] := hl
  obtain ⟨v, f, h1, h2, h3, h4, h5⟩ := ht
  refine lv_aload_n hx hb dd_ST_isEmpty_0 rfl (lv_at hl 0 rfl) ?_
  refine hm_get (ci := 8) (C := rn_ST) (T := ft_ST) (N := 2) hx hb hts fi_ST hown hE.K hP h1 rfl 0 (by decide) (hts _ tw_550) (fun _ h9 => h9) rfl dd_ST_isEmpty_1 ?_
  refine hm_alen (v := nI t.length) hx hb hE.K hP 0 h2 rfl rfl dd_ST_isEmpty_4 ?_
  refine hn_if_ne (tgt := 12) hx hb (by omega) dd_ST_isEmpty_5 (by decide) (fun c1 => ?_) (fun c1 => ?_)
  · refine lv_iconst (v := nI 0) hx hb dd_ST_isEmpty_12 (by decide +kernel) ?_
    exact hm_Ei (v := nI 0) hx hb hr rfl hS hP (⟨by rw [if_neg (fun e => by rw [e] at c1; exact absurd c1 (Nat.lt_irrefl 0))], rfl⟩) hlocks (by omega) (by omega) dd_ST_isEmpty_13
  · refine lv_iconst (v := nI 1) hx hb dd_ST_isEmpty_8 (by decide +kernel) ?_
    refine lv_goto (tgt := 13) hx hb dd_ST_isEmpty_9 (by decide) ?_
    exact hm_Ei (v := nI 1) hx hb hr rfl hS hP (⟨by rw [if_pos (List.length_eq_zero_iff.mp c1)], rfl⟩) hlocks (by omega) (by omega) dd_ST_isEmpty_13
set_option maxHeartbeats 4000000 in
set_option maxRecDepth 100000 in
theorem kc_ST_length (l : Launch) (B : Nat) (D : va_G) (G : Nat → Nat) (M : hm_M) (a : Nat) (t : List Nat) (ht : tx_S D M a t) : Met l yy_ST_length ws_ST_length ({ frames := 1, cells := 0, slots := 0, locals := 20 }) (hm_Pc B D G M [.ref a]) (hm_Ni B D (fun r M1 => r = nI t.length ∧ M1 = M)) (0) (0) (hm_A B) := by
  refine Met.ofW (cc := cd_ST_length) (maxL := 1) (ret := ((some FieldType.int))) (by decide) rfl ?_
  intro p e s m args below meth c s₁ B0 hml hv
  obtain ⟨rfl, hE, hP⟩ := hv
  have hx := B0.exec
  have hb := B0.bytes
  have hr := B0.returns
  have hts : ∀ w ∈ tb_G, w.before _ s = true := fun w h => atoms_spec (ws := ws_ST_length) B0.pre w (List.mem_cons_of_mem _ h)
  have hown : s.vm.findClass "java/lang/String" = some m.cls := findClass_of_methodNamed B0.named
  have hlocks := B0.notSynchronized
  have hRf : (headSpec ws_ST_length { frames := 1, cells := 0, slots := 0, locals := 20 }).room.frames = 1 := rfl
  have hRl : (headSpec ws_ST_length { frames := 1, cells := 0, slots := 0, locals := 20 }).room.locals = 20 := rfl
  have hRc : (headSpec ws_ST_length { frames := 1, cells := 0, slots := 0, locals := 20 }).room.cells = 0 := rfl
  have hRs : (headSpec ws_ST_length { frames := 1, cells := 0, slots := 0, locals := 20 }).room.slots = 0 := rfl
  generalize (headSpec ws_ST_length { frames := 1, cells := 0, slots := 0, locals := 20 }).room = R at hRf hRl hRc hRs ⊢
  have hS : va_S (hm_A B) s.heap s.heap [] := va_S.rf
  have hl := lv_entry ([.ref a]) (n := 1) (Nat.le_of_ble_eq_true rfl)
  rw [lg_entry_eq]
  generalize (lg_sl ([.ref a]) ++ List.replicate (1 - (lg_sl ([.ref a])).length) Slot.unset).toArray = ls at hl ⊢
  have hl : lv_has ls 1 [(0, .ref a)] := hl
  obtain ⟨v, f, h1, h2, h3, h4, h5⟩ := ht
  refine lv_aload_n hx hb dd_ST_length_0 rfl (lv_at hl 0 rfl) ?_
  refine hm_get (ci := 8) (C := rn_ST) (T := ft_ST) (N := 2) hx hb hts fi_ST hown hE.K hP h1 rfl 0 (by decide) (hts _ tw_550) (fun _ h9 => h9) rfl dd_ST_length_1 ?_
  refine hm_alen (v := nI t.length) hx hb hE.K hP 0 h2 rfl rfl dd_ST_length_4 ?_
  refine lv_aload_n hx hb dd_ST_length_5 rfl (lv_at hl 0 rfl) ?_
  refine hm_ci hS (hm_rV 0 (As := []) (rest := [.int (nI t.length)]) ⟨hx, hb, hml, hown, hts⟩ hE hS hP (kc_ST_coder l B D G M a t ⟨v, f, h1, h2, h3, h4, h5⟩) rfl h1 tw_494 tw_491 tw_492 tw_493 tw_39 (by decide +kernel) rfl rfl ⟨by show 0 + 1 ≤ R.frames; omega, by show 8 + (1 + 11) + 0 ≤ R.locals; omega⟩ rfl hl.1 rfl (Nat.le_of_ble_eq_true rfl) dd_ST_length_6 ⟨by omega, by omega⟩) (fun r1 M2 H locs hw3 hP hS => ?_)
  refine W.widen (k := 0) (n := 0) (by omega) (by omega) ?_
  obtain ⟨rfl, eM2⟩ := hw3
  rw [eM2] at hP
  refine lv_ishr hx hb dd_ST_length_9 ?_
  refine lv_topi (fun x4 ex4 => ?_)
  exact hm_Ei (v := x4) hx hb hr rfl hS hP (⟨by rw [ex4]; exact sb_shr0 _, rfl⟩) hlocks (by omega) (by omega) dd_ST_length_10
set_option maxHeartbeats 4000000 in
set_option maxRecDepth 100000 in
theorem kc_SL_charAt (l : Launch) (B : Nat) (D : va_G) (G : Nat → Nat) (M : hm_M) (v : Nat) (f : Nat → Int32) (t : List Nat) (i : Nat) (hi : i < t.length) (h2 : M v = some (.inl (D.1 100, t.length, .inl f))) (h3 : ∀ j, j < t.length → f j = nI (t.getD j 0)) (h4 : ∀ c ∈ t, c < 128) (h5 : t.length ≤ 1000) : Met l yy_SL_charAt ws_SL_charAt ({ frames := 2, cells := 0, slots := 0, locals := 43 }) (hm_Pc B D G M [.ref v, .int (nI i)]) (hm_Ni B D (fun r M1 => r = nI (t.getD i 0) ∧ M1 = M)) (0) (0) (hm_A B) := by
  refine Met.ofW (cc := cd_SL_charAt) (maxL := 2) (ret := ((some FieldType.char))) (by decide) rfl ?_
  intro p e s m args below meth c s₁ B0 hml hv
  obtain ⟨rfl, hE, hP⟩ := hv
  have hx := B0.exec
  have hb := B0.bytes
  have hr := B0.returns
  have hts : ∀ w ∈ tb_G, w.before _ s = true := fun w h => atoms_spec (ws := ws_SL_charAt) B0.pre w (List.mem_cons_of_mem _ h)
  have hown : s.vm.findClass "java/lang/StringLatin1" = some m.cls := findClass_of_methodNamed B0.named
  have hlocks := B0.notSynchronized
  have hRf : (headSpec ws_SL_charAt { frames := 2, cells := 0, slots := 0, locals := 43 }).room.frames = 2 := rfl
  have hRl : (headSpec ws_SL_charAt { frames := 2, cells := 0, slots := 0, locals := 43 }).room.locals = 43 := rfl
  have hRc : (headSpec ws_SL_charAt { frames := 2, cells := 0, slots := 0, locals := 43 }).room.cells = 0 := rfl
  have hRs : (headSpec ws_SL_charAt { frames := 2, cells := 0, slots := 0, locals := 43 }).room.slots = 0 := rfl
  generalize (headSpec ws_SL_charAt { frames := 2, cells := 0, slots := 0, locals := 43 }).room = R at hRf hRl hRc hRs ⊢
  have hS : va_S (hm_A B) s.heap s.heap [] := va_S.rf
  have hl := lv_entry ([.ref v, .int (nI i)]) (n := 2) (Nat.le_of_ble_eq_true rfl)
  rw [lg_entry_eq]
  generalize (lg_sl ([.ref v, .int (nI i)]) ++ List.replicate (2 - (lg_sl ([.ref v, .int (nI i)])).length) Slot.unset).toArray = ls at hl ⊢
  have hl : lv_has ls 2 [(0, .ref v), (1, .int (nI i))] := hl
  refine lv_iload_n hx hb dd_SL_charAt_0 rfl (lv_at hl 1 rfl) ?_
  refine lv_aload_n hx hb dd_SL_charAt_1 rfl (lv_at hl 0 rfl) ?_
  refine hm_alen (v := nI t.length) hx hb hE.K hP 0 h2 rfl rfl dd_SL_charAt_2 ?_
  refine hm_cv hS (hm_rS 2 (As := [.int (nI i), .int (nI t.length)]) (rest := []) ⟨hx, hb, hml, hown, hts⟩ hE hS hP (kc_ST_checkIndex l B D G M i t.length hi (by omega)) tw_308 tw_627 tw_307 tw_39 (by decide +kernel) rfl rfl ⟨by show 1 + 1 ≤ R.frames; omega, by show 8 + (2 + 11) + 22 ≤ R.locals; omega⟩ rfl hl.1 rfl (Nat.le_of_ble_eq_true rfl) dd_SL_charAt_3 ⟨by omega, by omega⟩) (fun M2 H locs hw3 hP hS => ?_)
  refine W.widen (k := 0) (n := 0) (by omega) (by omega) ?_
  rw [hw3] at hP
  refine lv_aload_n hx hb dd_SL_charAt_6 rfl (lv_at hl 0 rfl) ?_
  refine lv_iload_n hx hb dd_SL_charAt_7 rfl (lv_at hl 1 rfl) ?_
  refine hm_bald (j := i) hx hb hE.K hP 0 h2 rfl (vp_in_nI (by omega) (by omega)) (nI_clamp (by omega)) dd_SL_charAt_8 ?_
  refine lv_sipush (v := nI 255) hx hb dd_SL_charAt_9 (by decide +kernel) ?_
  refine lv_iand hx hb dd_SL_charAt_12 ?_
  refine lv_topi (fun x4 ex4 => ?_)
  obtain rfl : x4 = nI (t.getD i 0) := by rw [ex4, h3 i hi]; exact (tx_c _ (tx_lt h4 i)).1
  refine lv_i2c hx hb dd_SL_charAt_13 rfl ?_
  refine lv_topi (fun x5 ex5 => ?_)
  obtain rfl : x5 = nI (t.getD i 0) := by rw [ex5]; exact (tx_c _ (tx_lt h4 i)).2.1
  exact hm_Ei (v := nI (t.getD i 0)) hx hb hr (tx_c _ (tx_lt h4 i)).2.2 hS hP (⟨rfl, rfl⟩) hlocks (by omega) (by omega) dd_SL_charAt_14
set_option maxHeartbeats 4000000 in
set_option maxRecDepth 100000 in
theorem kc_ST_charAt (l : Launch) (B : Nat) (D : va_G) (G : Nat → Nat) (M : hm_M) (a : Nat) (t : List Nat) (ht : tx_S D M a t) (i : Nat) (hi : i < t.length) : Met l yy_ST_charAt ws_ST_charAt ({ frames := 3, cells := 0, slots := 0, locals := 64 }) (hm_Pc B D G M [.ref a, .int (nI i)]) (hm_Ni B D (fun r M1 => r = nI (t.getD i 0) ∧ M1 = M)) (0) (0) (hm_A B) := by
  refine Met.ofW (cc := cd_ST_charAt) (maxL := 2) (ret := ((some FieldType.char))) (by decide) rfl ?_
  intro p e s m args below meth c s₁ B0 hml hv
  obtain ⟨rfl, hE, hP⟩ := hv
  have hx := B0.exec
  have hb := B0.bytes
  have hr := B0.returns
  have hts : ∀ w ∈ tb_G, w.before _ s = true := fun w h => atoms_spec (ws := ws_ST_charAt) B0.pre w (List.mem_cons_of_mem _ h)
  have hown : s.vm.findClass "java/lang/String" = some m.cls := findClass_of_methodNamed B0.named
  have hlocks := B0.notSynchronized
  have hRf : (headSpec ws_ST_charAt { frames := 3, cells := 0, slots := 0, locals := 64 }).room.frames = 3 := rfl
  have hRl : (headSpec ws_ST_charAt { frames := 3, cells := 0, slots := 0, locals := 64 }).room.locals = 64 := rfl
  have hRc : (headSpec ws_ST_charAt { frames := 3, cells := 0, slots := 0, locals := 64 }).room.cells = 0 := rfl
  have hRs : (headSpec ws_ST_charAt { frames := 3, cells := 0, slots := 0, locals := 64 }).room.slots = 0 := rfl
  generalize (headSpec ws_ST_charAt { frames := 3, cells := 0, slots := 0, locals := 64 }).room = R at hRf hRl hRc hRs ⊢
  have hS : va_S (hm_A B) s.heap s.heap [] := va_S.rf
  have hl := lv_entry ([.ref a, .int (nI i)]) (n := 2) (Nat.le_of_ble_eq_true rfl)
  rw [lg_entry_eq]
  generalize (lg_sl ([.ref a, .int (nI i)]) ++ List.replicate (2 - (lg_sl ([.ref a, .int (nI i)])).length) Slot.unset).toArray = ls at hl ⊢
  have hl : lv_has ls 2 [(0, .ref a), (1, .int (nI i))] := hl
  obtain ⟨v, f, h1, h2, h3, h4, h5⟩ := ht
  refine lv_aload_n hx hb dd_ST_charAt_0 rfl (lv_at hl 0 rfl) ?_
  refine hm_ci hS (hm_rV 0 (As := []) (rest := []) ⟨hx, hb, hml, hown, hts⟩ hE hS hP (kc_ST_isLatin1 l B D G M a t ⟨v, f, h1, h2, h3, h4, h5⟩) rfl h1 tw_623 tw_620 tw_621 tw_622 tw_39 (by decide +kernel) rfl rfl ⟨by show 0 + 1 ≤ R.frames; omega, by show 8 + (1 + 11) + 0 ≤ R.locals; omega⟩ rfl hl.1 rfl (Nat.le_of_ble_eq_true rfl) dd_ST_charAt_1 ⟨by omega, by omega⟩) (fun r1 M2 H locs hw3 hP hS => ?_)
  refine W.widen (k := 0) (n := 0) (by omega) (by omega) ?_
  obtain ⟨rfl, eM2⟩ := hw3
  rw [eM2] at hP
  refine hn_if_eq (tgt := 16) hx hb (by omega) dd_ST_charAt_4 (by decide) (fun c4 => absurd c4 (by omega)) (fun c4 => ?_)
  refine lv_aload_n hx hb dd_ST_charAt_7 rfl (lv_at hl 0 rfl) ?_
  refine hm_get (ci := 8) (C := rn_ST) (T := ft_ST) (N := 2) hx hb hts fi_ST hown hE.K hP h1 rfl 0 (by decide) (hts _ tw_550) (fun _ h9 => h9) rfl dd_ST_charAt_8 ?_
  refine lv_iload_n hx hb dd_ST_charAt_11 rfl (lv_at hl 1 rfl) ?_
  refine hm_ci hS (hm_rS 2 (As := [.ref v, .int (nI i)]) (rest := []) ⟨hx, hb, hml, hown, hts⟩ hE hS hP (kc_SL_charAt l B D G M v f t i hi h2 h3 h4 h5) tw_626 tw_624 tw_625 tw_51 (by decide +kernel) rfl rfl ⟨by show 2 + 1 ≤ R.frames; omega, by show 8 + (2 + 11) + 43 ≤ R.locals; omega⟩ rfl hl.1 rfl (Nat.le_of_ble_eq_true rfl) dd_ST_charAt_12 ⟨by omega, by omega⟩) (fun r5 M6 H locs hw7 hP hS => ?_)
  refine W.widen (k := 0) (n := 0) (by omega) (by omega) ?_
  obtain ⟨rfl, eM6⟩ := hw7
  rw [eM6] at hP
  exact hm_Ei (v := nI (t.getD i 0)) hx hb hr (tx_c _ (tx_lt h4 i)).2.2 hS hP (⟨rfl, rfl⟩) hlocks (by omega) (by omega) dd_ST_charAt_15
set_option maxHeartbeats 4000000 in
set_option maxRecDepth 100000 in
theorem kc_SL_equals (l : Launch) (B : Nat) (D : va_G) (G : Nat → Nat) (M : hm_M) (v w : Nat) (f g : Nat → Int32) (t u : List Nat) (h2 : M v = some (.inl (D.1 100, t.length, .inl f))) (h3 : ∀ j, j < t.length → f j = nI (t.getD j 0)) (h4 : ∀ c ∈ t, c < 128) (h5 : t.length ≤ 1000) (g2 : M w = some (.inl (D.1 100, u.length, .inl g))) (g3 : ∀ j, j < u.length → g j = nI (u.getD j 0)) (g4 : ∀ c ∈ u, c < 128) (g5 : u.length ≤ 1000) : Met l yy_SL_equals ws_SL_equals ({ frames := 0, cells := 0, slots := 0, locals := 0 }) (hm_Pc B D G M [.ref v, .ref w]) (hm_Ni B D (fun r M1 => r = nI (if t = u then 1 else 0) ∧ M1 = M)) (0) (0) (hm_A B) := by
  refine Met.ofW (cc := cd_SL_equals) (maxL := 3) (ret := ((some FieldType.boolean))) (by decide) rfl ?_
  intro p e s m args below meth c s₁ B0 hml hv
  obtain ⟨rfl, hE, hP⟩ := hv
  have hx := B0.exec
  have hb := B0.bytes
  have hr := B0.returns
  have hts : ∀ w ∈ tb_G, w.before _ s = true := fun w h => atoms_spec (ws := ws_SL_equals) B0.pre w (List.mem_cons_of_mem _ h)
  have hown : s.vm.findClass "java/lang/StringLatin1" = some m.cls := findClass_of_methodNamed B0.named
  have hlocks := B0.notSynchronized
  have hRf : (headSpec ws_SL_equals { frames := 0, cells := 0, slots := 0, locals := 0 }).room.frames = 0 := rfl
  have hRl : (headSpec ws_SL_equals { frames := 0, cells := 0, slots := 0, locals := 0 }).room.locals = 0 := rfl
  have hRc : (headSpec ws_SL_equals { frames := 0, cells := 0, slots := 0, locals := 0 }).room.cells = 0 := rfl
  have hRs : (headSpec ws_SL_equals { frames := 0, cells := 0, slots := 0, locals := 0 }).room.slots = 0 := rfl
  generalize (headSpec ws_SL_equals { frames := 0, cells := 0, slots := 0, locals := 0 }).room = R at hRf hRl hRc hRs ⊢
  have hS : va_S (hm_A B) s.heap s.heap [] := va_S.rf
  have hl := lv_entry ([.ref v, .ref w]) (n := 3) (Nat.le_of_ble_eq_true rfl)
  rw [lg_entry_eq]
  generalize (lg_sl ([.ref v, .ref w]) ++ List.replicate (3 - (lg_sl ([.ref v, .ref w])).length) Slot.unset).toArray = ls at hl ⊢
  have hl : lv_has ls 3 [(0, .ref v), (1, .ref w)] := hl
  refine lv_aload_n hx hb dd_SL_equals_0 rfl (lv_at hl 0 rfl) ?_
  refine hm_alen (v := nI t.length) hx hb hE.K hP 0 h2 rfl rfl dd_SL_equals_1 ?_
  refine lv_aload_n hx hb dd_SL_equals_2 rfl (lv_at hl 1 rfl) ?_
  refine hm_alen (v := nI u.length) hx hb hE.K hP 0 g2 rfl rfl dd_SL_equals_3 ?_
  refine hn_icmp_ne (tgt := 34) hx hb (by omega) (by omega) dd_SL_equals_4 (by decide) (fun c1 => ?_) (fun c1 => ?_)
  · refine lv_iconst (v := nI 0) hx hb dd_SL_equals_34 (by decide +kernel) ?_
    exact hm_Ei (v := nI 0) hx hb hr rfl hS hP (⟨by rw [if_neg (fun e => c1 (by rw [e]))], rfl⟩) hlocks (by omega) (by omega) dd_SL_equals_35
  · refine lv_iconst (v := nI 0) hx hb dd_SL_equals_7 (by decide +kernel) ?_
    refine lv_istore_n (lv' := [(2, .int (nI 0)), (0, .ref v), (1, .ref w)]) hx hb dd_SL_equals_8 rfl hl (by decide) rfl (fun ls hl => ?_)
    have lp9 : ∀ (n9 : Nat) (k : Nat), (k ≤ t.length) → (∀ j, j < k → t.getD j 0 = u.getD j 0) → t.length - k < n9 → ∀ (H : Heap) (locs : List Loc) (ls : Array Slot), hm_P D cl_W M H → va_S (hm_A B) s.heap H locs → lv_has ls 3 [(0, .ref v), (1, .ref w), (2, .int (nI k))] → W p l e R s m ([.ref v, .ref w] : List Value).toArray below meth c H locs (0) (0) (MQ below (hm_Ni B D (fun r M1 => r = nI (if t = u then 1 else 0) ∧ M1 = M)) ([.ref v, .ref w] : List Value).toArray s (0) (0) (hm_A B)) (F0 m 9 ls []) := by
      intro n9
      induction n9 with
      | zero => intro k hk hk2 hm; exact absurd hm (Nat.not_lt_zero _)
      | succ n9 ih9 =>
        intro k hk hk2 hm H locs ls hP hS hl
        refine lv_iload_n hx hb dd_SL_equals_9 rfl (lv_at hl 2 rfl) ?_
        refine lv_aload_n hx hb dd_SL_equals_10 rfl (lv_at hl 0 rfl) ?_
        refine hm_alen (v := nI t.length) hx hb hE.K hP 0 h2 rfl rfl dd_SL_equals_11 ?_
        refine hn_icmp_ge (tgt := 32) hx hb (by omega) (by omega) dd_SL_equals_12 (by decide) (fun c2 => ?_) (fun c2 => ?_)
        · refine lv_iconst (v := nI 1) hx hb dd_SL_equals_32 (by decide +kernel) ?_
          exact hm_Ei (v := nI 1) hx hb hr rfl hS hP (⟨by rw [if_pos (tx_ext c1 (fun j hj => hk2 j (by omega)))], rfl⟩) hlocks (by omega) (by omega) dd_SL_equals_33
        · refine lv_aload_n hx hb dd_SL_equals_15 rfl (lv_at hl 0 rfl) ?_
          refine lv_iload_n hx hb dd_SL_equals_16 rfl (lv_at hl 2 rfl) ?_
          refine hm_bald (j := k) hx hb hE.K hP 0 h2 rfl (vp_in_nI (by omega) (by omega)) (nI_clamp (by omega)) dd_SL_equals_17 ?_
          refine lv_aload_n hx hb dd_SL_equals_18 rfl (lv_at hl 1 rfl) ?_
          refine lv_iload_n hx hb dd_SL_equals_19 rfl (lv_at hl 2 rfl) ?_
          refine hm_bald (j := k) hx hb hE.K hP 0 g2 rfl (vp_in_nI (by omega) (by omega)) (nI_clamp (by omega)) dd_SL_equals_20 ?_
          refine hi_icmp_eq (tgt := 26) hx hb dd_SL_equals_21 (by decide) (fun c3 => ?_) (fun c3 => ?_)
          · have hc3 : t.getD k 0 = u.getD k 0 := by
              rw [h3 k (by omega), g3 k (by omega), nI_toInt (by have := tx_lt h4 k; omega), nI_toInt (by have := tx_lt g4 k; omega)] at c3
              omega
            refine lv_iinc (v := nI (k + 1)) (lv' := [(2, .int (nI (k + 1))), (0, .ref v), (1, .ref w)]) hx hb dd_SL_equals_26 hl (k := 2) rfl (nI_1 k) (by decide) rfl (fun ls hl => ?_)
            refine lv_goto (tgt := 9) hx hb dd_SL_equals_29 (by decide) ?_
            exact ih9 (k + 1) (by omega) (fun j hj => by
                by_cases e : j = k
                · subst e; exact hc3
                · exact hk2 j (by omega)) (by omega) _ _ _ hP hS (lv_sub hl [1, 2, 0] rfl)
          · have c3 := c3
            refine lv_iconst (v := nI 0) hx hb dd_SL_equals_24 (by decide +kernel) ?_
            exact hm_Ei (v := nI 0) hx hb hr rfl hS hP (⟨by rw [if_neg (fun e => c3 (by rw [h3 k (by omega), g3 k (by omega), e]))], rfl⟩) hlocks (by omega) (by omega) dd_SL_equals_25
    exact lp9 _ 0 (Nat.zero_le _) (fun j hj => absurd hj (Nat.not_lt_zero _)) (Nat.lt_succ_self _) _ _ _ hP hS (lv_sub hl [1, 2, 0] rfl)
