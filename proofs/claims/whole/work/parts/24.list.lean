/-! lists that change -/
def al_D (B : Nat) (D : va_G) (G : Nat → Nat) (M : hm_M) (ci a d : Nat) (xs : List Nat) : Prop := ∃ (n : Nat) (f : Nat → Option Nat) (mo : Int32), M a = some (.inr (9, [.ref d, .int (nI xs.length), .int mo])) ∧ M d = some (.inl (D.1 104, n, .inr (.inr (.inr (.inr f))))) ∧ (∀ j, f j = xs[j]?) ∧ xs.length ≤ n ∧ n ≤ 1000 ∧ (∀ x ∈ xs, ∃ fs, M x = some (.inr (ci, fs))) ∧ ((n = 0 ∧ d = G 0) ∨ (0 < n ∧ B ≤ d ∧ d ≠ G 0))
theorem al_D.L {B : Nat} {D : va_G} {G : Nat → Nat} {M : hm_M} {ci a d : Nat} {xs : List Nat} (h : al_D B D G M ci a d xs) : al_L B D G M ci a xs := by
  obtain ⟨n, f, mo, h1⟩ := h
  exact ⟨d, n, f, mo, h1⟩
theorem al_cast {B : Nat} {D : va_G} {G : Nat → Nat} {s : State} {ci : Nat} (hE : ev_E B D G s) (h : ci = 1 ∨ ci = 3) : ∃ r, cl_W[ci]? = some r ∧ va_Nw (.castable r.1 "java/lang/Object") s := by
  rcases h with rfl | rfl
  · exact ⟨_, rfl, hE.nest 31 rfl⟩
  · exact ⟨_, rfl, hE.nest 32 rfl⟩
theorem hi_shr1 : ∀ n, n < 1001 → nI n >>> (nI 1 &&& 31) = nI (n / 2) := by decide +kernel
theorem al_out {xs : List Nat} {f : Nat → Option Nat} {n : Nat} (h : ∀ j, f j = xs[j]?) (hn : xs.length ≤ n) : ∀ j, n ≤ j → f j = none := fun j hj => by rw [h j]; exact List.getElem?_eq_none (by omega)
theorem al_mem {xs : List Nat} {i y : Nat} (h : xs[i]? = some y) : y ∈ xs := List.mem_of_getElem? h
/-- an element is taken out -/
theorem al_del {xs : List Nat} {f : Nat → Option Nat} {i : Nat} (h : ∀ j, f j = xs[j]?) (hi : i < xs.length) : ∀ j, va_up (va_cpy f f (i + 1) i (xs.length - 1 - i)) (xs.length - 1) none j = (xs.eraseIdx i)[j]? := by
  intro j
  rw [List.getElem?_eraseIdx]
  unfold va_up
  by_cases h1 : j = xs.length - 1
  · rw [if_pos h1]
    subst h1
    split
    · omega
    · rw [List.getElem?_eq_none (by omega)]
  · rw [if_neg h1]
    unfold va_cpy
    by_cases h2 : i ≤ j ∧ j < i + (xs.length - 1 - i)
    · rw [if_pos h2, if_neg (by omega), h, show i + 1 + (j - i) = j + 1 by omega]
    · rw [if_neg h2]
      split
      · exact h j
      · rw [h j, List.getElem?_eq_none (by omega), List.getElem?_eq_none (by omega)]
theorem al_del2 {xs : List Nat} {f : Nat → Option Nat} {i : Nat} (h : ∀ j, f j = xs[j]?) (hi : i < xs.length) (he : ¬ i < xs.length - 1) : ∀ j, va_up f (xs.length - 1) none j = (xs.eraseIdx i)[j]? := by
  intro j
  rw [← al_del h hi j]
  unfold va_up
  split
  · rfl
  · unfold va_cpy
    rw [if_neg (by omega)]
theorem al_app {xs : List Nat} {f : Nat → Option Nat} {x : Nat} (h : ∀ j, f j = xs[j]?) : ∀ j, va_up f xs.length (some x) j = (xs ++ [x])[j]? := by
  intro j
  unfold va_up
  split
  · rename_i e; subst e; simp
  · rename_i e
    rw [h j]
    by_cases h2 : j < xs.length
    · rw [List.getElem?_append_left h2]
    · rw [List.getElem?_eq_none (by omega), List.getElem?_eq_none (by simp only [List.length_append, List.length_cons, List.length_nil]; omega)]

set_option maxHeartbeats 4000000 in
set_option maxRecDepth 100000 in
theorem kc_AC_init (l : Launch) (B : Nat) (D : va_G) (G : Nat → Nat) (M : hm_M) (a : Nat) : Met l yy_AC_init ws_AC_init ({ frames := 1, cells := 0, slots := 0, locals := 12 }) (hm_Pc B D G M [.ref a]) (hm_Nv B D (fun M1 => M1 = M)) (0) (0) (hm_A B) := by
  refine Met.ofW (cc := cd_AC_init) (maxL := 1) (ret := none) (by decide) rfl ?_
  intro p e s m args below meth c s₁ B0 hml hv
  obtain ⟨rfl, hE, hP⟩ := hv
  have hx := B0.exec
  have hb := B0.bytes
  have hr := B0.returns
  have hts : ∀ w ∈ tb_G, w.before _ s = true := fun w h => atoms_spec (ws := ws_AC_init) B0.pre w (List.mem_cons_of_mem _ h)
  have hown : s.vm.findClass "java/util/AbstractCollection" = some m.cls := findClass_of_methodNamed B0.named
  have hlocks := B0.notSynchronized
  have hRf : (headSpec ws_AC_init { frames := 1, cells := 0, slots := 0, locals := 12 }).room.frames = 1 := rfl
  have hRl : (headSpec ws_AC_init { frames := 1, cells := 0, slots := 0, locals := 12 }).room.locals = 12 := rfl
  have hRc : (headSpec ws_AC_init { frames := 1, cells := 0, slots := 0, locals := 12 }).room.cells = 0 := rfl
  have hRs : (headSpec ws_AC_init { frames := 1, cells := 0, slots := 0, locals := 12 }).room.slots = 0 := rfl
  generalize (headSpec ws_AC_init { frames := 1, cells := 0, slots := 0, locals := 12 }).room = R at hRf hRl hRc hRs ⊢
  have hin : meth.name = "<init>" := (name_of_methodNamed B0.named B0.method).1
  have hS : va_S (hm_A B) s.heap s.heap [] := va_S.rf
  have hl := lv_entry ([.ref a]) (n := 1) (Nat.le_of_ble_eq_true rfl)
  rw [lg_entry_eq]
  generalize (lg_sl ([.ref a]) ++ List.replicate (1 - (lg_sl ([.ref a])).length) Slot.unset).toArray = ls at hl ⊢
  have hl : lv_has ls 1 [(0, .ref a)] := hl
  refine lv_aload_n hx hb dd_AC_init_0 rfl (lv_at hl 0 rfl) ?_
  refine W.objInit hx hb hown (hts _ tw_122) (hts _ tw_74) (hts _ tw_75) rfl (by rw [hml]; exact hl.1) rfl dd_AC_init_1 (by omega) (by rw [hRl]; exact Nat.le_of_ble_eq_true rfl) ?_
  refine W.eq (g2 := F0 m 4 ls []) rfl ?_
  exact hm_Ev hx hb hr hS hP (rfl) hlocks (by omega) (by omega) dd_AC_init_4
set_option maxHeartbeats 4000000 in
set_option maxRecDepth 100000 in
theorem kc_AA_init (l : Launch) (B : Nat) (D : va_G) (G : Nat → Nat) (M : hm_M) (a : Nat) (ha : M a = some (.inr (9, [.null, .int (nI 0), .int (nI 0)]))) (hA_a : hm_A B a) : Met l yy_AA_init ws_AA_init ({ frames := 2, cells := 0, slots := 0, locals := 32 }) (hm_Pc B D G M [.ref a]) (hm_Nv B D (fun M1 => M1 = hm_up M a (.inr (9, [.null, .int (nI 0), .int (nI 0)])))) (0) (0) (hm_A B) := by
  refine Met.ofW (cc := cd_AA_init) (maxL := 1) (ret := none) (by decide) rfl ?_
  intro p e s m args below meth c s₁ B0 hml hv
  obtain ⟨rfl, hE, hP⟩ := hv
  have hx := B0.exec
  have hb := B0.bytes
  have hr := B0.returns
  have hts : ∀ w ∈ tb_G, w.before _ s = true := fun w h => atoms_spec (ws := ws_AA_init) B0.pre w (List.mem_cons_of_mem _ h)
  have hown : s.vm.findClass "java/util/AbstractList" = some m.cls := findClass_of_methodNamed B0.named
  have hlocks := B0.notSynchronized
  have hRf : (headSpec ws_AA_init { frames := 2, cells := 0, slots := 0, locals := 32 }).room.frames = 2 := rfl
  have hRl : (headSpec ws_AA_init { frames := 2, cells := 0, slots := 0, locals := 32 }).room.locals = 32 := rfl
  have hRc : (headSpec ws_AA_init { frames := 2, cells := 0, slots := 0, locals := 32 }).room.cells = 0 := rfl
  have hRs : (headSpec ws_AA_init { frames := 2, cells := 0, slots := 0, locals := 32 }).room.slots = 0 := rfl
  generalize (headSpec ws_AA_init { frames := 2, cells := 0, slots := 0, locals := 32 }).room = R at hRf hRl hRc hRs ⊢
  have hin : meth.name = "<init>" := (name_of_methodNamed B0.named B0.method).1
  have hS : va_S (hm_A B) s.heap s.heap [] := va_S.rf
  have hl := lv_entry ([.ref a]) (n := 1) (Nat.le_of_ble_eq_true rfl)
  rw [lg_entry_eq]
  generalize (lg_sl ([.ref a]) ++ List.replicate (1 - (lg_sl ([.ref a])).length) Slot.unset).toArray = ls at hl ⊢
  have hl : lv_has ls 1 [(0, .ref a)] := hl
  refine lv_aload_n hx hb dd_AA_init_0 rfl (lv_at hl 0 rfl) ?_
  refine hm_cv hS (hm_rI 0 (As := []) (rest := []) ⟨hx, hb, hml, hown, hts⟩ hE hS hP (kc_AC_init l B D G M a) tw_121 tw_119 tw_120 tw_41 rfl (by decide +kernel) rfl rfl ⟨by show 1 + 1 ≤ R.frames; omega, by show 8 + (1 + 11) + 12 ≤ R.locals; omega⟩ rfl hl.1 rfl (Nat.le_of_ble_eq_true rfl) dd_AA_init_1 ⟨by omega, by omega⟩) (fun M2 H locs hw3 hP hS => ?_)
  refine W.widen (k := 0) (n := 0) (by omega) (by omega) ?_
  rw [hw3] at hP
  refine lv_aload_n hx hb dd_AA_init_4 rfl (lv_at hl 0 rfl) ?_
  refine lv_iconst (v := nI 0) hx hb dd_AA_init_5 (by decide +kernel) ?_
  refine hm_put (ci := 9) (v := .int (nI 0)) (ty := .int) (C := rn_AL) (T := ft_AL) (N := 3) hx hb hts fi_AL fy_AL fo_AL fn_AL hown hE.K hP hS hA_a ha rfl 2 (by decide) (hts _ tw_127) (fun _ h9 => h9) rfl (by decide +kernel) rfl rfl (Nat.le_of_ble_eq_true rfl) dd_AA_init_6 (fun H locs hP hS => ?_)
  have hP : hm_P D cl_W (hm_up M a (.inr (9, [.null, .int (nI 0), .int (nI 0)]))) H := hP
  obtain ⟨M4, eM4⟩ : ∃ z, z = hm_up M a (.inr (9, [.null, .int (nI 0), .int (nI 0)])) := ⟨_, rfl⟩
  rw [← eM4] at hP
  have f5 : M4 a = some (.inr (9, [.null, .int (nI 0), .int (nI 0)])) := by rw [eM4]; exact hm_up_s
  exact hm_Ev hx hb hr hS hP (by rw [eM4]) hlocks (by omega) (by omega) dd_AA_init_9
set_option maxHeartbeats 4000000 in
set_option maxRecDepth 100000 in
theorem kc_AL_init (l : Launch) (B : Nat) (D : va_G) (G : Nat → Nat) (M : hm_M) (a : Nat) (ha : M a = some (.inr (9, [.null, .int (nI 0), .int (nI 0)]))) (hA_a : hm_A B a) (hg : M (G 0) = some (.inl (D.1 104, 0, .inr (.inr (.inr (.inr (fun _ => none))))))) (ci : Nat) : Met l yy_AL_init ws_AL_init ({ frames := 3, cells := 0, slots := 0, locals := 52 }) (hm_Pc B D G M [.ref a]) (hm_Nv B D (fun M1 => al_D B D G M1 ci a (G 0) [] ∧ hm_k M M1 [a])) (0) (0) (hm_A B) := by
  refine Met.ofW (cc := cd_AL_init) (maxL := 1) (ret := none) (by decide) rfl ?_
  intro p e s m args below meth c s₁ B0 hml hv
  obtain ⟨rfl, hE, hP⟩ := hv
  have hx := B0.exec
  have hb := B0.bytes
  have hr := B0.returns
  have hts : ∀ w ∈ tb_G, w.before _ s = true := fun w h => atoms_spec (ws := ws_AL_init) B0.pre w (List.mem_cons_of_mem _ h)
  have hown : s.vm.findClass "java/util/ArrayList" = some m.cls := findClass_of_methodNamed B0.named
  have hlocks := B0.notSynchronized
  have hRf : (headSpec ws_AL_init { frames := 3, cells := 0, slots := 0, locals := 52 }).room.frames = 3 := rfl
  have hRl : (headSpec ws_AL_init { frames := 3, cells := 0, slots := 0, locals := 52 }).room.locals = 52 := rfl
  have hRc : (headSpec ws_AL_init { frames := 3, cells := 0, slots := 0, locals := 52 }).room.cells = 0 := rfl
  have hRs : (headSpec ws_AL_init { frames := 3, cells := 0, slots := 0, locals := 52 }).room.slots = 0 := rfl
  generalize (headSpec ws_AL_init { frames := 3, cells := 0, slots := 0, locals := 52 }).room = R at hRf hRl hRc hRs ⊢
  have hin : meth.name = "<init>" := (name_of_methodNamed B0.named B0.method).1
  have hS : va_S (hm_A B) s.heap s.heap [] := va_S.rf
  have hl := lv_entry ([.ref a]) (n := 1) (Nat.le_of_ble_eq_true rfl)
  rw [lg_entry_eq]
  generalize (lg_sl ([.ref a]) ++ List.replicate (1 - (lg_sl ([.ref a])).length) Slot.unset).toArray = ls at hl ⊢
  have hl : lv_has ls 1 [(0, .ref a)] := hl
  refine lv_aload_n hx hb dd_AL_init_0 rfl (lv_at hl 0 rfl) ?_
  refine hm_cv hS (hm_rI 0 (As := []) (rest := []) ⟨hx, hb, hml, hown, hts⟩ hE hS hP (kc_AA_init l B D G M a ha hA_a) tw_118 tw_116 tw_117 tw_42 rfl (by decide +kernel) rfl rfl ⟨by show 2 + 1 ≤ R.frames; omega, by show 8 + (1 + 11) + 32 ≤ R.locals; omega⟩ rfl hl.1 rfl (Nat.le_of_ble_eq_true rfl) dd_AL_init_1 ⟨by omega, by omega⟩) (fun M2 H locs hw3 hP hS => ?_)
  refine W.widen (k := 0) (n := 0) (by omega) (by omega) ?_
  have eM2 := hw3
  have f4 : M2 (G 0) = some (.inl (D.1 104, 0, .inr (.inr (.inr (.inr (fun _ => none)))))) := by rw [eM2]; exact hm_up_o (hm_ne hg ha (by intro h9; cases h9)) hg
  have f5 : M2 a = some (.inr (9, [.null, .int (nI 0), .int (nI 0)])) := by rw [eM2]; exact hm_up_s
  refine lv_aload_n hx hb dd_AL_init_4 rfl (lv_at hl 0 rfl) ?_
  refine va_gets hx hb hE.2.2.2.2.2.1 hS hown (hts _ tw_123) (fun _ h9 => h9) dd_AL_init_5 ?_
  refine hm_put (ci := 9) (v := .ref (G 0)) (ty := .array (.object "java/lang/Object")) (C := rn_AL) (T := ft_AL) (N := 3) hx hb hts fi_AL fy_AL fo_AL fn_AL hown hE.K hP hS hA_a f5 rfl 0 (by decide) (hts _ tw_125) (fun _ h9 => h9) rfl (by decide +kernel) rfl rfl (Nat.le_of_ble_eq_true rfl) dd_AL_init_8 (fun H locs hP hS => ?_)
  have hP : hm_P D cl_W (hm_up M2 a (.inr (9, [.ref (G 0), .int (nI 0), .int (nI 0)]))) H := hP
  obtain ⟨M6, eM6⟩ : ∃ z, z = hm_up M2 a (.inr (9, [.ref (G 0), .int (nI 0), .int (nI 0)])) := ⟨_, rfl⟩
  rw [← eM6] at hP
  have f7 : M6 (G 0) = some (.inl (D.1 104, 0, .inr (.inr (.inr (.inr (fun _ => none)))))) := by rw [eM6]; exact hm_up_o (hm_ne f4 f5 (by intro h9; cases h9)) f4
  have f8 : M6 a = some (.inr (9, [.ref (G 0), .int (nI 0), .int (nI 0)])) := by rw [eM6]; exact hm_up_s
  have kk9 : hm_k M M [a] := hm_krf
  have kk10 : hm_k M M2 [a] := hm_ku kk9 (Or.inr (by simp)) eM2
  have kk11 : hm_k M M6 [a] := hm_ku kk10 (Or.inr (by simp)) eM6
  exact hm_Ev hx hb hr hS hP (⟨⟨0, fun _ => none, nI 0, f8, f7, fun j => rfl, Nat.le_refl _, by decide, fun x hx => absurd hx List.not_mem_nil, Or.inl ⟨rfl, rfl⟩⟩, kk11⟩) hlocks (by omega) (by omega) dd_AL_init_11
set_option maxHeartbeats 4000000 in
set_option maxRecDepth 100000 in
theorem kc_AR_copyOf2 (l : Launch) (B : Nat) (D : va_G) (G : Nat → Nat) (M : hm_M) (ci : Nat) (hci : ci = 1 ∨ ci = 3) (v n : Nat) (f : Nat → Option Nat) (hv : M v = some (.inl (D.1 104, n, .inr (.inr (.inr (.inr f)))))) (hel : ∀ i, i < n → ∀ y : Nat, f i = some y → ∃ fs, M y = some (.inr (ci, fs))) (hout : ∀ j, n ≤ j → f j = none) (mm : Nat) (hnm : n ≤ mm) (hmm : mm ≤ 200) : Met l yy_AR_copyOf2 ws_AR_copyOf2 ({ frames := 1, cells := 1, slots := 200, locals := 40 }) (hm_Pc B D G M [.ref v, .int (nI mm), .ref (G 20)]) (hm_Nr B D (fun q M1 => ∃ g, M q = none ∧ B ≤ q ∧ M1 = hm_up M q (.inl (D.1 104, mm, .inr (.inr (.inr (.inr g))))) ∧ ∀ j, g j = f j)) (1) (200) (hm_A B) := by
  refine Met.ofW (cc := cd_AR_copyOf2) (maxL := 4) (ret := ((some (FieldType.array (FieldType.object "java/lang/Object"))))) (by decide) rfl ?_
  intro p e s m args below meth c s₁ B0 hml hv
  obtain ⟨rfl, hE, hP⟩ := hv
  have hx := B0.exec
  have hb := B0.bytes
  have hr := B0.returns
  have hts : ∀ w ∈ tb_G, w.before _ s = true := fun w h => atoms_spec (ws := ws_AR_copyOf2) B0.pre w (List.mem_cons_of_mem _ h)
  have hown : s.vm.findClass "java/util/Arrays" = some m.cls := findClass_of_methodNamed B0.named
  have hlocks := B0.notSynchronized
  have hRf : (headSpec ws_AR_copyOf2 { frames := 1, cells := 1, slots := 200, locals := 40 }).room.frames = 1 := rfl
  have hRl : (headSpec ws_AR_copyOf2 { frames := 1, cells := 1, slots := 200, locals := 40 }).room.locals = 40 := rfl
  have hRc : (headSpec ws_AR_copyOf2 { frames := 1, cells := 1, slots := 200, locals := 40 }).room.cells = 1 := rfl
  have hRs : (headSpec ws_AR_copyOf2 { frames := 1, cells := 1, slots := 200, locals := 40 }).room.slots = 200 := rfl
  generalize (headSpec ws_AR_copyOf2 { frames := 1, cells := 1, slots := 200, locals := 40 }).room = R at hRf hRl hRc hRs ⊢
  have hS : va_S (hm_A B) s.heap s.heap [] := va_S.rf
  have hl := lv_entry ([.ref v, .int (nI mm), .ref (G 20)]) (n := 4) (Nat.le_of_ble_eq_true rfl)
  rw [lg_entry_eq]
  generalize (lg_sl ([.ref v, .int (nI mm), .ref (G 20)]) ++ List.replicate (4 - (lg_sl ([.ref v, .int (nI mm), .ref (G 20)])).length) Slot.unset).toArray = ls at hl ⊢
  have hl : lv_has ls 4 [(0, .ref v), (1, .int (nI mm)), (2, .ref (G 20))] := hl
  obtain ⟨r9, hr9, hca⟩ := al_cast hE hci
  refine lv_aload_n hx hb dd_AR_copyOf2_0 rfl (lv_at hl 2 rfl) ?_
  refine va_ldcM hx hb hown (hts _ tw_740) hE.2.2.2.2.2.2.2.2.1.1 dd_AR_copyOf2_1 ?_
  refine lv_acmp_ne (rx := some (G 20)) (ry := some (G 20)) (tgt := 13) hx hb dd_AR_copyOf2_3 (by decide) (fun c1 => absurd c1 (by exact fun h9 => h9 rfl)) (fun c1 => ?_)
  refine lv_iload_n hx hb dd_AR_copyOf2_6 rfl (lv_at hl 1 rfl) ?_
  refine hm_newq (N' := mm) hx hb hown (hts _ tw_742) hE.2.2.2.1.1 hE.K hP hS 4 rfl (nI_pos (by omega)) (nI_clamp (by omega)) (by omega) (by omega) (by omega) dd_AR_copyOf2_7 (fun q2 H hB_q2 hn_q2 hP hS => ?_)
  have hA_q2 : hm_A B q2 := Nat.le_trans hE.2.1 hB_q2
  obtain ⟨M3, eM3⟩ : ∃ z, z = hm_up M q2 (.inl (D.1 104, mm, .inr (.inr (.inr (.inr (fun _ => none)))))) := ⟨_, rfl⟩
  rw [← eM3] at hP
  have ne4 : v ≠ q2 := hm_neN hv hn_q2
  have f5 : M3 v = some (.inl (D.1 104, n, .inr (.inr (.inr (.inr f))))) := by rw [eM3]; exact hm_up_o ne4 hv
  have f6 : M3 q2 = some (.inl (D.1 104, mm, .inr (.inr (.inr (.inr (fun _ => none)))))) := by rw [eM3]; exact hm_up_s
  refine W.widen (k := 1) (n := mm) (by omega) (by omega) ?_
  refine lv_goto (tgt := 24) hx hb dd_AR_copyOf2_10 (by decide) ?_
  refine lv_astore_n (lv' := [(3, .ref q2), (0, .ref v), (1, .int (nI mm)), (2, .ref (G 20))]) hx hb dd_AR_copyOf2_24 rfl hl (by decide) rfl (fun ls hl => ?_)
  refine lv_aload_n hx hb dd_AR_copyOf2_25 rfl (lv_at hl 1 rfl) ?_
  refine lv_iconst (v := nI 0) hx hb dd_AR_copyOf2_26 (by decide +kernel) ?_
  refine lv_aload_n hx hb dd_AR_copyOf2_27 rfl (lv_at hl 0 rfl) ?_
  refine lv_iconst (v := nI 0) hx hb dd_AR_copyOf2_28 (by decide +kernel) ?_
  refine lv_aload_n hx hb dd_AR_copyOf2_29 rfl (lv_at hl 1 rfl) ?_
  refine hm_alen (v := nI n) hx hb hE.K hP 4 f5 rfl rfl dd_AR_copyOf2_30 ?_
  refine lv_iload_n hx hb dd_AR_copyOf2_31 rfl (lv_at hl 2 rfl) ?_
  refine va_mmin hx hb (by rw [hml]; exact hl.1.symm) hown (hts _ tw_253) (hts _ tw_254) (hts _ tw_48) (hts _ tw_255) (by show _ ≤ _; rw [hRf]; exact Nat.le_of_ble_eq_true rfl) (by show _ ≤ _; rw [hRl]; exact Nat.le_of_ble_eq_true rfl) (by omega) (by omega) dd_AR_copyOf2_32 ?_
  rw [hi_min (a := n) (b := mm) (by omega) (by omega)]
  refine hm_copyq (sp := 0) (dp := 0) (n := min n mm) hx hb (by rw [hml]; exact hl.1.symm) hown (hts _ tw_256) (hts _ tw_258) (hts _ tw_257) (hts _ tw_50) hE.K hP hS hA_q2 4 ci f5 f6 rfl hr9 hca (by omega) (by omega) (by omega) (by omega) (fun i h9 y h8 => by
      rw [Nat.zero_add] at h8
      obtain ⟨fs, h7⟩ := hel i (by omega) y h8
      exact ⟨fs, by rw [eM3]; exact hm_up_o (hm_neN h7 hn_q2) h7⟩) (by show _ ≤ _; rw [hRf]; exact Nat.le_of_ble_eq_true rfl) (by show _ ≤ _; rw [hRl]; exact Nat.le_of_ble_eq_true rfl) dd_AR_copyOf2_35 (fun H locs hP hS => ?_)
  obtain ⟨M7, eM7⟩ : ∃ z, z = hm_up M3 q2 (.inl (D.1 104, mm, .inr (.inr (.inr (.inr (va_cpy f (fun _ => none) 0 0 (min n mm))))))) := ⟨_, rfl⟩
  rw [← eM7] at hP
  have f8 : M7 v = some (.inl (D.1 104, n, .inr (.inr (.inr (.inr f))))) := by rw [eM7]; exact hm_up_o ne4 f5
  have f9 : M7 q2 = some (.inl (D.1 104, mm, .inr (.inr (.inr (.inr (va_cpy f (fun _ => none) 0 0 (min n mm))))))) := by rw [eM7]; exact hm_up_s
  refine lv_aload_n hx hb dd_AR_copyOf2_38 rfl (lv_at hl 0 rfl) ?_
  exact hm_Er (v := q2) hx hb hr (Or.inr ⟨_, rfl⟩) hS hP (⟨_, hn_q2, hA_q2, by rw [eM7, eM3]; exact hm_uu, fun j => by
      unfold va_cpy
      by_cases h9 : j < n
      · rw [if_pos ⟨Nat.zero_le _, by omega⟩]; congr 1; omega
      · rw [if_neg (by omega), hout j (by omega)]⟩) hlocks (by omega) (by omega) dd_AR_copyOf2_39
set_option maxHeartbeats 4000000 in
set_option maxRecDepth 100000 in
theorem kc_AR_copyOf1 (l : Launch) (B : Nat) (D : va_G) (G : Nat → Nat) (M : hm_M) (ci : Nat) (hci : ci = 1 ∨ ci = 3) (v n : Nat) (f : Nat → Option Nat) (hv : M v = some (.inl (D.1 104, n, .inr (.inr (.inr (.inr f)))))) (hel : ∀ i, i < n → ∀ y : Nat, f i = some y → ∃ fs, M y = some (.inr (ci, fs))) (hout : ∀ j, n ≤ j → f j = none) (mm : Nat) (hnm : n ≤ mm) (hmm : mm ≤ 200) : Met l yy_AR_copyOf1 ws_AR_copyOf1 ({ frames := 2, cells := 1, slots := 200, locals := 63 }) (hm_Pc B D G M [.ref v, .int (nI mm)]) (hm_Nr B D (fun q M1 => ∃ g, M q = none ∧ B ≤ q ∧ M1 = hm_up M q (.inl (D.1 104, mm, .inr (.inr (.inr (.inr g))))) ∧ ∀ j, g j = f j)) (1) (200) (hm_A B) := by
  refine Met.ofW (cc := cd_AR_copyOf1) (maxL := 2) (ret := ((some (FieldType.array (FieldType.object "java/lang/Object"))))) (by decide) rfl ?_
  intro p e s m args below meth c s₁ B0 hml hv
  obtain ⟨rfl, hE, hP⟩ := hv
  have hx := B0.exec
  have hb := B0.bytes
  have hr := B0.returns
  have hts : ∀ w ∈ tb_G, w.before _ s = true := fun w h => atoms_spec (ws := ws_AR_copyOf1) B0.pre w (List.mem_cons_of_mem _ h)
  have hown : s.vm.findClass "java/util/Arrays" = some m.cls := findClass_of_methodNamed B0.named
  have hlocks := B0.notSynchronized
  have hRf : (headSpec ws_AR_copyOf1 { frames := 2, cells := 1, slots := 200, locals := 63 }).room.frames = 2 := rfl
  have hRl : (headSpec ws_AR_copyOf1 { frames := 2, cells := 1, slots := 200, locals := 63 }).room.locals = 63 := rfl
  have hRc : (headSpec ws_AR_copyOf1 { frames := 2, cells := 1, slots := 200, locals := 63 }).room.cells = 1 := rfl
  have hRs : (headSpec ws_AR_copyOf1 { frames := 2, cells := 1, slots := 200, locals := 63 }).room.slots = 200 := rfl
  generalize (headSpec ws_AR_copyOf1 { frames := 2, cells := 1, slots := 200, locals := 63 }).room = R at hRf hRl hRc hRs ⊢
  have hS : va_S (hm_A B) s.heap s.heap [] := va_S.rf
  have hl := lv_entry ([.ref v, .int (nI mm)]) (n := 2) (Nat.le_of_ble_eq_true rfl)
  rw [lg_entry_eq]
  generalize (lg_sl ([.ref v, .int (nI mm)]) ++ List.replicate (2 - (lg_sl ([.ref v, .int (nI mm)])).length) Slot.unset).toArray = ls at hl ⊢
  have hl : lv_has ls 2 [(0, .ref v), (1, .int (nI mm))] := hl
  refine lv_aload_n hx hb dd_AR_copyOf1_0 rfl (lv_at hl 0 rfl) ?_
  refine lv_iload_n hx hb dd_AR_copyOf1_1 rfl (lv_at hl 1 rfl) ?_
  refine lv_aload_n hx hb dd_AR_copyOf1_2 rfl (lv_at hl 0 rfl) ?_
  refine va_getC hx hb (by rw [hml]; exact hl.1.symm) hown (hts _ tw_720) hE.2.2.2.2.2.2.2.2.1.2 (hts _ tw_1211) (hts _ tw_721) (hts _ tw_736) hE.2.2.2.2.2.2.2.2.1.1 (hm_gc hE hP hv) (by show _ ≤ _; rw [hRf]; exact Nat.le_of_ble_eq_true rfl) (by show _ ≤ _; rw [hRl]; exact Nat.le_of_ble_eq_true rfl) dd_AR_copyOf1_3 ?_
  refine hm_cr hS (hm_rS 3 (As := [.ref v, .int (nI mm), .ref (G 20)]) (rest := []) ⟨hx, hb, hml, hown, hts⟩ hE hS hP (kc_AR_copyOf2 l B D G M ci hci v n f hv hel hout mm hnm hmm) tw_739 tw_737 tw_738 tw_49 (by decide +kernel) rfl rfl ⟨by show 1 + 1 ≤ R.frames; omega, by show 8 + (4 + 11) + 40 ≤ R.locals; omega⟩ rfl hl.1 rfl (Nat.le_of_ble_eq_true rfl) dd_AR_copyOf1_6 ⟨by omega, by omega⟩) (fun r1 M2 H locs hw3 hP hS => ?_)
  refine W.widen (k := 1) (n := 200) (by omega) (by omega) ?_
  have k9 := hw3
  exact hm_Er (v := r1) hx hb hr (Or.inr ⟨_, rfl⟩) hS hP (k9) hlocks (by omega) (by omega) dd_AR_copyOf1_9
set_option maxHeartbeats 4000000 in
set_option maxRecDepth 100000 in
theorem kc_AL_grow1 (l : Launch) (B : Nat) (D : va_G) (G : Nat → Nat) (M : hm_M) (ci : Nat) (hci : ci = 1 ∨ ci = 3) (a d : Nat) (xs : List Nat) (n : Nat) (f : Nat → Option Nat) (mo : Int32) (h1 : M a = some (.inr (9, [.ref d, .int (nI xs.length), .int mo]))) (h2 : M d = some (.inl (D.1 104, n, .inr (.inr (.inr (.inr f)))))) (h3 : ∀ j, f j = xs[j]?) (h4 : xs.length ≤ n) (h5 : n ≤ 1000) (h6 : ∀ x ∈ xs, ∃ fs, M x = some (.inr (ci, fs))) (h7 : (n = 0 ∧ d = G 0) ∨ (0 < n ∧ B ≤ d ∧ d ≠ G 0)) (hA_a : hm_A B a) (hfu : xs.length = n) (hle : xs.length ≤ 120) : Met l yy_AL_grow1 ws_AL_grow1 ({ frames := 3, cells := 1, slots := 200, locals := 84 }) (hm_Pc B D G M [.ref a, .int (nI (xs.length + 1))]) (hm_Nr B D (fun r M1 => ∃ m1 g, M r = none ∧ B ≤ r ∧ n < m1 ∧ m1 ≤ 1000 ∧ (∀ j, g j = xs[j]?) ∧ M1 = hm_up (hm_up M r (.inl (D.1 104, m1, .inr (.inr (.inr (.inr g)))))) a (.inr (9, [.ref r, .int (nI xs.length), .int mo])))) (1) (200) (hm_A B) := by
  refine Met.ofW (cc := cd_AL_grow1) (maxL := 4) (ret := ((some (FieldType.array (FieldType.object "java/lang/Object"))))) (by decide) rfl ?_
  intro p e s m args below meth c s₁ B0 hml hv
  obtain ⟨rfl, hE, hP⟩ := hv
  have hx := B0.exec
  have hb := B0.bytes
  have hr := B0.returns
  have hts : ∀ w ∈ tb_G, w.before _ s = true := fun w h => atoms_spec (ws := ws_AL_grow1) B0.pre w (List.mem_cons_of_mem _ h)
  have hown : s.vm.findClass "java/util/ArrayList" = some m.cls := findClass_of_methodNamed B0.named
  have hlocks := B0.notSynchronized
  have hRf : (headSpec ws_AL_grow1 { frames := 3, cells := 1, slots := 200, locals := 84 }).room.frames = 3 := rfl
  have hRl : (headSpec ws_AL_grow1 { frames := 3, cells := 1, slots := 200, locals := 84 }).room.locals = 84 := rfl
  have hRc : (headSpec ws_AL_grow1 { frames := 3, cells := 1, slots := 200, locals := 84 }).room.cells = 1 := rfl
  have hRs : (headSpec ws_AL_grow1 { frames := 3, cells := 1, slots := 200, locals := 84 }).room.slots = 200 := rfl
  generalize (headSpec ws_AL_grow1 { frames := 3, cells := 1, slots := 200, locals := 84 }).room = R at hRf hRl hRc hRs ⊢
  have hS : va_S (hm_A B) s.heap s.heap [] := va_S.rf
  have hl := lv_entry ([.ref a, .int (nI (xs.length + 1))]) (n := 4) (Nat.le_of_ble_eq_true rfl)
  rw [lg_entry_eq]
  generalize (lg_sl ([.ref a, .int (nI (xs.length + 1))]) ++ List.replicate (4 - (lg_sl ([.ref a, .int (nI (xs.length + 1))])).length) Slot.unset).toArray = ls at hl ⊢
  have hl : lv_has ls 4 [(0, .ref a), (1, .int (nI (xs.length + 1)))] := hl
  refine lv_aload_n hx hb dd_AL_grow1_0 rfl (lv_at hl 0 rfl) ?_
  refine hm_get (ci := 9) (C := rn_AL) (T := ft_AL) (N := 3) hx hb hts fi_AL hown hE.K hP h1 rfl 0 (by decide) (hts _ tw_125) (fun _ h9 => h9) rfl dd_AL_grow1_1 ?_
  refine hm_alen (v := nI n) hx hb hE.K hP 4 h2 rfl rfl dd_AL_grow1_4 ?_
  refine lv_istore_n (lv' := [(2, .int (nI n)), (0, .ref a), (1, .int (nI (xs.length + 1)))]) hx hb dd_AL_grow1_5 rfl hl (by decide) rfl (fun ls hl => ?_)
  refine lv_iload_n hx hb dd_AL_grow1_6 rfl (lv_at hl 0 rfl) ?_
  refine hn_if_gt (tgt := 20) hx hb (by omega) dd_AL_grow1_7 (by decide) (fun c1 => ?_) (fun c1 => ?_)
  · have c1 := c1
    refine lv_iload_n hx hb dd_AL_grow1_20 rfl (lv_at hl 0 rfl) ?_
    refine lv_iload_n hx hb dd_AL_grow1_21 rfl (lv_at hl 2 rfl) ?_
    refine lv_iload_n hx hb dd_AL_grow1_22 rfl (lv_at hl 0 rfl) ?_
    refine hn_isub hx hb (by omega) dd_AL_grow1_23 ?_
    refine lv_iload_n hx hb dd_AL_grow1_24 rfl (lv_at hl 0 rfl) ?_
    refine lv_iconst (v := nI 1) hx hb dd_AL_grow1_25 (by decide +kernel) ?_
    refine lv_ishr hx hb dd_AL_grow1_26 ?_
    refine lv_topi (fun x2 ex2 => ?_)
    obtain rfl : x2 = nI (n / 2) := by rw [ex2]; exact hi_shr1 _ (by omega)
    refine hm_ci hS (hm_rS 3 (As := [.int (nI n), .int (nI ((xs.length + 1) - n)), .int (nI (n / 2))]) (rest := []) ⟨hx, hb, hml, hown, hts⟩ hE hS hP (kc_AS_newLength l B D G M n (xs.length + 1 - n) (n / 2) (by omega) (by omega) (by omega) (by omega)) tw_234 tw_716 tw_233 tw_47 (by decide +kernel) rfl rfl ⟨by show 1 + 1 ≤ R.frames; omega, by show 8 + (4 + 11) + 24 ≤ R.locals; omega⟩ rfl hl.1 rfl (Nat.le_of_ble_eq_true rfl) dd_AL_grow1_27 ⟨by omega, by omega⟩) (fun r3 M4 H locs hw5 hP hS => ?_)
    refine W.widen (k := 0) (n := 0) (by omega) (by omega) ?_
    obtain ⟨rfl, eM4⟩ := hw5
    rw [eM4] at hP
    refine lv_istore_n (lv' := [(3, .int (nI (n + max (xs.length + 1 - n) (n / 2)))), (2, .int (nI n)), (0, .ref a), (1, .int (nI (xs.length + 1)))]) hx hb dd_AL_grow1_30 rfl hl (by decide) rfl (fun ls hl => ?_)
    refine lv_aload_n hx hb dd_AL_grow1_31 rfl (lv_at hl 2 rfl) ?_
    refine lv_aload_n hx hb dd_AL_grow1_32 rfl (lv_at hl 2 rfl) ?_
    refine hm_get (ci := 9) (C := rn_AL) (T := ft_AL) (N := 3) hx hb hts fi_AL hown hE.K hP h1 rfl 0 (by decide) (hts _ tw_125) (fun _ h9 => h9) rfl dd_AL_grow1_33 ?_
    refine lv_iload_n hx hb dd_AL_grow1_36 rfl (lv_at hl 0 rfl) ?_
    refine hm_cr hS (hm_rS 2 (As := [.ref d, .int (nI (n + max (xs.length + 1 - n) (n / 2)))]) (rest := [.ref a]) ⟨hx, hb, hml, hown, hts⟩ hE hS hP (kc_AR_copyOf1 l B D G M ci hci d n f h2 (fun i _ y h8 => h6 y (al_mem (by rw [← h3 i]; exact h8))) (al_out h3 h4) (n + max (xs.length + 1 - n) (n / 2)) (by omega) (by omega)) tw_719 tw_717 tw_718 tw_49 (by decide +kernel) rfl rfl ⟨by show 2 + 1 ≤ R.frames; omega, by show 8 + (2 + 11) + 63 ≤ R.locals; omega⟩ rfl hl.1 rfl (Nat.le_of_ble_eq_true rfl) dd_AL_grow1_37 ⟨by omega, by omega⟩) (fun r6 M7 H locs hw8 hP hS => ?_)
    refine W.widen (k := 1) (n := 200) (by omega) (by omega) ?_
    obtain ⟨g, k1, k2, eM7, k4⟩ := hw8
    have hA_r6 : hm_A B r6 := k2
    have hn_r6 := k1
    have ne9 : a ≠ r6 := hm_neN h1 k1
    have f10 : M7 a = some (.inr (9, [.ref d, .int (nI xs.length), .int mo])) := by rw [eM7]; exact hm_up_o ne9 h1
    have ne11 : d ≠ r6 := hm_neN h2 k1
    have f12 : M7 d = some (.inl (D.1 104, n, .inr (.inr (.inr (.inr f))))) := by rw [eM7]; exact hm_up_o ne11 h2
    have f13 : M7 r6 = some (.inl (D.1 104, n + max (xs.length + 1 - n) (n / 2), .inr (.inr (.inr (.inr g))))) := by rw [eM7]; exact hm_up_s
    refine lv_dup_x1 hx hb dd_AL_grow1_40 rfl rfl ?_
    refine hm_put (ci := 9) (v := .ref r6) (ty := .array (.object "java/lang/Object")) (C := rn_AL) (T := ft_AL) (N := 3) hx hb hts fi_AL fy_AL fo_AL fn_AL hown hE.K hP hS hA_a f10 rfl 0 (by decide) (hts _ tw_125) (fun _ h9 => h9) rfl (by decide +kernel) rfl rfl (Nat.le_of_ble_eq_true rfl) dd_AL_grow1_41 (fun H locs hP hS => ?_)
    have hP : hm_P D cl_W (hm_up M7 a (.inr (9, [.ref r6, .int (nI xs.length), .int mo]))) H := hP
    obtain ⟨M14, eM14⟩ : ∃ z, z = hm_up M7 a (.inr (9, [.ref r6, .int (nI xs.length), .int mo])) := ⟨_, rfl⟩
    rw [← eM14] at hP
    have f15 : M14 d = some (.inl (D.1 104, n, .inr (.inr (.inr (.inr f))))) := by rw [eM14]; exact hm_up_o (hm_ne f12 f10 (by intro h9; cases h9)) f12
    have f16 : M14 r6 = some (.inl (D.1 104, n + max (xs.length + 1 - n) (n / 2), .inr (.inr (.inr (.inr g))))) := by rw [eM14]; exact hm_up_o (Ne.symm ne9) f13
    have f17 : M14 a = some (.inr (9, [.ref r6, .int (nI xs.length), .int mo])) := by rw [eM14]; exact hm_up_s
    exact hm_Er (v := r6) hx hb hr (Or.inr ⟨_, rfl⟩) hS hP (⟨n + max (xs.length + 1 - n) (n / 2), g, hn_r6, hA_r6, by omega, by omega, fun j => (k4 j).trans (h3 j), by rw [eM14, eM7]⟩) hlocks (by omega) (by omega) dd_AL_grow1_44
  · have c1 : n = 0 := by omega
    refine lv_aload_n hx hb dd_AL_grow1_10 rfl (lv_at hl 1 rfl) ?_
    refine hm_get (ci := 9) (C := rn_AL) (T := ft_AL) (N := 3) hx hb hts fi_AL hown hE.K hP h1 rfl 0 (by decide) (hts _ tw_125) (fun _ h9 => h9) rfl dd_AL_grow1_11 ?_
    refine va_gets hx hb hE.2.2.2.2.2.1 hS hown (hts _ tw_123) (fun _ h9 => h9) dd_AL_grow1_14 ?_
    refine lv_acmp_eq (rx := some d) (ry := some (G 0)) (tgt := 45) hx hb dd_AL_grow1_17 (by decide) (fun c18 => ?_) (fun c18 => absurd c18 (by exact fun h8 => h8 (by rcases h7 with h9 | h9 <;> first | exact congrArg some h9.2 | omega)))
    refine lv_aload_n hx hb dd_AL_grow1_45 rfl (lv_at hl 1 rfl) ?_
    refine lv_bipush (v := nI 10) hx hb dd_AL_grow1_46 (by decide +kernel) ?_
    refine lv_iload_n hx hb dd_AL_grow1_48 rfl (lv_at hl 2 rfl) ?_
    refine va_mmax hx hb (by rw [hml]; exact hl.1.symm) hown (hts _ tw_743) (hts _ tw_236) (hts _ tw_48) (hts _ tw_237) (by show _ ≤ _; rw [hRf]; exact Nat.le_of_ble_eq_true rfl) (by show _ ≤ _; rw [hRl]; exact Nat.le_of_ble_eq_true rfl) (by omega) (by omega) dd_AL_grow1_49 ?_
    rw [hi_max (a := 10) (b := (xs.length + 1)) (by omega) (by omega)]
    refine hm_newq (N' := max 10 (xs.length + 1)) hx hb hown (hts _ tw_744) hE.2.2.2.1.1 hE.K hP hS 4 rfl (nI_pos (by omega)) (nI_clamp (by omega)) (by omega) (by omega) (by omega) dd_AL_grow1_52 (fun q19 H hB_q19 hn_q19 hP hS => ?_)
    have hA_q19 : hm_A B q19 := Nat.le_trans hE.2.1 hB_q19
    obtain ⟨M20, eM20⟩ : ∃ z, z = hm_up M q19 (.inl (D.1 104, max 10 (xs.length + 1), .inr (.inr (.inr (.inr (fun _ => none)))))) := ⟨_, rfl⟩
    rw [← eM20] at hP
    have ne21 : a ≠ q19 := hm_neN h1 hn_q19
    have f22 : M20 a = some (.inr (9, [.ref d, .int (nI xs.length), .int mo])) := by rw [eM20]; exact hm_up_o ne21 h1
    have ne23 : d ≠ q19 := hm_neN h2 hn_q19
    have f24 : M20 d = some (.inl (D.1 104, n, .inr (.inr (.inr (.inr f))))) := by rw [eM20]; exact hm_up_o ne23 h2
    have f25 : M20 q19 = some (.inl (D.1 104, max 10 (xs.length + 1), .inr (.inr (.inr (.inr (fun _ => none)))))) := by rw [eM20]; exact hm_up_s
    refine W.widen (k := 1) (n := max 10 (xs.length + 1)) (by omega) (by omega) ?_
    refine lv_dup_x1 hx hb dd_AL_grow1_55 rfl rfl ?_
    refine hm_put (ci := 9) (v := .ref q19) (ty := .array (.object "java/lang/Object")) (C := rn_AL) (T := ft_AL) (N := 3) hx hb hts fi_AL fy_AL fo_AL fn_AL hown hE.K hP hS hA_a f22 rfl 0 (by decide) (hts _ tw_125) (fun _ h9 => h9) rfl (by decide +kernel) rfl rfl (Nat.le_of_ble_eq_true rfl) dd_AL_grow1_56 (fun H locs hP hS => ?_)
    have hP : hm_P D cl_W (hm_up M20 a (.inr (9, [.ref q19, .int (nI xs.length), .int mo]))) H := hP
    obtain ⟨M26, eM26⟩ : ∃ z, z = hm_up M20 a (.inr (9, [.ref q19, .int (nI xs.length), .int mo])) := ⟨_, rfl⟩
    rw [← eM26] at hP
    have f27 : M26 d = some (.inl (D.1 104, n, .inr (.inr (.inr (.inr f))))) := by rw [eM26]; exact hm_up_o (hm_ne f24 f22 (by intro h9; cases h9)) f24
    have f28 : M26 q19 = some (.inl (D.1 104, max 10 (xs.length + 1), .inr (.inr (.inr (.inr (fun _ => none)))))) := by rw [eM26]; exact hm_up_o (Ne.symm ne21) f25
    have f29 : M26 a = some (.inr (9, [.ref q19, .int (nI xs.length), .int mo])) := by rw [eM26]; exact hm_up_s
    exact hm_Er (v := q19) hx hb hr (Or.inr ⟨_, rfl⟩) hS hP (⟨max 10 (xs.length + 1), fun _ => none, hn_q19, hA_q19, by omega, by omega, fun j => by rw [List.getElem?_eq_none (by omega)], by rw [eM26, eM20]⟩) hlocks (by omega) (by omega) dd_AL_grow1_59
set_option maxHeartbeats 4000000 in
set_option maxRecDepth 100000 in
theorem kc_AL_grow0 (l : Launch) (B : Nat) (D : va_G) (G : Nat → Nat) (M : hm_M) (ci : Nat) (hci : ci = 1 ∨ ci = 3) (a d : Nat) (xs : List Nat) (n : Nat) (f : Nat → Option Nat) (mo : Int32) (h1 : M a = some (.inr (9, [.ref d, .int (nI xs.length), .int mo]))) (h2 : M d = some (.inl (D.1 104, n, .inr (.inr (.inr (.inr f)))))) (h3 : ∀ j, f j = xs[j]?) (h4 : xs.length ≤ n) (h5 : n ≤ 1000) (h6 : ∀ x ∈ xs, ∃ fs, M x = some (.inr (ci, fs))) (h7 : (n = 0 ∧ d = G 0) ∨ (0 < n ∧ B ≤ d ∧ d ≠ G 0)) (hA_a : hm_A B a) (hfu : xs.length = n) (hle : xs.length ≤ 120) : Met l yy_AL_grow0 ws_AL_grow0 ({ frames := 4, cells := 1, slots := 200, locals := 107 }) (hm_Pc B D G M [.ref a]) (hm_Nr B D (fun r M1 => ∃ m1 g, M r = none ∧ B ≤ r ∧ n < m1 ∧ m1 ≤ 1000 ∧ (∀ j, g j = xs[j]?) ∧ M1 = hm_up (hm_up M r (.inl (D.1 104, m1, .inr (.inr (.inr (.inr g)))))) a (.inr (9, [.ref r, .int (nI xs.length), .int mo])))) (1) (200) (hm_A B) := by
  refine Met.ofW (cc := cd_AL_grow0) (maxL := 1) (ret := ((some (FieldType.array (FieldType.object "java/lang/Object"))))) (by decide) rfl ?_
  intro p e s m args below meth c s₁ B0 hml hv
  obtain ⟨rfl, hE, hP⟩ := hv
  have hx := B0.exec
  have hb := B0.bytes
  have hr := B0.returns
  have hts : ∀ w ∈ tb_G, w.before _ s = true := fun w h => atoms_spec (ws := ws_AL_grow0) B0.pre w (List.mem_cons_of_mem _ h)
  have hown : s.vm.findClass "java/util/ArrayList" = some m.cls := findClass_of_methodNamed B0.named
  have hlocks := B0.notSynchronized
  have hRf : (headSpec ws_AL_grow0 { frames := 4, cells := 1, slots := 200, locals := 107 }).room.frames = 4 := rfl
  have hRl : (headSpec ws_AL_grow0 { frames := 4, cells := 1, slots := 200, locals := 107 }).room.locals = 107 := rfl
  have hRc : (headSpec ws_AL_grow0 { frames := 4, cells := 1, slots := 200, locals := 107 }).room.cells = 1 := rfl
  have hRs : (headSpec ws_AL_grow0 { frames := 4, cells := 1, slots := 200, locals := 107 }).room.slots = 200 := rfl
  generalize (headSpec ws_AL_grow0 { frames := 4, cells := 1, slots := 200, locals := 107 }).room = R at hRf hRl hRc hRs ⊢
  have hS : va_S (hm_A B) s.heap s.heap [] := va_S.rf
  have hl := lv_entry ([.ref a]) (n := 1) (Nat.le_of_ble_eq_true rfl)
  rw [lg_entry_eq]
  generalize (lg_sl ([.ref a]) ++ List.replicate (1 - (lg_sl ([.ref a])).length) Slot.unset).toArray = ls at hl ⊢
  have hl : lv_has ls 1 [(0, .ref a)] := hl
  refine lv_aload_n hx hb dd_AL_grow0_0 rfl (lv_at hl 0 rfl) ?_
  refine lv_aload_n hx hb dd_AL_grow0_1 rfl (lv_at hl 0 rfl) ?_
  refine hm_get (ci := 9) (C := rn_AL) (T := ft_AL) (N := 3) hx hb hts fi_AL hown hE.K hP h1 rfl 1 (by decide) (hts _ tw_126) (fun _ h9 => h9) rfl dd_AL_grow0_2 ?_
  refine lv_iconst (v := nI 1) hx hb dd_AL_grow0_5 (by decide +kernel) ?_
  refine hn_iadd hx hb dd_AL_grow0_6 ?_
  refine hm_cr hS (hm_rV 1 (As := [.int (nI (xs.length + 1))]) (rest := []) ⟨hx, hb, hml, hown, hts⟩ hE hS hP (kc_AL_grow1 l B D G M ci hci a d xs n f mo h1 h2 h3 h4 h5 h6 h7 hA_a hfu hle) rfl h1 tw_715 tw_712 tw_714 tw_9 tw_43 (by decide +kernel) rfl rfl ⟨by show 3 + 1 ≤ R.frames; omega, by show 8 + (4 + 11) + 84 ≤ R.locals; omega⟩ rfl hl.1 rfl (Nat.le_of_ble_eq_true rfl) dd_AL_grow0_7 ⟨by omega, by omega⟩) (fun r1 M2 H locs hw3 hP hS => ?_)
  refine W.widen (k := 1) (n := 200) (by omega) (by omega) ?_
  have k9 := hw3
  exact hm_Er (v := r1) hx hb hr (Or.inr ⟨_, rfl⟩) hS hP (k9) hlocks (by omega) (by omega) dd_AL_grow0_10
set_option maxHeartbeats 4000000 in
set_option maxRecDepth 100000 in
theorem kc_AL_add1 (l : Launch) (B : Nat) (D : va_G) (G : Nat → Nat) (M : hm_M) (ci : Nat) (hci : ci = 1 ∨ ci = 3) (a d : Nat) (xs : List Nat) (n : Nat) (f : Nat → Option Nat) (mo : Int32) (h1 : M a = some (.inr (9, [.ref d, .int (nI xs.length), .int mo]))) (h2 : M d = some (.inl (D.1 104, n, .inr (.inr (.inr (.inr f)))))) (h3 : ∀ j, f j = xs[j]?) (h4 : xs.length ≤ n) (h5 : n ≤ 1000) (h6 : ∀ x ∈ xs, ∃ fs, M x = some (.inr (ci, fs))) (h7 : (n = 0 ∧ d = G 0) ∨ (0 < n ∧ B ≤ d ∧ d ≠ G 0)) (hA_a : hm_A B a) (hle : xs.length ≤ 120) (x : Nat) (hx9 : ∃ fs, M x = some (.inr (ci, fs))) (hg : M (G 0) = some (.inl (D.1 104, 0, .inr (.inr (.inr (.inr (fun _ => none))))))) : Met l yy_AL_add1 ws_AL_add1 ({ frames := 5, cells := 1, slots := 200, locals := 127 }) (hm_Pc B D G M [.ref a, .ref x, .ref d, .int (nI xs.length)]) (hm_Nv B D (fun M1 => ∃ d1, al_D B D G M1 ci a d1 (xs ++ [x]) ∧ (d1 = d ∨ M d1 = none) ∧ d1 ≠ G 0 ∧ (∀ q e, M q = some e → q ≠ a → (q = d → d = G 0 ∨ d1 ≠ d) → M1 q = some e))) (1) (200) (hm_A B) := by
  refine Met.ofW (cc := cd_AL_add1) (maxL := 4) (ret := none) (by decide) rfl ?_
  intro p e s m args below meth c s₁ B0 hml hv
  obtain ⟨rfl, hE, hP⟩ := hv
  have hx := B0.exec
  have hb := B0.bytes
  have hr := B0.returns
  have hts : ∀ w ∈ tb_G, w.before _ s = true := fun w h => atoms_spec (ws := ws_AL_add1) B0.pre w (List.mem_cons_of_mem _ h)
  have hown : s.vm.findClass "java/util/ArrayList" = some m.cls := findClass_of_methodNamed B0.named
  have hlocks := B0.notSynchronized
  have hRf : (headSpec ws_AL_add1 { frames := 5, cells := 1, slots := 200, locals := 127 }).room.frames = 5 := rfl
  have hRl : (headSpec ws_AL_add1 { frames := 5, cells := 1, slots := 200, locals := 127 }).room.locals = 127 := rfl
  have hRc : (headSpec ws_AL_add1 { frames := 5, cells := 1, slots := 200, locals := 127 }).room.cells = 1 := rfl
  have hRs : (headSpec ws_AL_add1 { frames := 5, cells := 1, slots := 200, locals := 127 }).room.slots = 200 := rfl
  generalize (headSpec ws_AL_add1 { frames := 5, cells := 1, slots := 200, locals := 127 }).room = R at hRf hRl hRc hRs ⊢
  have hS : va_S (hm_A B) s.heap s.heap [] := va_S.rf
  have hl := lv_entry ([.ref a, .ref x, .ref d, .int (nI xs.length)]) (n := 4) (Nat.le_of_ble_eq_true rfl)
  rw [lg_entry_eq]
  generalize (lg_sl ([.ref a, .ref x, .ref d, .int (nI xs.length)]) ++ List.replicate (4 - (lg_sl ([.ref a, .ref x, .ref d, .int (nI xs.length)])).length) Slot.unset).toArray = ls at hl ⊢
  have hl : lv_has ls 4 [(0, .ref a), (1, .ref x), (2, .ref d), (3, .int (nI xs.length))] := hl
  obtain ⟨r9, hr9, hca⟩ := al_cast hE hci
  obtain ⟨fs, hx8⟩ := hx9
  have hg9 : ∀ q, q = G 0 → M q = none → False := fun q e1 e2 => by rw [e1] at e2; rw [e2] at hg; cases hg
  have n1 : x ≠ a := hm_ne hx8 h1 (by intro h9; cases h9; omega)
  have n2 : x ≠ d := hm_ne hx8 h2 (by intro h9; cases h9)
  refine lv_iload_n hx hb dd_AL_add1_0 rfl (lv_at hl 3 rfl) ?_
  refine lv_aload_n hx hb dd_AL_add1_1 rfl (lv_at hl 2 rfl) ?_
  refine hm_alen (v := nI n) hx hb hE.K hP 4 h2 rfl rfl dd_AL_add1_2 ?_
  refine hn_icmp_ne (tgt := 11) hx hb (by omega) (by omega) dd_AL_add1_3 (by decide) (fun c1 => ?_) (fun c1 => ?_)
  · have hlt9 : xs.length + 1 ≤ n := by omega
    have hdg9 : d ≠ G 0 := by
      rcases h7 with h9 | h9
      · omega
      · exact h9.2.2
    have hA_d : hm_A B d := by
      rcases h7 with h9 | h9
      · omega
      · exact h9.2.1
    refine lv_aload_n hx hb dd_AL_add1_11 rfl (lv_at hl 2 rfl) ?_
    refine lv_iload_n hx hb dd_AL_add1_12 rfl (lv_at hl 3 rfl) ?_
    refine lv_aload_n hx hb dd_AL_add1_13 rfl (lv_at hl 1 rfl) ?_
    refine hm_aast (j := xs.length) hx hb hE.K hP hS hA_d 4 ci h2 rfl hx8 hr9 hca (vp_in_nI (by omega) (by omega)) (nI_clamp (by omega)) dd_AL_add1_14 (fun H locs hP hS => ?_)
    obtain ⟨M2, eM2⟩ : ∃ z, z = hm_up M d (.inl (D.1 104, n, .inr (.inr (.inr (.inr (va_up f xs.length (some x))))))) := ⟨_, rfl⟩
    rw [← eM2] at hP
    have f3 : M2 a = some (.inr (9, [.ref d, .int (nI xs.length), .int mo])) := by rw [eM2]; exact hm_up_o (hm_ne h1 h2 (by intro h9; cases h9)) h1
    have f4 : M2 x = some (.inr (ci, fs)) := by rw [eM2]; exact hm_up_o n2 hx8
    have f5 : M2 d = some (.inl (D.1 104, n, .inr (.inr (.inr (.inr (va_up f xs.length (some x))))))) := by rw [eM2]; exact hm_up_s
    refine lv_aload_n hx hb dd_AL_add1_15 rfl (lv_at hl 0 rfl) ?_
    refine lv_iload_n hx hb dd_AL_add1_16 rfl (lv_at hl 3 rfl) ?_
    refine lv_iconst (v := nI 1) hx hb dd_AL_add1_17 (by decide +kernel) ?_
    refine hn_iadd hx hb dd_AL_add1_18 ?_
    refine hm_put (ci := 9) (v := .int (nI (xs.length + 1))) (ty := .int) (C := rn_AL) (T := ft_AL) (N := 3) hx hb hts fi_AL fy_AL fo_AL fn_AL hown hE.K hP hS hA_a f3 rfl 1 (by decide) (hts _ tw_126) (fun _ h9 => h9) rfl (by decide +kernel) rfl rfl (Nat.le_of_ble_eq_true rfl) dd_AL_add1_19 (fun H locs hP hS => ?_)
    have hP : hm_P D cl_W (hm_up M2 a (.inr (9, [.ref d, .int (nI (xs.length + 1)), .int mo]))) H := hP
    obtain ⟨M6, eM6⟩ : ∃ z, z = hm_up M2 a (.inr (9, [.ref d, .int (nI (xs.length + 1)), .int mo])) := ⟨_, rfl⟩
    rw [← eM6] at hP
    have f7 : M6 d = some (.inl (D.1 104, n, .inr (.inr (.inr (.inr (va_up f xs.length (some x))))))) := by rw [eM6]; exact hm_up_o (hm_ne f5 f3 (by intro h9; cases h9)) f5
    have f8 : M6 x = some (.inr (ci, fs)) := by rw [eM6]; exact hm_up_o n1 f4
    have f9 : M6 a = some (.inr (9, [.ref d, .int (nI (xs.length + 1)), .int mo])) := by rw [eM6]; exact hm_up_s
    have kk10 : hm_k M M [a, d] := hm_krf
    have kk11 : hm_k M M2 [a, d] := hm_ku kk10 (Or.inr (by simp)) eM2
    have kk12 : hm_k M M6 [a, d] := hm_ku kk11 (Or.inr (by simp)) eM6
    have hel9 : ∀ y ∈ xs ++ [x], ∃ fs, M6 y = some (.inr (ci, fs)) := fun y hy => by
        rcases List.mem_append.mp hy with h9 | h9
        · obtain ⟨gs, h8⟩ := h6 y h9
          exact ⟨gs, kk12 y _ h8 (hm_n2 (hm_ne h8 h1 (by intro h7; cases h7; omega)) (hm_ne h8 h2 (by intro h7; cases h7)))⟩
        · rw [List.mem_singleton.mp h9]; exact ⟨fs, f8⟩
    exact hm_Ev hx hb hr hS hP (⟨d, ⟨n, _, mo, by rw [List.length_append]; exact f9, f7, al_app h3, by rw [List.length_append]; exact hlt9, h5, hel9, h7⟩, Or.inl rfl, hdg9, fun q e h9 h8 h10 => kk12 q e h9 (hm_n2 h8 (fun h11 => hdg9 ((h10 h11).resolve_right (fun h12 => h12 rfl))))⟩) hlocks (by omega) (by omega) dd_AL_add1_22
  · have c1 : xs.length = n := c1
    refine lv_aload_n hx hb dd_AL_add1_6 rfl (lv_at hl 0 rfl) ?_
    refine hm_cr hS (hm_rV 0 (As := []) (rest := []) ⟨hx, hb, hml, hown, hts⟩ hE hS hP (kc_AL_grow0 l B D G M ci hci a d xs n f mo h1 h2 h3 h4 h5 h6 h7 hA_a c1 hle) rfl h1 tw_711 tw_708 tw_710 tw_8 tw_43 (by decide +kernel) rfl rfl ⟨by show 4 + 1 ≤ R.frames; omega, by show 8 + (1 + 11) + 107 ≤ R.locals; omega⟩ rfl hl.1 rfl (Nat.le_of_ble_eq_true rfl) dd_AL_add1_7 ⟨by omega, by omega⟩) (fun r13 M14 H locs hw15 hP hS => ?_)
    refine W.widen (k := 1) (n := 200) (by omega) (by omega) ?_
    obtain ⟨m1, g, k1, k2, k3, k4, k5, e0M14⟩ := hw15
    obtain ⟨M9, eM9⟩ : ∃ z, z = hm_up M r13 (.inl (D.1 104, m1, .inr (.inr (.inr (.inr g))))) := ⟨_, rfl⟩
    have eM14 : M14 = hm_up M9 a (.inr (9, [.ref r13, .int (nI xs.length), .int mo])) := by rw [e0M14, eM9]
    have hA_r13 : hm_A B r13 := k2
    have ne16 : a ≠ r13 := hm_neN h1 k1
    have f17 : M9 a = some (.inr (9, [.ref d, .int (nI xs.length), .int mo])) := by rw [eM9]; exact hm_up_o ne16 h1
    have ne18 : d ≠ r13 := hm_neN h2 k1
    have f19 : M9 d = some (.inl (D.1 104, n, .inr (.inr (.inr (.inr f))))) := by rw [eM9]; exact hm_up_o ne18 h2
    have ne20 : x ≠ r13 := hm_neN hx8 k1
    have f21 : M9 x = some (.inr (ci, fs)) := by rw [eM9]; exact hm_up_o ne20 hx8
    have f22 : M9 r13 = some (.inl (D.1 104, m1, .inr (.inr (.inr (.inr g))))) := by rw [eM9]; exact hm_up_s
    have f23 : M14 d = some (.inl (D.1 104, n, .inr (.inr (.inr (.inr f))))) := by rw [eM14]; exact hm_up_o (hm_ne f19 f17 (by intro h9; cases h9)) f19
    have f24 : M14 x = some (.inr (ci, fs)) := by rw [eM14]; exact hm_up_o n1 f21
    have f25 : M14 r13 = some (.inl (D.1 104, m1, .inr (.inr (.inr (.inr g))))) := by rw [eM14]; exact hm_up_o (Ne.symm ne16) f22
    have f26 : M14 a = some (.inr (9, [.ref r13, .int (nI xs.length), .int mo])) := by rw [eM14]; exact hm_up_s
    refine lv_astore_n (lv' := [(2, .ref r13), (0, .ref a), (1, .ref x), (3, .int (nI xs.length))]) hx hb dd_AL_add1_10 rfl hl (by decide) rfl (fun ls hl => ?_)
    refine lv_aload_n hx hb dd_AL_add1_11 rfl (lv_at hl 0 rfl) ?_
    refine lv_iload_n hx hb dd_AL_add1_12 rfl (lv_at hl 3 rfl) ?_
    refine lv_aload_n hx hb dd_AL_add1_13 rfl (lv_at hl 2 rfl) ?_
    refine hm_aast (j := xs.length) hx hb hE.K hP hS hA_r13 4 ci f25 rfl f24 hr9 hca (vp_in_nI (by omega) (by omega)) (nI_clamp (by omega)) dd_AL_add1_14 (fun H locs hP hS => ?_)
    obtain ⟨M27, eM27⟩ : ∃ z, z = hm_up M14 r13 (.inl (D.1 104, m1, .inr (.inr (.inr (.inr (va_up g xs.length (some x))))))) := ⟨_, rfl⟩
    rw [← eM27] at hP
    have f28 : M27 a = some (.inr (9, [.ref r13, .int (nI xs.length), .int mo])) := by rw [eM27]; exact hm_up_o ne16 f26
    have f29 : M27 d = some (.inl (D.1 104, n, .inr (.inr (.inr (.inr f))))) := by rw [eM27]; exact hm_up_o ne18 f23
    have f30 : M27 x = some (.inr (ci, fs)) := by rw [eM27]; exact hm_up_o ne20 f24
    have f31 : M27 r13 = some (.inl (D.1 104, m1, .inr (.inr (.inr (.inr (va_up g xs.length (some x))))))) := by rw [eM27]; exact hm_up_s
    refine lv_aload_n hx hb dd_AL_add1_15 rfl (lv_at hl 1 rfl) ?_
    refine lv_iload_n hx hb dd_AL_add1_16 rfl (lv_at hl 3 rfl) ?_
    refine lv_iconst (v := nI 1) hx hb dd_AL_add1_17 (by decide +kernel) ?_
    refine hn_iadd hx hb dd_AL_add1_18 ?_
    refine hm_put (ci := 9) (v := .int (nI (xs.length + 1))) (ty := .int) (C := rn_AL) (T := ft_AL) (N := 3) hx hb hts fi_AL fy_AL fo_AL fn_AL hown hE.K hP hS hA_a f28 rfl 1 (by decide) (hts _ tw_126) (fun _ h9 => h9) rfl (by decide +kernel) rfl rfl (Nat.le_of_ble_eq_true rfl) dd_AL_add1_19 (fun H locs hP hS => ?_)
    have hP : hm_P D cl_W (hm_up M27 a (.inr (9, [.ref r13, .int (nI (xs.length + 1)), .int mo]))) H := hP
    obtain ⟨M32, eM32⟩ : ∃ z, z = hm_up M27 a (.inr (9, [.ref r13, .int (nI (xs.length + 1)), .int mo])) := ⟨_, rfl⟩
    rw [← eM32] at hP
    have f33 : M32 d = some (.inl (D.1 104, n, .inr (.inr (.inr (.inr f))))) := by rw [eM32]; exact hm_up_o (hm_ne f29 f28 (by intro h9; cases h9)) f29
    have f34 : M32 x = some (.inr (ci, fs)) := by rw [eM32]; exact hm_up_o n1 f30
    have f35 : M32 r13 = some (.inl (D.1 104, m1, .inr (.inr (.inr (.inr (va_up g xs.length (some x))))))) := by rw [eM32]; exact hm_up_o (Ne.symm ne16) f31
    have f36 : M32 a = some (.inr (9, [.ref r13, .int (nI (xs.length + 1)), .int mo])) := by rw [eM32]; exact hm_up_s
    have kk37 : hm_k M M [a] := hm_krf
    have ko39 := hm_kn0 kk37 k1
    have kk38 : hm_k M M9 [a] := hm_kn kk37 k1 eM9
    have kk40 : hm_k M M14 [a] := hm_ku kk38 (Or.inr (by simp)) eM14
    have kk41 : hm_k M M27 [a] := hm_ku kk40 ko39 eM27
    have kk42 : hm_k M M32 [a] := hm_ku kk41 (Or.inr (by simp)) eM32
    have hel9 : ∀ y ∈ xs ++ [x], ∃ fs, M32 y = some (.inr (ci, fs)) := fun y hy => by
        rcases List.mem_append.mp hy with h9 | h9
        · obtain ⟨gs, h8⟩ := h6 y h9
          exact ⟨gs, kk42 y _ h8 (hm_n1 (hm_ne h8 h1 (by intro h7; cases h7; omega)))⟩
        · rw [List.mem_singleton.mp h9]; exact ⟨fs, f34⟩
    exact hm_Ev hx hb hr hS hP (⟨r13, ⟨m1, _, mo, by rw [List.length_append]; exact f36, f35, al_app k5, by rw [List.length_append, List.length_singleton]; omega, k4, hel9, Or.inr ⟨by omega, k2, fun h9 => hg9 r13 h9 k1⟩⟩, Or.inr k1, fun h9 => hg9 r13 h9 k1, fun q e h9 h8 _ => kk42 q e h9 (hm_n1 h8)⟩) hlocks (by omega) (by omega) dd_AL_add1_22
set_option maxHeartbeats 4000000 in
set_option maxRecDepth 100000 in
theorem kc_AL_add0 (l : Launch) (B : Nat) (D : va_G) (G : Nat → Nat) (M : hm_M) (ci : Nat) (hci : ci = 1 ∨ ci = 3) (a d : Nat) (xs : List Nat) (n : Nat) (f : Nat → Option Nat) (mo : Int32) (h1 : M a = some (.inr (9, [.ref d, .int (nI xs.length), .int mo]))) (h2 : M d = some (.inl (D.1 104, n, .inr (.inr (.inr (.inr f)))))) (h3 : ∀ j, f j = xs[j]?) (h4 : xs.length ≤ n) (h5 : n ≤ 1000) (h6 : ∀ x ∈ xs, ∃ fs, M x = some (.inr (ci, fs))) (h7 : (n = 0 ∧ d = G 0) ∨ (0 < n ∧ B ≤ d ∧ d ≠ G 0)) (hA_a : hm_A B a) (hle : xs.length ≤ 120) (x : Nat) (hx9 : ∃ fs, M x = some (.inr (ci, fs))) (hg : M (G 0) = some (.inl (D.1 104, 0, .inr (.inr (.inr (.inr (fun _ => none))))))) : Met l yy_AL_add0 ws_AL_add0 ({ frames := 6, cells := 1, slots := 200, locals := 150 }) (hm_Pc B D G M [.ref a, .ref x]) (hm_Ni B D (fun r M1 => r = nI 1 ∧ ∃ d1, al_D B D G M1 ci a d1 (xs ++ [x]) ∧ (d1 = d ∨ M d1 = none) ∧ d1 ≠ G 0 ∧ (∀ q e, M q = some e → q ≠ a → (q = d → d = G 0 ∨ d1 ≠ d) → M1 q = some e))) (1) (200) (hm_A B) := by
  refine Met.ofW (cc := cd_AL_add0) (maxL := 2) (ret := ((some FieldType.boolean))) (by decide) rfl ?_
  intro p e s m args below meth c s₁ B0 hml hv
  obtain ⟨rfl, hE, hP⟩ := hv
  have hx := B0.exec
  have hb := B0.bytes
  have hr := B0.returns
  have hts : ∀ w ∈ tb_G, w.before _ s = true := fun w h => atoms_spec (ws := ws_AL_add0) B0.pre w (List.mem_cons_of_mem _ h)
  have hown : s.vm.findClass "java/util/ArrayList" = some m.cls := findClass_of_methodNamed B0.named
  have hlocks := B0.notSynchronized
  have hRf : (headSpec ws_AL_add0 { frames := 6, cells := 1, slots := 200, locals := 150 }).room.frames = 6 := rfl
  have hRl : (headSpec ws_AL_add0 { frames := 6, cells := 1, slots := 200, locals := 150 }).room.locals = 150 := rfl
  have hRc : (headSpec ws_AL_add0 { frames := 6, cells := 1, slots := 200, locals := 150 }).room.cells = 1 := rfl
  have hRs : (headSpec ws_AL_add0 { frames := 6, cells := 1, slots := 200, locals := 150 }).room.slots = 200 := rfl
  generalize (headSpec ws_AL_add0 { frames := 6, cells := 1, slots := 200, locals := 150 }).room = R at hRf hRl hRc hRs ⊢
  have hS : va_S (hm_A B) s.heap s.heap [] := va_S.rf
  have hl := lv_entry ([.ref a, .ref x]) (n := 2) (Nat.le_of_ble_eq_true rfl)
  rw [lg_entry_eq]
  generalize (lg_sl ([.ref a, .ref x]) ++ List.replicate (2 - (lg_sl ([.ref a, .ref x])).length) Slot.unset).toArray = ls at hl ⊢
  have hl : lv_has ls 2 [(0, .ref a), (1, .ref x)] := hl
  obtain ⟨r9, hr9, hca⟩ := al_cast hE hci
  obtain ⟨fs, hx8⟩ := hx9
  have hg9 : ∀ q, q = G 0 → M q = none → False := fun q e1 e2 => by rw [e1] at e2; rw [e2] at hg; cases hg
  have n1 : x ≠ a := hm_ne hx8 h1 (by intro h9; cases h9; omega)
  have n2 : x ≠ d := hm_ne hx8 h2 (by intro h9; cases h9)
  refine lv_aload_n hx hb dd_AL_add0_0 rfl (lv_at hl 0 rfl) ?_
  refine lv_dup hx hb dd_AL_add0_1 rfl ?_
  refine hm_get (ci := 9) (C := rn_AL) (T := ft_AL) (N := 3) hx hb hts fi_AL hown hE.K hP h1 rfl 2 (by decide) (hts _ tw_128) (fun x9 h9 => u_same (hts _ tw_129) x9 h9) rfl dd_AL_add0_2 ?_
  refine lv_iconst (v := nI 1) hx hb dd_AL_add0_5 (by decide +kernel) ?_
  refine lv_iadd hx hb dd_AL_add0_6 ?_
  refine lv_topi (fun x1 ex1 => ?_)
  refine hm_put (ci := 9) (v := .int x1) (ty := .int) (C := rn_AL) (T := ft_AL) (N := 3) hx hb hts fi_AL fy_AL fo_AL fn_AL hown hE.K hP hS hA_a h1 rfl 2 (by decide) (hts _ tw_128) (fun x9 h9 => u_same (hts _ tw_129) x9 h9) rfl (by decide +kernel) rfl rfl (Nat.le_of_ble_eq_true rfl) dd_AL_add0_7 (fun H locs hP hS => ?_)
  have hP : hm_P D cl_W (hm_up M a (.inr (9, [.ref d, .int (nI xs.length), .int x1]))) H := hP
  obtain ⟨M2, eM2⟩ : ∃ z, z = hm_up M a (.inr (9, [.ref d, .int (nI xs.length), .int x1])) := ⟨_, rfl⟩
  rw [← eM2] at hP
  have f3 : M2 d = some (.inl (D.1 104, n, .inr (.inr (.inr (.inr f))))) := by rw [eM2]; exact hm_up_o (hm_ne h2 h1 (by intro h9; cases h9)) h2
  have f4 : M2 x = some (.inr (ci, fs)) := by rw [eM2]; exact hm_up_o n1 hx8
  have f5 : M2 a = some (.inr (9, [.ref d, .int (nI xs.length), .int x1])) := by rw [eM2]; exact hm_up_s
  refine lv_aload_n hx hb dd_AL_add0_10 rfl (lv_at hl 0 rfl) ?_
  refine lv_aload_n hx hb dd_AL_add0_11 rfl (lv_at hl 1 rfl) ?_
  refine lv_aload_n hx hb dd_AL_add0_12 rfl (lv_at hl 0 rfl) ?_
  refine hm_get (ci := 9) (C := rn_AL) (T := ft_AL) (N := 3) hx hb hts fi_AL hown hE.K hP f5 rfl 0 (by decide) (hts _ tw_125) (fun _ h9 => h9) rfl dd_AL_add0_13 ?_
  refine lv_aload_n hx hb dd_AL_add0_16 rfl (lv_at hl 0 rfl) ?_
  refine hm_get (ci := 9) (C := rn_AL) (T := ft_AL) (N := 3) hx hb hts fi_AL hown hE.K hP f5 rfl 1 (by decide) (hts _ tw_126) (fun _ h9 => h9) rfl dd_AL_add0_17 ?_
  refine hm_cv hS (hm_rV 3 (As := [.ref x, .ref d, .int (nI xs.length)]) (rest := []) ⟨hx, hb, hml, hown, hts⟩ hE hS hP (kc_AL_add1 l B D G M2 ci hci a d xs n f x1 f5 f3 h3 h4 h5 (fun y hy => by
      obtain ⟨gs, h8⟩ := h6 y hy
      exact ⟨gs, by rw [eM2]; exact hm_up_o (hm_ne h8 h1 (by intro h7; cases h7; omega)) h8⟩) h7 hA_a hle x ⟨fs, f4⟩ (by rw [eM2]; exact hm_up_o (hm_ne hg h1 (by intro h7; cases h7)) hg)) rfl f5 tw_707 tw_704 tw_706 tw_7 tw_43 (by decide +kernel) rfl rfl ⟨by show 5 + 1 ≤ R.frames; omega, by show 8 + (4 + 11) + 127 ≤ R.locals; omega⟩ rfl hl.1 rfl (Nat.le_of_ble_eq_true rfl) dd_AL_add0_20 ⟨by omega, by omega⟩) (fun M7 H locs hw8 hP hS => ?_)
  refine W.widen (k := 1) (n := 200) (by omega) (by omega) ?_
  obtain ⟨d1, k1, k2, k3, k4⟩ := hw8
  refine lv_iconst (v := nI 1) hx hb dd_AL_add0_23 (by decide +kernel) ?_
  exact hm_Ei (v := nI 1) hx hb hr rfl hS hP (⟨rfl, d1, k1, k2.imp id (fun h9 => (hm_kn0 (S := [a]) (hm_ku hm_krf (Or.inr (by simp)) eM2) h9).resolve_right (fun h8 => by rw [List.mem_singleton.mp h8, eM2, hm_up_s] at h9; cases h9)), k3, fun q e h9 h8 h10 => k4 q e (by rw [eM2]; exact hm_up_o h8 h9) h8 h10⟩) hlocks (by omega) (by omega) dd_AL_add0_24
