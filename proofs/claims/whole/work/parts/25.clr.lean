/-! lists: out of them, and clear -/
set_option maxHeartbeats 4000000 in
set_option maxRecDepth 100000 in
theorem kc_AL_fastRemove (l : Launch) (B : Nat) (D : va_G) (G : Nat → Nat) (M : hm_M) (ci : Nat) (hci : ci = 1 ∨ ci = 3) (a d : Nat) (xs : List Nat) (n : Nat) (f : Nat → Option Nat) (mo : Int32) (h1 : M a = some (.inr (9, [.ref d, .int (nI xs.length), .int mo]))) (h2 : M d = some (.inl (D.1 104, n, .inr (.inr (.inr (.inr f)))))) (h3 : ∀ j, f j = xs[j]?) (h4 : xs.length ≤ n) (h5 : n ≤ 1000) (h6 : ∀ x ∈ xs, ∃ fs, M x = some (.inr (ci, fs))) (h7 : (n = 0 ∧ d = G 0) ∨ (0 < n ∧ B ≤ d ∧ d ≠ G 0)) (hA_a : hm_A B a) (i : Nat) (hi : i < xs.length) : Met l yy_AL_fastRemove ws_AL_fastRemove ({ frames := 1, cells := 0, slots := 0, locals := 40 }) (hm_Pc B D G M [.ref a, .ref d, .int (nI i)]) (hm_Nv B D (fun M1 => al_D B D G M1 ci a d (xs.eraseIdx i) ∧ hm_k M M1 [a, d])) (0) (0) (hm_A B) := by
  refine Met.ofW (cc := cd_AL_fastRemove) (maxL := 4) (ret := none) (by decide) rfl ?_
  intro p e s m args below meth c s₁ B0 hml hv
  obtain ⟨rfl, hE, hP⟩ := hv
  have hx := B0.exec
  have hb := B0.bytes
  have hr := B0.returns
  have hts : ∀ w ∈ tb_G, w.before _ s = true := fun w h => atoms_spec (ws := ws_AL_fastRemove) B0.pre w (List.mem_cons_of_mem _ h)
  have hown : s.vm.findClass "java/util/ArrayList" = some m.cls := findClass_of_methodNamed B0.named
  have hlocks := B0.notSynchronized
  have hRf : (headSpec ws_AL_fastRemove { frames := 1, cells := 0, slots := 0, locals := 40 }).room.frames = 1 := rfl
  have hRl : (headSpec ws_AL_fastRemove { frames := 1, cells := 0, slots := 0, locals := 40 }).room.locals = 40 := rfl
  have hRc : (headSpec ws_AL_fastRemove { frames := 1, cells := 0, slots := 0, locals := 40 }).room.cells = 0 := rfl
  have hRs : (headSpec ws_AL_fastRemove { frames := 1, cells := 0, slots := 0, locals := 40 }).room.slots = 0 := rfl
  generalize (headSpec ws_AL_fastRemove { frames := 1, cells := 0, slots := 0, locals := 40 }).room = R at hRf hRl hRc hRs ⊢
  have hS : va_S (hm_A B) s.heap s.heap [] := va_S.rf
  have hl := lv_entry ([.ref a, .ref d, .int (nI i)]) (n := 4) (Nat.le_of_ble_eq_true rfl)
  rw [lg_entry_eq]
  generalize (lg_sl ([.ref a, .ref d, .int (nI i)]) ++ List.replicate (4 - (lg_sl ([.ref a, .ref d, .int (nI i)])).length) Slot.unset).toArray = ls at hl ⊢
  have hl : lv_has ls 4 [(0, .ref a), (1, .ref d), (2, .int (nI i))] := hl
  obtain ⟨r9, hr9, hca⟩ := al_cast hE hci
  have hdB : 0 < n ∧ B ≤ d ∧ d ≠ G 0 := h7.resolve_left (fun h9 => by omega)
  have hA_d : hm_A B d := hdB.2.1
  have hlen9 : (xs.eraseIdx i).length = xs.length - 1 := List.length_eraseIdx_of_lt hi
  have nx : ∀ y ∈ xs, y ≠ a ∧ y ≠ d := fun y hy => by
    obtain ⟨gs, h8⟩ := h6 y hy
    exact ⟨hm_ne h8 h1 (by intro h9; cases h9; omega), hm_ne h8 h2 (by intro h9; cases h9)⟩
  refine lv_aload_n hx hb dd_AL_fastRemove_0 rfl (lv_at hl 0 rfl) ?_
  refine lv_dup hx hb dd_AL_fastRemove_1 rfl ?_
  refine hm_get (ci := 9) (C := rn_AL) (T := ft_AL) (N := 3) hx hb hts fi_AL hown hE.K hP h1 rfl 2 (by decide) (hts _ tw_128) (fun x9 h9 => u_same (hts _ tw_129) x9 h9) rfl dd_AL_fastRemove_2 ?_
  refine lv_iconst (v := nI 1) hx hb dd_AL_fastRemove_5 (by decide +kernel) ?_
  refine lv_iadd hx hb dd_AL_fastRemove_6 ?_
  refine lv_topi (fun x1 ex1 => ?_)
  refine hm_put (ci := 9) (v := .int x1) (ty := .int) (C := rn_AL) (T := ft_AL) (N := 3) hx hb hts fi_AL fy_AL fo_AL fn_AL hown hE.K hP hS hA_a h1 rfl 2 (by decide) (hts _ tw_128) (fun x9 h9 => u_same (hts _ tw_129) x9 h9) rfl (by decide +kernel) rfl rfl (Nat.le_of_ble_eq_true rfl) dd_AL_fastRemove_7 (fun H locs hP hS => ?_)
  have hP : hm_P D cl_W (hm_up M a (.inr (9, [.ref d, .int (nI xs.length), .int x1]))) H := hP
  obtain ⟨M2, eM2⟩ : ∃ z, z = hm_up M a (.inr (9, [.ref d, .int (nI xs.length), .int x1])) := ⟨_, rfl⟩
  rw [← eM2] at hP
  have f3 : M2 d = some (.inl (D.1 104, n, .inr (.inr (.inr (.inr f))))) := by rw [eM2]; exact hm_up_o (hm_ne h2 h1 (by intro h9; cases h9)) h2
  have f4 : M2 a = some (.inr (9, [.ref d, .int (nI xs.length), .int x1])) := by rw [eM2]; exact hm_up_s
  refine lv_aload_n hx hb dd_AL_fastRemove_10 rfl (lv_at hl 0 rfl) ?_
  refine hm_get (ci := 9) (C := rn_AL) (T := ft_AL) (N := 3) hx hb hts fi_AL hown hE.K hP f4 rfl 1 (by decide) (hts _ tw_126) (fun _ h9 => h9) rfl dd_AL_fastRemove_11 ?_
  refine lv_iconst (v := nI 1) hx hb dd_AL_fastRemove_14 (by decide +kernel) ?_
  refine hn_isub hx hb (by omega) dd_AL_fastRemove_15 ?_
  refine lv_dup hx hb dd_AL_fastRemove_16 rfl ?_
  refine lv_istore_n (lv' := [(3, .int (nI (xs.length - 1))), (0, .ref a), (1, .ref d), (2, .int (nI i))]) hx hb dd_AL_fastRemove_17 rfl hl (by decide) rfl (fun ls hl => ?_)
  refine lv_iload_n hx hb dd_AL_fastRemove_18 rfl (lv_at hl 3 rfl) ?_
  refine hn_icmp_le (tgt := 34) hx hb (by omega) (by omega) dd_AL_fastRemove_19 (by decide) (fun c5 => ?_) (fun c5 => ?_)
  · refine lv_aload_n hx hb dd_AL_fastRemove_34 rfl (lv_at hl 2 rfl) ?_
    refine lv_aload_n hx hb dd_AL_fastRemove_35 rfl (lv_at hl 1 rfl) ?_
    refine lv_iload_n hx hb dd_AL_fastRemove_36 rfl (lv_at hl 0 rfl) ?_
    refine lv_dup_x1 hx hb dd_AL_fastRemove_37 rfl rfl ?_
    refine hm_put (ci := 9) (v := .int (nI (xs.length - 1))) (ty := .int) (C := rn_AL) (T := ft_AL) (N := 3) hx hb hts fi_AL fy_AL fo_AL fn_AL hown hE.K hP hS hA_a f4 rfl 1 (by decide) (hts _ tw_126) (fun _ h9 => h9) rfl (by decide +kernel) rfl rfl (Nat.le_of_ble_eq_true rfl) dd_AL_fastRemove_38 (fun H locs hP hS => ?_)
    have hP : hm_P D cl_W (hm_up M2 a (.inr (9, [.ref d, .int (nI (xs.length - 1)), .int x1]))) H := hP
    obtain ⟨M6, eM6⟩ : ∃ z, z = hm_up M2 a (.inr (9, [.ref d, .int (nI (xs.length - 1)), .int x1])) := ⟨_, rfl⟩
    rw [← eM6] at hP
    have f7 : M6 d = some (.inl (D.1 104, n, .inr (.inr (.inr (.inr f))))) := by rw [eM6]; exact hm_up_o (hm_ne f3 f4 (by intro h9; cases h9)) f3
    have f8 : M6 a = some (.inr (9, [.ref d, .int (nI (xs.length - 1)), .int x1])) := by rw [eM6]; exact hm_up_s
    refine lv_null hx hb dd_AL_fastRemove_41 ?_
    refine hm_aastN (j := xs.length - 1) hx hb hE.K hP hS hA_d 4 f7 rfl (vp_in_nI (by omega) (by omega)) (nI_clamp (by omega)) dd_AL_fastRemove_42 (fun H locs hP hS => ?_)
    obtain ⟨M9, eM9⟩ : ∃ z, z = hm_up M6 d (.inl (D.1 104, n, .inr (.inr (.inr (.inr (va_up f (xs.length - 1) none)))))) := ⟨_, rfl⟩
    rw [← eM9] at hP
    have f10 : M9 a = some (.inr (9, [.ref d, .int (nI (xs.length - 1)), .int x1])) := by rw [eM9]; exact hm_up_o (hm_ne f8 f7 (by intro h9; cases h9)) f8
    have f11 : M9 d = some (.inl (D.1 104, n, .inr (.inr (.inr (.inr (va_up f (xs.length - 1) none)))))) := by rw [eM9]; exact hm_up_s
    have kk12 : hm_k M M [a, d] := hm_krf
    have kk13 : hm_k M M2 [a, d] := hm_ku kk12 (Or.inr (by simp)) eM2
    have kk14 : hm_k M M6 [a, d] := hm_ku kk13 (Or.inr (by simp)) eM6
    have kk15 : hm_k M M9 [a, d] := hm_ku kk14 (Or.inr (by simp)) eM9
    exact hm_Ev hx hb hr hS hP (⟨⟨n, _, _, by rw [hlen9]; exact f10, f11, al_del2 h3 hi (by omega), by omega, h5, fun y hy => by
        have hy2 := List.mem_of_mem_eraseIdx hy
        obtain ⟨gs, h8⟩ := h6 y hy2
        exact ⟨gs, kk15 y _ h8 (hm_n2 (nx y hy2).1 (nx y hy2).2)⟩, Or.inr hdB⟩, kk15⟩) hlocks (by omega) (by omega) dd_AL_fastRemove_43
  · refine lv_aload_n hx hb dd_AL_fastRemove_22 rfl (lv_at hl 2 rfl) ?_
    refine lv_iload_n hx hb dd_AL_fastRemove_23 rfl (lv_at hl 3 rfl) ?_
    refine lv_iconst (v := nI 1) hx hb dd_AL_fastRemove_24 (by decide +kernel) ?_
    refine hn_iadd hx hb dd_AL_fastRemove_25 ?_
    refine lv_aload_n hx hb dd_AL_fastRemove_26 rfl (lv_at hl 2 rfl) ?_
    refine lv_iload_n hx hb dd_AL_fastRemove_27 rfl (lv_at hl 3 rfl) ?_
    refine lv_iload_n hx hb dd_AL_fastRemove_28 rfl (lv_at hl 0 rfl) ?_
    refine lv_iload_n hx hb dd_AL_fastRemove_29 rfl (lv_at hl 3 rfl) ?_
    refine hn_isub hx hb (by omega) dd_AL_fastRemove_30 ?_
    refine hm_copyq (sp := i + 1) (dp := i) (n := (xs.length - 1) - i) hx hb (by rw [hml]; exact hl.1.symm) hown (hts _ tw_357) (hts _ tw_258) (hts _ tw_257) (hts _ tw_50) hE.K hP hS hA_d 4 ci f3 f3 rfl hr9 hca (by omega) (by omega) (by omega) (by omega) (fun i9 h9 y h8 => by
        have hy := al_mem (by rw [← h3]; exact h8)
        obtain ⟨fs, h10⟩ := h6 y hy
        exact ⟨fs, by rw [eM2]; exact hm_up_o (nx y hy).1 h10⟩) (by show _ ≤ _; rw [hRf]; exact Nat.le_of_ble_eq_true rfl) (by show _ ≤ _; rw [hRl]; exact Nat.le_of_ble_eq_true rfl) dd_AL_fastRemove_31 (fun H locs hP hS => ?_)
    obtain ⟨M16, eM16⟩ : ∃ z, z = hm_up M2 d (.inl (D.1 104, n, .inr (.inr (.inr (.inr (va_cpy f f (i + 1) i ((xs.length - 1) - i))))))) := ⟨_, rfl⟩
    rw [← eM16] at hP
    have f17 : M16 a = some (.inr (9, [.ref d, .int (nI xs.length), .int x1])) := by rw [eM16]; exact hm_up_o (hm_ne f4 f3 (by intro h9; cases h9)) f4
    have f18 : M16 d = some (.inl (D.1 104, n, .inr (.inr (.inr (.inr (va_cpy f f (i + 1) i ((xs.length - 1) - i))))))) := by rw [eM16]; exact hm_up_s
    refine lv_aload_n hx hb dd_AL_fastRemove_34 rfl (lv_at hl 2 rfl) ?_
    refine lv_aload_n hx hb dd_AL_fastRemove_35 rfl (lv_at hl 1 rfl) ?_
    refine lv_iload_n hx hb dd_AL_fastRemove_36 rfl (lv_at hl 0 rfl) ?_
    refine lv_dup_x1 hx hb dd_AL_fastRemove_37 rfl rfl ?_
    refine hm_put (ci := 9) (v := .int (nI (xs.length - 1))) (ty := .int) (C := rn_AL) (T := ft_AL) (N := 3) hx hb hts fi_AL fy_AL fo_AL fn_AL hown hE.K hP hS hA_a f17 rfl 1 (by decide) (hts _ tw_126) (fun _ h9 => h9) rfl (by decide +kernel) rfl rfl (Nat.le_of_ble_eq_true rfl) dd_AL_fastRemove_38 (fun H locs hP hS => ?_)
    have hP : hm_P D cl_W (hm_up M16 a (.inr (9, [.ref d, .int (nI (xs.length - 1)), .int x1]))) H := hP
    obtain ⟨M19, eM19⟩ : ∃ z, z = hm_up M16 a (.inr (9, [.ref d, .int (nI (xs.length - 1)), .int x1])) := ⟨_, rfl⟩
    rw [← eM19] at hP
    have f20 : M19 d = some (.inl (D.1 104, n, .inr (.inr (.inr (.inr (va_cpy f f (i + 1) i ((xs.length - 1) - i))))))) := by rw [eM19]; exact hm_up_o (hm_ne f18 f17 (by intro h9; cases h9)) f18
    have f21 : M19 a = some (.inr (9, [.ref d, .int (nI (xs.length - 1)), .int x1])) := by rw [eM19]; exact hm_up_s
    refine lv_null hx hb dd_AL_fastRemove_41 ?_
    refine hm_aastN (j := xs.length - 1) hx hb hE.K hP hS hA_d 4 f20 rfl (vp_in_nI (by omega) (by omega)) (nI_clamp (by omega)) dd_AL_fastRemove_42 (fun H locs hP hS => ?_)
    obtain ⟨M22, eM22⟩ : ∃ z, z = hm_up M19 d (.inl (D.1 104, n, .inr (.inr (.inr (.inr (va_up (va_cpy f f (i + 1) i ((xs.length - 1) - i)) (xs.length - 1) none)))))) := ⟨_, rfl⟩
    rw [← eM22] at hP
    have f23 : M22 a = some (.inr (9, [.ref d, .int (nI (xs.length - 1)), .int x1])) := by rw [eM22]; exact hm_up_o (hm_ne f21 f20 (by intro h9; cases h9)) f21
    have f24 : M22 d = some (.inl (D.1 104, n, .inr (.inr (.inr (.inr (va_up (va_cpy f f (i + 1) i ((xs.length - 1) - i)) (xs.length - 1) none)))))) := by rw [eM22]; exact hm_up_s
    have kk25 : hm_k M M [a, d] := hm_krf
    have kk26 : hm_k M M2 [a, d] := hm_ku kk25 (Or.inr (by simp)) eM2
    have kk27 : hm_k M M16 [a, d] := hm_ku kk26 (Or.inr (by simp)) eM16
    have kk28 : hm_k M M19 [a, d] := hm_ku kk27 (Or.inr (by simp)) eM19
    have kk29 : hm_k M M22 [a, d] := hm_ku kk28 (Or.inr (by simp)) eM22
    exact hm_Ev hx hb hr hS hP (⟨⟨n, _, _, by rw [hlen9]; exact f23, f24, al_del h3 hi, by omega, h5, fun y hy => by
        have hy2 := List.mem_of_mem_eraseIdx hy
        obtain ⟨gs, h8⟩ := h6 y hy2
        exact ⟨gs, kk29 y _ h8 (hm_n2 (nx y hy2).1 (nx y hy2).2)⟩, Or.inr hdB⟩, kk29⟩) hlocks (by omega) (by omega) dd_AL_fastRemove_43
set_option maxHeartbeats 4000000 in
set_option maxRecDepth 100000 in
theorem kc_AL_remove (l : Launch) (B : Nat) (D : va_G) (G : Nat → Nat) (M : hm_M) (ci : Nat) (hci : ci = 1 ∨ ci = 3) (a d : Nat) (xs : List Nat) (n : Nat) (f : Nat → Option Nat) (mo : Int32) (h1 : M a = some (.inr (9, [.ref d, .int (nI xs.length), .int mo]))) (h2 : M d = some (.inl (D.1 104, n, .inr (.inr (.inr (.inr f)))))) (h3 : ∀ j, f j = xs[j]?) (h4 : xs.length ≤ n) (h5 : n ≤ 1000) (h6 : ∀ x ∈ xs, ∃ fs, M x = some (.inr (ci, fs))) (h7 : (n = 0 ∧ d = G 0) ∨ (0 < n ∧ B ≤ d ∧ d ≠ G 0)) (hA_a : hm_A B a) (i : Nat) (hi : i < xs.length) : Met l yy_AL_remove ws_AL_remove ({ frames := 2, cells := 0, slots := 0, locals := 63 }) (hm_Pc B D G M [.ref a, .int (nI i)]) (hm_Nr B D (fun r M1 => r = xs.getD i 0 ∧ al_D B D G M1 ci a d (xs.eraseIdx i) ∧ hm_k M M1 [a, d])) (0) (0) (hm_A B) := by
  refine Met.ofW (cc := cd_AL_remove) (maxL := 4) (ret := ((some (FieldType.object "java/lang/Object")))) (by decide) rfl ?_
  intro p e s m args below meth c s₁ B0 hml hv
  obtain ⟨rfl, hE, hP⟩ := hv
  have hx := B0.exec
  have hb := B0.bytes
  have hr := B0.returns
  have hts : ∀ w ∈ tb_G, w.before _ s = true := fun w h => atoms_spec (ws := ws_AL_remove) B0.pre w (List.mem_cons_of_mem _ h)
  have hown : s.vm.findClass "java/util/ArrayList" = some m.cls := findClass_of_methodNamed B0.named
  have hlocks := B0.notSynchronized
  have hRf : (headSpec ws_AL_remove { frames := 2, cells := 0, slots := 0, locals := 63 }).room.frames = 2 := rfl
  have hRl : (headSpec ws_AL_remove { frames := 2, cells := 0, slots := 0, locals := 63 }).room.locals = 63 := rfl
  have hRc : (headSpec ws_AL_remove { frames := 2, cells := 0, slots := 0, locals := 63 }).room.cells = 0 := rfl
  have hRs : (headSpec ws_AL_remove { frames := 2, cells := 0, slots := 0, locals := 63 }).room.slots = 0 := rfl
  generalize (headSpec ws_AL_remove { frames := 2, cells := 0, slots := 0, locals := 63 }).room = R at hRf hRl hRc hRs ⊢
  have hS : va_S (hm_A B) s.heap s.heap [] := va_S.rf
  have hl := lv_entry ([.ref a, .int (nI i)]) (n := 4) (Nat.le_of_ble_eq_true rfl)
  rw [lg_entry_eq]
  generalize (lg_sl ([.ref a, .int (nI i)]) ++ List.replicate (4 - (lg_sl ([.ref a, .int (nI i)])).length) Slot.unset).toArray = ls at hl ⊢
  have hl : lv_has ls 4 [(0, .ref a), (1, .int (nI i))] := hl
  refine lv_iload_n hx hb dd_AL_remove_0 rfl (lv_at hl 1 rfl) ?_
  refine lv_aload_n hx hb dd_AL_remove_1 rfl (lv_at hl 0 rfl) ?_
  refine hm_get (ci := 9) (C := rn_AL) (T := ft_AL) (N := 3) hx hb hts fi_AL hown hE.K hP h1 rfl 1 (by decide) (hts _ tw_126) (fun _ h9 => h9) rfl dd_AL_remove_2 ?_
  refine hm_ci hS (hm_rS 2 (As := [.int (nI i), .int (nI xs.length)]) (rest := []) ⟨hx, hb, hml, hown, hts⟩ hE hS hP (kc_OB_checkIndex l B D G M i xs.length hi (by omega)) tw_338 tw_336 tw_337 tw_59 (by decide +kernel) rfl rfl ⟨by show 1 + 1 ≤ R.frames; omega, by show 8 + (2 + 11) + 22 ≤ R.locals; omega⟩ rfl hl.1 rfl (Nat.le_of_ble_eq_true rfl) dd_AL_remove_5 ⟨by omega, by omega⟩) (fun r1 M2 H locs hw3 hP hS => ?_)
  refine W.widen (k := 0) (n := 0) (by omega) (by omega) ?_
  obtain ⟨rfl, eM2⟩ := hw3
  rw [eM2] at hP
  refine lv_pop hx hb dd_AL_remove_8 rfl ?_
  refine lv_aload_n hx hb dd_AL_remove_9 rfl (lv_at hl 0 rfl) ?_
  refine hm_get (ci := 9) (C := rn_AL) (T := ft_AL) (N := 3) hx hb hts fi_AL hown hE.K hP h1 rfl 0 (by decide) (hts _ tw_125) (fun _ h9 => h9) rfl dd_AL_remove_10 ?_
  refine lv_astore_n (lv' := [(2, .ref d), (0, .ref a), (1, .int (nI i))]) hx hb dd_AL_remove_13 rfl hl (by decide) rfl (fun ls hl => ?_)
  refine lv_aload_n hx hb dd_AL_remove_14 rfl (lv_at hl 0 rfl) ?_
  refine lv_iload_n hx hb dd_AL_remove_15 rfl (lv_at hl 2 rfl) ?_
  refine hm_aald (j := i) hx hb hE.K hP 4 h2 rfl (vp_in_nI (by omega) (by omega)) (nI_clamp (by omega)) dd_AL_remove_16 ?_
  rw [h3 i, al_get hi]
  refine lv_astore_n (lv' := [(3, .ref (xs.getD i 0)), (2, .ref d), (0, .ref a), (1, .int (nI i))]) hx hb dd_AL_remove_17 rfl hl (by decide) rfl (fun ls hl => ?_)
  refine lv_aload_n hx hb dd_AL_remove_18 rfl (lv_at hl 2 rfl) ?_
  refine lv_aload_n hx hb dd_AL_remove_19 rfl (lv_at hl 1 rfl) ?_
  refine lv_iload_n hx hb dd_AL_remove_20 rfl (lv_at hl 3 rfl) ?_
  refine hm_cv hS (hm_rV 2 (As := [.ref d, .int (nI i)]) (rest := []) ⟨hx, hb, hml, hown, hts⟩ hE hS hP (kc_AL_fastRemove l B D G M ci hci a d xs n f mo h1 h2 h3 h4 h5 h6 h7 hA_a i hi) rfl h1 tw_356 tw_353 tw_355 tw_2 tw_43 (by decide +kernel) rfl rfl ⟨by show 1 + 1 ≤ R.frames; omega, by show 8 + (4 + 11) + 40 ≤ R.locals; omega⟩ rfl hl.1 rfl (Nat.le_of_ble_eq_true rfl) dd_AL_remove_21 ⟨by omega, by omega⟩) (fun M5 H locs hw6 hP hS => ?_)
  refine W.widen (k := 0) (n := 0) (by omega) (by omega) ?_
  obtain ⟨k1, k2⟩ := hw6
  refine lv_aload_n hx hb dd_AL_remove_24 rfl (lv_at hl 0 rfl) ?_
  exact hm_Er (v := xs.getD i 0) hx hb hr (Or.inl ⟨_, rfl⟩) hS hP (⟨rfl, k1, k2⟩) hlocks (by omega) (by omega) dd_AL_remove_25
set_option maxHeartbeats 4000000 in
set_option maxRecDepth 100000 in
theorem kc_AL_clear (l : Launch) (B : Nat) (D : va_G) (G : Nat → Nat) (M : hm_M) (ci : Nat) (hci : ci = 1 ∨ ci = 3) (a d : Nat) (xs : List Nat) (n : Nat) (f : Nat → Option Nat) (mo : Int32) (h1 : M a = some (.inr (9, [.ref d, .int (nI xs.length), .int mo]))) (h2 : M d = some (.inl (D.1 104, n, .inr (.inr (.inr (.inr f)))))) (h3 : ∀ j, f j = xs[j]?) (h4 : xs.length ≤ n) (h5 : n ≤ 1000) (h6 : ∀ x ∈ xs, ∃ fs, M x = some (.inr (ci, fs))) (h7 : (n = 0 ∧ d = G 0) ∨ (0 < n ∧ B ≤ d ∧ d ≠ G 0)) (hA_a : hm_A B a) : Met l yy_AL_clear ws_AL_clear ({ frames := 0, cells := 0, slots := 0, locals := 0 }) (hm_Pc B D G M [.ref a]) (hm_Nv B D (fun M1 => al_D B D G M1 ci a d [] ∧ (∀ q e, M q = some e → q ≠ a → (q = d → d = G 0) → M1 q = some e))) (0) (0) (hm_A B) := by
  refine Met.ofW (cc := cd_AL_clear) (maxL := 4) (ret := none) (by decide) rfl ?_
  intro p e s m args below meth c s₁ B0 hml hv
  obtain ⟨rfl, hE, hP⟩ := hv
  have hx := B0.exec
  have hb := B0.bytes
  have hr := B0.returns
  have hts : ∀ w ∈ tb_G, w.before _ s = true := fun w h => atoms_spec (ws := ws_AL_clear) B0.pre w (List.mem_cons_of_mem _ h)
  have hown : s.vm.findClass "java/util/ArrayList" = some m.cls := findClass_of_methodNamed B0.named
  have hlocks := B0.notSynchronized
  have hRf : (headSpec ws_AL_clear { frames := 0, cells := 0, slots := 0, locals := 0 }).room.frames = 0 := rfl
  have hRl : (headSpec ws_AL_clear { frames := 0, cells := 0, slots := 0, locals := 0 }).room.locals = 0 := rfl
  have hRc : (headSpec ws_AL_clear { frames := 0, cells := 0, slots := 0, locals := 0 }).room.cells = 0 := rfl
  have hRs : (headSpec ws_AL_clear { frames := 0, cells := 0, slots := 0, locals := 0 }).room.slots = 0 := rfl
  generalize (headSpec ws_AL_clear { frames := 0, cells := 0, slots := 0, locals := 0 }).room = R at hRf hRl hRc hRs ⊢
  have hS : va_S (hm_A B) s.heap s.heap [] := va_S.rf
  have hl := lv_entry ([.ref a]) (n := 4) (Nat.le_of_ble_eq_true rfl)
  rw [lg_entry_eq]
  generalize (lg_sl ([.ref a]) ++ List.replicate (4 - (lg_sl ([.ref a])).length) Slot.unset).toArray = ls at hl ⊢
  have hl : lv_has ls 4 [(0, .ref a)] := hl
  refine lv_aload_n hx hb dd_AL_clear_0 rfl (lv_at hl 0 rfl) ?_
  refine lv_dup hx hb dd_AL_clear_1 rfl ?_
  refine hm_get (ci := 9) (C := rn_AL) (T := ft_AL) (N := 3) hx hb hts fi_AL hown hE.K hP h1 rfl 2 (by decide) (hts _ tw_128) (fun x9 h9 => u_same (hts _ tw_129) x9 h9) rfl dd_AL_clear_2 ?_
  refine lv_iconst (v := nI 1) hx hb dd_AL_clear_5 (by decide +kernel) ?_
  refine lv_iadd hx hb dd_AL_clear_6 ?_
  refine lv_topi (fun x1 ex1 => ?_)
  refine hm_put (ci := 9) (v := .int x1) (ty := .int) (C := rn_AL) (T := ft_AL) (N := 3) hx hb hts fi_AL fy_AL fo_AL fn_AL hown hE.K hP hS hA_a h1 rfl 2 (by decide) (hts _ tw_128) (fun x9 h9 => u_same (hts _ tw_129) x9 h9) rfl (by decide +kernel) rfl rfl (Nat.le_of_ble_eq_true rfl) dd_AL_clear_7 (fun H locs hP hS => ?_)
  have hP : hm_P D cl_W (hm_up M a (.inr (9, [.ref d, .int (nI xs.length), .int x1]))) H := hP
  obtain ⟨M2, eM2⟩ : ∃ z, z = hm_up M a (.inr (9, [.ref d, .int (nI xs.length), .int x1])) := ⟨_, rfl⟩
  rw [← eM2] at hP
  have f3 : M2 d = some (.inl (D.1 104, n, .inr (.inr (.inr (.inr f))))) := by rw [eM2]; exact hm_up_o (hm_ne h2 h1 (by intro h9; cases h9)) h2
  have f4 : M2 a = some (.inr (9, [.ref d, .int (nI xs.length), .int x1])) := by rw [eM2]; exact hm_up_s
  refine lv_aload_n hx hb dd_AL_clear_10 rfl (lv_at hl 0 rfl) ?_
  refine hm_get (ci := 9) (C := rn_AL) (T := ft_AL) (N := 3) hx hb hts fi_AL hown hE.K hP f4 rfl 0 (by decide) (hts _ tw_125) (fun _ h9 => h9) rfl dd_AL_clear_11 ?_
  refine lv_astore_n (lv' := [(1, .ref d), (0, .ref a)]) hx hb dd_AL_clear_14 rfl hl (by decide) rfl (fun ls hl => ?_)
  refine lv_aload_n hx hb dd_AL_clear_15 rfl (lv_at hl 1 rfl) ?_
  refine hm_get (ci := 9) (C := rn_AL) (T := ft_AL) (N := 3) hx hb hts fi_AL hown hE.K hP f4 rfl 1 (by decide) (hts _ tw_126) (fun _ h9 => h9) rfl dd_AL_clear_16 ?_
  refine lv_istore_n (lv' := [(2, .int (nI xs.length)), (1, .ref d), (0, .ref a)]) hx hb dd_AL_clear_19 rfl hl (by decide) rfl (fun ls hl => ?_)
  refine lv_aload_n hx hb dd_AL_clear_20 rfl (lv_at hl 2 rfl) ?_
  refine lv_iconst (v := nI 0) hx hb dd_AL_clear_21 (by decide +kernel) ?_
  refine lv_dup_x1 hx hb dd_AL_clear_22 rfl rfl ?_
  refine hm_put (ci := 9) (v := .int (nI 0)) (ty := .int) (C := rn_AL) (T := ft_AL) (N := 3) hx hb hts fi_AL fy_AL fo_AL fn_AL hown hE.K hP hS hA_a f4 rfl 1 (by decide) (hts _ tw_126) (fun _ h9 => h9) rfl (by decide +kernel) rfl rfl (Nat.le_of_ble_eq_true rfl) dd_AL_clear_23 (fun H locs hP hS => ?_)
  have hP : hm_P D cl_W (hm_up M2 a (.inr (9, [.ref d, .int (nI 0), .int x1]))) H := hP
  obtain ⟨M5, eM5⟩ : ∃ z, z = hm_up M2 a (.inr (9, [.ref d, .int (nI 0), .int x1])) := ⟨_, rfl⟩
  rw [← eM5] at hP
  have f6 : M5 d = some (.inl (D.1 104, n, .inr (.inr (.inr (.inr f))))) := by rw [eM5]; exact hm_up_o (hm_ne f3 f4 (by intro h9; cases h9)) f3
  have f7 : M5 a = some (.inr (9, [.ref d, .int (nI 0), .int x1])) := by rw [eM5]; exact hm_up_s
  refine lv_istore_n (lv' := [(3, .int (nI 0)), (2, .int (nI xs.length)), (1, .ref d), (0, .ref a)]) hx hb dd_AL_clear_26 rfl hl (by decide) rfl (fun ls hl => ?_)
  have lp27 : ∀ (n9 : Nat) (k : Nat) (M9 : hm_M) (f9 : Nat → Option Nat) (mo9 : Int32), (k ≤ xs.length) → (M9 a = some (.inr (9, [.ref d, .int (nI 0), .int mo9]))) → (M9 d = some (.inl (D.1 104, n, .inr (.inr (.inr (.inr f9)))))) → (∀ j, f9 j = if j < k then none else xs[j]?) → (∀ q e, M q = some e → q ≠ a → (q = d → d = G 0) → M9 q = some e) → xs.length - k < n9 → ∀ (H : Heap) (locs : List Loc) (ls : Array Slot), hm_P D cl_W M9 H → va_S (hm_A B) s.heap H locs → lv_has ls 4 [(0, .ref a), (1, .ref d), (2, .int (nI xs.length)), (3, .int (nI k))] → W p l e R s m ([.ref a] : List Value).toArray below meth c H locs (0) (0) (MQ below (hm_Nv B D (fun M1 => al_D B D G M1 ci a d [] ∧ (∀ q e, M q = some e → q ≠ a → (q = d → d = G 0) → M1 q = some e))) ([.ref a] : List Value).toArray s (0) (0) (hm_A B)) (F0 m 27 ls []) := by
    intro n9
    induction n9 with
    | zero => intro k M9 f9 mo9 hk g1 g2 g3 g4 hm; exact absurd hm (Nat.not_lt_zero _)
    | succ n9 ih27 =>
      intro k M9 f9 mo9 hk g1 g2 g3 g4 hm H locs ls hP hS hl
      refine lv_iload_n hx hb dd_AL_clear_27 rfl (lv_at hl 3 rfl) ?_
      refine lv_iload_n hx hb dd_AL_clear_28 rfl (lv_at hl 2 rfl) ?_
      refine hn_icmp_ge (tgt := 42) hx hb (by omega) (by omega) dd_AL_clear_29 (by decide) (fun c8 => ?_) (fun c8 => ?_)
      · exact hm_Ev hx hb hr hS hP (⟨⟨n, f9, mo9, g1, g2, fun j => by
            rw [g3 j]
            by_cases h9 : j < k
            · rw [if_pos h9]; rfl
            · rw [if_neg h9, List.getElem?_eq_none (by omega)]; rfl, Nat.zero_le _, h5, fun y hy => absurd hy List.not_mem_nil, h7⟩, g4⟩) hlocks (by omega) (by omega) dd_AL_clear_42
      · have hdB : 0 < n ∧ B ≤ d ∧ d ≠ G 0 := h7.resolve_left (fun h9 => by omega)
        have hA_d : hm_A B d := hdB.2.1
        refine lv_aload_n hx hb dd_AL_clear_32 rfl (lv_at hl 1 rfl) ?_
        refine lv_iload_n hx hb dd_AL_clear_33 rfl (lv_at hl 3 rfl) ?_
        refine lv_null hx hb dd_AL_clear_34 ?_
        refine hm_aastN (j := k) hx hb hE.K hP hS hA_d 4 g2 rfl (vp_in_nI (by omega) (by omega)) (nI_clamp (by omega)) dd_AL_clear_35 (fun H locs hP hS => ?_)
        obtain ⟨M9, eM9⟩ : ∃ z, z = hm_up M9 d (.inl (D.1 104, n, .inr (.inr (.inr (.inr (va_up f9 k none)))))) := ⟨_, rfl⟩
        rw [← eM9] at hP
        have f10 : M9 a = some (.inr (9, [.ref d, .int (nI 0), .int mo9])) := by rw [eM9]; exact hm_up_o (hm_ne g1 g2 (by intro h9; cases h9)) g1
        have f11 : M9 d = some (.inl (D.1 104, n, .inr (.inr (.inr (.inr (va_up f9 k none)))))) := by rw [eM9]; exact hm_up_s
        refine lv_iinc (v := nI (k + 1)) (lv' := [(3, .int (nI (k + 1))), (0, .ref a), (1, .ref d), (2, .int (nI xs.length))]) hx hb dd_AL_clear_36 hl (k := 3) rfl (nI_1 k) (by decide) rfl (fun ls hl => ?_)
        refine lv_goto (tgt := 27) hx hb dd_AL_clear_39 (by decide) ?_
        exact ih27 (k + 1) M9 (va_up f9 k none) mo9 (by omega) (f10) (f11) (fun j => by
            unfold va_up
            split
            · rw [if_pos (by omega)]
            · rw [g3 j]
              by_cases h9 : j < k
              · rw [if_pos h9, if_pos (by omega)]
              · rw [if_neg h9, if_neg (by omega)]) (fun q e h9 h8 h10 => by
            rw [eM9]
            exact hm_up_o (fun h11 => hdB.2.2 (h10 h11)) (g4 q e h9 h8 h10)) (by omega) _ _ _ hP hS (lv_sub hl [1, 2, 3, 0] rfl)
  have kk12 : hm_k M M [a] := hm_krf
  have kk13 : hm_k M M2 [a] := hm_ku kk12 (Or.inr (by simp)) eM2
  have kk14 : hm_k M M5 [a] := hm_ku kk13 (Or.inr (by simp)) eM5
  exact lp27 _ 0 M5 f x1 (Nat.zero_le _) (f7) (f6) (fun j => by rw [if_neg (Nat.not_lt_zero _)]; exact h3 j) (fun q e h9 h8 _ => kk14 q e h9 (hm_n1 h8)) (Nat.lt_succ_self _) _ _ _ hP hS (lv_sub hl [3, 2, 1, 0] rfl)
