/-! what is kept; the StringBuilder -/
def hm_k (M M1 : hm_M) (S : List Nat) : Prop := ∀ (q : Nat) (e : va_E), M q = some e → q ∉ S → M1 q = some e
theorem hm_krf {M : hm_M} {S : List Nat} : hm_k M M S := fun _ _ h _ => h
theorem hm_kn0 {M M1 : hm_M} {S : List Nat} {q : Nat} (h : hm_k M M1 S) (hq : M1 q = none) : M q = none ∨ q ∈ S := by
  by_cases hs : q ∈ S
  · exact Or.inr hs
  · refine Or.inl ?_
    cases hm : M q with
    | none => rfl
    | some e => rw [h q e hm hs] at hq; cases hq
theorem hm_kn {M M1 M2 : hm_M} {S : List Nat} {q : Nat} {x : va_E} (h : hm_k M M1 S) (hq : M1 q = none) (e : M2 = hm_up M1 q x) : hm_k M M2 S := fun z y hz hs => by
  rw [e]; exact hm_up_o (hm_neN (h z y hz hs) hq) (h z y hz hs)
theorem hm_ku {M M1 M2 : hm_M} {S : List Nat} {q : Nat} {x : va_E} (h : hm_k M M1 S) (hq : M q = none ∨ q ∈ S) (e : M2 = hm_up M1 q x) : hm_k M M2 S := fun z y hz hs => by
  rw [e]; exact hm_up_o (fun e2 => by
    subst e2
    rcases hq with hq | hq
    · rw [hq] at hz; cases hz
    · exact hs hq) (h z y hz hs)
theorem hm_kt {M M1 M2 : hm_M} {S S2 : List Nat} (h : hm_k M M1 S) (h2 : hm_k M1 M2 S2) (hs : ∀ x ∈ S2, M x = none ∨ x ∈ S) : hm_k M M2 S := fun z y hz hn => h2 z y (h z y hz hn) (fun hm => by
  rcases hs z hm with hq | hq
  · rw [hq] at hz; cases hz
  · exact hn hq)
theorem hm_a0 {P : Nat → Prop} : ∀ x ∈ ([] : List Nat), P x := fun _ h => by cases h
theorem hm_a1 {P : Nat → Prop} {a : Nat} (h : P a) : ∀ x ∈ [a], P x := fun x hx => by rw [List.mem_singleton.mp hx]; exact h
theorem hm_a2 {P : Nat → Prop} {a b : Nat} (h : P a) (h2 : P b) : ∀ x ∈ [a, b], P x := fun x hx => by
  rcases List.mem_cons.mp hx with e | e
  · rw [e]; exact h
  · exact hm_a1 h2 x e
theorem hm_a3 {P : Nat → Prop} {a b c : Nat} (h : P a) (h2 : P b) (h3 : P c) : ∀ x ∈ [a, b, c], P x := fun x hx => by
  rcases List.mem_cons.mp hx with e | e
  · rw [e]; exact h
  · exact hm_a2 h2 h3 x e
theorem hm_n0 {q : Nat} : q ∉ ([] : List Nat) := List.not_mem_nil
theorem hm_n1 {q a : Nat} (h : q ≠ a) : q ∉ [a] := fun e => h (List.mem_singleton.mp e)
theorem hm_n2 {q a b : Nat} (h : q ≠ a) (h2 : q ≠ b) : q ∉ [a, b] := fun e => by
  rcases List.mem_cons.mp e with e | e
  · exact h e
  · exact hm_n1 h2 e
theorem hm_n3 {q a b c : Nat} (h : q ≠ a) (h2 : q ≠ b) (h3 : q ≠ c) : q ∉ [a, b, c] := fun e => by
  rcases List.mem_cons.mp e with e | e
  · exact h e
  · exact hm_n2 h2 h3 e
def sb_C (B : Nat) (D : va_G) (M : hm_M) (a v mm : Nat) (f : Nat → Int32) (ml : Nat) (t : List Nat) : Prop := M a = some (.inr (7, [.ref v, .int (nI 0), .int (nI ml), .int (nI t.length)])) ∧ M v = some (.inl (D.1 100, mm, .inl f)) ∧ by_F mm f ∧ (∀ j, j < t.length → f j = nI (t.getD j 0)) ∧ t.length ≤ mm ∧ mm ≤ 98 ∧ (∀ c ∈ t, c < 128) ∧ B ≤ a ∧ B ≤ v
def sb_T (B : Nat) (D : va_G) (M : hm_M) (a v : Nat) (t : List Nat) : Prop := ∃ (mm : Nat) (f : Nat → Int32) (ml : Nat), sb_C B D M a v mm f ml t
theorem by_i2b : ∀ c, c < 128 → (nI c).toInt8.toInt32 = nI c := by decide +kernel

theorem hi_big2 : (2147483647 : Int32).toInt = 2147483647 := by decide
set_option maxHeartbeats 4000000 in
set_option maxRecDepth 100000 in
theorem kc_AB_init (l : Launch) (B : Nat) (D : va_G) (G : Nat → Nat) (M : hm_M) (a : Nat) (ha : M a = some (.inr (7, [.null, .int (nI 0), .int (nI 0), .int (nI 0)]))) (hA_a : hm_A B a) : Met l yy_AB_init ws_AB_init ({ frames := 1, cells := 1, slots := 100, locals := 12 }) (hm_Pc B D G M [.ref a, .int (nI 16)]) (hm_Nv B D (fun M1 => ∃ v, sb_T B D M1 a v [] ∧ M v = none ∧ hm_k M M1 [a])) (1) (100) (hm_A B) := by
  refine Met.ofW (cc := cd_AB_init) (maxL := 2) (ret := none) (by decide) rfl ?_
  intro p e s m args below meth c s₁ B0 hml hv
  obtain ⟨rfl, hE, hP⟩ := hv
  have hx := B0.exec
  have hb := B0.bytes
  have hr := B0.returns
  have hts : ∀ w ∈ tb_G, w.before _ s = true := fun w h => atoms_spec (ws := ws_AB_init) B0.pre w (List.mem_cons_of_mem _ h)
  have hown : s.vm.findClass "java/lang/AbstractStringBuilder" = some m.cls := findClass_of_methodNamed B0.named
  have hlocks := B0.notSynchronized
  have hRf : (headSpec ws_AB_init { frames := 1, cells := 1, slots := 100, locals := 12 }).room.frames = 1 := rfl
  have hRl : (headSpec ws_AB_init { frames := 1, cells := 1, slots := 100, locals := 12 }).room.locals = 12 := rfl
  have hRc : (headSpec ws_AB_init { frames := 1, cells := 1, slots := 100, locals := 12 }).room.cells = 1 := rfl
  have hRs : (headSpec ws_AB_init { frames := 1, cells := 1, slots := 100, locals := 12 }).room.slots = 100 := rfl
  generalize (headSpec ws_AB_init { frames := 1, cells := 1, slots := 100, locals := 12 }).room = R at hRf hRl hRc hRs ⊢
  have hin : meth.name = "<init>" := (name_of_methodNamed B0.named B0.method).1
  have hS : va_S (hm_A B) s.heap s.heap [] := va_S.rf
  have hl := lv_entry ([.ref a, .int (nI 16)]) (n := 2) (Nat.le_of_ble_eq_true rfl)
  rw [lg_entry_eq]
  generalize (lg_sl ([.ref a, .int (nI 16)]) ++ List.replicate (2 - (lg_sl ([.ref a, .int (nI 16)])).length) Slot.unset).toArray = ls at hl ⊢
  have hl : lv_has ls 2 [(0, .ref a), (1, .int (nI 16))] := hl
  refine lv_aload_n hx hb dd_AB_init_0 rfl (lv_at hl 0 rfl) ?_
  refine W.objInit hx hb hown (hts _ tw_84) (hts _ tw_74) (hts _ tw_75) rfl (by rw [hml]; exact hl.1) rfl dd_AB_init_1 (by omega) (by rw [hRl]; exact Nat.le_of_ble_eq_true rfl) ?_
  refine W.eq (g2 := F0 m 4 ls []) rfl ?_
  refine va_gets hx hb hE.2.2.2.2.1 hS hown (hts _ tw_85) (fun _ h9 => h9) dd_AB_init_4 ?_
  refine hn_if_eq (tgt := 25) hx hb (by omega) dd_AB_init_7 (by decide) (fun c1 => absurd c1 (by omega)) (fun c1 => ?_)
  refine lv_aload_n hx hb dd_AB_init_10 rfl (lv_at hl 0 rfl) ?_
  refine lv_iload_n hx hb dd_AB_init_11 rfl (lv_at hl 1 rfl) ?_
  refine hm_newa (atype := .byte) (ty := .byte) (N' := 16) (a0 := (16, .inl (fun _ => 0))) hx hb (hts _ tw_108) rfl hE.K hP hS 0 rfl (fun _ h9 => by cases h9) rfl (nI_pos (by omega)) (nI_clamp (by omega)) (by show _ * _ ≤ _; simp only [componentBytes]; omega) (by omega) (by omega) dd_AB_init_12 (fun q2 H hB_q2 hn_q2 hP hS => ?_)
  have hA_q2 : hm_A B q2 := Nat.le_trans hE.2.1 hB_q2
  obtain ⟨M3, eM3⟩ : ∃ z, z = hm_up M q2 (.inl (D.1 100, 16, .inl (fun _ => 0))) := ⟨_, rfl⟩
  rw [← eM3] at hP
  have ne4 : a ≠ q2 := hm_neN ha hn_q2
  have f5 : M3 a = some (.inr (7, [.null, .int (nI 0), .int (nI 0), .int (nI 0)])) := by rw [eM3]; exact hm_up_o ne4 ha
  have f6 : M3 q2 = some (.inl (D.1 100, 16, .inl (fun _ => 0))) := by rw [eM3]; exact hm_up_s
  refine W.widen (k := 1) (n := 16) (by omega) (by omega) ?_
  refine hm_put (ci := 7) (v := .ref q2) (ty := .array .byte) (C := rn_SB) (T := ft_SB) (N := 4) hx hb hts fi_SB fy_SB fo_SB fn_SB hown hE.K hP hS hA_a f5 rfl 0 (by decide) (hts _ tw_94) (fun _ h9 => h9) rfl (by decide +kernel) rfl rfl (Nat.le_of_ble_eq_true rfl) dd_AB_init_14 (fun H locs hP hS => ?_)
  have hP : hm_P D cl_W (hm_up M3 a (.inr (7, [.ref q2, .int (nI 0), .int (nI 0), .int (nI 0)]))) H := hP
  obtain ⟨M7, eM7⟩ : ∃ z, z = hm_up M3 a (.inr (7, [.ref q2, .int (nI 0), .int (nI 0), .int (nI 0)])) := ⟨_, rfl⟩
  rw [← eM7] at hP
  have f8 : M7 q2 = some (.inl (D.1 100, 16, .inl (fun _ => 0))) := by rw [eM7]; exact hm_up_o (Ne.symm ne4) f6
  have f9 : M7 a = some (.inr (7, [.ref q2, .int (nI 0), .int (nI 0), .int (nI 0)])) := by rw [eM7]; exact hm_up_s
  refine lv_aload_n hx hb dd_AB_init_17 rfl (lv_at hl 0 rfl) ?_
  refine lv_iconst (v := nI 0) hx hb dd_AB_init_18 (by decide +kernel) ?_
  refine hm_put (ci := 7) (v := .int (nI 0)) (ty := .byte) (C := rn_SB) (T := ft_SB) (N := 4) hx hb hts fi_SB fy_SB fo_SB fn_SB hown hE.K hP hS hA_a f9 rfl 1 (by decide) (hts _ tw_95) (fun _ h9 => h9) rfl (by decide +kernel) rfl rfl (Nat.le_of_ble_eq_true rfl) dd_AB_init_19 (fun H locs hP hS => ?_)
  have hP : hm_P D cl_W (hm_up M7 a (.inr (7, [.ref q2, .int (nI 0), .int (nI 0), .int (nI 0)]))) H := hP
  obtain ⟨M10, eM10⟩ : ∃ z, z = hm_up M7 a (.inr (7, [.ref q2, .int (nI 0), .int (nI 0), .int (nI 0)])) := ⟨_, rfl⟩
  rw [← eM10] at hP
  have f11 : M10 q2 = some (.inl (D.1 100, 16, .inl (fun _ => 0))) := by rw [eM10]; exact hm_up_o (Ne.symm ne4) f8
  have f12 : M10 a = some (.inr (7, [.ref q2, .int (nI 0), .int (nI 0), .int (nI 0)])) := by rw [eM10]; exact hm_up_s
  refine lv_goto (tgt := 38) hx hb dd_AB_init_22 (by decide) ?_
  have kk13 : hm_k M M [a] := hm_krf
  have ko15 := hm_kn0 kk13 hn_q2
  have kk14 : hm_k M M3 [a] := hm_kn kk13 hn_q2 eM3
  have kk16 : hm_k M M7 [a] := hm_ku kk14 (Or.inr (by simp)) eM7
  have kk17 : hm_k M M10 [a] := hm_ku kk16 (Or.inr (by simp)) eM10
  exact hm_Ev hx hb hr hS hP (⟨q2, ⟨16, fun _ => 0, 0, f12, f11, by_F0, fun j hj => absurd hj (Nat.not_lt_zero _), by decide, by decide, fun c hc => absurd hc List.not_mem_nil, hA_a, hA_q2⟩, hn_q2, kk17⟩) hlocks (by omega) (by omega) dd_AB_init_38
set_option maxHeartbeats 4000000 in
set_option maxRecDepth 100000 in
theorem kc_SB_init (l : Launch) (B : Nat) (D : va_G) (G : Nat → Nat) (M : hm_M) (a : Nat) (ha : M a = some (.inr (7, [.null, .int (nI 0), .int (nI 0), .int (nI 0)]))) (hA_a : hm_A B a) : Met l yy_SB_init ws_SB_init ({ frames := 2, cells := 1, slots := 100, locals := 33 }) (hm_Pc B D G M [.ref a]) (hm_Nv B D (fun M1 => ∃ v, sb_T B D M1 a v [] ∧ M v = none ∧ hm_k M M1 [a])) (1) (100) (hm_A B) := by
  refine Met.ofW (cc := cd_SB_init) (maxL := 1) (ret := none) (by decide) rfl ?_
  intro p e s m args below meth c s₁ B0 hml hv
  obtain ⟨rfl, hE, hP⟩ := hv
  have hx := B0.exec
  have hb := B0.bytes
  have hr := B0.returns
  have hts : ∀ w ∈ tb_G, w.before _ s = true := fun w h => atoms_spec (ws := ws_SB_init) B0.pre w (List.mem_cons_of_mem _ h)
  have hown : s.vm.findClass "java/lang/StringBuilder" = some m.cls := findClass_of_methodNamed B0.named
  have hlocks := B0.notSynchronized
  have hRf : (headSpec ws_SB_init { frames := 2, cells := 1, slots := 100, locals := 33 }).room.frames = 2 := rfl
  have hRl : (headSpec ws_SB_init { frames := 2, cells := 1, slots := 100, locals := 33 }).room.locals = 33 := rfl
  have hRc : (headSpec ws_SB_init { frames := 2, cells := 1, slots := 100, locals := 33 }).room.cells = 1 := rfl
  have hRs : (headSpec ws_SB_init { frames := 2, cells := 1, slots := 100, locals := 33 }).room.slots = 100 := rfl
  generalize (headSpec ws_SB_init { frames := 2, cells := 1, slots := 100, locals := 33 }).room = R at hRf hRl hRc hRs ⊢
  have hin : meth.name = "<init>" := (name_of_methodNamed B0.named B0.method).1
  have hS : va_S (hm_A B) s.heap s.heap [] := va_S.rf
  have hl := lv_entry ([.ref a]) (n := 1) (Nat.le_of_ble_eq_true rfl)
  rw [lg_entry_eq]
  generalize (lg_sl ([.ref a]) ++ List.replicate (1 - (lg_sl ([.ref a])).length) Slot.unset).toArray = ls at hl ⊢
  have hl : lv_has ls 1 [(0, .ref a)] := hl
  refine lv_aload_n hx hb dd_SB_init_0 rfl (lv_at hl 0 rfl) ?_
  refine lv_bipush (v := nI 16) hx hb dd_SB_init_1 (by decide +kernel) ?_
  refine hm_cv hS (hm_rI 1 (As := [.int (nI 16)]) (rest := []) ⟨hx, hb, hml, hown, hts⟩ hE hS hP (kc_AB_init l B D G M a ha hA_a) tw_83 tw_81 tw_82 tw_37 rfl (by decide +kernel) rfl rfl ⟨by show 1 + 1 ≤ R.frames; omega, by show 8 + (2 + 11) + 12 ≤ R.locals; omega⟩ rfl hl.1 rfl (Nat.le_of_ble_eq_true rfl) dd_SB_init_3 ⟨by omega, by omega⟩) (fun M2 H locs hw3 hP hS => ?_)
  refine W.widen (k := 1) (n := 100) (by omega) (by omega) ?_
  obtain ⟨v, k1, k2, k3⟩ := hw3
  exact hm_Ev hx hb hr hS hP (⟨v, k1, k2, k3⟩) hlocks (by omega) (by omega) dd_SB_init_6
set_option maxHeartbeats 4000000 in
set_option maxRecDepth 100000 in
theorem kc_AB_length (l : Launch) (B : Nat) (D : va_G) (G : Nat → Nat) (M : hm_M) (a v mm : Nat) (f : Nat → Int32) (ml : Nat) (t : List Nat) (ht : sb_C B D M a v mm f ml t) : Met l yy_AB_length ws_AB_length ({ frames := 0, cells := 0, slots := 0, locals := 0 }) (hm_Pc B D G M [.ref a]) (hm_Ni B D (fun r M1 => r = nI t.length ∧ M1 = M)) (0) (0) (hm_A B) := by
  refine Met.ofW (cc := cd_AB_length) (maxL := 1) (ret := ((some FieldType.int))) (by decide) rfl ?_
  intro p e s m args below meth c s₁ B0 hml hv
  obtain ⟨rfl, hE, hP⟩ := hv
  have hx := B0.exec
  have hb := B0.bytes
  have hr := B0.returns
  have hts : ∀ w ∈ tb_G, w.before _ s = true := fun w h => atoms_spec (ws := ws_AB_length) B0.pre w (List.mem_cons_of_mem _ h)
  have hown : s.vm.findClass "java/lang/AbstractStringBuilder" = some m.cls := findClass_of_methodNamed B0.named
  have hlocks := B0.notSynchronized
  have hRf : (headSpec ws_AB_length { frames := 0, cells := 0, slots := 0, locals := 0 }).room.frames = 0 := rfl
  have hRl : (headSpec ws_AB_length { frames := 0, cells := 0, slots := 0, locals := 0 }).room.locals = 0 := rfl
  have hRc : (headSpec ws_AB_length { frames := 0, cells := 0, slots := 0, locals := 0 }).room.cells = 0 := rfl
  have hRs : (headSpec ws_AB_length { frames := 0, cells := 0, slots := 0, locals := 0 }).room.slots = 0 := rfl
  generalize (headSpec ws_AB_length { frames := 0, cells := 0, slots := 0, locals := 0 }).room = R at hRf hRl hRc hRs ⊢
  have hS : va_S (hm_A B) s.heap s.heap [] := va_S.rf
  have hl := lv_entry ([.ref a]) (n := 1) (Nat.le_of_ble_eq_true rfl)
  rw [lg_entry_eq]
  generalize (lg_sl ([.ref a]) ++ List.replicate (1 - (lg_sl ([.ref a])).length) Slot.unset).toArray = ls at hl ⊢
  have hl : lv_has ls 1 [(0, .ref a)] := hl
  obtain ⟨h1, h2, h3, h4, h5, h6, h7, hA_a, hA_v⟩ := id ht
  refine lv_aload_n hx hb dd_AB_length_0 rfl (lv_at hl 0 rfl) ?_
  refine hm_get (ci := 7) (C := rn_SB) (T := ft_SB) (N := 4) hx hb hts fi_SB hown hE.K hP h1 rfl 3 (by decide) (hts _ tw_98) (fun _ h9 => h9) rfl dd_AB_length_1 ?_
  exact hm_Ei (v := nI t.length) hx hb hr rfl hS hP (⟨rfl, rfl⟩) hlocks (by omega) (by omega) dd_AB_length_4
set_option maxHeartbeats 4000000 in
set_option maxRecDepth 100000 in
theorem kc_SB_length (l : Launch) (B : Nat) (D : va_G) (G : Nat → Nat) (M : hm_M) (a v mm : Nat) (f : Nat → Int32) (ml : Nat) (t : List Nat) (ht : sb_C B D M a v mm f ml t) : Met l yy_SB_length ws_SB_length ({ frames := 1, cells := 0, slots := 0, locals := 20 }) (hm_Pc B D G M [.ref a]) (hm_Ni B D (fun r M1 => r = nI t.length ∧ M1 = M)) (0) (0) (hm_A B) := by
  refine Met.ofW (cc := cd_SB_length) (maxL := 1) (ret := ((some FieldType.int))) (by decide) rfl ?_
  intro p e s m args below meth c s₁ B0 hml hv
  obtain ⟨rfl, hE, hP⟩ := hv
  have hx := B0.exec
  have hb := B0.bytes
  have hr := B0.returns
  have hts : ∀ w ∈ tb_G, w.before _ s = true := fun w h => atoms_spec (ws := ws_SB_length) B0.pre w (List.mem_cons_of_mem _ h)
  have hown : s.vm.findClass "java/lang/StringBuilder" = some m.cls := findClass_of_methodNamed B0.named
  have hlocks := B0.notSynchronized
  have hRf : (headSpec ws_SB_length { frames := 1, cells := 0, slots := 0, locals := 20 }).room.frames = 1 := rfl
  have hRl : (headSpec ws_SB_length { frames := 1, cells := 0, slots := 0, locals := 20 }).room.locals = 20 := rfl
  have hRc : (headSpec ws_SB_length { frames := 1, cells := 0, slots := 0, locals := 20 }).room.cells = 0 := rfl
  have hRs : (headSpec ws_SB_length { frames := 1, cells := 0, slots := 0, locals := 20 }).room.slots = 0 := rfl
  generalize (headSpec ws_SB_length { frames := 1, cells := 0, slots := 0, locals := 20 }).room = R at hRf hRl hRc hRs ⊢
  have hS : va_S (hm_A B) s.heap s.heap [] := va_S.rf
  have hl := lv_entry ([.ref a]) (n := 1) (Nat.le_of_ble_eq_true rfl)
  rw [lg_entry_eq]
  generalize (lg_sl ([.ref a]) ++ List.replicate (1 - (lg_sl ([.ref a])).length) Slot.unset).toArray = ls at hl ⊢
  have hl : lv_has ls 1 [(0, .ref a)] := hl
  obtain ⟨h1, h2, h3, h4, h5, h6, h7, hA_a, hA_v⟩ := id ht
  refine lv_aload_n hx hb dd_SB_length_0 rfl (lv_at hl 0 rfl) ?_
  refine hm_ci hS (hm_rSU 0 (As := []) (rest := []) ⟨hx, hb, hml, hown, hts⟩ hE hS hP (kc_AB_length l B D G M a v mm f ml t ht) rfl h1 tw_213 tw_211 tw_212 tw_1195 tw_107 tw_37 (by decide +kernel) rfl rfl ⟨by show 0 + 1 ≤ R.frames; omega, by show 8 + (1 + 11) + 0 ≤ R.locals; omega⟩ rfl hl.1 rfl (Nat.le_of_ble_eq_true rfl) dd_SB_length_1 ⟨by omega, by omega⟩) (fun r1 M2 H locs hw3 hP hS => ?_)
  refine W.widen (k := 0) (n := 0) (by omega) (by omega) ?_
  obtain ⟨rfl, eM2⟩ := hw3
  rw [eM2] at hP
  exact hm_Ei (v := nI t.length) hx hb hr rfl hS hP (⟨rfl, rfl⟩) hlocks (by omega) (by omega) dd_SB_length_4
set_option maxHeartbeats 4000000 in
set_option maxRecDepth 100000 in
theorem kc_AB_isLatin1 (l : Launch) (B : Nat) (D : va_G) (G : Nat → Nat) (M : hm_M) (a v mm : Nat) (f : Nat → Int32) (ml : Nat) (t : List Nat) (ht : sb_C B D M a v mm f ml t) : Met l yy_AB_isLatin1 ws_AB_isLatin1 ({ frames := 0, cells := 0, slots := 0, locals := 0 }) (hm_Pc B D G M [.ref a]) (hm_Ni B D (fun r M1 => r = nI 1 ∧ M1 = M)) (0) (0) (hm_A B) := by
  refine Met.ofW (cc := cd_AB_isLatin1) (maxL := 1) (ret := ((some FieldType.boolean))) (by decide) rfl ?_
  intro p e s m args below meth c s₁ B0 hml hv
  obtain ⟨rfl, hE, hP⟩ := hv
  have hx := B0.exec
  have hb := B0.bytes
  have hr := B0.returns
  have hts : ∀ w ∈ tb_G, w.before _ s = true := fun w h => atoms_spec (ws := ws_AB_isLatin1) B0.pre w (List.mem_cons_of_mem _ h)
  have hown : s.vm.findClass "java/lang/AbstractStringBuilder" = some m.cls := findClass_of_methodNamed B0.named
  have hlocks := B0.notSynchronized
  have hRf : (headSpec ws_AB_isLatin1 { frames := 0, cells := 0, slots := 0, locals := 0 }).room.frames = 0 := rfl
  have hRl : (headSpec ws_AB_isLatin1 { frames := 0, cells := 0, slots := 0, locals := 0 }).room.locals = 0 := rfl
  have hRc : (headSpec ws_AB_isLatin1 { frames := 0, cells := 0, slots := 0, locals := 0 }).room.cells = 0 := rfl
  have hRs : (headSpec ws_AB_isLatin1 { frames := 0, cells := 0, slots := 0, locals := 0 }).room.slots = 0 := rfl
  generalize (headSpec ws_AB_isLatin1 { frames := 0, cells := 0, slots := 0, locals := 0 }).room = R at hRf hRl hRc hRs ⊢
  have hS : va_S (hm_A B) s.heap s.heap [] := va_S.rf
  have hl := lv_entry ([.ref a]) (n := 1) (Nat.le_of_ble_eq_true rfl)
  rw [lg_entry_eq]
  generalize (lg_sl ([.ref a]) ++ List.replicate (1 - (lg_sl ([.ref a])).length) Slot.unset).toArray = ls at hl ⊢
  have hl : lv_has ls 1 [(0, .ref a)] := hl
  obtain ⟨h1, h2, h3, h4, h5, h6, h7, hA_a, hA_v⟩ := id ht
  refine va_gets hx hb hE.2.2.2.2.1 hS hown (hts _ tw_85) (fun _ h9 => h9) dd_AB_isLatin1_0 ?_
  refine hn_if_eq (tgt := 17) hx hb (by omega) dd_AB_isLatin1_3 (by decide) (fun c1 => absurd c1 (by omega)) (fun c1 => ?_)
  refine lv_aload_n hx hb dd_AB_isLatin1_6 rfl (lv_at hl 0 rfl) ?_
  refine hm_get (ci := 7) (C := rn_SB) (T := ft_SB) (N := 4) hx hb hts fi_SB hown hE.K hP h1 rfl 1 (by decide) (hts _ tw_95) (fun _ h9 => h9) rfl dd_AB_isLatin1_7 ?_
  refine hn_if_ne (tgt := 17) hx hb (by omega) dd_AB_isLatin1_10 (by decide) (fun c2 => absurd c2 (by omega)) (fun c2 => ?_)
  refine lv_iconst (v := nI 1) hx hb dd_AB_isLatin1_13 (by decide +kernel) ?_
  refine lv_goto (tgt := 18) hx hb dd_AB_isLatin1_14 (by decide) ?_
  exact hm_Ei (v := nI 1) hx hb hr rfl hS hP (⟨rfl, rfl⟩) hlocks (by omega) (by omega) dd_AB_isLatin1_18
set_option maxHeartbeats 4000000 in
set_option maxRecDepth 100000 in
theorem kc_AB_getValue (l : Launch) (B : Nat) (D : va_G) (G : Nat → Nat) (M : hm_M) (a v mm : Nat) (f : Nat → Int32) (ml : Nat) (t : List Nat) (ht : sb_C B D M a v mm f ml t) : Met l yy_AB_getValue ws_AB_getValue ({ frames := 0, cells := 0, slots := 0, locals := 0 }) (hm_Pc B D G M [.ref a]) (hm_Nr B D (fun r M1 => r = v ∧ M1 = M)) (0) (0) (hm_A B) := by
  refine Met.ofW (cc := cd_AB_getValue) (maxL := 1) (ret := ((some (FieldType.array FieldType.byte)))) (by decide) rfl ?_
  intro p e s m args below meth c s₁ B0 hml hv
  obtain ⟨rfl, hE, hP⟩ := hv
  have hx := B0.exec
  have hb := B0.bytes
  have hr := B0.returns
  have hts : ∀ w ∈ tb_G, w.before _ s = true := fun w h => atoms_spec (ws := ws_AB_getValue) B0.pre w (List.mem_cons_of_mem _ h)
  have hown : s.vm.findClass "java/lang/AbstractStringBuilder" = some m.cls := findClass_of_methodNamed B0.named
  have hlocks := B0.notSynchronized
  have hRf : (headSpec ws_AB_getValue { frames := 0, cells := 0, slots := 0, locals := 0 }).room.frames = 0 := rfl
  have hRl : (headSpec ws_AB_getValue { frames := 0, cells := 0, slots := 0, locals := 0 }).room.locals = 0 := rfl
  have hRc : (headSpec ws_AB_getValue { frames := 0, cells := 0, slots := 0, locals := 0 }).room.cells = 0 := rfl
  have hRs : (headSpec ws_AB_getValue { frames := 0, cells := 0, slots := 0, locals := 0 }).room.slots = 0 := rfl
  generalize (headSpec ws_AB_getValue { frames := 0, cells := 0, slots := 0, locals := 0 }).room = R at hRf hRl hRc hRs ⊢
  have hS : va_S (hm_A B) s.heap s.heap [] := va_S.rf
  have hl := lv_entry ([.ref a]) (n := 1) (Nat.le_of_ble_eq_true rfl)
  rw [lg_entry_eq]
  generalize (lg_sl ([.ref a]) ++ List.replicate (1 - (lg_sl ([.ref a])).length) Slot.unset).toArray = ls at hl ⊢
  have hl : lv_has ls 1 [(0, .ref a)] := hl
  obtain ⟨h1, h2, h3, h4, h5, h6, h7, hA_a, hA_v⟩ := id ht
  refine lv_aload_n hx hb dd_AB_getValue_0 rfl (lv_at hl 0 rfl) ?_
  refine hm_get (ci := 7) (C := rn_SB) (T := ft_SB) (N := 4) hx hb hts fi_SB hown hE.K hP h1 rfl 0 (by decide) (hts _ tw_94) (fun _ h9 => h9) rfl dd_AB_getValue_1 ?_
  exact hm_Er (v := v) hx hb hr (Or.inr ⟨_, rfl⟩) hS hP (⟨rfl, rfl⟩) hlocks (by omega) (by omega) dd_AB_getValue_4
set_option maxHeartbeats 4000000 in
set_option maxRecDepth 100000 in
theorem kc_AB_newCapacity (l : Launch) (B : Nat) (D : va_G) (G : Nat → Nat) (M : hm_M) (a v mm : Nat) (f : Nat → Int32) (ml : Nat) (t : List Nat) (ht : sb_C B D M a v mm f ml t) (q : Nat) (hq : mm < q) (hq2 : q ≤ 48) : Met l yy_AB_newCapacity ws_AB_newCapacity ({ frames := 2, cells := 0, slots := 0, locals := 47 }) (hm_Pc B D G M [.ref a, .int (nI q)]) (hm_Ni B D (fun r M1 => r = nI (mm + max (q - mm) (mm + 2)) ∧ M1 = M)) (0) (0) (hm_A B) := by
  refine Met.ofW (cc := cd_AB_newCapacity) (maxL := 6) (ret := ((some FieldType.int))) (by decide) rfl ?_
  intro p e s m args below meth c s₁ B0 hml hv
  obtain ⟨rfl, hE, hP⟩ := hv
  have hx := B0.exec
  have hb := B0.bytes
  have hr := B0.returns
  have hts : ∀ w ∈ tb_G, w.before _ s = true := fun w h => atoms_spec (ws := ws_AB_newCapacity) B0.pre w (List.mem_cons_of_mem _ h)
  have hown : s.vm.findClass "java/lang/AbstractStringBuilder" = some m.cls := findClass_of_methodNamed B0.named
  have hlocks := B0.notSynchronized
  have hRf : (headSpec ws_AB_newCapacity { frames := 2, cells := 0, slots := 0, locals := 47 }).room.frames = 2 := rfl
  have hRl : (headSpec ws_AB_newCapacity { frames := 2, cells := 0, slots := 0, locals := 47 }).room.locals = 47 := rfl
  have hRc : (headSpec ws_AB_newCapacity { frames := 2, cells := 0, slots := 0, locals := 47 }).room.cells = 0 := rfl
  have hRs : (headSpec ws_AB_newCapacity { frames := 2, cells := 0, slots := 0, locals := 47 }).room.slots = 0 := rfl
  generalize (headSpec ws_AB_newCapacity { frames := 2, cells := 0, slots := 0, locals := 47 }).room = R at hRf hRl hRc hRs ⊢
  have hS : va_S (hm_A B) s.heap s.heap [] := va_S.rf
  have hl := lv_entry ([.ref a, .int (nI q)]) (n := 6) (Nat.le_of_ble_eq_true rfl)
  rw [lg_entry_eq]
  generalize (lg_sl ([.ref a, .int (nI q)]) ++ List.replicate (6 - (lg_sl ([.ref a, .int (nI q)])).length) Slot.unset).toArray = ls at hl ⊢
  have hl : lv_has ls 6 [(0, .ref a), (1, .int (nI q))] := hl
  obtain ⟨h1, h2, h3, h4, h5, h6, h7, hA_a, hA_v⟩ := id ht
  refine lv_aload_n hx hb dd_AB_newCapacity_0 rfl (lv_at hl 0 rfl) ?_
  refine hm_get (ci := 7) (C := rn_SB) (T := ft_SB) (N := 4) hx hb hts fi_SB hown hE.K hP h1 rfl 0 (by decide) (hts _ tw_94) (fun _ h9 => h9) rfl dd_AB_newCapacity_1 ?_
  refine hm_alen (v := nI mm) hx hb hE.K hP 0 h2 rfl rfl dd_AB_newCapacity_4 ?_
  refine lv_istore_n (lv' := [(2, .int (nI mm)), (0, .ref a), (1, .int (nI q))]) hx hb dd_AB_newCapacity_5 rfl hl (by decide) rfl (fun ls hl => ?_)
  refine lv_iload_n hx hb dd_AB_newCapacity_6 rfl (lv_at hl 2 rfl) ?_
  refine lv_aload_n hx hb dd_AB_newCapacity_7 rfl (lv_at hl 1 rfl) ?_
  refine hm_get (ci := 7) (C := rn_SB) (T := ft_SB) (N := 4) hx hb hts fi_SB hown hE.K hP h1 rfl 1 (by decide) (hts _ tw_95) (fun _ h9 => h9) rfl dd_AB_newCapacity_8 ?_
  refine lv_ishl hx hb dd_AB_newCapacity_11 ?_
  refine lv_topi (fun x1 ex1 => ?_)
  obtain rfl : x1 = nI q := by rw [ex1]; exact sb_shl0 _
  refine lv_istore_n (lv' := [(3, .int (nI q)), (2, .int (nI mm)), (0, .ref a), (1, .int (nI q))]) hx hb dd_AB_newCapacity_12 rfl hl (by decide) rfl (fun ls hl => ?_)
  refine lv_iload_n hx hb dd_AB_newCapacity_13 rfl (lv_at hl 0 rfl) ?_
  refine lv_iload_n hx hb dd_AB_newCapacity_14 rfl (lv_at hl 1 rfl) ?_
  refine hn_isub hx hb (by omega) dd_AB_newCapacity_15 ?_
  refine lv_istore (lv' := [(4, .int (nI (q - mm))), (3, .int (nI q)), (2, .int (nI mm)), (0, .ref a), (1, .int (nI q))]) hx hb dd_AB_newCapacity_16 hl (by decide) rfl (fun ls hl => ?_)
  refine lv_iload_n hx hb dd_AB_newCapacity_18 rfl (lv_at hl 2 rfl) ?_
  refine lv_iload hx hb dd_AB_newCapacity_19 (lv_at hl 0 rfl) ?_
  refine lv_iload_n hx hb dd_AB_newCapacity_21 rfl (lv_at hl 2 rfl) ?_
  refine lv_iconst (v := nI 2) hx hb dd_AB_newCapacity_22 (by decide +kernel) ?_
  refine lv_aload_n hx hb dd_AB_newCapacity_23 rfl (lv_at hl 3 rfl) ?_
  refine hm_get (ci := 7) (C := rn_SB) (T := ft_SB) (N := 4) hx hb hts fi_SB hown hE.K hP h1 rfl 1 (by decide) (hts _ tw_95) (fun _ h9 => h9) rfl dd_AB_newCapacity_24 ?_
  refine lv_ishl hx hb dd_AB_newCapacity_27 ?_
  refine lv_topi (fun x2 ex2 => ?_)
  obtain rfl : x2 = nI 2 := by rw [ex2]; exact sb_shl0 _
  refine hn_iadd hx hb dd_AB_newCapacity_28 ?_
  refine hm_ci hS (hm_rS 3 (As := [.int (nI mm), .int (nI (q - mm)), .int (nI (mm + 2))]) (rest := []) ⟨hx, hb, hml, hown, hts⟩ hE hS hP (kc_AS_newLength l B D G M mm (q - mm) (mm + 2) (by omega) (by omega) (by omega) (by omega)) tw_234 tw_232 tw_233 tw_47 (by decide +kernel) rfl rfl ⟨by show 1 + 1 ≤ R.frames; omega, by show 8 + (4 + 11) + 24 ≤ R.locals; omega⟩ rfl hl.1 rfl (Nat.le_of_ble_eq_true rfl) dd_AB_newCapacity_29 ⟨by omega, by omega⟩) (fun r3 M4 H locs hw5 hP hS => ?_)
  refine W.widen (k := 0) (n := 0) (by omega) (by omega) ?_
  obtain ⟨rfl, eM4⟩ := hw5
  rw [eM4] at hP
  refine lv_istore (lv' := [(5, .int (nI (mm + max (q - mm) (mm + 2)))), (4, .int (nI (q - mm))), (3, .int (nI q)), (2, .int (nI mm)), (0, .ref a), (1, .int (nI q))]) hx hb dd_AB_newCapacity_32 hl (by decide) rfl (fun ls hl => ?_)
  refine lv_iload hx hb dd_AB_newCapacity_34 (lv_at hl 0 rfl) ?_
  refine lv_ldc (v := 2147483647) hx hb hown (hts _ tw_242) dd_AB_newCapacity_36 ?_
  refine hi_icmp_ne (tgt := 51) hx hb dd_AB_newCapacity_38 (by decide) (fun c6 => ?_) (fun c6 => absurd c6 (by rw [nI_toInt (by omega), hi_big2]; omega))
  refine lv_iload hx hb dd_AB_newCapacity_51 (lv_at hl 0 rfl) ?_
  refine lv_aload_n hx hb dd_AB_newCapacity_53 rfl (lv_at hl 4 rfl) ?_
  refine hm_get (ci := 7) (C := rn_SB) (T := ft_SB) (N := 4) hx hb hts fi_SB hown hE.K hP h1 rfl 1 (by decide) (hts _ tw_95) (fun _ h9 => h9) rfl dd_AB_newCapacity_54 ?_
  refine lv_ishr hx hb dd_AB_newCapacity_57 ?_
  refine lv_topi (fun x7 ex7 => ?_)
  obtain rfl : x7 = nI (mm + max (q - mm) (mm + 2)) := by rw [ex7]; exact sb_shr0 _
  exact hm_Ei (v := nI (mm + max (q - mm) (mm + 2))) hx hb hr rfl hS hP (⟨rfl, rfl⟩) hlocks (by omega) (by omega) dd_AB_newCapacity_58
set_option maxHeartbeats 4000000 in
set_option maxRecDepth 100000 in
theorem kc_AB_ensure (l : Launch) (B : Nat) (D : va_G) (G : Nat → Nat) (M : hm_M) (a v mm : Nat) (f : Nat → Int32) (ml : Nat) (t : List Nat) (ht : sb_C B D M a v mm f ml t) (q : Nat) (hq2 : q ≤ 48) : Met l yy_AB_ensureCapacityInternal ws_AB_ensureCapacityInternal ({ frames := 3, cells := 1, slots := 100, locals := 72 }) (hm_Pc B D G M [.ref a, .int (nI q)]) (hm_Nv B D (fun M1 => ∃ v1 m1 f1, sb_C B D M1 a v1 m1 f1 ml t ∧ q ≤ m1 ∧ (v1 = v ∨ M v1 = none) ∧ hm_k M M1 [a])) (1) (100) (hm_A B) := by
  refine Met.ofW (cc := cd_AB_ensureCapacityInternal) (maxL := 3) (ret := none) (by decide) rfl ?_
  intro p e s m args below meth c s₁ B0 hml hv
  obtain ⟨rfl, hE, hP⟩ := hv
  have hx := B0.exec
  have hb := B0.bytes
  have hr := B0.returns
  have hts : ∀ w ∈ tb_G, w.before _ s = true := fun w h => atoms_spec (ws := ws_AB_ensureCapacityInternal) B0.pre w (List.mem_cons_of_mem _ h)
  have hown : s.vm.findClass "java/lang/AbstractStringBuilder" = some m.cls := findClass_of_methodNamed B0.named
  have hlocks := B0.notSynchronized
  have hRf : (headSpec ws_AB_ensureCapacityInternal { frames := 3, cells := 1, slots := 100, locals := 72 }).room.frames = 3 := rfl
  have hRl : (headSpec ws_AB_ensureCapacityInternal { frames := 3, cells := 1, slots := 100, locals := 72 }).room.locals = 72 := rfl
  have hRc : (headSpec ws_AB_ensureCapacityInternal { frames := 3, cells := 1, slots := 100, locals := 72 }).room.cells = 1 := rfl
  have hRs : (headSpec ws_AB_ensureCapacityInternal { frames := 3, cells := 1, slots := 100, locals := 72 }).room.slots = 100 := rfl
  generalize (headSpec ws_AB_ensureCapacityInternal { frames := 3, cells := 1, slots := 100, locals := 72 }).room = R at hRf hRl hRc hRs ⊢
  have hS : va_S (hm_A B) s.heap s.heap [] := va_S.rf
  have hl := lv_entry ([.ref a, .int (nI q)]) (n := 3) (Nat.le_of_ble_eq_true rfl)
  rw [lg_entry_eq]
  generalize (lg_sl ([.ref a, .int (nI q)]) ++ List.replicate (3 - (lg_sl ([.ref a, .int (nI q)])).length) Slot.unset).toArray = ls at hl ⊢
  have hl : lv_has ls 3 [(0, .ref a), (1, .int (nI q))] := hl
  obtain ⟨h1, h2, h3, h4, h5, h6, h7, hA_a, hA_v⟩ := id ht
  refine lv_aload_n hx hb dd_AB_ensureCapacityInternal_0 rfl (lv_at hl 0 rfl) ?_
  refine hm_get (ci := 7) (C := rn_SB) (T := ft_SB) (N := 4) hx hb hts fi_SB hown hE.K hP h1 rfl 0 (by decide) (hts _ tw_94) (fun _ h9 => h9) rfl dd_AB_ensureCapacityInternal_1 ?_
  refine hm_alen (v := nI mm) hx hb hE.K hP 0 h2 rfl rfl dd_AB_ensureCapacityInternal_4 ?_
  refine lv_aload_n hx hb dd_AB_ensureCapacityInternal_5 rfl (lv_at hl 0 rfl) ?_
  refine hm_get (ci := 7) (C := rn_SB) (T := ft_SB) (N := 4) hx hb hts fi_SB hown hE.K hP h1 rfl 1 (by decide) (hts _ tw_95) (fun _ h9 => h9) rfl dd_AB_ensureCapacityInternal_6 ?_
  refine lv_ishr hx hb dd_AB_ensureCapacityInternal_9 ?_
  refine lv_topi (fun x1 ex1 => ?_)
  obtain rfl : x1 = nI mm := by rw [ex1]; exact sb_shr0 _
  refine lv_istore_n (lv' := [(2, .int (nI mm)), (0, .ref a), (1, .int (nI q))]) hx hb dd_AB_ensureCapacityInternal_10 rfl hl (by decide) rfl (fun ls hl => ?_)
  refine lv_iload_n hx hb dd_AB_ensureCapacityInternal_11 rfl (lv_at hl 2 rfl) ?_
  refine lv_iload_n hx hb dd_AB_ensureCapacityInternal_12 rfl (lv_at hl 0 rfl) ?_
  refine lv_isub hx hb dd_AB_ensureCapacityInternal_13 ?_
  refine lv_topi (fun x2 ex2 => ?_)
  refine hi_if_le (tgt := 38) hx hb dd_AB_ensureCapacityInternal_14 (by decide) (fun c3 => ?_) (fun c3 => ?_)
  · have c1 : ¬ mm < q := fun h9 => by
      rw [ex2, hi_sub (by rw [nI_toInt (by omega), nI_toInt (by omega)]; omega) (by rw [nI_toInt (by omega), nI_toInt (by omega)]; omega), nI_toInt (by omega), nI_toInt (by omega)] at c3
      omega
    exact hm_Ev hx hb hr hS hP (⟨v, mm, f, ht, by omega, Or.inl rfl, hm_krf⟩) hlocks (by omega) (by omega) dd_AB_ensureCapacityInternal_38
  · have c1 : mm < q := by
      rw [ex2, hi_sub (by rw [nI_toInt (by omega), nI_toInt (by omega)]; omega) (by rw [nI_toInt (by omega), nI_toInt (by omega)]; omega), nI_toInt (by omega), nI_toInt (by omega)] at c3
      omega
    refine lv_aload_n hx hb dd_AB_ensureCapacityInternal_17 rfl (lv_at hl 1 rfl) ?_
    refine lv_aload_n hx hb dd_AB_ensureCapacityInternal_18 rfl (lv_at hl 1 rfl) ?_
    refine hm_get (ci := 7) (C := rn_SB) (T := ft_SB) (N := 4) hx hb hts fi_SB hown hE.K hP h1 rfl 0 (by decide) (hts _ tw_94) (fun _ h9 => h9) rfl dd_AB_ensureCapacityInternal_19 ?_
    refine lv_aload_n hx hb dd_AB_ensureCapacityInternal_22 rfl (lv_at hl 1 rfl) ?_
    refine lv_iload_n hx hb dd_AB_ensureCapacityInternal_23 rfl (lv_at hl 2 rfl) ?_
    refine hm_ci hS (hm_rV 1 (As := [.int (nI q)]) (rest := [.ref v, .ref a]) ⟨hx, hb, hml, hown, hts⟩ hE hS hP (kc_AB_newCapacity l B D G M a v mm f ml t ht q c1 hq2) rfl h1 tw_231 tw_228 tw_230 tw_90001 tw_37 (by decide +kernel) rfl rfl ⟨by show 2 + 1 ≤ R.frames; omega, by show 8 + (6 + 11) + 47 ≤ R.locals; omega⟩ rfl hl.1 rfl (Nat.le_of_ble_eq_true rfl) dd_AB_ensureCapacityInternal_24 ⟨by omega, by omega⟩) (fun r4 M5 H locs hw6 hP hS => ?_)
    refine W.widen (k := 0) (n := 0) (by omega) (by omega) ?_
    obtain ⟨rfl, eM5⟩ := hw6
    rw [eM5] at hP
    refine lv_aload_n hx hb dd_AB_ensureCapacityInternal_27 rfl (lv_at hl 1 rfl) ?_
    refine hm_get (ci := 7) (C := rn_SB) (T := ft_SB) (N := 4) hx hb hts fi_SB hown hE.K hP h1 rfl 1 (by decide) (hts _ tw_95) (fun _ h9 => h9) rfl dd_AB_ensureCapacityInternal_28 ?_
    refine lv_ishl hx hb dd_AB_ensureCapacityInternal_31 ?_
    refine lv_topi (fun x7 ex7 => ?_)
    obtain rfl : x7 = nI (mm + max (q - mm) (mm + 2)) := by rw [ex7]; exact sb_shl0 _
    refine hm_cr hS (hm_rS 2 (As := [.ref v, .int (nI (mm + max (q - mm) (mm + 2)))]) (rest := [.ref a]) ⟨hx, hb, hml, hown, hts⟩ hE hS hP (kc_AR_copyOf0 l B D G M v mm f h2 h3 (by omega) hA_v (mm + max (q - mm) (mm + 2)) (by omega)) tw_245 tw_243 tw_244 tw_49 (by decide +kernel) rfl rfl ⟨by show 1 + 1 ≤ R.frames; omega, by show 8 + (3 + 11) + 40 ≤ R.locals; omega⟩ rfl hl.1 rfl (Nat.le_of_ble_eq_true rfl) dd_AB_ensureCapacityInternal_32 ⟨by omega, by omega⟩) (fun r8 M9 H locs hw10 hP hS => ?_)
    refine W.widen (k := 1) (n := 100) (by omega) (by omega) ?_
    obtain ⟨g, k1, k2, eM9, k3, k4⟩ := hw10
    have hA_r8 : hm_A B r8 := k2
    have ne11 : a ≠ r8 := hm_neN h1 k1
    have f12 : M9 a = some (.inr (7, [.ref v, .int (nI 0), .int (nI ml), .int (nI t.length)])) := by rw [eM9]; exact hm_up_o ne11 h1
    have ne13 : v ≠ r8 := hm_neN h2 k1
    have f14 : M9 v = some (.inl (D.1 100, mm, .inl f)) := by rw [eM9]; exact hm_up_o ne13 h2
    have f15 : M9 r8 = some (.inl (D.1 100, mm + max (q - mm) (mm + 2), .inl g)) := by rw [eM9]; exact hm_up_s
    refine hm_put (ci := 7) (v := .ref r8) (ty := .array .byte) (C := rn_SB) (T := ft_SB) (N := 4) hx hb hts fi_SB fy_SB fo_SB fn_SB hown hE.K hP hS hA_a f12 rfl 0 (by decide) (hts _ tw_94) (fun _ h9 => h9) rfl (by decide +kernel) rfl rfl (Nat.le_of_ble_eq_true rfl) dd_AB_ensureCapacityInternal_35 (fun H locs hP hS => ?_)
    have hP : hm_P D cl_W (hm_up M9 a (.inr (7, [.ref r8, .int (nI 0), .int (nI ml), .int (nI t.length)]))) H := hP
    obtain ⟨M16, eM16⟩ : ∃ z, z = hm_up M9 a (.inr (7, [.ref r8, .int (nI 0), .int (nI ml), .int (nI t.length)])) := ⟨_, rfl⟩
    rw [← eM16] at hP
    have f17 : M16 v = some (.inl (D.1 100, mm, .inl f)) := by rw [eM16]; exact hm_up_o (hm_ne f14 f12 (by intro h9; cases h9)) f14
    have f18 : M16 r8 = some (.inl (D.1 100, mm + max (q - mm) (mm + 2), .inl g)) := by rw [eM16]; exact hm_up_o (Ne.symm ne11) f15
    have f19 : M16 a = some (.inr (7, [.ref r8, .int (nI 0), .int (nI ml), .int (nI t.length)])) := by rw [eM16]; exact hm_up_s
    have kk20 : hm_k M M [a] := hm_krf
    have ko22 := hm_kn0 kk20 k1
    have kk21 : hm_k M M9 [a] := hm_kn kk20 k1 eM9
    have kk23 : hm_k M M16 [a] := hm_ku kk21 (Or.inr (by simp)) eM16
    exact hm_Ev hx hb hr hS hP (⟨r8, _, g, ⟨f19, f18, k3, fun j hj => by rw [k4 j (by omega) (by omega)]; exact h4 j hj, by omega, by omega, h7, hA_a, hA_r8⟩, by omega, Or.inr k1, kk23⟩) hlocks (by omega) (by omega) dd_AB_ensureCapacityInternal_38
theorem ap_get {t : List Nat} {f : Nat → Int32} {c : Nat} (h : ∀ j, j < t.length → f j = nI (t.getD j 0)) : ∀ j, j < (t ++ [c]).length → upd f t.length (nI c) j = nI ((t ++ [c]).getD j 0) := by
  intro j hj
  rw [List.length_append] at hj
  by_cases e : j = t.length
  · subst e
    simp [upd]
  · have : j < t.length := by simp only [List.length_cons, List.length_nil] at hj; omega
    rw [upd, if_neg e, h j this, List.getD_eq_getElem?_getD, List.getD_eq_getElem?_getD, List.getElem?_append_left this]
theorem ap_lt {t : List Nat} {c : Nat} (h : ∀ x ∈ t, x < 128) (hc : c < 128) : ∀ x ∈ t ++ [c], x < 128 := by
  intro x hx
  rcases List.mem_append.mp hx with e | e
  · exact h x e
  · rw [List.mem_singleton.mp e]; exact hc
set_option maxHeartbeats 4000000 in
set_option maxRecDepth 100000 in
theorem kc_AB_append (l : Launch) (B : Nat) (D : va_G) (G : Nat → Nat) (M : hm_M) (a v mm : Nat) (f : Nat → Int32) (ml : Nat) (t : List Nat) (ht : sb_C B D M a v mm f ml t) (ch : Nat) (hch : ch < 128) (hl9 : t.length ≤ 47) : Met l yy_AB_append ws_AB_append ({ frames := 4, cells := 1, slots := 100, locals := 94 }) (hm_Pc B D G M [.ref a, .int (nI ch)]) (hm_Nr B D (fun r M1 => r = a ∧ ∃ v1, sb_T B D M1 a v1 (t ++ [ch]) ∧ (v1 = v ∨ (M v1 = none ∧ hm_k M M1 [a])) ∧ hm_k M M1 [a, v])) (1) (100) (hm_A B) := by
  refine Met.ofW (cc := cd_AB_append) (maxL := 2) (ret := ((some (FieldType.object "java/lang/AbstractStringBuilder")))) (by decide) rfl ?_
  intro p e s m args below meth c s₁ B0 hml hv
  obtain ⟨rfl, hE, hP⟩ := hv
  have hx := B0.exec
  have hb := B0.bytes
  have hr := B0.returns
  have hts : ∀ w ∈ tb_G, w.before _ s = true := fun w h => atoms_spec (ws := ws_AB_append) B0.pre w (List.mem_cons_of_mem _ h)
  have hown : s.vm.findClass "java/lang/AbstractStringBuilder" = some m.cls := findClass_of_methodNamed B0.named
  have hlocks := B0.notSynchronized
  have hRf : (headSpec ws_AB_append { frames := 4, cells := 1, slots := 100, locals := 94 }).room.frames = 4 := rfl
  have hRl : (headSpec ws_AB_append { frames := 4, cells := 1, slots := 100, locals := 94 }).room.locals = 94 := rfl
  have hRc : (headSpec ws_AB_append { frames := 4, cells := 1, slots := 100, locals := 94 }).room.cells = 1 := rfl
  have hRs : (headSpec ws_AB_append { frames := 4, cells := 1, slots := 100, locals := 94 }).room.slots = 100 := rfl
  generalize (headSpec ws_AB_append { frames := 4, cells := 1, slots := 100, locals := 94 }).room = R at hRf hRl hRc hRs ⊢
  have hS : va_S (hm_A B) s.heap s.heap [] := va_S.rf
  have hl := lv_entry ([.ref a, .int (nI ch)]) (n := 2) (Nat.le_of_ble_eq_true rfl)
  rw [lg_entry_eq]
  generalize (lg_sl ([.ref a, .int (nI ch)]) ++ List.replicate (2 - (lg_sl ([.ref a, .int (nI ch)])).length) Slot.unset).toArray = ls at hl ⊢
  have hl : lv_has ls 2 [(0, .ref a), (1, .int (nI ch))] := hl
  obtain ⟨h1, h2, h3, h4, h5, h6, h7, hA_a, hA_v⟩ := id ht
  refine lv_aload_n hx hb dd_AB_append_0 rfl (lv_at hl 0 rfl) ?_
  refine lv_aload_n hx hb dd_AB_append_1 rfl (lv_at hl 0 rfl) ?_
  refine hm_get (ci := 7) (C := rn_SB) (T := ft_SB) (N := 4) hx hb hts fi_SB hown hE.K hP h1 rfl 3 (by decide) (hts _ tw_98) (fun _ h9 => h9) rfl dd_AB_append_2 ?_
  refine lv_iconst (v := nI 1) hx hb dd_AB_append_5 (by decide +kernel) ?_
  refine hn_iadd hx hb dd_AB_append_6 ?_
  refine hm_cv hS (hm_rV 1 (As := [.int (nI (t.length + 1))]) (rest := []) ⟨hx, hb, hml, hown, hts⟩ hE hS hP (kc_AB_ensure l B D G M a v mm f ml t ht (t.length + 1) (by omega)) rfl h1 tw_227 tw_224 tw_226 tw_90000 tw_37 (by decide +kernel) rfl rfl ⟨by show 3 + 1 ≤ R.frames; omega, by show 8 + (3 + 11) + 72 ≤ R.locals; omega⟩ rfl hl.1 rfl (Nat.le_of_ble_eq_true rfl) dd_AB_append_7 ⟨by omega, by omega⟩) (fun M2 H locs hw3 hP hS => ?_)
  refine W.widen (k := 1) (n := 100) (by omega) (by omega) ?_
  obtain ⟨v1, m1, f1, hs1, hq1, hv1, hk1⟩ := hw3
  obtain ⟨g1, g2, g3, g4, g5, g6, g7, -, hA_v1⟩ := id hs1
  refine lv_aload_n hx hb dd_AB_append_10 rfl (lv_at hl 0 rfl) ?_
  refine hm_ci hS (hm_rV 0 (As := []) (rest := []) ⟨hx, hb, hml, hown, hts⟩ hE hS hP (kc_AB_isLatin1 l B D G M2 a v1 m1 f1 ml t hs1) rfl g1 tw_263 tw_259 tw_260 tw_262 tw_37 (by decide +kernel) rfl rfl ⟨by show 0 + 1 ≤ R.frames; omega, by show 8 + (1 + 11) + 0 ≤ R.locals; omega⟩ rfl hl.1 rfl (Nat.le_of_ble_eq_true rfl) dd_AB_append_11 ⟨by omega, by omega⟩) (fun r4 M5 H locs hw6 hP hS => ?_)
  refine W.widen (k := 1) (n := 100) (by omega) (by omega) ?_
  obtain ⟨rfl, eM5⟩ := hw6
  rw [eM5] at hP
  refine hn_if_eq (tgt := 45) hx hb (by omega) dd_AB_append_14 (by decide) (fun c7 => absurd c7 (by omega)) (fun c7 => ?_)
  refine lv_iload_n hx hb dd_AB_append_17 rfl (lv_at hl 1 rfl) ?_
  refine hm_ci hS (hm_rS 1 (As := [.int (nI ch)]) (rest := []) ⟨hx, hb, hml, hown, hts⟩ hE hS hP (kc_SL_canEncode l B D G M2 ch hch) tw_266 tw_264 tw_265 tw_51 (by decide +kernel) rfl rfl ⟨by show 0 + 1 ≤ R.frames; omega, by show 8 + (1 + 11) + 0 ≤ R.locals; omega⟩ rfl hl.1 rfl (Nat.le_of_ble_eq_true rfl) dd_AB_append_18 ⟨by omega, by omega⟩) (fun r8 M9 H locs hw10 hP hS => ?_)
  refine W.widen (k := 1) (n := 100) (by omega) (by omega) ?_
  obtain ⟨rfl, eM9⟩ := hw10
  rw [eM9] at hP
  refine hn_if_eq (tgt := 45) hx hb (by omega) dd_AB_append_21 (by decide) (fun c11 => absurd c11 (by omega)) (fun c11 => ?_)
  refine lv_aload_n hx hb dd_AB_append_24 rfl (lv_at hl 0 rfl) ?_
  refine hm_get (ci := 7) (C := rn_SB) (T := ft_SB) (N := 4) hx hb hts fi_SB hown hE.K hP g1 rfl 0 (by decide) (hts _ tw_94) (fun _ h9 => h9) rfl dd_AB_append_25 ?_
  refine lv_aload_n hx hb dd_AB_append_28 rfl (lv_at hl 0 rfl) ?_
  refine lv_dup hx hb dd_AB_append_29 rfl ?_
  refine hm_get (ci := 7) (C := rn_SB) (T := ft_SB) (N := 4) hx hb hts fi_SB hown hE.K hP g1 rfl 3 (by decide) (hts _ tw_98) (fun _ h9 => h9) rfl dd_AB_append_30 ?_
  refine lv_dup_x1 hx hb dd_AB_append_33 rfl rfl ?_
  refine lv_iconst (v := nI 1) hx hb dd_AB_append_34 (by decide +kernel) ?_
  refine hn_iadd hx hb dd_AB_append_35 ?_
  refine hm_put (ci := 7) (v := .int (nI (t.length + 1))) (ty := .int) (C := rn_SB) (T := ft_SB) (N := 4) hx hb hts fi_SB fy_SB fo_SB fn_SB hown hE.K hP hS hA_a g1 rfl 3 (by decide) (hts _ tw_98) (fun _ h9 => h9) rfl (by decide +kernel) rfl rfl (Nat.le_of_ble_eq_true rfl) dd_AB_append_36 (fun H locs hP hS => ?_)
  have hP : hm_P D cl_W (hm_up M2 a (.inr (7, [.ref v1, .int (nI 0), .int (nI ml), .int (nI (t.length + 1))]))) H := hP
  obtain ⟨M12, eM12⟩ : ∃ z, z = hm_up M2 a (.inr (7, [.ref v1, .int (nI 0), .int (nI ml), .int (nI (t.length + 1))])) := ⟨_, rfl⟩
  rw [← eM12] at hP
  have f13 : M12 v1 = some (.inl (D.1 100, m1, .inl f1)) := by rw [eM12]; exact hm_up_o (hm_ne g2 g1 (by intro h9; cases h9)) g2
  have f14 : M12 a = some (.inr (7, [.ref v1, .int (nI 0), .int (nI ml), .int (nI (t.length + 1))])) := by rw [eM12]; exact hm_up_s
  refine lv_iload_n hx hb dd_AB_append_39 rfl (lv_at hl 1 rfl) ?_
  refine lv_i2b hx hb dd_AB_append_40 rfl ?_
  refine lv_topi (fun x15 ex15 => ?_)
  obtain rfl : x15 = nI ch := by rw [ex15]; exact by_i2b _ hch
  refine hm_bast (y := nI ch) (j := t.length) hx hb hE.K hP hS hA_v1 0 f13 rfl (vp_in_nI (by omega) (by omega)) (nI_clamp (by omega)) (by_fits _ hch).2.2.1 dd_AB_append_41 (fun H locs hP hS => ?_)
  obtain ⟨M16, eM16⟩ : ∃ z, z = hm_up M12 v1 (.inl (D.1 100, m1, .inl (upd f1 t.length (nI ch)))) := ⟨_, rfl⟩
  rw [← eM16] at hP
  have f17 : M16 a = some (.inr (7, [.ref v1, .int (nI 0), .int (nI ml), .int (nI (t.length + 1))])) := by rw [eM16]; exact hm_up_o (hm_ne f14 f13 (by intro h9; cases h9)) f14
  have f18 : M16 v1 = some (.inl (D.1 100, m1, .inl (upd f1 t.length (nI ch)))) := by rw [eM16]; exact hm_up_s
  refine lv_goto (tgt := 75) hx hb dd_AB_append_42 (by decide) ?_
  refine lv_aload_n hx hb dd_AB_append_75 rfl (lv_at hl 0 rfl) ?_
  have hkv : M v1 = none ∨ v1 ∈ [a, v] := by
    rcases hv1 with h9 | h9
    · exact Or.inr (by rw [h9]; simp)
    · exact Or.inl h9
  have hkf : M v1 = none → hm_k M M16 [a] := by
    intro h9
    have kk19 : hm_k M M [a] := hm_krf
    have kk20 : hm_k M M2 [a] := hm_kt kk19 hk1 (hm_a1 (Or.inr (by simp)))
    have kk21 : hm_k M M12 [a] := hm_ku kk20 (Or.inr (by simp)) eM12
    have kk22 : hm_k M M16 [a] := hm_ku kk21 (Or.inl h9) eM16
    exact kk22
  have kk23 : hm_k M M [a, v] := hm_krf
  have kk24 : hm_k M M2 [a, v] := hm_kt kk23 hk1 (hm_a1 (Or.inr (by simp)))
  have kk25 : hm_k M M12 [a, v] := hm_ku kk24 (Or.inr (by simp)) eM12
  have kk26 : hm_k M M16 [a, v] := hm_ku kk25 hkv eM16
  exact hm_Er (v := a) hx hb hr (Or.inl ⟨_, rfl⟩) hS hP (⟨rfl, v1, ⟨m1, _, ml, by rw [List.length_append]; exact f17, f18, g3.up hch _, ap_get g4, by rw [List.length_append]; exact hq1, g6, ap_lt h7 hch, hA_a, hA_v1⟩, hv1.imp id (fun h9 => ⟨h9, hkf h9⟩), kk26⟩) hlocks (by omega) (by omega) dd_AB_append_76
set_option maxHeartbeats 4000000 in
set_option maxRecDepth 100000 in
theorem kc_SB_append (l : Launch) (B : Nat) (D : va_G) (G : Nat → Nat) (M : hm_M) (a v mm : Nat) (f : Nat → Int32) (ml : Nat) (t : List Nat) (ht : sb_C B D M a v mm f ml t) (ch : Nat) (hch : ch < 128) (hl9 : t.length ≤ 47) : Met l yy_SB_append ws_SB_append ({ frames := 5, cells := 1, slots := 100, locals := 115 }) (hm_Pc B D G M [.ref a, .int (nI ch)]) (hm_Nr B D (fun r M1 => r = a ∧ ∃ v1, sb_T B D M1 a v1 (t ++ [ch]) ∧ (v1 = v ∨ (M v1 = none ∧ hm_k M M1 [a])) ∧ hm_k M M1 [a, v])) (1) (100) (hm_A B) := by
  refine Met.ofW (cc := cd_SB_append) (maxL := 2) (ret := ((some (FieldType.object "java/lang/StringBuilder")))) (by decide) rfl ?_
  intro p e s m args below meth c s₁ B0 hml hv
  obtain ⟨rfl, hE, hP⟩ := hv
  have hx := B0.exec
  have hb := B0.bytes
  have hr := B0.returns
  have hts : ∀ w ∈ tb_G, w.before _ s = true := fun w h => atoms_spec (ws := ws_SB_append) B0.pre w (List.mem_cons_of_mem _ h)
  have hown : s.vm.findClass "java/lang/StringBuilder" = some m.cls := findClass_of_methodNamed B0.named
  have hlocks := B0.notSynchronized
  have hRf : (headSpec ws_SB_append { frames := 5, cells := 1, slots := 100, locals := 115 }).room.frames = 5 := rfl
  have hRl : (headSpec ws_SB_append { frames := 5, cells := 1, slots := 100, locals := 115 }).room.locals = 115 := rfl
  have hRc : (headSpec ws_SB_append { frames := 5, cells := 1, slots := 100, locals := 115 }).room.cells = 1 := rfl
  have hRs : (headSpec ws_SB_append { frames := 5, cells := 1, slots := 100, locals := 115 }).room.slots = 100 := rfl
  generalize (headSpec ws_SB_append { frames := 5, cells := 1, slots := 100, locals := 115 }).room = R at hRf hRl hRc hRs ⊢
  have hS : va_S (hm_A B) s.heap s.heap [] := va_S.rf
  have hl := lv_entry ([.ref a, .int (nI ch)]) (n := 2) (Nat.le_of_ble_eq_true rfl)
  rw [lg_entry_eq]
  generalize (lg_sl ([.ref a, .int (nI ch)]) ++ List.replicate (2 - (lg_sl ([.ref a, .int (nI ch)])).length) Slot.unset).toArray = ls at hl ⊢
  have hl : lv_has ls 2 [(0, .ref a), (1, .int (nI ch))] := hl
  obtain ⟨h1, h2, h3, h4, h5, h6, h7, hA_a, hA_v⟩ := id ht
  refine lv_aload_n hx hb dd_SB_append_0 rfl (lv_at hl 0 rfl) ?_
  refine lv_iload_n hx hb dd_SB_append_1 rfl (lv_at hl 1 rfl) ?_
  refine hm_cr hS (hm_rSU 1 (As := [.int (nI ch)]) (rest := []) ⟨hx, hb, hml, hown, hts⟩ hE hS hP (kc_AB_append l B D G M a v mm f ml t ht ch hch hl9) rfl h1 tw_223 tw_221 tw_222 tw_1196 tw_107 tw_37 (by decide +kernel) rfl rfl ⟨by show 4 + 1 ≤ R.frames; omega, by show 8 + (2 + 11) + 94 ≤ R.locals; omega⟩ rfl hl.1 rfl (Nat.le_of_ble_eq_true rfl) dd_SB_append_2 ⟨by omega, by omega⟩) (fun r1 M2 H locs hw3 hP hS => ?_)
  refine W.widen (k := 1) (n := 100) (by omega) (by omega) ?_
  obtain ⟨-, k9⟩ := hw3
  refine lv_pop hx hb dd_SB_append_5 rfl ?_
  refine lv_aload_n hx hb dd_SB_append_6 rfl (lv_at hl 0 rfl) ?_
  exact hm_Er (v := a) hx hb hr (Or.inl ⟨_, rfl⟩) hS hP (⟨rfl, k9⟩) hlocks (by omega) (by omega) dd_SB_append_7
set_option maxHeartbeats 4000000 in
set_option maxRecDepth 100000 in
theorem kc_AB_ensure0 (l : Launch) (B : Nat) (D : va_G) (G : Nat → Nat) (M : hm_M) (a v mm : Nat) (f : Nat → Int32) (ml : Nat) (t : List Nat) (ht : sb_C B D M a v mm f ml t) : Met l yy_AB_ensureCapacityInternal ws_AB_ensureCapacityInternal ({ frames := 0, cells := 0, slots := 0, locals := 0 }) (hm_Pc B D G M [.ref a, .int (nI 0)]) (hm_Nv B D (fun M1 => M1 = M)) (0) (0) (hm_A B) := by
  refine Met.ofW (cc := cd_AB_ensureCapacityInternal) (maxL := 3) (ret := none) (by decide) rfl ?_
  intro p e s m args below meth c s₁ B0 hml hv
  obtain ⟨rfl, hE, hP⟩ := hv
  have hx := B0.exec
  have hb := B0.bytes
  have hr := B0.returns
  have hts : ∀ w ∈ tb_G, w.before _ s = true := fun w h => atoms_spec (ws := ws_AB_ensureCapacityInternal) B0.pre w (List.mem_cons_of_mem _ h)
  have hown : s.vm.findClass "java/lang/AbstractStringBuilder" = some m.cls := findClass_of_methodNamed B0.named
  have hlocks := B0.notSynchronized
  have hRf : (headSpec ws_AB_ensureCapacityInternal { frames := 0, cells := 0, slots := 0, locals := 0 }).room.frames = 0 := rfl
  have hRl : (headSpec ws_AB_ensureCapacityInternal { frames := 0, cells := 0, slots := 0, locals := 0 }).room.locals = 0 := rfl
  have hRc : (headSpec ws_AB_ensureCapacityInternal { frames := 0, cells := 0, slots := 0, locals := 0 }).room.cells = 0 := rfl
  have hRs : (headSpec ws_AB_ensureCapacityInternal { frames := 0, cells := 0, slots := 0, locals := 0 }).room.slots = 0 := rfl
  generalize (headSpec ws_AB_ensureCapacityInternal { frames := 0, cells := 0, slots := 0, locals := 0 }).room = R at hRf hRl hRc hRs ⊢
  have hS : va_S (hm_A B) s.heap s.heap [] := va_S.rf
  have hl := lv_entry ([.ref a, .int (nI 0)]) (n := 3) (Nat.le_of_ble_eq_true rfl)
  rw [lg_entry_eq]
  generalize (lg_sl ([.ref a, .int (nI 0)]) ++ List.replicate (3 - (lg_sl ([.ref a, .int (nI 0)])).length) Slot.unset).toArray = ls at hl ⊢
  have hl : lv_has ls 3 [(0, .ref a), (1, .int (nI 0))] := hl
  obtain ⟨h1, h2, h3, h4, h5, h6, h7, hA_a, hA_v⟩ := id ht
  refine lv_aload_n hx hb dd_AB_ensureCapacityInternal_0 rfl (lv_at hl 0 rfl) ?_
  refine hm_get (ci := 7) (C := rn_SB) (T := ft_SB) (N := 4) hx hb hts fi_SB hown hE.K hP h1 rfl 0 (by decide) (hts _ tw_94) (fun _ h9 => h9) rfl dd_AB_ensureCapacityInternal_1 ?_
  refine hm_alen (v := nI mm) hx hb hE.K hP 0 h2 rfl rfl dd_AB_ensureCapacityInternal_4 ?_
  refine lv_aload_n hx hb dd_AB_ensureCapacityInternal_5 rfl (lv_at hl 0 rfl) ?_
  refine hm_get (ci := 7) (C := rn_SB) (T := ft_SB) (N := 4) hx hb hts fi_SB hown hE.K hP h1 rfl 1 (by decide) (hts _ tw_95) (fun _ h9 => h9) rfl dd_AB_ensureCapacityInternal_6 ?_
  refine lv_ishr hx hb dd_AB_ensureCapacityInternal_9 ?_
  refine lv_topi (fun x1 ex1 => ?_)
  obtain rfl : x1 = nI mm := by rw [ex1]; exact sb_shr0 _
  refine lv_istore_n (lv' := [(2, .int (nI mm)), (0, .ref a), (1, .int (nI 0))]) hx hb dd_AB_ensureCapacityInternal_10 rfl hl (by decide) rfl (fun ls hl => ?_)
  refine lv_iload_n hx hb dd_AB_ensureCapacityInternal_11 rfl (lv_at hl 2 rfl) ?_
  refine lv_iload_n hx hb dd_AB_ensureCapacityInternal_12 rfl (lv_at hl 0 rfl) ?_
  refine lv_isub hx hb dd_AB_ensureCapacityInternal_13 ?_
  refine lv_topi (fun x2 ex2 => ?_)
  refine hi_if_le (tgt := 38) hx hb dd_AB_ensureCapacityInternal_14 (by decide) (fun c3 => ?_) (fun c3 => absurd c3 (by rw [ex2, hi_sub (by rw [nI_toInt (by omega), nI_toInt (by omega)]; omega) (by rw [nI_toInt (by omega), nI_toInt (by omega)]; omega), nI_toInt (by omega), nI_toInt (by omega)]; omega))
  exact hm_Ev hx hb hr hS hP (rfl) hlocks (by omega) (by omega) dd_AB_ensureCapacityInternal_38
set_option maxHeartbeats 4000000 in
set_option maxRecDepth 100000 in
theorem kc_AB_setLength0 (l : Launch) (B : Nat) (D : va_G) (G : Nat → Nat) (M : hm_M) (a v mm : Nat) (f : Nat → Int32) (ml : Nat) (t : List Nat) (ht : sb_C B D M a v mm f ml t) : Met l yy_AB_setLength ws_AB_setLength ({ frames := 1, cells := 0, slots := 0, locals := 22 }) (hm_Pc B D G M [.ref a, .int (nI 0)]) (hm_Nv B D (fun M1 => sb_T B D M1 a v [] ∧ hm_k M M1 [a])) (0) (0) (hm_A B) := by
  refine Met.ofW (cc := cd_AB_setLength) (maxL := 2) (ret := none) (by decide) rfl ?_
  intro p e s m args below meth c s₁ B0 hml hv
  obtain ⟨rfl, hE, hP⟩ := hv
  have hx := B0.exec
  have hb := B0.bytes
  have hr := B0.returns
  have hts : ∀ w ∈ tb_G, w.before _ s = true := fun w h => atoms_spec (ws := ws_AB_setLength) B0.pre w (List.mem_cons_of_mem _ h)
  have hown : s.vm.findClass "java/lang/AbstractStringBuilder" = some m.cls := findClass_of_methodNamed B0.named
  have hlocks := B0.notSynchronized
  have hRf : (headSpec ws_AB_setLength { frames := 1, cells := 0, slots := 0, locals := 22 }).room.frames = 1 := rfl
  have hRl : (headSpec ws_AB_setLength { frames := 1, cells := 0, slots := 0, locals := 22 }).room.locals = 22 := rfl
  have hRc : (headSpec ws_AB_setLength { frames := 1, cells := 0, slots := 0, locals := 22 }).room.cells = 0 := rfl
  have hRs : (headSpec ws_AB_setLength { frames := 1, cells := 0, slots := 0, locals := 22 }).room.slots = 0 := rfl
  generalize (headSpec ws_AB_setLength { frames := 1, cells := 0, slots := 0, locals := 22 }).room = R at hRf hRl hRc hRs ⊢
  have hS : va_S (hm_A B) s.heap s.heap [] := va_S.rf
  have hl := lv_entry ([.ref a, .int (nI 0)]) (n := 2) (Nat.le_of_ble_eq_true rfl)
  rw [lg_entry_eq]
  generalize (lg_sl ([.ref a, .int (nI 0)]) ++ List.replicate (2 - (lg_sl ([.ref a, .int (nI 0)])).length) Slot.unset).toArray = ls at hl ⊢
  have hl : lv_has ls 2 [(0, .ref a), (1, .int (nI 0))] := hl
  obtain ⟨h1, h2, h3, h4, h5, h6, h7, hA_a, hA_v⟩ := id ht
  refine lv_iload_n hx hb dd_AB_setLength_0 rfl (lv_at hl 1 rfl) ?_
  refine hn_if_ge (tgt := 13) hx hb (by omega) dd_AB_setLength_1 (by decide) ?_
  refine lv_aload_n hx hb dd_AB_setLength_13 rfl (lv_at hl 0 rfl) ?_
  refine lv_iload_n hx hb dd_AB_setLength_14 rfl (lv_at hl 1 rfl) ?_
  refine hm_cv hS (hm_rV 1 (As := [.int (nI 0)]) (rest := []) ⟨hx, hb, hml, hown, hts⟩ hE hS hP (kc_AB_ensure0 l B D G M a v mm f ml t ht) rfl h1 tw_227 tw_224 tw_226 tw_90000 tw_37 (by decide +kernel) rfl rfl ⟨by show 0 + 1 ≤ R.frames; omega, by show 8 + (3 + 11) + 0 ≤ R.locals; omega⟩ rfl hl.1 rfl (Nat.le_of_ble_eq_true rfl) dd_AB_setLength_15 ⟨by omega, by omega⟩) (fun M3 H locs hw4 hP hS => ?_)
  refine W.widen (k := 0) (n := 0) (by omega) (by omega) ?_
  rw [hw4] at hP
  refine lv_aload_n hx hb dd_AB_setLength_18 rfl (lv_at hl 0 rfl) ?_
  refine hm_get (ci := 7) (C := rn_SB) (T := ft_SB) (N := 4) hx hb hts fi_SB hown hE.K hP h1 rfl 3 (by decide) (hts _ tw_98) (fun _ h9 => h9) rfl dd_AB_setLength_19 ?_
  refine lv_iload_n hx hb dd_AB_setLength_22 rfl (lv_at hl 1 rfl) ?_
  refine hn_icmp_ge (tgt := 63) hx hb (by omega) (by omega) dd_AB_setLength_23 (by decide) (fun c5 => ?_) (fun c5 => absurd c5 (by omega))
  refine lv_aload_n hx hb dd_AB_setLength_63 rfl (lv_at hl 0 rfl) ?_
  refine hm_get (ci := 7) (C := rn_SB) (T := ft_SB) (N := 4) hx hb hts fi_SB hown hE.K hP h1 rfl 3 (by decide) (hts _ tw_98) (fun _ h9 => h9) rfl dd_AB_setLength_64 ?_
  refine lv_iload_n hx hb dd_AB_setLength_67 rfl (lv_at hl 1 rfl) ?_
  refine hn_icmp_le (tgt := 76) hx hb (by omega) (by omega) dd_AB_setLength_68 (by decide) (fun c6 => ?_) (fun c6 => ?_)
  · refine lv_aload_n hx hb dd_AB_setLength_76 rfl (lv_at hl 0 rfl) ?_
    refine lv_iload_n hx hb dd_AB_setLength_77 rfl (lv_at hl 1 rfl) ?_
    refine hm_put (ci := 7) (v := .int (nI 0)) (ty := .int) (C := rn_SB) (T := ft_SB) (N := 4) hx hb hts fi_SB fy_SB fo_SB fn_SB hown hE.K hP hS hA_a h1 rfl 3 (by decide) (hts _ tw_98) (fun _ h9 => h9) rfl (by decide +kernel) rfl rfl (Nat.le_of_ble_eq_true rfl) dd_AB_setLength_78 (fun H locs hP hS => ?_)
    have hP : hm_P D cl_W (hm_up M a (.inr (7, [.ref v, .int (nI 0), .int (nI ml), .int (nI 0)]))) H := hP
    obtain ⟨M7, eM7⟩ : ∃ z, z = hm_up M a (.inr (7, [.ref v, .int (nI 0), .int (nI ml), .int (nI 0)])) := ⟨_, rfl⟩
    rw [← eM7] at hP
    have f8 : M7 v = some (.inl (D.1 100, mm, .inl f)) := by rw [eM7]; exact hm_up_o (hm_ne h2 h1 (by intro h9; cases h9)) h2
    have f9 : M7 a = some (.inr (7, [.ref v, .int (nI 0), .int (nI ml), .int (nI 0)])) := by rw [eM7]; exact hm_up_s
    have kk10 : hm_k M M [a] := hm_krf
    have kk11 : hm_k M M7 [a] := hm_ku kk10 (Or.inr (by simp)) eM7
    exact hm_Ev hx hb hr hS hP (⟨⟨mm, f, _, f9, f8, h3, fun j hj => absurd hj (Nat.not_lt_zero _), Nat.zero_le _, h6, fun c hc => absurd hc List.not_mem_nil, hA_a, hA_v⟩, kk11⟩) hlocks (by omega) (by omega) dd_AB_setLength_81
  · refine lv_aload_n hx hb dd_AB_setLength_71 rfl (lv_at hl 0 rfl) ?_
    refine lv_iconst (v := nI 1) hx hb dd_AB_setLength_72 (by decide +kernel) ?_
    refine hm_put (ci := 7) (v := .int (nI 1)) (ty := .boolean) (C := rn_SB) (T := ft_SB) (N := 4) hx hb hts fi_SB fy_SB fo_SB fn_SB hown hE.K hP hS hA_a h1 rfl 2 (by decide) (hts _ tw_96) (fun _ h9 => h9) rfl (by decide +kernel) rfl rfl (Nat.le_of_ble_eq_true rfl) dd_AB_setLength_73 (fun H locs hP hS => ?_)
    have hP : hm_P D cl_W (hm_up M a (.inr (7, [.ref v, .int (nI 0), .int (nI 1), .int (nI t.length)]))) H := hP
    obtain ⟨M12, eM12⟩ : ∃ z, z = hm_up M a (.inr (7, [.ref v, .int (nI 0), .int (nI 1), .int (nI t.length)])) := ⟨_, rfl⟩
    rw [← eM12] at hP
    have f13 : M12 v = some (.inl (D.1 100, mm, .inl f)) := by rw [eM12]; exact hm_up_o (hm_ne h2 h1 (by intro h9; cases h9)) h2
    have f14 : M12 a = some (.inr (7, [.ref v, .int (nI 0), .int (nI 1), .int (nI t.length)])) := by rw [eM12]; exact hm_up_s
    refine lv_aload_n hx hb dd_AB_setLength_76 rfl (lv_at hl 0 rfl) ?_
    refine lv_iload_n hx hb dd_AB_setLength_77 rfl (lv_at hl 1 rfl) ?_
    refine hm_put (ci := 7) (v := .int (nI 0)) (ty := .int) (C := rn_SB) (T := ft_SB) (N := 4) hx hb hts fi_SB fy_SB fo_SB fn_SB hown hE.K hP hS hA_a f14 rfl 3 (by decide) (hts _ tw_98) (fun _ h9 => h9) rfl (by decide +kernel) rfl rfl (Nat.le_of_ble_eq_true rfl) dd_AB_setLength_78 (fun H locs hP hS => ?_)
    have hP : hm_P D cl_W (hm_up M12 a (.inr (7, [.ref v, .int (nI 0), .int (nI 1), .int (nI 0)]))) H := hP
    obtain ⟨M15, eM15⟩ : ∃ z, z = hm_up M12 a (.inr (7, [.ref v, .int (nI 0), .int (nI 1), .int (nI 0)])) := ⟨_, rfl⟩
    rw [← eM15] at hP
    have f16 : M15 v = some (.inl (D.1 100, mm, .inl f)) := by rw [eM15]; exact hm_up_o (hm_ne f13 f14 (by intro h9; cases h9)) f13
    have f17 : M15 a = some (.inr (7, [.ref v, .int (nI 0), .int (nI 1), .int (nI 0)])) := by rw [eM15]; exact hm_up_s
    have kk18 : hm_k M M [a] := hm_krf
    have kk19 : hm_k M M12 [a] := hm_ku kk18 (Or.inr (by simp)) eM12
    have kk20 : hm_k M M15 [a] := hm_ku kk19 (Or.inr (by simp)) eM15
    exact hm_Ev hx hb hr hS hP (⟨⟨mm, f, _, f17, f16, h3, fun j hj => absurd hj (Nat.not_lt_zero _), Nat.zero_le _, h6, fun c hc => absurd hc List.not_mem_nil, hA_a, hA_v⟩, kk20⟩) hlocks (by omega) (by omega) dd_AB_setLength_81
set_option maxHeartbeats 4000000 in
set_option maxRecDepth 100000 in
theorem kc_SB_setLength0 (l : Launch) (B : Nat) (D : va_G) (G : Nat → Nat) (M : hm_M) (a v mm : Nat) (f : Nat → Int32) (ml : Nat) (t : List Nat) (ht : sb_C B D M a v mm f ml t) : Met l yy_SB_setLength ws_SB_setLength ({ frames := 2, cells := 0, slots := 0, locals := 43 }) (hm_Pc B D G M [.ref a, .int (nI 0)]) (hm_Nv B D (fun M1 => sb_T B D M1 a v [] ∧ hm_k M M1 [a])) (0) (0) (hm_A B) := by
  refine Met.ofW (cc := cd_SB_setLength) (maxL := 2) (ret := none) (by decide) rfl ?_
  intro p e s m args below meth c s₁ B0 hml hv
  obtain ⟨rfl, hE, hP⟩ := hv
  have hx := B0.exec
  have hb := B0.bytes
  have hr := B0.returns
  have hts : ∀ w ∈ tb_G, w.before _ s = true := fun w h => atoms_spec (ws := ws_SB_setLength) B0.pre w (List.mem_cons_of_mem _ h)
  have hown : s.vm.findClass "java/lang/StringBuilder" = some m.cls := findClass_of_methodNamed B0.named
  have hlocks := B0.notSynchronized
  have hRf : (headSpec ws_SB_setLength { frames := 2, cells := 0, slots := 0, locals := 43 }).room.frames = 2 := rfl
  have hRl : (headSpec ws_SB_setLength { frames := 2, cells := 0, slots := 0, locals := 43 }).room.locals = 43 := rfl
  have hRc : (headSpec ws_SB_setLength { frames := 2, cells := 0, slots := 0, locals := 43 }).room.cells = 0 := rfl
  have hRs : (headSpec ws_SB_setLength { frames := 2, cells := 0, slots := 0, locals := 43 }).room.slots = 0 := rfl
  generalize (headSpec ws_SB_setLength { frames := 2, cells := 0, slots := 0, locals := 43 }).room = R at hRf hRl hRc hRs ⊢
  have hS : va_S (hm_A B) s.heap s.heap [] := va_S.rf
  have hl := lv_entry ([.ref a, .int (nI 0)]) (n := 2) (Nat.le_of_ble_eq_true rfl)
  rw [lg_entry_eq]
  generalize (lg_sl ([.ref a, .int (nI 0)]) ++ List.replicate (2 - (lg_sl ([.ref a, .int (nI 0)])).length) Slot.unset).toArray = ls at hl ⊢
  have hl : lv_has ls 2 [(0, .ref a), (1, .int (nI 0))] := hl
  obtain ⟨h1, h2, h3, h4, h5, h6, h7, hA_a, hA_v⟩ := id ht
  refine lv_aload_n hx hb dd_SB_setLength_0 rfl (lv_at hl 0 rfl) ?_
  refine lv_iload_n hx hb dd_SB_setLength_1 rfl (lv_at hl 1 rfl) ?_
  refine hm_cv hS (hm_rSU 1 (As := [.int (nI 0)]) (rest := []) ⟨hx, hb, hml, hown, hts⟩ hE hS hP (kc_AB_setLength0 l B D G M a v mm f ml t ht) rfl h1 tw_567 tw_565 tw_566 tw_1207 tw_107 tw_37 (by decide +kernel) rfl rfl ⟨by show 1 + 1 ≤ R.frames; omega, by show 8 + (2 + 11) + 22 ≤ R.locals; omega⟩ rfl hl.1 rfl (Nat.le_of_ble_eq_true rfl) dd_SB_setLength_2 ⟨by omega, by omega⟩) (fun M2 H locs hw3 hP hS => ?_)
  refine W.widen (k := 0) (n := 0) (by omega) (by omega) ?_
  have k9 := hw3
  exact hm_Ev hx hb hr hS hP (k9) hlocks (by omega) (by omega) dd_SB_setLength_5
