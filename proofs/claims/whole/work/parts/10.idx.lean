set_option maxHeartbeats 4000000 in
set_option maxRecDepth 100000 in
theorem kc_PC_checkIndex0 (l : Launch) (B : Nat) (D : va_G) (G : Nat → Nat) (M : hm_M) (i n : Nat) (hi : i < n) (hn : n < 2 ^ 31) : Met l yy_PC_checkIndex ws_PC_checkIndex ({ frames := 0, cells := 0, slots := 0, locals := 0 }) (hm_Pc B D G M [.int (nI i), .int (nI n), .null]) (hm_Ni B D (fun r M1 => r = nI i ∧ M1 = M)) (0) (0) (hm_A B) := by
  refine Met.ofW (cc := cd_PC_checkIndex) (maxL := 3) (ret := ((some FieldType.int))) (by decide) rfl ?_
  intro p e s m args below meth c s₁ B0 hml hv
  obtain ⟨rfl, hE, hP⟩ := hv
  have hx := B0.exec
  have hb := B0.bytes
  have hr := B0.returns
  have hts : ∀ w ∈ tb_G, w.before _ s = true := fun w h => atoms_spec (ws := ws_PC_checkIndex) B0.pre w (List.mem_cons_of_mem _ h)
  have hown : s.vm.findClass "jdk/internal/util/Preconditions" = some m.cls := findClass_of_methodNamed B0.named
  have hlocks := B0.notSynchronized
  have hRf : (headSpec ws_PC_checkIndex { frames := 0, cells := 0, slots := 0, locals := 0 }).room.frames = 0 := rfl
  have hRl : (headSpec ws_PC_checkIndex { frames := 0, cells := 0, slots := 0, locals := 0 }).room.locals = 0 := rfl
  have hRc : (headSpec ws_PC_checkIndex { frames := 0, cells := 0, slots := 0, locals := 0 }).room.cells = 0 := rfl
  have hRs : (headSpec ws_PC_checkIndex { frames := 0, cells := 0, slots := 0, locals := 0 }).room.slots = 0 := rfl
  generalize (headSpec ws_PC_checkIndex { frames := 0, cells := 0, slots := 0, locals := 0 }).room = R at hRf hRl hRc hRs ⊢
  have hS : va_S (hm_A B) s.heap s.heap [] := va_S.rf
  have hl := lv_entry ([.int (nI i), .int (nI n), .null]) (n := 3) (Nat.le_of_ble_eq_true rfl)
  rw [lg_entry_eq]
  generalize (lg_sl ([.int (nI i), .int (nI n), .null]) ++ List.replicate (3 - (lg_sl ([.int (nI i), .int (nI n), .null])).length) Slot.unset).toArray = ls at hl ⊢
  have hl : lv_has ls 3 [(0, .int (nI i)), (1, .int (nI n)), (2, .null)] := hl
  refine lv_iload_n hx hb dd_PC_checkIndex_0 rfl (lv_at hl 0 rfl) ?_
  refine hn_if_lt (tgt := 9) hx hb (by omega) dd_PC_checkIndex_1 (by decide) ?_
  refine lv_iload_n hx hb dd_PC_checkIndex_4 rfl (lv_at hl 0 rfl) ?_
  refine lv_iload_n hx hb dd_PC_checkIndex_5 rfl (lv_at hl 1 rfl) ?_
  refine hn_icmp_lt (tgt := 16) hx hb (by omega) (by omega) dd_PC_checkIndex_6 (by decide) (fun c2 => ?_) (fun c2 => absurd c2 (by omega))
  refine lv_iload_n hx hb dd_PC_checkIndex_16 rfl (lv_at hl 0 rfl) ?_
  exact hm_Ei (v := nI i) hx hb hr rfl hS hP (⟨rfl, rfl⟩) hlocks (by omega) (by omega) dd_PC_checkIndex_17
set_option maxHeartbeats 4000000 in
set_option maxRecDepth 100000 in
theorem kc_PC_checkIndex1 (l : Launch) (B : Nat) (D : va_G) (G : Nat → Nat) (M : hm_M) (z : Nat) (i n : Nat) (hi : i < n) (hn : n < 2 ^ 31) : Met l yy_PC_checkIndex ws_PC_checkIndex ({ frames := 0, cells := 0, slots := 0, locals := 0 }) (hm_Pc B D G M [.int (nI i), .int (nI n), .ref z]) (hm_Ni B D (fun r M1 => r = nI i ∧ M1 = M)) (0) (0) (hm_A B) := by
  refine Met.ofW (cc := cd_PC_checkIndex) (maxL := 3) (ret := ((some FieldType.int))) (by decide) rfl ?_
  intro p e s m args below meth c s₁ B0 hml hv
  obtain ⟨rfl, hE, hP⟩ := hv
  have hx := B0.exec
  have hb := B0.bytes
  have hr := B0.returns
  have hts : ∀ w ∈ tb_G, w.before _ s = true := fun w h => atoms_spec (ws := ws_PC_checkIndex) B0.pre w (List.mem_cons_of_mem _ h)
  have hown : s.vm.findClass "jdk/internal/util/Preconditions" = some m.cls := findClass_of_methodNamed B0.named
  have hlocks := B0.notSynchronized
  have hRf : (headSpec ws_PC_checkIndex { frames := 0, cells := 0, slots := 0, locals := 0 }).room.frames = 0 := rfl
  have hRl : (headSpec ws_PC_checkIndex { frames := 0, cells := 0, slots := 0, locals := 0 }).room.locals = 0 := rfl
  have hRc : (headSpec ws_PC_checkIndex { frames := 0, cells := 0, slots := 0, locals := 0 }).room.cells = 0 := rfl
  have hRs : (headSpec ws_PC_checkIndex { frames := 0, cells := 0, slots := 0, locals := 0 }).room.slots = 0 := rfl
  generalize (headSpec ws_PC_checkIndex { frames := 0, cells := 0, slots := 0, locals := 0 }).room = R at hRf hRl hRc hRs ⊢
  have hS : va_S (hm_A B) s.heap s.heap [] := va_S.rf
  have hl := lv_entry ([.int (nI i), .int (nI n), .ref z]) (n := 3) (Nat.le_of_ble_eq_true rfl)
  rw [lg_entry_eq]
  generalize (lg_sl ([.int (nI i), .int (nI n), .ref z]) ++ List.replicate (3 - (lg_sl ([.int (nI i), .int (nI n), .ref z])).length) Slot.unset).toArray = ls at hl ⊢
  have hl : lv_has ls 3 [(0, .int (nI i)), (1, .int (nI n)), (2, .ref z)] := hl
  refine lv_iload_n hx hb dd_PC_checkIndex_0 rfl (lv_at hl 0 rfl) ?_
  refine hn_if_lt (tgt := 9) hx hb (by omega) dd_PC_checkIndex_1 (by decide) ?_
  refine lv_iload_n hx hb dd_PC_checkIndex_4 rfl (lv_at hl 0 rfl) ?_
  refine lv_iload_n hx hb dd_PC_checkIndex_5 rfl (lv_at hl 1 rfl) ?_
  refine hn_icmp_lt (tgt := 16) hx hb (by omega) (by omega) dd_PC_checkIndex_6 (by decide) (fun c2 => ?_) (fun c2 => absurd c2 (by omega))
  refine lv_iload_n hx hb dd_PC_checkIndex_16 rfl (lv_at hl 0 rfl) ?_
  exact hm_Ei (v := nI i) hx hb hr rfl hS hP (⟨rfl, rfl⟩) hlocks (by omega) (by omega) dd_PC_checkIndex_17
set_option maxHeartbeats 4000000 in
set_option maxRecDepth 100000 in
theorem kc_OB_checkIndex (l : Launch) (B : Nat) (D : va_G) (G : Nat → Nat) (M : hm_M) (i n : Nat) (hi : i < n) (hn : n < 2 ^ 31) : Met l yy_OB_checkIndex ws_OB_checkIndex ({ frames := 1, cells := 0, slots := 0, locals := 22 }) (hm_Pc B D G M [.int (nI i), .int (nI n)]) (hm_Ni B D (fun r M1 => r = nI i ∧ M1 = M)) (0) (0) (hm_A B) := by
  refine Met.ofW (cc := cd_OB_checkIndex) (maxL := 2) (ret := ((some FieldType.int))) (by decide) rfl ?_
  intro p e s m args below meth c s₁ B0 hml hv
  obtain ⟨rfl, hE, hP⟩ := hv
  have hx := B0.exec
  have hb := B0.bytes
  have hr := B0.returns
  have hts : ∀ w ∈ tb_G, w.before _ s = true := fun w h => atoms_spec (ws := ws_OB_checkIndex) B0.pre w (List.mem_cons_of_mem _ h)
  have hown : s.vm.findClass "java/util/Objects" = some m.cls := findClass_of_methodNamed B0.named
  have hlocks := B0.notSynchronized
  have hRf : (headSpec ws_OB_checkIndex { frames := 1, cells := 0, slots := 0, locals := 22 }).room.frames = 1 := rfl
  have hRl : (headSpec ws_OB_checkIndex { frames := 1, cells := 0, slots := 0, locals := 22 }).room.locals = 22 := rfl
  have hRc : (headSpec ws_OB_checkIndex { frames := 1, cells := 0, slots := 0, locals := 22 }).room.cells = 0 := rfl
  have hRs : (headSpec ws_OB_checkIndex { frames := 1, cells := 0, slots := 0, locals := 22 }).room.slots = 0 := rfl
  generalize (headSpec ws_OB_checkIndex { frames := 1, cells := 0, slots := 0, locals := 22 }).room = R at hRf hRl hRc hRs ⊢
  have hS : va_S (hm_A B) s.heap s.heap [] := va_S.rf
  have hl := lv_entry ([.int (nI i), .int (nI n)]) (n := 2) (Nat.le_of_ble_eq_true rfl)
  rw [lg_entry_eq]
  generalize (lg_sl ([.int (nI i), .int (nI n)]) ++ List.replicate (2 - (lg_sl ([.int (nI i), .int (nI n)])).length) Slot.unset).toArray = ls at hl ⊢
  have hl : lv_has ls 2 [(0, .int (nI i)), (1, .int (nI n))] := hl
  refine lv_iload_n hx hb dd_OB_checkIndex_0 rfl (lv_at hl 0 rfl) ?_
  refine lv_iload_n hx hb dd_OB_checkIndex_1 rfl (lv_at hl 1 rfl) ?_
  refine lv_null hx hb dd_OB_checkIndex_2 ?_
  refine hm_ci hS (hm_rS 3 (As := [.int (nI i), .int (nI n), .null]) (rest := []) ⟨hx, hb, hml, hown, hts⟩ hE hS hP (kc_PC_checkIndex0 l B D G M i n hi hn) tw_311 tw_339 tw_310 tw_52 (by decide +kernel) rfl rfl ⟨by show 0 + 1 ≤ R.frames; omega, by show 8 + (3 + 11) + 0 ≤ R.locals; omega⟩ rfl hl.1 rfl (Nat.le_of_ble_eq_true rfl) dd_OB_checkIndex_3 ⟨by omega, by omega⟩) (fun r1 M2 H locs hw3 hP hS => ?_)
  refine W.widen (k := 0) (n := 0) (by omega) (by omega) ?_
  obtain ⟨rfl, eM2⟩ := hw3
  rw [eM2] at hP
  exact hm_Ei (v := nI i) hx hb hr rfl hS hP (⟨rfl, rfl⟩) hlocks (by omega) (by omega) dd_OB_checkIndex_6
set_option maxHeartbeats 4000000 in
set_option maxRecDepth 100000 in
theorem kc_ST_checkIndex (l : Launch) (B : Nat) (D : va_G) (G : Nat → Nat) (M : hm_M) (i n : Nat) (hi : i < n) (hn : n < 2 ^ 31) : Met l yy_ST_checkIndex ws_ST_checkIndex ({ frames := 1, cells := 0, slots := 0, locals := 22 }) (hm_Pc B D G M [.int (nI i), .int (nI n)]) (hm_Nv B D (fun M1 => M1 = M)) (0) (0) (hm_A B) := by
  refine Met.ofW (cc := cd_ST_checkIndex) (maxL := 2) (ret := none) (by decide) rfl ?_
  intro p e s m args below meth c s₁ B0 hml hv
  obtain ⟨rfl, hE, hP⟩ := hv
  have hx := B0.exec
  have hb := B0.bytes
  have hr := B0.returns
  have hts : ∀ w ∈ tb_G, w.before _ s = true := fun w h => atoms_spec (ws := ws_ST_checkIndex) B0.pre w (List.mem_cons_of_mem _ h)
  have hown : s.vm.findClass "java/lang/String" = some m.cls := findClass_of_methodNamed B0.named
  have hlocks := B0.notSynchronized
  have hRf : (headSpec ws_ST_checkIndex { frames := 1, cells := 0, slots := 0, locals := 22 }).room.frames = 1 := rfl
  have hRl : (headSpec ws_ST_checkIndex { frames := 1, cells := 0, slots := 0, locals := 22 }).room.locals = 22 := rfl
  have hRc : (headSpec ws_ST_checkIndex { frames := 1, cells := 0, slots := 0, locals := 22 }).room.cells = 0 := rfl
  have hRs : (headSpec ws_ST_checkIndex { frames := 1, cells := 0, slots := 0, locals := 22 }).room.slots = 0 := rfl
  generalize (headSpec ws_ST_checkIndex { frames := 1, cells := 0, slots := 0, locals := 22 }).room = R at hRf hRl hRc hRs ⊢
  have hS : va_S (hm_A B) s.heap s.heap [] := va_S.rf
  have hl := lv_entry ([.int (nI i), .int (nI n)]) (n := 2) (Nat.le_of_ble_eq_true rfl)
  rw [lg_entry_eq]
  generalize (lg_sl ([.int (nI i), .int (nI n)]) ++ List.replicate (2 - (lg_sl ([.int (nI i), .int (nI n)])).length) Slot.unset).toArray = ls at hl ⊢
  have hl : lv_has ls 2 [(0, .int (nI i)), (1, .int (nI n))] := hl
  refine lv_iload_n hx hb dd_ST_checkIndex_0 rfl (lv_at hl 0 rfl) ?_
  refine lv_iload_n hx hb dd_ST_checkIndex_1 rfl (lv_at hl 1 rfl) ?_
  rcases hE.2.2.2.2.2.2.1 with hZf | ⟨zf, hZf⟩
  · refine va_gets hx hb hZf hS hown (hts _ tw_286) (fun _ h9 => h9) dd_ST_checkIndex_2 ?_
    refine hm_ci hS (hm_rS 3 (As := [.int (nI i), .int (nI n), .null]) (rest := []) ⟨hx, hb, hml, hown, hts⟩ hE hS hP (kc_PC_checkIndex0 l B D G M i n hi hn) tw_311 tw_309 tw_310 tw_52 (by decide +kernel) rfl rfl ⟨by show 0 + 1 ≤ R.frames; omega, by show 8 + (3 + 11) + 0 ≤ R.locals; omega⟩ rfl hl.1 rfl (Nat.le_of_ble_eq_true rfl) dd_ST_checkIndex_5 ⟨by omega, by omega⟩) (fun r1 M2 H locs hw3 hP hS => ?_)
    refine W.widen (k := 0) (n := 0) (by omega) (by omega) ?_
    obtain ⟨rfl, eM2⟩ := hw3
    rw [eM2] at hP
    refine lv_pop hx hb dd_ST_checkIndex_8 rfl ?_
    exact hm_Ev hx hb hr hS hP (rfl) hlocks (by omega) (by omega) dd_ST_checkIndex_9
  · refine va_gets hx hb hZf hS hown (hts _ tw_286) (fun _ h9 => h9) dd_ST_checkIndex_2 ?_
    refine hm_ci hS (hm_rS 3 (As := [.int (nI i), .int (nI n), .ref zf]) (rest := []) ⟨hx, hb, hml, hown, hts⟩ hE hS hP (kc_PC_checkIndex1 l B D G M zf i n hi hn) tw_311 tw_309 tw_310 tw_52 (by decide +kernel) rfl rfl ⟨by show 0 + 1 ≤ R.frames; omega, by show 8 + (3 + 11) + 0 ≤ R.locals; omega⟩ rfl hl.1 rfl (Nat.le_of_ble_eq_true rfl) dd_ST_checkIndex_5 ⟨by omega, by omega⟩) (fun r4 M5 H locs hw6 hP hS => ?_)
    refine W.widen (k := 0) (n := 0) (by omega) (by omega) ?_
    obtain ⟨rfl, eM5⟩ := hw6
    rw [eM5] at hP
    refine lv_pop hx hb dd_ST_checkIndex_8 rfl ?_
    exact hm_Ev hx hb hr hS hP (rfl) hlocks (by omega) (by omega) dd_ST_checkIndex_9
