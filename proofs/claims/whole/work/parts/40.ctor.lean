/-! the constructors -/
set_option maxHeartbeats 4000000 in
set_option maxRecDepth 100000 in
theorem kc_RT_init (l : Launch) (B : Nat) (D : va_G) (G : Nat → Nat) (M : hm_M) (a : Nat) (ha : M a = some (.inr (5, [.null, .null, .int (nI 0), .null, .int (nI 0)]))) (hA_a : hm_A B a) : Met l yy_RT_init ws_RT_init ({ frames := 1, cells := 3, slots := 48, locals := 12 }) (hm_Pc B D G M [.ref a]) (hm_Nv B D (fun M1 => ∃ q8 q9 q10, M1 a = some (.inr (5, [.ref q8, .ref q9, .int (nI 0), .ref q10, .int (nI 0)])) ∧ M1 q8 = some (.inl (D.1 101, 16, .inl (fun _ => 0))) ∧ M1 q9 = some (.inl (D.1 102, 16, .inl (fun _ => 0))) ∧ M1 q10 = some (.inl (D.1 101, 16, .inl (fun _ => 0))) ∧ (M q8 = none ∧ M q9 = none ∧ M q10 = none) ∧ (q8 ≠ q9 ∧ q8 ≠ q10 ∧ q9 ≠ q10) ∧ (B ≤ q8 ∧ B ≤ q9 ∧ B ≤ q10) ∧ hm_k M M1 [a])) (3) (48) (hm_A B) := by
  refine Met.ofW (cc := cd_RT_init) (maxL := 1) (ret := none) (by decide) rfl ?_
  intro p e s m args below meth c s₁ B0 hml hv
  obtain ⟨rfl, hE, hP⟩ := hv
  have hx := B0.exec
  have hb := B0.bytes
  have hr := B0.returns
  have hts : ∀ w ∈ tb_G, w.before _ s = true := fun w h => atoms_spec (ws := ws_RT_init) B0.pre w (List.mem_cons_of_mem _ h)
  have hown : s.vm.findClass "RouteDesk$Routing" = some m.cls := findClass_of_methodNamed B0.named
  have hlocks := B0.notSynchronized
  have hRf : (headSpec ws_RT_init { frames := 1, cells := 3, slots := 48, locals := 12 }).room.frames = 1 := rfl
  have hRl : (headSpec ws_RT_init { frames := 1, cells := 3, slots := 48, locals := 12 }).room.locals = 12 := rfl
  have hRc : (headSpec ws_RT_init { frames := 1, cells := 3, slots := 48, locals := 12 }).room.cells = 3 := rfl
  have hRs : (headSpec ws_RT_init { frames := 1, cells := 3, slots := 48, locals := 12 }).room.slots = 48 := rfl
  generalize (headSpec ws_RT_init { frames := 1, cells := 3, slots := 48, locals := 12 }).room = R at hRf hRl hRc hRs ⊢
  have hin : meth.name = "<init>" := (name_of_methodNamed B0.named B0.method).1
  have hS : va_S (hm_A B) s.heap s.heap [] := va_S.rf
  have hl := lv_entry ([.ref a]) (n := 1) (Nat.le_of_ble_eq_true rfl)
  rw [lg_entry_eq]
  generalize (lg_sl ([.ref a]) ++ List.replicate (1 - (lg_sl ([.ref a])).length) Slot.unset).toArray = ls at hl ⊢
  have hl : lv_has ls 1 [(0, .ref a)] := hl
  refine lv_aload_n hx hb dd_RT_init_0 rfl (lv_at hl 0 rfl) ?_
  refine W.objInit hx hb hown (hts _ tw_162) (hts _ tw_74) (hts _ tw_75) rfl (by rw [hml]; exact hl.1) rfl dd_RT_init_1 (by omega) (by rw [hRl]; exact Nat.le_of_ble_eq_true rfl) ?_
  refine W.eq (g2 := F0 m 4 ls []) rfl ?_
  refine lv_aload_n hx hb dd_RT_init_4 rfl (lv_at hl 0 rfl) ?_
  refine lv_bipush (v := nI 16) hx hb dd_RT_init_5 (by decide +kernel) ?_
  refine hm_newa (atype := .boolean) (ty := .boolean) (N' := 16) (a0 := (16, .inl (fun _ => 0))) hx hb (hts _ tw_137) rfl hE.K hP hS 1 rfl (fun _ h9 => by cases h9) rfl (nI_pos (by omega)) (nI_clamp (by omega)) (by show _ * _ ≤ _; simp only [componentBytes]; omega) (by omega) (by omega) dd_RT_init_7 (fun q1 H hB_q1 hn_q1 hP hS => ?_)
  have hA_q1 : hm_A B q1 := Nat.le_trans hE.2.1 hB_q1
  obtain ⟨M2, eM2⟩ : ∃ z, z = hm_up M q1 (.inl (D.1 101, 16, .inl (fun _ => 0))) := ⟨_, rfl⟩
  rw [← eM2] at hP
  have ne3 : a ≠ q1 := hm_neN ha hn_q1
  have f4 : M2 a = some (.inr (5, [.null, .null, .int (nI 0), .null, .int (nI 0)])) := by rw [eM2]; exact hm_up_o ne3 ha
  have f5 : M2 q1 = some (.inl (D.1 101, 16, .inl (fun _ => 0))) := by rw [eM2]; exact hm_up_s
  refine W.widen (k := 1) (n := 16) (by omega) (by omega) ?_
  refine hm_putF (ci := 5) (v := .ref q1) (ty := .array .boolean) (C := rn_RT) (T := ft_RT) (N := 5) hx hb hts fi_RT fy_RT fo_RT fn_RT hown hE.K hP hS hA_a f4 rfl 0 (by decide) (hts _ tw_163) (fun _ h9 => h9) rfl hin rfl (by decide +kernel) rfl rfl (Nat.le_of_ble_eq_true rfl) dd_RT_init_9 (fun H locs hP hS => ?_)
  have hP : hm_P D cl_W (hm_up M2 a (.inr (5, [.ref q1, .null, .int (nI 0), .null, .int (nI 0)]))) H := hP
  obtain ⟨M6, eM6⟩ : ∃ z, z = hm_up M2 a (.inr (5, [.ref q1, .null, .int (nI 0), .null, .int (nI 0)])) := ⟨_, rfl⟩
  rw [← eM6] at hP
  have f7 : M6 q1 = some (.inl (D.1 101, 16, .inl (fun _ => 0))) := by rw [eM6]; exact hm_up_o (Ne.symm ne3) f5
  have f8 : M6 a = some (.inr (5, [.ref q1, .null, .int (nI 0), .null, .int (nI 0)])) := by rw [eM6]; exact hm_up_s
  refine lv_aload_n hx hb dd_RT_init_12 rfl (lv_at hl 0 rfl) ?_
  refine lv_bipush (v := nI 16) hx hb dd_RT_init_13 (by decide +kernel) ?_
  refine hm_newa (atype := .int) (ty := .int) (N' := 16) (a0 := (16, .inl (fun _ => 0))) hx hb (hts _ tw_183) rfl hE.K hP hS 2 rfl (fun _ h9 => by cases h9) rfl (nI_pos (by omega)) (nI_clamp (by omega)) (by show _ * _ ≤ _; simp only [componentBytes]; omega) (by omega) (by omega) dd_RT_init_15 (fun q9 H hB_q9 hn_q9 hP hS => ?_)
  have hA_q9 : hm_A B q9 := Nat.le_trans hE.2.1 hB_q9
  obtain ⟨M10, eM10⟩ : ∃ z, z = hm_up M6 q9 (.inl (D.1 102, 16, .inl (fun _ => 0))) := ⟨_, rfl⟩
  rw [← eM10] at hP
  have ne11 : a ≠ q9 := hm_neN f8 hn_q9
  have f12 : M10 a = some (.inr (5, [.ref q1, .null, .int (nI 0), .null, .int (nI 0)])) := by rw [eM10]; exact hm_up_o ne11 f8
  have ne13 : q1 ≠ q9 := hm_neN f7 hn_q9
  have f14 : M10 q1 = some (.inl (D.1 101, 16, .inl (fun _ => 0))) := by rw [eM10]; exact hm_up_o ne13 f7
  have f15 : M10 q9 = some (.inl (D.1 102, 16, .inl (fun _ => 0))) := by rw [eM10]; exact hm_up_s
  refine W.widen (k := 2) (n := 32) (by omega) (by omega) ?_
  refine hm_putF (ci := 5) (v := .ref q9) (ty := .array .int) (C := rn_RT) (T := ft_RT) (N := 5) hx hb hts fi_RT fy_RT fo_RT fn_RT hown hE.K hP hS hA_a f12 rfl 1 (by decide) (hts _ tw_165) (fun _ h9 => h9) rfl hin rfl (by decide +kernel) rfl rfl (Nat.le_of_ble_eq_true rfl) dd_RT_init_17 (fun H locs hP hS => ?_)
  have hP : hm_P D cl_W (hm_up M10 a (.inr (5, [.ref q1, .ref q9, .int (nI 0), .null, .int (nI 0)]))) H := hP
  obtain ⟨M16, eM16⟩ : ∃ z, z = hm_up M10 a (.inr (5, [.ref q1, .ref q9, .int (nI 0), .null, .int (nI 0)])) := ⟨_, rfl⟩
  rw [← eM16] at hP
  have f17 : M16 q1 = some (.inl (D.1 101, 16, .inl (fun _ => 0))) := by rw [eM16]; exact hm_up_o (Ne.symm ne3) f14
  have f18 : M16 q9 = some (.inl (D.1 102, 16, .inl (fun _ => 0))) := by rw [eM16]; exact hm_up_o (Ne.symm ne11) f15
  have f19 : M16 a = some (.inr (5, [.ref q1, .ref q9, .int (nI 0), .null, .int (nI 0)])) := by rw [eM16]; exact hm_up_s
  refine lv_aload_n hx hb dd_RT_init_20 rfl (lv_at hl 0 rfl) ?_
  refine lv_iconst (v := nI 0) hx hb dd_RT_init_21 (by decide +kernel) ?_
  refine hm_put (ci := 5) (v := .int (nI 0)) (ty := .int) (C := rn_RT) (T := ft_RT) (N := 5) hx hb hts fi_RT fy_RT fo_RT fn_RT hown hE.K hP hS hA_a f19 rfl 2 (by decide) (hts _ tw_167) (fun _ h9 => h9) rfl (by decide +kernel) rfl rfl (Nat.le_of_ble_eq_true rfl) dd_RT_init_22 (fun H locs hP hS => ?_)
  have hP : hm_P D cl_W (hm_up M16 a (.inr (5, [.ref q1, .ref q9, .int (nI 0), .null, .int (nI 0)]))) H := hP
  obtain ⟨M20, eM20⟩ : ∃ z, z = hm_up M16 a (.inr (5, [.ref q1, .ref q9, .int (nI 0), .null, .int (nI 0)])) := ⟨_, rfl⟩
  rw [← eM20] at hP
  have f21 : M20 q1 = some (.inl (D.1 101, 16, .inl (fun _ => 0))) := by rw [eM20]; exact hm_up_o (Ne.symm ne3) f17
  have f22 : M20 q9 = some (.inl (D.1 102, 16, .inl (fun _ => 0))) := by rw [eM20]; exact hm_up_o (Ne.symm ne11) f18
  have f23 : M20 a = some (.inr (5, [.ref q1, .ref q9, .int (nI 0), .null, .int (nI 0)])) := by rw [eM20]; exact hm_up_s
  refine lv_aload_n hx hb dd_RT_init_25 rfl (lv_at hl 0 rfl) ?_
  refine lv_bipush (v := nI 16) hx hb dd_RT_init_26 (by decide +kernel) ?_
  refine hm_newa (atype := .boolean) (ty := .boolean) (N' := 16) (a0 := (16, .inl (fun _ => 0))) hx hb (hts _ tw_137) rfl hE.K hP hS 1 rfl (fun _ h9 => by cases h9) rfl (nI_pos (by omega)) (nI_clamp (by omega)) (by show _ * _ ≤ _; simp only [componentBytes]; omega) (by omega) (by omega) dd_RT_init_28 (fun q24 H hB_q24 hn_q24 hP hS => ?_)
  have hA_q24 : hm_A B q24 := Nat.le_trans hE.2.1 hB_q24
  obtain ⟨M25, eM25⟩ : ∃ z, z = hm_up M20 q24 (.inl (D.1 101, 16, .inl (fun _ => 0))) := ⟨_, rfl⟩
  rw [← eM25] at hP
  have ne26 : a ≠ q24 := hm_neN f23 hn_q24
  have f27 : M25 a = some (.inr (5, [.ref q1, .ref q9, .int (nI 0), .null, .int (nI 0)])) := by rw [eM25]; exact hm_up_o ne26 f23
  have ne28 : q1 ≠ q24 := hm_neN f21 hn_q24
  have f29 : M25 q1 = some (.inl (D.1 101, 16, .inl (fun _ => 0))) := by rw [eM25]; exact hm_up_o ne28 f21
  have ne30 : q9 ≠ q24 := hm_neN f22 hn_q24
  have f31 : M25 q9 = some (.inl (D.1 102, 16, .inl (fun _ => 0))) := by rw [eM25]; exact hm_up_o ne30 f22
  have f32 : M25 q24 = some (.inl (D.1 101, 16, .inl (fun _ => 0))) := by rw [eM25]; exact hm_up_s
  refine W.widen (k := 3) (n := 48) (by omega) (by omega) ?_
  refine hm_putF (ci := 5) (v := .ref q24) (ty := .array .boolean) (C := rn_RT) (T := ft_RT) (N := 5) hx hb hts fi_RT fy_RT fo_RT fn_RT hown hE.K hP hS hA_a f27 rfl 3 (by decide) (hts _ tw_169) (fun _ h9 => h9) rfl hin rfl (by decide +kernel) rfl rfl (Nat.le_of_ble_eq_true rfl) dd_RT_init_30 (fun H locs hP hS => ?_)
  have hP : hm_P D cl_W (hm_up M25 a (.inr (5, [.ref q1, .ref q9, .int (nI 0), .ref q24, .int (nI 0)]))) H := hP
  obtain ⟨M33, eM33⟩ : ∃ z, z = hm_up M25 a (.inr (5, [.ref q1, .ref q9, .int (nI 0), .ref q24, .int (nI 0)])) := ⟨_, rfl⟩
  rw [← eM33] at hP
  have f34 : M33 q1 = some (.inl (D.1 101, 16, .inl (fun _ => 0))) := by rw [eM33]; exact hm_up_o (Ne.symm ne3) f29
  have f35 : M33 q9 = some (.inl (D.1 102, 16, .inl (fun _ => 0))) := by rw [eM33]; exact hm_up_o (Ne.symm ne11) f31
  have f36 : M33 q24 = some (.inl (D.1 101, 16, .inl (fun _ => 0))) := by rw [eM33]; exact hm_up_o (Ne.symm ne26) f32
  have f37 : M33 a = some (.inr (5, [.ref q1, .ref q9, .int (nI 0), .ref q24, .int (nI 0)])) := by rw [eM33]; exact hm_up_s
  refine lv_aload_n hx hb dd_RT_init_33 rfl (lv_at hl 0 rfl) ?_
  refine lv_iconst (v := nI 0) hx hb dd_RT_init_34 (by decide +kernel) ?_
  refine hm_put (ci := 5) (v := .int (nI 0)) (ty := .int) (C := rn_RT) (T := ft_RT) (N := 5) hx hb hts fi_RT fy_RT fo_RT fn_RT hown hE.K hP hS hA_a f37 rfl 4 (by decide) (hts _ tw_170) (fun _ h9 => h9) rfl (by decide +kernel) rfl rfl (Nat.le_of_ble_eq_true rfl) dd_RT_init_35 (fun H locs hP hS => ?_)
  have hP : hm_P D cl_W (hm_up M33 a (.inr (5, [.ref q1, .ref q9, .int (nI 0), .ref q24, .int (nI 0)]))) H := hP
  obtain ⟨M38, eM38⟩ : ∃ z, z = hm_up M33 a (.inr (5, [.ref q1, .ref q9, .int (nI 0), .ref q24, .int (nI 0)])) := ⟨_, rfl⟩
  rw [← eM38] at hP
  have f39 : M38 q1 = some (.inl (D.1 101, 16, .inl (fun _ => 0))) := by rw [eM38]; exact hm_up_o (Ne.symm ne3) f34
  have f40 : M38 q9 = some (.inl (D.1 102, 16, .inl (fun _ => 0))) := by rw [eM38]; exact hm_up_o (Ne.symm ne11) f35
  have f41 : M38 q24 = some (.inl (D.1 101, 16, .inl (fun _ => 0))) := by rw [eM38]; exact hm_up_o (Ne.symm ne26) f36
  have f42 : M38 a = some (.inr (5, [.ref q1, .ref q9, .int (nI 0), .ref q24, .int (nI 0)])) := by rw [eM38]; exact hm_up_s
  have kk43 : hm_k M M [a] := hm_krf
  have ko45 := hm_kn0 kk43 hn_q1
  have kk44 : hm_k M M2 [a] := hm_kn kk43 hn_q1 eM2
  have kk46 : hm_k M M6 [a] := hm_ku kk44 (Or.inr (by simp)) eM6
  have ko48 := hm_kn0 kk46 hn_q9
  have kk47 : hm_k M M10 [a] := hm_kn kk46 hn_q9 eM10
  have kk49 : hm_k M M16 [a] := hm_ku kk47 (Or.inr (by simp)) eM16
  have kk50 : hm_k M M20 [a] := hm_ku kk49 (Or.inr (by simp)) eM20
  have ko52 := hm_kn0 kk50 hn_q24
  have kk51 : hm_k M M25 [a] := hm_kn kk50 hn_q24 eM25
  have kk53 : hm_k M M33 [a] := hm_ku kk51 (Or.inr (by simp)) eM33
  have kk54 : hm_k M M38 [a] := hm_ku kk53 (Or.inr (by simp)) eM38
  exact hm_Ev hx hb hr hS hP (⟨q1, q9, q24, f42, f39, f40, f41, ⟨ko45.resolve_right (fun h9 => ne3 (List.mem_singleton.mp h9).symm), ko48.resolve_right (fun h9 => ne11 (List.mem_singleton.mp h9).symm), ko52.resolve_right (fun h9 => ne26 (List.mem_singleton.mp h9).symm)⟩, ⟨ne13, ne28, ne30⟩, ⟨hA_q1, hA_q9, hA_q24⟩, kk54⟩) hlocks (by omega) (by omega) dd_RT_init_38
set_option maxHeartbeats 4000000 in
set_option maxRecDepth 100000 in
theorem kc_MG_init (l : Launch) (B : Nat) (D : va_G) (G : Nat → Nat) (M : hm_M) (a : Nat) (ha : M a = some (.inr (4, [.null, .null]))) (hA_a : hm_A B a) (hg : M (G 0) = some (.inl (D.1 104, 0, .inr (.inr (.inr (.inr (fun _ => none))))))) : Met l yy_MG_init ws_MG_init ({ frames := 4, cells := 1, slots := 3, locals := 72 }) (hm_Pc B D G M [.ref a]) (hm_Nv B D (fun M1 => ∃ q6, M1 a = some (.inr (4, [.ref (G 3), .ref q6])) ∧ al_D B D G M1 3 q6 (G 0) [] ∧ M q6 = none ∧ q6 ≠ a ∧ B ≤ q6 ∧ hm_k M M1 [a])) (1) (3) (hm_A B) := by
  refine Met.ofW (cc := cd_MG_init) (maxL := 1) (ret := none) (by decide) rfl ?_
  intro p e s m args below meth c s₁ B0 hml hv
  obtain ⟨rfl, hE, hP⟩ := hv
  have hx := B0.exec
  have hb := B0.bytes
  have hr := B0.returns
  have hts : ∀ w ∈ tb_G, w.before _ s = true := fun w h => atoms_spec (ws := ws_MG_init) B0.pre w (List.mem_cons_of_mem _ h)
  have hown : s.vm.findClass "RouteDesk$Message" = some m.cls := findClass_of_methodNamed B0.named
  have hlocks := B0.notSynchronized
  have hRf : (headSpec ws_MG_init { frames := 4, cells := 1, slots := 3, locals := 72 }).room.frames = 4 := rfl
  have hRl : (headSpec ws_MG_init { frames := 4, cells := 1, slots := 3, locals := 72 }).room.locals = 72 := rfl
  have hRc : (headSpec ws_MG_init { frames := 4, cells := 1, slots := 3, locals := 72 }).room.cells = 1 := rfl
  have hRs : (headSpec ws_MG_init { frames := 4, cells := 1, slots := 3, locals := 72 }).room.slots = 3 := rfl
  generalize (headSpec ws_MG_init { frames := 4, cells := 1, slots := 3, locals := 72 }).room = R at hRf hRl hRc hRs ⊢
  have hin : meth.name = "<init>" := (name_of_methodNamed B0.named B0.method).1
  have hS : va_S (hm_A B) s.heap s.heap [] := va_S.rf
  have hl := lv_entry ([.ref a]) (n := 1) (Nat.le_of_ble_eq_true rfl)
  rw [lg_entry_eq]
  generalize (lg_sl ([.ref a]) ++ List.replicate (1 - (lg_sl ([.ref a])).length) Slot.unset).toArray = ls at hl ⊢
  have hl : lv_has ls 1 [(0, .ref a)] := hl
  refine lv_aload_n hx hb dd_MG_init_0 rfl (lv_at hl 0 rfl) ?_
  refine W.objInit hx hb hown (hts _ tw_143) (hts _ tw_74) (hts _ tw_75) rfl (by rw [hml]; exact hl.1) rfl dd_MG_init_1 (by omega) (by rw [hRl]; exact Nat.le_of_ble_eq_true rfl) ?_
  refine W.eq (g2 := F0 m 4 ls []) rfl ?_
  refine lv_aload_n hx hb dd_MG_init_4 rfl (lv_at hl 0 rfl) ?_
  refine va_ldcS (own := "RouteDesk$Message") (tx := "") (index := 7) (q := G 3) hx hb hown (hE.str (q := ("RouteDesk$Message", 7, "", 3)) 2 rfl) dd_MG_init_5 ?_
  refine hm_put (ci := 4) (v := .ref (G 3)) (ty := .object "java/lang/String") (C := rn_MG) (T := ft_MG) (N := 2) hx hb hts fi_MG fy_MG fo_MG fn_MG hown hE.K hP hS hA_a ha rfl 0 (by decide) (hts _ tw_147) (fun _ h9 => h9) rfl (by decide +kernel) rfl rfl (Nat.le_of_ble_eq_true rfl) dd_MG_init_7 (fun H locs hP hS => ?_)
  have hP : hm_P D cl_W (hm_up M a (.inr (4, [.ref (G 3), .null]))) H := hP
  obtain ⟨M1, eM1⟩ : ∃ z, z = hm_up M a (.inr (4, [.ref (G 3), .null])) := ⟨_, rfl⟩
  rw [← eM1] at hP
  have f2 : M1 (G 0) = some (.inl (D.1 104, 0, .inr (.inr (.inr (.inr (fun _ => none)))))) := by rw [eM1]; exact hm_up_o (hm_ne hg ha (by intro h9; cases h9)) hg
  have f3 : M1 a = some (.inr (4, [.ref (G 3), .null])) := by rw [eM1]; exact hm_up_s
  refine lv_aload_n hx hb dd_MG_init_10 rfl (lv_at hl 0 rfl) ?_
  refine hm_new (n := 3) (ci := 9) (fs := [.null, .int (nI 0), .int (nI 0)]) (C := rn_AL) (T := ft_AL) (N := 3) hx hb hts fi_AL fy_AL fo_AL hown (hts _ tw_145) (hts _ tw_112) (hts _ tw_43) hE.K hP hS rfl (fun j hj => by match j, hj with | 0, _ => rfl | 1, _ => rfl | 2, _ => rfl | j + 3, hj => exact absurd hj (by omega)) (by omega) (by omega) dd_MG_init_11 (fun q4 H hB_q4 hn_q4 hP hS => ?_)
  have hA_q4 : hm_A B q4 := Nat.le_trans hE.2.1 hB_q4
  obtain ⟨M5, eM5⟩ : ∃ z, z = hm_up M1 q4 (.inr (9, [.null, .int (nI 0), .int (nI 0)])) := ⟨_, rfl⟩
  rw [← eM5] at hP
  have ne6 : a ≠ q4 := hm_neN f3 hn_q4
  have f7 : M5 a = some (.inr (4, [.ref (G 3), .null])) := by rw [eM5]; exact hm_up_o ne6 f3
  have ne8 : (G 0) ≠ q4 := hm_neN f2 hn_q4
  have f9 : M5 (G 0) = some (.inl (D.1 104, 0, .inr (.inr (.inr (.inr (fun _ => none)))))) := by rw [eM5]; exact hm_up_o ne8 f2
  have f10 : M5 q4 = some (.inr (9, [.null, .int (nI 0), .int (nI 0)])) := by rw [eM5]; exact hm_up_s
  refine W.widen (k := 1) (n := 3) (by omega) (by omega) ?_
  refine lv_dup hx hb dd_MG_init_14 rfl ?_
  refine hm_cv hS (hm_rI 0 (As := []) (rest := [.ref q4, .ref a]) ⟨hx, hb, hml, hown, hts⟩ hE hS hP (kc_AL_init l B D G M5 q4 f10 hA_q4 f9 3) tw_115 tw_146 tw_114 tw_43 rfl (by decide +kernel) rfl rfl ⟨by show 3 + 1 ≤ R.frames; omega, by show 8 + (1 + 11) + 52 ≤ R.locals; omega⟩ rfl hl.1 rfl (Nat.le_of_ble_eq_true rfl) dd_MG_init_15 ⟨by omega, by omega⟩) (fun M12 H locs hw13 hP hS => ?_)
  refine W.widen (k := 1) (n := 3) (by omega) (by omega) ?_
  obtain ⟨klq4, kfq4⟩ := hw13
  obtain ⟨nlq4, flq4, mlq4, blq4, dlq4, elq4⟩ := id klq4
  have f14 : M12 a = some (.inr (4, [.ref (G 3), .null])) := kfq4 _ _ f7 (hm_n1 ne6)
  have f15 : M12 (G 0) = some (.inl (D.1 104, 0, .inr (.inr (.inr (.inr (fun _ => none)))))) := kfq4 _ _ f9 (hm_n1 ne8)
  refine hm_putF (ci := 4) (v := .ref q4) (ty := .object "java/util/ArrayList") (C := rn_MG) (T := ft_MG) (N := 2) hx hb hts fi_MG fy_MG fo_MG fn_MG hown hE.K hP hS hA_a f14 rfl 1 (by decide) (hts _ tw_149) (fun _ h9 => h9) rfl hin rfl (by decide +kernel) rfl rfl (Nat.le_of_ble_eq_true rfl) dd_MG_init_18 (fun H locs hP hS => ?_)
  have hP : hm_P D cl_W (hm_up M12 a (.inr (4, [.ref (G 3), .ref q4]))) H := hP
  obtain ⟨M16, eM16⟩ : ∃ z, z = hm_up M12 a (.inr (4, [.ref (G 3), .ref q4])) := ⟨_, rfl⟩
  rw [← eM16] at hP
  have f17 : M16 (G 0) = some (.inl (D.1 104, 0, .inr (.inr (.inr (.inr (fun _ => none)))))) := by rw [eM16]; exact hm_up_o (hm_ne f15 f14 (by intro h9; cases h9)) f15
  have f18 : M16 q4 = some (.inr (9, [.ref (G 0), .int (nI 0), .int mlq4])) := by rw [eM16]; exact hm_up_o (Ne.symm ne6) blq4
  have f19 : M16 a = some (.inr (4, [.ref (G 3), .ref q4])) := by rw [eM16]; exact hm_up_s
  have kk20 : hm_k M M [a] := hm_krf
  have kk21 : hm_k M M1 [a] := hm_ku kk20 (Or.inr (by simp)) eM1
  have ko23 := hm_kn0 kk21 hn_q4
  have kk22 : hm_k M M5 [a] := hm_kn kk21 hn_q4 eM5
  have kk24 : hm_k M M12 [a] := hm_kt kk22 kfq4 (hm_a1 ko23)
  have kk25 : hm_k M M16 [a] := hm_ku kk24 (Or.inr (by simp)) eM16
  exact hm_Ev hx hb hr hS hP (⟨q4, f19, klq4.kept (fun e he => by rw [eM16]; exact hm_up_o (Ne.symm ne6) he) (fun e he => by rw [eM16]; exact hm_up_o (Ne.symm (hm_ne f19 f17 (by intro h9; cases h9))) he) (fun x9 h9 => absurd h9 List.not_mem_nil), ko23.resolve_right (fun h9 => ne6 (List.mem_singleton.mp h9).symm), Ne.symm ne6, hA_q4, kk25⟩) hlocks (by omega) (by omega) dd_MG_init_21
set_option maxHeartbeats 4000000 in
set_option maxRecDepth 100000 in
theorem kc_RD_init (l : Launch) (B : Nat) (D : va_G) (G : Nat → Nat) (M : hm_M) (x : Nat) (ha : M x = some (.inr (0, [.null, .null, .null, .null, .null, .null]))) (hA_x : hm_A B x) (hg : M (G 0) = some (.inl (D.1 104, 0, .inr (.inr (.inr (.inr (fun _ => none))))))) : Met l yy_RD_init ws_RD_init ({ frames := 5, cells := 12, slots := 300, locals := 92 }) (hm_Pc B D G M [.ref x]) (hm_Nv B D (fun M1 => ∃ (N : Nat → Nat) (v : Nat), (N 0 = x ∧ M1 x = some (.inr (0, [.ref (N 1), .ref (N 2), .ref (N 3), .ref (N 4), .ref (N 5), .ref (N 7)]))) ∧ sb_T B D M1 (N 1) v [] ∧ M1 (N 2) = some (.inl (D.1 105, 16, .inr (.inr (.inr (.inr (fun _ => none)))))) ∧ M1 (N 3) = some (.inl (D.1 101, 16, .inl (fun _ => 0))) ∧ al_D B D G M1 1 (N 4) (G 0) [] ∧ M1 (N 5) = some (.inr (4, [.ref (G 3), .ref (N 6)])) ∧ al_D B D G M1 3 (N 6) (G 0) [] ∧ M1 (N 7) = some (.inr (5, [.ref (N 8), .ref (N 9), .int (nI 0), .ref (N 10), .int (nI 0)])) ∧ M1 (N 8) = some (.inl (D.1 101, 16, .inl (fun _ => 0))) ∧ M1 (N 9) = some (.inl (D.1 102, 16, .inl (fun _ => 0))) ∧ M1 (N 10) = some (.inl (D.1 101, 16, .inl (fun _ => 0))) ∧ (∀ i, 1 ≤ i → i ≤ 10 → M (N i) = none ∧ B ≤ N i) ∧ (M v = none) ∧ (∀ i, 1 ≤ i → i ≤ 10 → N i ≠ v) ∧ (∀ i j, 1 ≤ i → i < j → j ≤ 10 → N i ≠ N j) ∧ hm_k M M1 [x])) (12) (300) (hm_A B) := by
  refine Met.ofW (cc := cd_RD_init) (maxL := 1) (ret := none) (by decide) rfl ?_
  intro p e s m args below meth c s₁ B0 hml hv
  obtain ⟨rfl, hE, hP⟩ := hv
  have hx := B0.exec
  have hb := B0.bytes
  have hr := B0.returns
  have hts : ∀ w ∈ tb_G, w.before _ s = true := fun w h => atoms_spec (ws := ws_RD_init) B0.pre w (List.mem_cons_of_mem _ h)
  have hown : s.vm.findClass "RouteDesk" = some m.cls := findClass_of_methodNamed B0.named
  have hlocks := B0.notSynchronized
  have hRf : (headSpec ws_RD_init { frames := 5, cells := 12, slots := 300, locals := 92 }).room.frames = 5 := rfl
  have hRl : (headSpec ws_RD_init { frames := 5, cells := 12, slots := 300, locals := 92 }).room.locals = 92 := rfl
  have hRc : (headSpec ws_RD_init { frames := 5, cells := 12, slots := 300, locals := 92 }).room.cells = 12 := rfl
  have hRs : (headSpec ws_RD_init { frames := 5, cells := 12, slots := 300, locals := 92 }).room.slots = 300 := rfl
  generalize (headSpec ws_RD_init { frames := 5, cells := 12, slots := 300, locals := 92 }).room = R at hRf hRl hRc hRs ⊢
  have hin : meth.name = "<init>" := (name_of_methodNamed B0.named B0.method).1
  have hS : va_S (hm_A B) s.heap s.heap [] := va_S.rf
  have hl := lv_entry ([.ref x]) (n := 1) (Nat.le_of_ble_eq_true rfl)
  rw [lg_entry_eq]
  generalize (lg_sl ([.ref x]) ++ List.replicate (1 - (lg_sl ([.ref x])).length) Slot.unset).toArray = ls at hl ⊢
  have hl : lv_has ls 1 [(0, .ref x)] := hl
  refine lv_aload_n hx hb dd_RD_init_0 rfl (lv_at hl 0 rfl) ?_
  refine W.objInit hx hb hown (hts _ tw_73) (hts _ tw_74) (hts _ tw_75) rfl (by rw [hml]; exact hl.1) rfl dd_RD_init_1 (by omega) (by rw [hRl]; exact Nat.le_of_ble_eq_true rfl) ?_
  refine W.eq (g2 := F0 m 4 ls []) rfl ?_
  refine lv_aload_n hx hb dd_RD_init_4 rfl (lv_at hl 0 rfl) ?_
  refine hm_new (n := 4) (ci := 7) (fs := [.null, .int (nI 0), .int (nI 0), .int (nI 0)]) (C := rn_SB) (T := ft_SB) (N := 4) hx hb hts fi_SB fy_SB fo_SB hown (hts _ tw_76) (hts _ tw_77) (hts _ tw_38) hE.K hP hS rfl (fun j hj => by match j, hj with | 0, _ => rfl | 1, _ => rfl | 2, _ => rfl | 3, _ => rfl | j + 4, hj => exact absurd hj (by omega)) (by omega) (by omega) dd_RD_init_5 (fun q1 H hB_q1 hn_q1 hP hS => ?_)
  have hA_q1 : hm_A B q1 := Nat.le_trans hE.2.1 hB_q1
  obtain ⟨M2, eM2⟩ : ∃ z, z = hm_up M q1 (.inr (7, [.null, .int (nI 0), .int (nI 0), .int (nI 0)])) := ⟨_, rfl⟩
  rw [← eM2] at hP
  have ne3 : x ≠ q1 := hm_neN ha hn_q1
  have f4 : M2 x = some (.inr (0, [.null, .null, .null, .null, .null, .null])) := by rw [eM2]; exact hm_up_o ne3 ha
  have ne5 : (G 0) ≠ q1 := hm_neN hg hn_q1
  have f6 : M2 (G 0) = some (.inl (D.1 104, 0, .inr (.inr (.inr (.inr (fun _ => none)))))) := by rw [eM2]; exact hm_up_o ne5 hg
  have f7 : M2 q1 = some (.inr (7, [.null, .int (nI 0), .int (nI 0), .int (nI 0)])) := by rw [eM2]; exact hm_up_s
  refine W.widen (k := 1) (n := 4) (by omega) (by omega) ?_
  refine lv_dup hx hb dd_RD_init_8 rfl ?_
  refine hm_cv hS (hm_rI 0 (As := []) (rest := [.ref q1, .ref x]) ⟨hx, hb, hml, hown, hts⟩ hE hS hP (kc_SB_init l B D G M2 q1 f7 hA_q1) tw_80 tw_78 tw_79 tw_38 rfl (by decide +kernel) rfl rfl ⟨by show 2 + 1 ≤ R.frames; omega, by show 8 + (1 + 11) + 33 ≤ R.locals; omega⟩ rfl hl.1 rfl (Nat.le_of_ble_eq_true rfl) dd_RD_init_9 ⟨by omega, by omega⟩) (fun M9 H locs hw10 hP hS => ?_)
  refine W.widen (k := 2) (n := 104) (by omega) (by omega) ?_
  obtain ⟨v, ⟨mmv, fv, mlv, hsb⟩, hvn, hkv⟩ := hw10
  have f11 : M9 x = some (.inr (0, [.null, .null, .null, .null, .null, .null])) := hkv _ _ f4 (hm_n1 ne3)
  have f12 : M9 (G 0) = some (.inl (D.1 104, 0, .inr (.inr (.inr (.inr (fun _ => none)))))) := hkv _ _ f6 (hm_n1 ne5)
  have ne13 : x ≠ v := hm_neN f4 hvn
  have ne14 : (G 0) ≠ v := hm_neN f6 hvn
  have ne15 : q1 ≠ v := hm_neN f7 hvn
  refine hm_putF (ci := 0) (v := .ref q1) (ty := .object "java/lang/StringBuilder") (C := rn_RD) (T := ft_RD) (N := 6) hx hb hts fi_RD fy_RD fo_RD fn_RD hown hE.K hP hS hA_x f11 rfl 0 (by decide) (hts _ tw_184) (fun _ h9 => h9) rfl hin rfl (by decide +kernel) rfl rfl (Nat.le_of_ble_eq_true rfl) dd_RD_init_12 (fun H locs hP hS => ?_)
  have hP : hm_P D cl_W (hm_up M9 x (.inr (0, [.ref q1, .null, .null, .null, .null, .null]))) H := hP
  obtain ⟨M16, eM16⟩ : ∃ z, z = hm_up M9 x (.inr (0, [.ref q1, .null, .null, .null, .null, .null])) := ⟨_, rfl⟩
  rw [← eM16] at hP
  have f17 : M16 (G 0) = some (.inl (D.1 104, 0, .inr (.inr (.inr (.inr (fun _ => none)))))) := by rw [eM16]; exact hm_up_o (hm_ne f12 f11 (by intro h9; cases h9)) f12
  have f18 : M16 q1 = some (.inr (7, [.ref v, .int (nI 0), .int (nI mlv), .int (nI 0)])) := by rw [eM16]; exact hm_up_o (Ne.symm ne3) hsb.1
  have f19 : M16 v = some (.inl (D.1 100, mmv, .inl fv)) := by rw [eM16]; exact hm_up_o (Ne.symm ne13) hsb.2.1
  have f20 : M16 x = some (.inr (0, [.ref q1, .null, .null, .null, .null, .null])) := by rw [eM16]; exact hm_up_s
  refine lv_aload_n hx hb dd_RD_init_15 rfl (lv_at hl 0 rfl) ?_
  refine lv_bipush (v := nI 16) hx hb dd_RD_init_16 (by decide +kernel) ?_
  refine hm_newq (N' := 16) hx hb hown (hts _ tw_109) hE.2.2.2.1.2 hE.K hP hS 5 rfl (nI_pos (by omega)) (nI_clamp (by omega)) (by omega) (by omega) (by omega) dd_RD_init_18 (fun q21 H hB_q21 hn_q21 hP hS => ?_)
  have hA_q21 : hm_A B q21 := Nat.le_trans hE.2.1 hB_q21
  obtain ⟨M22, eM22⟩ : ∃ z, z = hm_up M16 q21 (.inl (D.1 105, 16, .inr (.inr (.inr (.inr (fun _ => none)))))) := ⟨_, rfl⟩
  rw [← eM22] at hP
  have ne23 : x ≠ q21 := hm_neN f20 hn_q21
  have f24 : M22 x = some (.inr (0, [.ref q1, .null, .null, .null, .null, .null])) := by rw [eM22]; exact hm_up_o ne23 f20
  have ne25 : (G 0) ≠ q21 := hm_neN f17 hn_q21
  have f26 : M22 (G 0) = some (.inl (D.1 104, 0, .inr (.inr (.inr (.inr (fun _ => none)))))) := by rw [eM22]; exact hm_up_o ne25 f17
  have ne27 : q1 ≠ q21 := hm_neN f18 hn_q21
  have f28 : M22 q1 = some (.inr (7, [.ref v, .int (nI 0), .int (nI mlv), .int (nI 0)])) := by rw [eM22]; exact hm_up_o ne27 f18
  have ne29 : v ≠ q21 := hm_neN f19 hn_q21
  have f30 : M22 v = some (.inl (D.1 100, mmv, .inl fv)) := by rw [eM22]; exact hm_up_o ne29 f19
  have f31 : M22 q21 = some (.inl (D.1 105, 16, .inr (.inr (.inr (.inr (fun _ => none)))))) := by rw [eM22]; exact hm_up_s
  refine W.widen (k := 3) (n := 120) (by omega) (by omega) ?_
  refine hm_putF (ci := 0) (v := .ref q21) (ty := .array (.object "RouteDesk$Exchange")) (C := rn_RD) (T := ft_RD) (N := 6) hx hb hts fi_RD fy_RD fo_RD fn_RD hown hE.K hP hS hA_x f24 rfl 1 (by decide) (hts _ tw_185) (fun _ h9 => h9) rfl hin rfl (by decide +kernel) rfl rfl (Nat.le_of_ble_eq_true rfl) dd_RD_init_21 (fun H locs hP hS => ?_)
  have hP : hm_P D cl_W (hm_up M22 x (.inr (0, [.ref q1, .ref q21, .null, .null, .null, .null]))) H := hP
  obtain ⟨M32, eM32⟩ : ∃ z, z = hm_up M22 x (.inr (0, [.ref q1, .ref q21, .null, .null, .null, .null])) := ⟨_, rfl⟩
  rw [← eM32] at hP
  have f33 : M32 (G 0) = some (.inl (D.1 104, 0, .inr (.inr (.inr (.inr (fun _ => none)))))) := by rw [eM32]; exact hm_up_o (hm_ne f26 f24 (by intro h9; cases h9)) f26
  have f34 : M32 q1 = some (.inr (7, [.ref v, .int (nI 0), .int (nI mlv), .int (nI 0)])) := by rw [eM32]; exact hm_up_o (Ne.symm ne3) f28
  have f35 : M32 v = some (.inl (D.1 100, mmv, .inl fv)) := by rw [eM32]; exact hm_up_o (Ne.symm ne13) f30
  have f36 : M32 q21 = some (.inl (D.1 105, 16, .inr (.inr (.inr (.inr (fun _ => none)))))) := by rw [eM32]; exact hm_up_o (Ne.symm ne23) f31
  have f37 : M32 x = some (.inr (0, [.ref q1, .ref q21, .null, .null, .null, .null])) := by rw [eM32]; exact hm_up_s
  refine lv_aload_n hx hb dd_RD_init_24 rfl (lv_at hl 0 rfl) ?_
  refine lv_bipush (v := nI 16) hx hb dd_RD_init_25 (by decide +kernel) ?_
  refine hm_newa (atype := .boolean) (ty := .boolean) (N' := 16) (a0 := (16, .inl (fun _ => 0))) hx hb (hts _ tw_137) rfl hE.K hP hS 1 rfl (fun _ h9 => by cases h9) rfl (nI_pos (by omega)) (nI_clamp (by omega)) (by show _ * _ ≤ _; simp only [componentBytes]; omega) (by omega) (by omega) dd_RD_init_27 (fun q38 H hB_q38 hn_q38 hP hS => ?_)
  have hA_q38 : hm_A B q38 := Nat.le_trans hE.2.1 hB_q38
  obtain ⟨M39, eM39⟩ : ∃ z, z = hm_up M32 q38 (.inl (D.1 101, 16, .inl (fun _ => 0))) := ⟨_, rfl⟩
  rw [← eM39] at hP
  have ne40 : x ≠ q38 := hm_neN f37 hn_q38
  have f41 : M39 x = some (.inr (0, [.ref q1, .ref q21, .null, .null, .null, .null])) := by rw [eM39]; exact hm_up_o ne40 f37
  have ne42 : (G 0) ≠ q38 := hm_neN f33 hn_q38
  have f43 : M39 (G 0) = some (.inl (D.1 104, 0, .inr (.inr (.inr (.inr (fun _ => none)))))) := by rw [eM39]; exact hm_up_o ne42 f33
  have ne44 : q1 ≠ q38 := hm_neN f34 hn_q38
  have f45 : M39 q1 = some (.inr (7, [.ref v, .int (nI 0), .int (nI mlv), .int (nI 0)])) := by rw [eM39]; exact hm_up_o ne44 f34
  have ne46 : v ≠ q38 := hm_neN f35 hn_q38
  have f47 : M39 v = some (.inl (D.1 100, mmv, .inl fv)) := by rw [eM39]; exact hm_up_o ne46 f35
  have ne48 : q21 ≠ q38 := hm_neN f36 hn_q38
  have f49 : M39 q21 = some (.inl (D.1 105, 16, .inr (.inr (.inr (.inr (fun _ => none)))))) := by rw [eM39]; exact hm_up_o ne48 f36
  have f50 : M39 q38 = some (.inl (D.1 101, 16, .inl (fun _ => 0))) := by rw [eM39]; exact hm_up_s
  refine W.widen (k := 4) (n := 136) (by omega) (by omega) ?_
  refine hm_putF (ci := 0) (v := .ref q38) (ty := .array .boolean) (C := rn_RD) (T := ft_RD) (N := 6) hx hb hts fi_RD fy_RD fo_RD fn_RD hown hE.K hP hS hA_x f41 rfl 2 (by decide) (hts _ tw_186) (fun _ h9 => h9) rfl hin rfl (by decide +kernel) rfl rfl (Nat.le_of_ble_eq_true rfl) dd_RD_init_29 (fun H locs hP hS => ?_)
  have hP : hm_P D cl_W (hm_up M39 x (.inr (0, [.ref q1, .ref q21, .ref q38, .null, .null, .null]))) H := hP
  obtain ⟨M51, eM51⟩ : ∃ z, z = hm_up M39 x (.inr (0, [.ref q1, .ref q21, .ref q38, .null, .null, .null])) := ⟨_, rfl⟩
  rw [← eM51] at hP
  have f52 : M51 (G 0) = some (.inl (D.1 104, 0, .inr (.inr (.inr (.inr (fun _ => none)))))) := by rw [eM51]; exact hm_up_o (hm_ne f43 f41 (by intro h9; cases h9)) f43
  have f53 : M51 q1 = some (.inr (7, [.ref v, .int (nI 0), .int (nI mlv), .int (nI 0)])) := by rw [eM51]; exact hm_up_o (Ne.symm ne3) f45
  have f54 : M51 v = some (.inl (D.1 100, mmv, .inl fv)) := by rw [eM51]; exact hm_up_o (Ne.symm ne13) f47
  have f55 : M51 q21 = some (.inl (D.1 105, 16, .inr (.inr (.inr (.inr (fun _ => none)))))) := by rw [eM51]; exact hm_up_o (Ne.symm ne23) f49
  have f56 : M51 q38 = some (.inl (D.1 101, 16, .inl (fun _ => 0))) := by rw [eM51]; exact hm_up_o (Ne.symm ne40) f50
  have f57 : M51 x = some (.inr (0, [.ref q1, .ref q21, .ref q38, .null, .null, .null])) := by rw [eM51]; exact hm_up_s
  refine lv_aload_n hx hb dd_RD_init_32 rfl (lv_at hl 0 rfl) ?_
  refine hm_new (n := 3) (ci := 9) (fs := [.null, .int (nI 0), .int (nI 0)]) (C := rn_AL) (T := ft_AL) (N := 3) hx hb hts fi_AL fy_AL fo_AL hown (hts _ tw_111) (hts _ tw_112) (hts _ tw_43) hE.K hP hS rfl (fun j hj => by match j, hj with | 0, _ => rfl | 1, _ => rfl | 2, _ => rfl | j + 3, hj => exact absurd hj (by omega)) (by omega) (by omega) dd_RD_init_33 (fun q58 H hB_q58 hn_q58 hP hS => ?_)
  have hA_q58 : hm_A B q58 := Nat.le_trans hE.2.1 hB_q58
  obtain ⟨M59, eM59⟩ : ∃ z, z = hm_up M51 q58 (.inr (9, [.null, .int (nI 0), .int (nI 0)])) := ⟨_, rfl⟩
  rw [← eM59] at hP
  have ne60 : x ≠ q58 := hm_neN f57 hn_q58
  have f61 : M59 x = some (.inr (0, [.ref q1, .ref q21, .ref q38, .null, .null, .null])) := by rw [eM59]; exact hm_up_o ne60 f57
  have ne62 : (G 0) ≠ q58 := hm_neN f52 hn_q58
  have f63 : M59 (G 0) = some (.inl (D.1 104, 0, .inr (.inr (.inr (.inr (fun _ => none)))))) := by rw [eM59]; exact hm_up_o ne62 f52
  have ne64 : q1 ≠ q58 := hm_neN f53 hn_q58
  have f65 : M59 q1 = some (.inr (7, [.ref v, .int (nI 0), .int (nI mlv), .int (nI 0)])) := by rw [eM59]; exact hm_up_o ne64 f53
  have ne66 : v ≠ q58 := hm_neN f54 hn_q58
  have f67 : M59 v = some (.inl (D.1 100, mmv, .inl fv)) := by rw [eM59]; exact hm_up_o ne66 f54
  have ne68 : q21 ≠ q58 := hm_neN f55 hn_q58
  have f69 : M59 q21 = some (.inl (D.1 105, 16, .inr (.inr (.inr (.inr (fun _ => none)))))) := by rw [eM59]; exact hm_up_o ne68 f55
  have ne70 : q38 ≠ q58 := hm_neN f56 hn_q58
  have f71 : M59 q38 = some (.inl (D.1 101, 16, .inl (fun _ => 0))) := by rw [eM59]; exact hm_up_o ne70 f56
  have f72 : M59 q58 = some (.inr (9, [.null, .int (nI 0), .int (nI 0)])) := by rw [eM59]; exact hm_up_s
  refine W.widen (k := 5) (n := 139) (by omega) (by omega) ?_
  refine lv_dup hx hb dd_RD_init_36 rfl ?_
  refine hm_cv hS (hm_rI 0 (As := []) (rest := [.ref q58, .ref x]) ⟨hx, hb, hml, hown, hts⟩ hE hS hP (kc_AL_init l B D G M59 q58 f72 hA_q58 f63 1) tw_115 tw_113 tw_114 tw_43 rfl (by decide +kernel) rfl rfl ⟨by show 3 + 1 ≤ R.frames; omega, by show 8 + (1 + 11) + 52 ≤ R.locals; omega⟩ rfl hl.1 rfl (Nat.le_of_ble_eq_true rfl) dd_RD_init_37 ⟨by omega, by omega⟩) (fun M74 H locs hw75 hP hS => ?_)
  refine W.widen (k := 5) (n := 139) (by omega) (by omega) ?_
  obtain ⟨klq58, kfq58⟩ := hw75
  obtain ⟨nlq58, flq58, mlq58, blq58, dlq58, elq58⟩ := id klq58
  have f76 : M74 x = some (.inr (0, [.ref q1, .ref q21, .ref q38, .null, .null, .null])) := kfq58 _ _ f61 (hm_n1 ne60)
  have f77 : M74 (G 0) = some (.inl (D.1 104, 0, .inr (.inr (.inr (.inr (fun _ => none)))))) := kfq58 _ _ f63 (hm_n1 ne62)
  have f78 : M74 q1 = some (.inr (7, [.ref v, .int (nI 0), .int (nI mlv), .int (nI 0)])) := kfq58 _ _ f65 (hm_n1 ne64)
  have f79 : M74 v = some (.inl (D.1 100, mmv, .inl fv)) := kfq58 _ _ f67 (hm_n1 ne66)
  have f80 : M74 q21 = some (.inl (D.1 105, 16, .inr (.inr (.inr (.inr (fun _ => none)))))) := kfq58 _ _ f69 (hm_n1 ne68)
  have f81 : M74 q38 = some (.inl (D.1 101, 16, .inl (fun _ => 0))) := kfq58 _ _ f71 (hm_n1 ne70)
  refine hm_putF (ci := 0) (v := .ref q58) (ty := .object "java/util/ArrayList") (C := rn_RD) (T := ft_RD) (N := 6) hx hb hts fi_RD fy_RD fo_RD fn_RD hown hE.K hP hS hA_x f76 rfl 3 (by decide) (hts _ tw_187) (fun _ h9 => h9) rfl hin rfl (by decide +kernel) rfl rfl (Nat.le_of_ble_eq_true rfl) dd_RD_init_40 (fun H locs hP hS => ?_)
  have hP : hm_P D cl_W (hm_up M74 x (.inr (0, [.ref q1, .ref q21, .ref q38, .ref q58, .null, .null]))) H := hP
  obtain ⟨M82, eM82⟩ : ∃ z, z = hm_up M74 x (.inr (0, [.ref q1, .ref q21, .ref q38, .ref q58, .null, .null])) := ⟨_, rfl⟩
  rw [← eM82] at hP
  have f83 : M82 (G 0) = some (.inl (D.1 104, 0, .inr (.inr (.inr (.inr (fun _ => none)))))) := by rw [eM82]; exact hm_up_o (hm_ne f77 f76 (by intro h9; cases h9)) f77
  have f84 : M82 q1 = some (.inr (7, [.ref v, .int (nI 0), .int (nI mlv), .int (nI 0)])) := by rw [eM82]; exact hm_up_o (Ne.symm ne3) f78
  have f85 : M82 v = some (.inl (D.1 100, mmv, .inl fv)) := by rw [eM82]; exact hm_up_o (Ne.symm ne13) f79
  have f86 : M82 q21 = some (.inl (D.1 105, 16, .inr (.inr (.inr (.inr (fun _ => none)))))) := by rw [eM82]; exact hm_up_o (Ne.symm ne23) f80
  have f87 : M82 q38 = some (.inl (D.1 101, 16, .inl (fun _ => 0))) := by rw [eM82]; exact hm_up_o (Ne.symm ne40) f81
  have f88 : M82 q58 = some (.inr (9, [.ref (G 0), .int (nI 0), .int mlq58])) := by rw [eM82]; exact hm_up_o (Ne.symm ne60) blq58
  have f89 : M82 x = some (.inr (0, [.ref q1, .ref q21, .ref q38, .ref q58, .null, .null])) := by rw [eM82]; exact hm_up_s
  refine lv_aload_n hx hb dd_RD_init_43 rfl (lv_at hl 0 rfl) ?_
  refine hm_new (n := 2) (ci := 4) (fs := [.null, .null]) (C := rn_MG) (T := ft_MG) (N := 2) hx hb hts fi_MG fy_MG fo_MG hown (hts _ tw_138) (hts _ tw_139) (hts _ tw_44) hE.K hP hS rfl (fun j hj => by match j, hj with | 0, _ => rfl | 1, _ => rfl | j + 2, hj => exact absurd hj (by omega)) (by omega) (by omega) dd_RD_init_44 (fun q90 H hB_q90 hn_q90 hP hS => ?_)
  have hA_q90 : hm_A B q90 := Nat.le_trans hE.2.1 hB_q90
  obtain ⟨M91, eM91⟩ : ∃ z, z = hm_up M82 q90 (.inr (4, [.null, .null])) := ⟨_, rfl⟩
  rw [← eM91] at hP
  have ne92 : x ≠ q90 := hm_neN f89 hn_q90
  have f93 : M91 x = some (.inr (0, [.ref q1, .ref q21, .ref q38, .ref q58, .null, .null])) := by rw [eM91]; exact hm_up_o ne92 f89
  have ne94 : (G 0) ≠ q90 := hm_neN f83 hn_q90
  have f95 : M91 (G 0) = some (.inl (D.1 104, 0, .inr (.inr (.inr (.inr (fun _ => none)))))) := by rw [eM91]; exact hm_up_o ne94 f83
  have ne96 : q1 ≠ q90 := hm_neN f84 hn_q90
  have f97 : M91 q1 = some (.inr (7, [.ref v, .int (nI 0), .int (nI mlv), .int (nI 0)])) := by rw [eM91]; exact hm_up_o ne96 f84
  have ne98 : v ≠ q90 := hm_neN f85 hn_q90
  have f99 : M91 v = some (.inl (D.1 100, mmv, .inl fv)) := by rw [eM91]; exact hm_up_o ne98 f85
  have ne100 : q21 ≠ q90 := hm_neN f86 hn_q90
  have f101 : M91 q21 = some (.inl (D.1 105, 16, .inr (.inr (.inr (.inr (fun _ => none)))))) := by rw [eM91]; exact hm_up_o ne100 f86
  have ne102 : q38 ≠ q90 := hm_neN f87 hn_q90
  have f103 : M91 q38 = some (.inl (D.1 101, 16, .inl (fun _ => 0))) := by rw [eM91]; exact hm_up_o ne102 f87
  have ne104 : q58 ≠ q90 := hm_neN f88 hn_q90
  have f105 : M91 q58 = some (.inr (9, [.ref (G 0), .int (nI 0), .int mlq58])) := by rw [eM91]; exact hm_up_o ne104 f88
  have f106 : M91 q90 = some (.inr (4, [.null, .null])) := by rw [eM91]; exact hm_up_s
  refine W.widen (k := 6) (n := 141) (by omega) (by omega) ?_
  refine lv_dup hx hb dd_RD_init_47 rfl ?_
  refine hm_cv hS (hm_rIN 0 (As := []) (rest := [.ref q90, .ref x]) ⟨hx, hb, hml, hown, hts⟩ hE hS hP (kc_MG_init l B D G M91 q90 f106 hA_q90 f95) tw_142 (hE.nest 0 rfl) tw_141 tw_44 rfl (by decide +kernel) rfl rfl ⟨by show 4 + 1 ≤ R.frames; omega, by show 8 + (1 + 11) + 72 ≤ R.locals; omega⟩ rfl hl.1 rfl (Nat.le_of_ble_eq_true rfl) dd_RD_init_48 ⟨by omega, by omega⟩) (fun M108 H locs hw109 hP hS => ?_)
  refine W.widen (k := 7) (n := 144) (by omega) (by omega) ?_
  obtain ⟨q6, hm1, hm2, hm3, hm4, hA_q6, hkm⟩ := hw109
  obtain ⟨nl6, fl6, ml6, bl6, dl6, el6⟩ := id hm2
  have f110 : M108 x = some (.inr (0, [.ref q1, .ref q21, .ref q38, .ref q58, .null, .null])) := hkm _ _ f93 (hm_n1 ne92)
  have f111 : M108 (G 0) = some (.inl (D.1 104, 0, .inr (.inr (.inr (.inr (fun _ => none)))))) := hkm _ _ f95 (hm_n1 ne94)
  have f112 : M108 q1 = some (.inr (7, [.ref v, .int (nI 0), .int (nI mlv), .int (nI 0)])) := hkm _ _ f97 (hm_n1 ne96)
  have f113 : M108 v = some (.inl (D.1 100, mmv, .inl fv)) := hkm _ _ f99 (hm_n1 ne98)
  have f114 : M108 q21 = some (.inl (D.1 105, 16, .inr (.inr (.inr (.inr (fun _ => none)))))) := hkm _ _ f101 (hm_n1 ne100)
  have f115 : M108 q38 = some (.inl (D.1 101, 16, .inl (fun _ => 0))) := hkm _ _ f103 (hm_n1 ne102)
  have f116 : M108 q58 = some (.inr (9, [.ref (G 0), .int (nI 0), .int mlq58])) := hkm _ _ f105 (hm_n1 ne104)
  have ne117 : x ≠ q6 := hm_neN f93 hm3
  have ne118 : (G 0) ≠ q6 := hm_neN f95 hm3
  have ne119 : q1 ≠ q6 := hm_neN f97 hm3
  have ne120 : v ≠ q6 := hm_neN f99 hm3
  have ne121 : q21 ≠ q6 := hm_neN f101 hm3
  have ne122 : q38 ≠ q6 := hm_neN f103 hm3
  have ne123 : q58 ≠ q6 := hm_neN f105 hm3
  have ne124 : q90 ≠ q6 := hm_neN f106 hm3
  refine hm_putF (ci := 0) (v := .ref q90) (ty := .object "RouteDesk$Message") (C := rn_RD) (T := ft_RD) (N := 6) hx hb hts fi_RD fy_RD fo_RD fn_RD hown hE.K hP hS hA_x f110 rfl 4 (by decide) (hts _ tw_188) (fun _ h9 => h9) rfl hin rfl (by decide +kernel) rfl rfl (Nat.le_of_ble_eq_true rfl) dd_RD_init_51 (fun H locs hP hS => ?_)
  have hP : hm_P D cl_W (hm_up M108 x (.inr (0, [.ref q1, .ref q21, .ref q38, .ref q58, .ref q90, .null]))) H := hP
  obtain ⟨M125, eM125⟩ : ∃ z, z = hm_up M108 x (.inr (0, [.ref q1, .ref q21, .ref q38, .ref q58, .ref q90, .null])) := ⟨_, rfl⟩
  rw [← eM125] at hP
  have f126 : M125 (G 0) = some (.inl (D.1 104, 0, .inr (.inr (.inr (.inr (fun _ => none)))))) := by rw [eM125]; exact hm_up_o (hm_ne f111 f110 (by intro h9; cases h9)) f111
  have f127 : M125 q1 = some (.inr (7, [.ref v, .int (nI 0), .int (nI mlv), .int (nI 0)])) := by rw [eM125]; exact hm_up_o (Ne.symm ne3) f112
  have f128 : M125 v = some (.inl (D.1 100, mmv, .inl fv)) := by rw [eM125]; exact hm_up_o (Ne.symm ne13) f113
  have f129 : M125 q21 = some (.inl (D.1 105, 16, .inr (.inr (.inr (.inr (fun _ => none)))))) := by rw [eM125]; exact hm_up_o (Ne.symm ne23) f114
  have f130 : M125 q38 = some (.inl (D.1 101, 16, .inl (fun _ => 0))) := by rw [eM125]; exact hm_up_o (Ne.symm ne40) f115
  have f131 : M125 q58 = some (.inr (9, [.ref (G 0), .int (nI 0), .int mlq58])) := by rw [eM125]; exact hm_up_o (Ne.symm ne60) f116
  have f132 : M125 q90 = some (.inr (4, [.ref (G 3), .ref q6])) := by rw [eM125]; exact hm_up_o (Ne.symm ne92) hm1
  have f133 : M125 q6 = some (.inr (9, [.ref (G 0), .int (nI 0), .int ml6])) := by rw [eM125]; exact hm_up_o (Ne.symm ne117) bl6
  have f134 : M125 x = some (.inr (0, [.ref q1, .ref q21, .ref q38, .ref q58, .ref q90, .null])) := by rw [eM125]; exact hm_up_s
  refine lv_aload_n hx hb dd_RD_init_54 rfl (lv_at hl 0 rfl) ?_
  refine hm_new (n := 5) (ci := 5) (fs := [.null, .null, .int (nI 0), .null, .int (nI 0)]) (C := rn_RT) (T := ft_RT) (N := 5) hx hb hts fi_RT fy_RT fo_RT hown (hts _ tw_157) (hts _ tw_158) (hts _ tw_45) hE.K hP hS rfl (fun j hj => by match j, hj with | 0, _ => rfl | 1, _ => rfl | 2, _ => rfl | 3, _ => rfl | 4, _ => rfl | j + 5, hj => exact absurd hj (by omega)) (by omega) (by omega) dd_RD_init_55 (fun q135 H hB_q135 hn_q135 hP hS => ?_)
  have hA_q135 : hm_A B q135 := Nat.le_trans hE.2.1 hB_q135
  obtain ⟨M136, eM136⟩ : ∃ z, z = hm_up M125 q135 (.inr (5, [.null, .null, .int (nI 0), .null, .int (nI 0)])) := ⟨_, rfl⟩
  rw [← eM136] at hP
  have ne137 : x ≠ q135 := hm_neN f134 hn_q135
  have f138 : M136 x = some (.inr (0, [.ref q1, .ref q21, .ref q38, .ref q58, .ref q90, .null])) := by rw [eM136]; exact hm_up_o ne137 f134
  have ne139 : (G 0) ≠ q135 := hm_neN f126 hn_q135
  have f140 : M136 (G 0) = some (.inl (D.1 104, 0, .inr (.inr (.inr (.inr (fun _ => none)))))) := by rw [eM136]; exact hm_up_o ne139 f126
  have ne141 : q1 ≠ q135 := hm_neN f127 hn_q135
  have f142 : M136 q1 = some (.inr (7, [.ref v, .int (nI 0), .int (nI mlv), .int (nI 0)])) := by rw [eM136]; exact hm_up_o ne141 f127
  have ne143 : v ≠ q135 := hm_neN f128 hn_q135
  have f144 : M136 v = some (.inl (D.1 100, mmv, .inl fv)) := by rw [eM136]; exact hm_up_o ne143 f128
  have ne145 : q21 ≠ q135 := hm_neN f129 hn_q135
  have f146 : M136 q21 = some (.inl (D.1 105, 16, .inr (.inr (.inr (.inr (fun _ => none)))))) := by rw [eM136]; exact hm_up_o ne145 f129
  have ne147 : q38 ≠ q135 := hm_neN f130 hn_q135
  have f148 : M136 q38 = some (.inl (D.1 101, 16, .inl (fun _ => 0))) := by rw [eM136]; exact hm_up_o ne147 f130
  have ne149 : q58 ≠ q135 := hm_neN f131 hn_q135
  have f150 : M136 q58 = some (.inr (9, [.ref (G 0), .int (nI 0), .int mlq58])) := by rw [eM136]; exact hm_up_o ne149 f131
  have ne151 : q90 ≠ q135 := hm_neN f132 hn_q135
  have f152 : M136 q90 = some (.inr (4, [.ref (G 3), .ref q6])) := by rw [eM136]; exact hm_up_o ne151 f132
  have ne153 : q6 ≠ q135 := hm_neN f133 hn_q135
  have f154 : M136 q6 = some (.inr (9, [.ref (G 0), .int (nI 0), .int ml6])) := by rw [eM136]; exact hm_up_o ne153 f133
  have f155 : M136 q135 = some (.inr (5, [.null, .null, .int (nI 0), .null, .int (nI 0)])) := by rw [eM136]; exact hm_up_s
  refine W.widen (k := 8) (n := 149) (by omega) (by omega) ?_
  refine lv_dup hx hb dd_RD_init_58 rfl ?_
  refine hm_cv hS (hm_rIN 0 (As := []) (rest := [.ref q135, .ref x]) ⟨hx, hb, hml, hown, hts⟩ hE hS hP (kc_RT_init l B D G M136 q135 f155 hA_q135) tw_161 (hE.nest 4 rfl) tw_160 tw_45 rfl (by decide +kernel) rfl rfl ⟨by show 1 + 1 ≤ R.frames; omega, by show 8 + (1 + 11) + 12 ≤ R.locals; omega⟩ rfl hl.1 rfl (Nat.le_of_ble_eq_true rfl) dd_RD_init_59 ⟨by omega, by omega⟩) (fun M157 H locs hw158 hP hS => ?_)
  refine W.widen (k := 11) (n := 197) (by omega) (by omega) ?_
  obtain ⟨q8, q9, q10, hr1, hr2, hr3, hr4, ⟨hn8, hn9, hn10⟩, ⟨hd1, hd2, hd3⟩, ⟨hA_q8, hA_q9, hA_q10⟩, hkr⟩ := hw158
  have f159 : M157 x = some (.inr (0, [.ref q1, .ref q21, .ref q38, .ref q58, .ref q90, .null])) := hkr _ _ f138 (hm_n1 ne137)
  have f160 : M157 (G 0) = some (.inl (D.1 104, 0, .inr (.inr (.inr (.inr (fun _ => none)))))) := hkr _ _ f140 (hm_n1 ne139)
  have f161 : M157 q1 = some (.inr (7, [.ref v, .int (nI 0), .int (nI mlv), .int (nI 0)])) := hkr _ _ f142 (hm_n1 ne141)
  have f162 : M157 v = some (.inl (D.1 100, mmv, .inl fv)) := hkr _ _ f144 (hm_n1 ne143)
  have f163 : M157 q21 = some (.inl (D.1 105, 16, .inr (.inr (.inr (.inr (fun _ => none)))))) := hkr _ _ f146 (hm_n1 ne145)
  have f164 : M157 q38 = some (.inl (D.1 101, 16, .inl (fun _ => 0))) := hkr _ _ f148 (hm_n1 ne147)
  have f165 : M157 q58 = some (.inr (9, [.ref (G 0), .int (nI 0), .int mlq58])) := hkr _ _ f150 (hm_n1 ne149)
  have f166 : M157 q90 = some (.inr (4, [.ref (G 3), .ref q6])) := hkr _ _ f152 (hm_n1 ne151)
  have f167 : M157 q6 = some (.inr (9, [.ref (G 0), .int (nI 0), .int ml6])) := hkr _ _ f154 (hm_n1 ne153)
  have ne168 : x ≠ q8 := hm_neN f138 hn8
  have ne169 : (G 0) ≠ q8 := hm_neN f140 hn8
  have ne170 : q1 ≠ q8 := hm_neN f142 hn8
  have ne171 : v ≠ q8 := hm_neN f144 hn8
  have ne172 : q21 ≠ q8 := hm_neN f146 hn8
  have ne173 : q38 ≠ q8 := hm_neN f148 hn8
  have ne174 : q58 ≠ q8 := hm_neN f150 hn8
  have ne175 : q90 ≠ q8 := hm_neN f152 hn8
  have ne176 : q6 ≠ q8 := hm_neN f154 hn8
  have ne177 : q135 ≠ q8 := hm_neN f155 hn8
  have ne178 : x ≠ q9 := hm_neN f138 hn9
  have ne179 : (G 0) ≠ q9 := hm_neN f140 hn9
  have ne180 : q1 ≠ q9 := hm_neN f142 hn9
  have ne181 : v ≠ q9 := hm_neN f144 hn9
  have ne182 : q21 ≠ q9 := hm_neN f146 hn9
  have ne183 : q38 ≠ q9 := hm_neN f148 hn9
  have ne184 : q58 ≠ q9 := hm_neN f150 hn9
  have ne185 : q90 ≠ q9 := hm_neN f152 hn9
  have ne186 : q6 ≠ q9 := hm_neN f154 hn9
  have ne187 : q135 ≠ q9 := hm_neN f155 hn9
  have ne188 : x ≠ q10 := hm_neN f138 hn10
  have ne189 : (G 0) ≠ q10 := hm_neN f140 hn10
  have ne190 : q1 ≠ q10 := hm_neN f142 hn10
  have ne191 : v ≠ q10 := hm_neN f144 hn10
  have ne192 : q21 ≠ q10 := hm_neN f146 hn10
  have ne193 : q38 ≠ q10 := hm_neN f148 hn10
  have ne194 : q58 ≠ q10 := hm_neN f150 hn10
  have ne195 : q90 ≠ q10 := hm_neN f152 hn10
  have ne196 : q6 ≠ q10 := hm_neN f154 hn10
  have ne197 : q135 ≠ q10 := hm_neN f155 hn10
  refine hm_putF (ci := 0) (v := .ref q135) (ty := .object "RouteDesk$Routing") (C := rn_RD) (T := ft_RD) (N := 6) hx hb hts fi_RD fy_RD fo_RD fn_RD hown hE.K hP hS hA_x f159 rfl 5 (by decide) (hts _ tw_189) (fun _ h9 => h9) rfl hin rfl (by decide +kernel) rfl rfl (Nat.le_of_ble_eq_true rfl) dd_RD_init_62 (fun H locs hP hS => ?_)
  have hP : hm_P D cl_W (hm_up M157 x (.inr (0, [.ref q1, .ref q21, .ref q38, .ref q58, .ref q90, .ref q135]))) H := hP
  obtain ⟨M198, eM198⟩ : ∃ z, z = hm_up M157 x (.inr (0, [.ref q1, .ref q21, .ref q38, .ref q58, .ref q90, .ref q135])) := ⟨_, rfl⟩
  rw [← eM198] at hP
  have f199 : M198 (G 0) = some (.inl (D.1 104, 0, .inr (.inr (.inr (.inr (fun _ => none)))))) := by rw [eM198]; exact hm_up_o (hm_ne f160 f159 (by intro h9; cases h9)) f160
  have f200 : M198 q1 = some (.inr (7, [.ref v, .int (nI 0), .int (nI mlv), .int (nI 0)])) := by rw [eM198]; exact hm_up_o (Ne.symm ne3) f161
  have f201 : M198 v = some (.inl (D.1 100, mmv, .inl fv)) := by rw [eM198]; exact hm_up_o (Ne.symm ne13) f162
  have f202 : M198 q21 = some (.inl (D.1 105, 16, .inr (.inr (.inr (.inr (fun _ => none)))))) := by rw [eM198]; exact hm_up_o (Ne.symm ne23) f163
  have f203 : M198 q38 = some (.inl (D.1 101, 16, .inl (fun _ => 0))) := by rw [eM198]; exact hm_up_o (Ne.symm ne40) f164
  have f204 : M198 q58 = some (.inr (9, [.ref (G 0), .int (nI 0), .int mlq58])) := by rw [eM198]; exact hm_up_o (Ne.symm ne60) f165
  have f205 : M198 q90 = some (.inr (4, [.ref (G 3), .ref q6])) := by rw [eM198]; exact hm_up_o (Ne.symm ne92) f166
  have f206 : M198 q6 = some (.inr (9, [.ref (G 0), .int (nI 0), .int ml6])) := by rw [eM198]; exact hm_up_o (Ne.symm ne117) f167
  have f207 : M198 q135 = some (.inr (5, [.ref q8, .ref q9, .int (nI 0), .ref q10, .int (nI 0)])) := by rw [eM198]; exact hm_up_o (Ne.symm ne137) hr1
  have f208 : M198 q8 = some (.inl (D.1 101, 16, .inl (fun _ => 0))) := by rw [eM198]; exact hm_up_o (Ne.symm ne168) hr2
  have f209 : M198 q9 = some (.inl (D.1 102, 16, .inl (fun _ => 0))) := by rw [eM198]; exact hm_up_o (Ne.symm ne178) hr3
  have f210 : M198 q10 = some (.inl (D.1 101, 16, .inl (fun _ => 0))) := by rw [eM198]; exact hm_up_o (Ne.symm ne188) hr4
  have f211 : M198 x = some (.inr (0, [.ref q1, .ref q21, .ref q38, .ref q58, .ref q90, .ref q135])) := by rw [eM198]; exact hm_up_s
  have hl6 : al_D B D G M198 3 q6 (G 0) [] := by
    have hg9 := f199
    exact ⟨0, fun _ => none, ml6, f206, hg9, fun j => rfl, Nat.le_refl _, by decide, fun x9 h9 => absurd h9 List.not_mem_nil, Or.inl ⟨rfl, rfl⟩⟩
  have kk212 : hm_k M M [x] := hm_krf
  have ko214 := hm_kn0 kk212 hn_q1
  have kk213 : hm_k M M2 [x] := hm_kn kk212 hn_q1 eM2
  have ko216 := hm_kn0 kk213 hvn
  have kk215 : hm_k M M9 [x] := hm_kt kk213 hkv (hm_a1 ko214)
  have kk217 : hm_k M M16 [x] := hm_ku kk215 (Or.inr (by simp)) eM16
  have ko219 := hm_kn0 kk217 hn_q21
  have kk218 : hm_k M M22 [x] := hm_kn kk217 hn_q21 eM22
  have kk220 : hm_k M M32 [x] := hm_ku kk218 (Or.inr (by simp)) eM32
  have ko222 := hm_kn0 kk220 hn_q38
  have kk221 : hm_k M M39 [x] := hm_kn kk220 hn_q38 eM39
  have kk223 : hm_k M M51 [x] := hm_ku kk221 (Or.inr (by simp)) eM51
  have ko225 := hm_kn0 kk223 hn_q58
  have kk224 : hm_k M M59 [x] := hm_kn kk223 hn_q58 eM59
  have kk226 : hm_k M M74 [x] := hm_kt kk224 kfq58 (hm_a1 ko225)
  have kk227 : hm_k M M82 [x] := hm_ku kk226 (Or.inr (by simp)) eM82
  have ko229 := hm_kn0 kk227 hn_q90
  have kk228 : hm_k M M91 [x] := hm_kn kk227 hn_q90 eM91
  have ko231 := hm_kn0 kk228 hm3
  have kk230 : hm_k M M108 [x] := hm_kt kk228 hkm (hm_a1 ko229)
  have kk232 : hm_k M M125 [x] := hm_ku kk230 (Or.inr (by simp)) eM125
  have ko234 := hm_kn0 kk232 hn_q135
  have kk233 : hm_k M M136 [x] := hm_kn kk232 hn_q135 eM136
  have ko236 := hm_kn0 kk233 hn8
  have ko237 := hm_kn0 kk233 hn9
  have ko238 := hm_kn0 kk233 hn10
  have kk235 : hm_k M M157 [x] := hm_kt kk233 hkr (hm_a1 ko234)
  have kk239 : hm_k M M198 [x] := hm_ku kk235 (Or.inr (by simp)) eM198
  obtain ⟨N, hN⟩ : ∃ N : Nat → Nat, N = fun i => [x, q1, q21, q38, q58, q90, q6, q135, q8, q9, q10].getD i 0 := ⟨_, rfl⟩
  have hN0 : N 0 = x := by rw [hN]; rfl
  have hN1 : N 1 = q1 := by rw [hN]; rfl
  have hN2 : N 2 = q21 := by rw [hN]; rfl
  have hN3 : N 3 = q38 := by rw [hN]; rfl
  have hN4 : N 4 = q58 := by rw [hN]; rfl
  have hN5 : N 5 = q90 := by rw [hN]; rfl
  have hN6 : N 6 = q6 := by rw [hN]; rfl
  have hN7 : N 7 = q135 := by rw [hN]; rfl
  have hN8 : N 8 = q8 := by rw [hN]; rfl
  have hN9 : N 9 = q9 := by rw [hN]; rfl
  have hN10 : N 10 = q10 := by rw [hN]; rfl
  have hw1 : ∀ i, 1 ≤ i → i ≤ 10 → M (N i) = none ∧ B ≤ N i := fun i h1 h2 => by
    match i, h1, h2 with
    | 1, _, _ => exact ⟨by rw [hN1]; exact (ko214.resolve_right (fun h9 => ne3 (List.mem_singleton.mp h9).symm)), by rw [hN1]; exact hA_q1⟩
    | 2, _, _ => exact ⟨by rw [hN2]; exact (ko219.resolve_right (fun h9 => ne23 (List.mem_singleton.mp h9).symm)), by rw [hN2]; exact hA_q21⟩
    | 3, _, _ => exact ⟨by rw [hN3]; exact (ko222.resolve_right (fun h9 => ne40 (List.mem_singleton.mp h9).symm)), by rw [hN3]; exact hA_q38⟩
    | 4, _, _ => exact ⟨by rw [hN4]; exact (ko225.resolve_right (fun h9 => ne60 (List.mem_singleton.mp h9).symm)), by rw [hN4]; exact hA_q58⟩
    | 5, _, _ => exact ⟨by rw [hN5]; exact (ko229.resolve_right (fun h9 => ne92 (List.mem_singleton.mp h9).symm)), by rw [hN5]; exact hA_q90⟩
    | 6, _, _ => exact ⟨by rw [hN6]; exact (ko231.resolve_right (fun h9 => ne117 (List.mem_singleton.mp h9).symm)), by rw [hN6]; exact hA_q6⟩
    | 7, _, _ => exact ⟨by rw [hN7]; exact (ko234.resolve_right (fun h9 => ne137 (List.mem_singleton.mp h9).symm)), by rw [hN7]; exact hA_q135⟩
    | 8, _, _ => exact ⟨by rw [hN8]; exact (ko236.resolve_right (fun h9 => ne168 (List.mem_singleton.mp h9).symm)), by rw [hN8]; exact hA_q8⟩
    | 9, _, _ => exact ⟨by rw [hN9]; exact (ko237.resolve_right (fun h9 => ne178 (List.mem_singleton.mp h9).symm)), by rw [hN9]; exact hA_q9⟩
    | 10, _, _ => exact ⟨by rw [hN10]; exact (ko238.resolve_right (fun h9 => ne188 (List.mem_singleton.mp h9).symm)), by rw [hN10]; exact hA_q10⟩
    | 0, h1, _ => exact absurd h1 (by decide)
    | i + 11, _, h2 => exact absurd h2 (by omega)
  have hw2 : ∀ i, 1 ≤ i → i ≤ 10 → N i ≠ v := fun i h1 h2 => by
    match i, h1, h2 with
    | 1, _, _ => rw [hN1]; exact ne15
    | 2, _, _ => rw [hN2]; exact (Ne.symm ne29)
    | 3, _, _ => rw [hN3]; exact (Ne.symm ne46)
    | 4, _, _ => rw [hN4]; exact (Ne.symm ne66)
    | 5, _, _ => rw [hN5]; exact (Ne.symm ne98)
    | 6, _, _ => rw [hN6]; exact (Ne.symm ne120)
    | 7, _, _ => rw [hN7]; exact (Ne.symm ne143)
    | 8, _, _ => rw [hN8]; exact (Ne.symm ne171)
    | 9, _, _ => rw [hN9]; exact (Ne.symm ne181)
    | 10, _, _ => rw [hN10]; exact (Ne.symm ne191)
    | 0, h1, _ => exact absurd h1 (by decide)
    | i + 11, _, h2 => exact absurd h2 (by omega)
  have hw3 : List.Pairwise (· ≠ ·) [q1, q21, q38, q58, q90, q6, q135, q8, q9, q10] := by
    simp only [List.pairwise_cons, List.mem_cons, List.not_mem_nil, or_false, forall_eq_or_imp, forall_eq, List.Pairwise.nil, and_true, false_implies, implies_true]
    exact ⟨⟨ne27, ne44, ne64, ne96, ne119, ne141, ne170, ne180, ne190⟩, ⟨ne48, ne68, ne100, ne121, ne145, ne172, ne182, ne192⟩, ⟨ne70, ne102, ne122, ne147, ne173, ne183, ne193⟩, ⟨ne104, ne123, ne149, ne174, ne184, ne194⟩, ⟨ne124, ne151, ne175, ne185, ne195⟩, ⟨ne153, ne176, ne186, ne196⟩, ⟨ne177, ne187, ne197⟩, ⟨hd1, hd2⟩, hd3⟩
  have hw4 : ∀ i j, 1 ≤ i → i < j → j ≤ 10 → N i ≠ N j := fun i j h1 h2 h3 => by
    have h9 := List.pairwise_iff_getElem.mp hw3 (i - 1) (j - 1) (by simp only [List.length_cons, List.length_nil]; omega) (by simp only [List.length_cons, List.length_nil]; omega) (by omega)
    have e1 : ∀ k, 1 ≤ k → k ≤ 10 → ∀ hk, [q1, q21, q38, q58, q90, q6, q135, q8, q9, q10][k - 1]'hk = N k := fun k g1 g2 hk => by
      match k, g1, g2 with
      | 1, _, _ => rw [hN1]; rfl
      | 2, _, _ => rw [hN2]; rfl
      | 3, _, _ => rw [hN3]; rfl
      | 4, _, _ => rw [hN4]; rfl
      | 5, _, _ => rw [hN5]; rfl
      | 6, _, _ => rw [hN6]; rfl
      | 7, _, _ => rw [hN7]; rfl
      | 8, _, _ => rw [hN8]; rfl
      | 9, _, _ => rw [hN9]; rfl
      | 10, _, _ => rw [hN10]; rfl
      | 0, g1, _ => exact absurd g1 (by decide)
      | k + 11, _, g2 => exact absurd g2 (by omega)
    rw [e1 i h1 (by omega), e1 j (by omega) h3] at h9
    exact h9
  
  have hl4 : al_D B D G M198 1 q58 (G 0) [] := ⟨0, fun _ => none, mlq58, f204, f199, fun j => rfl, Nat.le_refl _, by decide, fun x9 h9 => absurd h9 List.not_mem_nil, Or.inl ⟨rfl, rfl⟩⟩
  exact hm_Ev hx hb hr hS hP (⟨N, v, ⟨hN0, by rw [hN1, hN2, hN3, hN4, hN5, hN7]; exact f211⟩, ⟨mmv, fv, mlv, by rw [hN1]; exact f200, f201, hsb.2.2.1, hsb.2.2.2.1, hsb.2.2.2.2.1, hsb.2.2.2.2.2.1, hsb.2.2.2.2.2.2.1, by rw [hN1]; exact hA_q1, hsb.2.2.2.2.2.2.2.2⟩, by rw [hN2]; exact f202, by rw [hN3]; exact f203, by rw [hN4]; exact hl4, by rw [hN5, hN6]; exact f205, by rw [hN6]; exact hl6, by rw [hN7, hN8, hN9, hN10]; exact f207, by rw [hN8]; exact f208, by rw [hN9]; exact f209, by rw [hN10]; exact f210, hw1, (ko216.resolve_right (fun h9 => ne13 (List.mem_singleton.mp h9).symm)), hw2, hw4, kk239⟩) hlocks (by omega) (by omega) dd_RD_init_65
