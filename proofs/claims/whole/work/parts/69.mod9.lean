/-! the model's constructor -/
set_option maxHeartbeats 4000000 in
set_option maxRecDepth 100000 in
theorem kc_MO_init (l : Launch) (B : Nat) (D : va_G) (G : Nat → Nat) (M : hm_M) (x : Nat) (ha : M x = some (.inr (6, [.int (nI 0), .null, .int (nI 0), .null, .null, .null, .int (nI 0), .null, .null, .null, .null, .null, .int (nI 0), .int (nI 0), .null, .null, .null, .null, .int (nI 0), .null, .null, .null]))) (hA_x : hm_A B x) : Met l yy_MO_init ws_MO_init ({ frames := 1, cells := 16, slots := 9013, locals := 12 }) (hm_Pc B D G M [.ref x]) (hm_Nv B D (fun M1 => ∃ (P O : Nat → Nat) (I : Nat → Int32) (A : Nat → Nat → Int32) (L : Nat → Nat → Int64), P 0 = x ∧ mo_D B D P O M1 I A L ∧ mo_S I A L [] (fun _ => none) (fun _ => false) [] [] [] (fun _ => false) (fun _ => false) ∧ (∀ q, (∀ k ∈ mo_ks, q ≠ P k) → O q = 0) ∧ (∀ k ∈ mo_ks, k ≠ 0 → M (P k) = none) ∧ cz_F O M O M1 pm)) (16) (9013) (hm_A B) := by
  refine Met.ofW (cc := cd_MO_init) (maxL := 2) (ret := none) (by decide) rfl ?_
  intro p e s m args below meth c s₁ B0 hml hv
  obtain ⟨rfl, hE, hP⟩ := hv
  have hx := B0.exec
  have hb := B0.bytes
  have hr := B0.returns
  have hts : ∀ w ∈ tb_G, w.before _ s = true := fun w h => atoms_spec (ws := ws_MO_init) B0.pre w (List.mem_cons_of_mem _ h)
  have hown : s.vm.findClass "RouteDeskModel" = some m.cls := findClass_of_methodNamed B0.named
  have hlocks := B0.notSynchronized
  have hRf : (headSpec ws_MO_init { frames := 1, cells := 16, slots := 9013, locals := 12 }).room.frames = 1 := rfl
  have hRl : (headSpec ws_MO_init { frames := 1, cells := 16, slots := 9013, locals := 12 }).room.locals = 12 := rfl
  have hRc : (headSpec ws_MO_init { frames := 1, cells := 16, slots := 9013, locals := 12 }).room.cells = 16 := rfl
  have hRs : (headSpec ws_MO_init { frames := 1, cells := 16, slots := 9013, locals := 12 }).room.slots = 9013 := rfl
  generalize (headSpec ws_MO_init { frames := 1, cells := 16, slots := 9013, locals := 12 }).room = R at hRf hRl hRc hRs ⊢
  have hin : meth.name = "<init>" := (name_of_methodNamed B0.named B0.method).1
  have hS : va_S (hm_A B) s.heap s.heap [] := va_S.rf
  have hl := lv_entry ([.ref x]) (n := 2) (Nat.le_of_ble_eq_true rfl)
  rw [lg_entry_eq]
  generalize (lg_sl ([.ref x]) ++ List.replicate (2 - (lg_sl ([.ref x])).length) Slot.unset).toArray = ls at hl ⊢
  have hl : lv_has ls 2 [(0, .ref x)] := hl
  have t16 : (nI 16).toInt = 16 := by decide
  have tm1 : (-1 : Int32).toInt = -1 := by decide
  have t0 : (nI 0).toInt = 0 := by decide
  have t2 : (nI 2).toInt = 2 := by decide
  have t3 : (nI 3).toInt = 3 := by decide
  have t1 : (nI 1).toInt = 1 := by decide
  have t4 : (nI 4).toInt = 4 := by decide
  refine lv_aload_n hx hb dd_MO_init_0 rfl (lv_at hl 0 rfl) ?_
  refine W.objInit hx hb hown (hts _ tw_985) (hts _ tw_74) (hts _ tw_75) rfl (by rw [hml]; exact hl.1) rfl dd_MO_init_1 (by omega) (by rw [hRl]; exact Nat.le_of_ble_eq_true rfl) ?_
  refine W.eq (g2 := F0 m 4 ls []) rfl ?_
  refine lv_aload_n hx hb dd_MO_init_4 rfl (lv_at hl 0 rfl) ?_
  refine lv_bipush (v := nI 48) hx hb dd_MO_init_5 (by decide +kernel) ?_
  refine hm_newa (atype := .int) (ty := .int) (N' := 48) (a0 := (48, .inl (fun _ => 0))) hx hb (hts _ tw_183) rfl hE.K hP hS 2 rfl (fun _ h9 => by cases h9) rfl (nI_pos (by omega)) (nI_clamp (by omega)) (by show _ * _ ≤ _; simp only [componentBytes]; omega) (by omega) (by omega) dd_MO_init_7 (fun q1 H hB_q1 hn_q1 hP hS => ?_)
  have hA_q1 : hm_A B q1 := Nat.le_trans hE.2.1 hB_q1
  obtain ⟨M2, eM2⟩ : ∃ z, z = hm_up M q1 (.inl (D.1 102, 48, .inl (fun _ => 0))) := ⟨_, rfl⟩
  rw [← eM2] at hP
  have ne3 : x ≠ q1 := hm_neN ha hn_q1
  have f4 : M2 x = some (.inr (6, [.int (nI 0), .null, .int (nI 0), .null, .null, .null, .int (nI 0), .null, .null, .null, .null, .null, .int (nI 0), .int (nI 0), .null, .null, .null, .null, .int (nI 0), .null, .null, .null])) := by rw [eM2]; exact hm_up_o ne3 ha
  have f5 : M2 q1 = some (.inl (D.1 102, 48, .inl (fun _ => 0))) := by rw [eM2]; exact hm_up_s
  refine W.widen (k := 1) (n := 48) (by omega) (by omega) ?_
  refine hm_putF (ci := 6) (v := .ref q1) (ty := .array .int) (C := rn_MO) (T := ft_MO) (N := 22) hx hb hts fi_MO fy_MO fo_MO fn_MO hown hE.K hP hS hA_x f4 rfl 1 (by decide) (hts _ tw_987) (fun _ h9 => h9) rfl hin rfl (by decide +kernel) rfl rfl (Nat.le_of_ble_eq_true rfl) dd_MO_init_9 (fun H locs hP hS => ?_)
  have hP : hm_P D cl_W (hm_up M2 x (.inr (6, [.int (nI 0), .ref q1, .int (nI 0), .null, .null, .null, .int (nI 0), .null, .null, .null, .null, .null, .int (nI 0), .int (nI 0), .null, .null, .null, .null, .int (nI 0), .null, .null, .null]))) H := hP
  obtain ⟨M6, eM6⟩ : ∃ z, z = hm_up M2 x (.inr (6, [.int (nI 0), .ref q1, .int (nI 0), .null, .null, .null, .int (nI 0), .null, .null, .null, .null, .null, .int (nI 0), .int (nI 0), .null, .null, .null, .null, .int (nI 0), .null, .null, .null])) := ⟨_, rfl⟩
  rw [← eM6] at hP
  have f7 : M6 q1 = some (.inl (D.1 102, 48, .inl (fun _ => 0))) := by rw [eM6]; exact hm_up_o (Ne.symm ne3) f5
  have f8 : M6 x = some (.inr (6, [.int (nI 0), .ref q1, .int (nI 0), .null, .null, .null, .int (nI 0), .null, .null, .null, .null, .null, .int (nI 0), .int (nI 0), .null, .null, .null, .null, .int (nI 0), .null, .null, .null])) := by rw [eM6]; exact hm_up_s
  refine lv_aload_n hx hb dd_MO_init_12 rfl (lv_at hl 0 rfl) ?_
  refine lv_bipush (v := nI 16) hx hb dd_MO_init_13 (by decide +kernel) ?_
  refine hm_newa (atype := .int) (ty := .int) (N' := 16) (a0 := (16, .inl (fun _ => 0))) hx hb (hts _ tw_183) rfl hE.K hP hS 2 rfl (fun _ h9 => by cases h9) rfl (nI_pos (by omega)) (nI_clamp (by omega)) (by show _ * _ ≤ _; simp only [componentBytes]; omega) (by omega) (by omega) dd_MO_init_15 (fun q9 H hB_q9 hn_q9 hP hS => ?_)
  have hA_q9 : hm_A B q9 := Nat.le_trans hE.2.1 hB_q9
  obtain ⟨M10, eM10⟩ : ∃ z, z = hm_up M6 q9 (.inl (D.1 102, 16, .inl (fun _ => 0))) := ⟨_, rfl⟩
  rw [← eM10] at hP
  have ne11 : x ≠ q9 := hm_neN f8 hn_q9
  have f12 : M10 x = some (.inr (6, [.int (nI 0), .ref q1, .int (nI 0), .null, .null, .null, .int (nI 0), .null, .null, .null, .null, .null, .int (nI 0), .int (nI 0), .null, .null, .null, .null, .int (nI 0), .null, .null, .null])) := by rw [eM10]; exact hm_up_o ne11 f8
  have ne13 : q1 ≠ q9 := hm_neN f7 hn_q9
  have f14 : M10 q1 = some (.inl (D.1 102, 48, .inl (fun _ => 0))) := by rw [eM10]; exact hm_up_o ne13 f7
  have f15 : M10 q9 = some (.inl (D.1 102, 16, .inl (fun _ => 0))) := by rw [eM10]; exact hm_up_s
  refine W.widen (k := 2) (n := 64) (by omega) (by omega) ?_
  refine hm_putF (ci := 6) (v := .ref q9) (ty := .array .int) (C := rn_MO) (T := ft_MO) (N := 22) hx hb hts fi_MO fy_MO fo_MO fn_MO hown hE.K hP hS hA_x f12 rfl 3 (by decide) (hts _ tw_989) (fun _ h9 => h9) rfl hin rfl (by decide +kernel) rfl rfl (Nat.le_of_ble_eq_true rfl) dd_MO_init_17 (fun H locs hP hS => ?_)
  have hP : hm_P D cl_W (hm_up M10 x (.inr (6, [.int (nI 0), .ref q1, .int (nI 0), .ref q9, .null, .null, .int (nI 0), .null, .null, .null, .null, .null, .int (nI 0), .int (nI 0), .null, .null, .null, .null, .int (nI 0), .null, .null, .null]))) H := hP
  obtain ⟨M16, eM16⟩ : ∃ z, z = hm_up M10 x (.inr (6, [.int (nI 0), .ref q1, .int (nI 0), .ref q9, .null, .null, .int (nI 0), .null, .null, .null, .null, .null, .int (nI 0), .int (nI 0), .null, .null, .null, .null, .int (nI 0), .null, .null, .null])) := ⟨_, rfl⟩
  rw [← eM16] at hP
  have f17 : M16 q1 = some (.inl (D.1 102, 48, .inl (fun _ => 0))) := by rw [eM16]; exact hm_up_o (Ne.symm ne3) f14
  have f18 : M16 q9 = some (.inl (D.1 102, 16, .inl (fun _ => 0))) := by rw [eM16]; exact hm_up_o (Ne.symm ne11) f15
  have f19 : M16 x = some (.inr (6, [.int (nI 0), .ref q1, .int (nI 0), .ref q9, .null, .null, .int (nI 0), .null, .null, .null, .null, .null, .int (nI 0), .int (nI 0), .null, .null, .null, .null, .int (nI 0), .null, .null, .null])) := by rw [eM16]; exact hm_up_s
  refine lv_aload_n hx hb dd_MO_init_20 rfl (lv_at hl 0 rfl) ?_
  refine lv_bipush (v := nI 16) hx hb dd_MO_init_21 (by decide +kernel) ?_
  refine hm_newa (atype := .int) (ty := .int) (N' := 16) (a0 := (16, .inl (fun _ => 0))) hx hb (hts _ tw_183) rfl hE.K hP hS 2 rfl (fun _ h9 => by cases h9) rfl (nI_pos (by omega)) (nI_clamp (by omega)) (by show _ * _ ≤ _; simp only [componentBytes]; omega) (by omega) (by omega) dd_MO_init_23 (fun q20 H hB_q20 hn_q20 hP hS => ?_)
  have hA_q20 : hm_A B q20 := Nat.le_trans hE.2.1 hB_q20
  obtain ⟨M21, eM21⟩ : ∃ z, z = hm_up M16 q20 (.inl (D.1 102, 16, .inl (fun _ => 0))) := ⟨_, rfl⟩
  rw [← eM21] at hP
  have ne22 : x ≠ q20 := hm_neN f19 hn_q20
  have f23 : M21 x = some (.inr (6, [.int (nI 0), .ref q1, .int (nI 0), .ref q9, .null, .null, .int (nI 0), .null, .null, .null, .null, .null, .int (nI 0), .int (nI 0), .null, .null, .null, .null, .int (nI 0), .null, .null, .null])) := by rw [eM21]; exact hm_up_o ne22 f19
  have ne24 : q1 ≠ q20 := hm_neN f17 hn_q20
  have f25 : M21 q1 = some (.inl (D.1 102, 48, .inl (fun _ => 0))) := by rw [eM21]; exact hm_up_o ne24 f17
  have ne26 : q9 ≠ q20 := hm_neN f18 hn_q20
  have f27 : M21 q9 = some (.inl (D.1 102, 16, .inl (fun _ => 0))) := by rw [eM21]; exact hm_up_o ne26 f18
  have f28 : M21 q20 = some (.inl (D.1 102, 16, .inl (fun _ => 0))) := by rw [eM21]; exact hm_up_s
  refine W.widen (k := 3) (n := 80) (by omega) (by omega) ?_
  refine hm_putF (ci := 6) (v := .ref q20) (ty := .array .int) (C := rn_MO) (T := ft_MO) (N := 22) hx hb hts fi_MO fy_MO fo_MO fn_MO hown hE.K hP hS hA_x f23 rfl 4 (by decide) (hts _ tw_990) (fun _ h9 => h9) rfl hin rfl (by decide +kernel) rfl rfl (Nat.le_of_ble_eq_true rfl) dd_MO_init_25 (fun H locs hP hS => ?_)
  have hP : hm_P D cl_W (hm_up M21 x (.inr (6, [.int (nI 0), .ref q1, .int (nI 0), .ref q9, .ref q20, .null, .int (nI 0), .null, .null, .null, .null, .null, .int (nI 0), .int (nI 0), .null, .null, .null, .null, .int (nI 0), .null, .null, .null]))) H := hP
  obtain ⟨M29, eM29⟩ : ∃ z, z = hm_up M21 x (.inr (6, [.int (nI 0), .ref q1, .int (nI 0), .ref q9, .ref q20, .null, .int (nI 0), .null, .null, .null, .null, .null, .int (nI 0), .int (nI 0), .null, .null, .null, .null, .int (nI 0), .null, .null, .null])) := ⟨_, rfl⟩
  rw [← eM29] at hP
  have f30 : M29 q1 = some (.inl (D.1 102, 48, .inl (fun _ => 0))) := by rw [eM29]; exact hm_up_o (Ne.symm ne3) f25
  have f31 : M29 q9 = some (.inl (D.1 102, 16, .inl (fun _ => 0))) := by rw [eM29]; exact hm_up_o (Ne.symm ne11) f27
  have f32 : M29 q20 = some (.inl (D.1 102, 16, .inl (fun _ => 0))) := by rw [eM29]; exact hm_up_o (Ne.symm ne22) f28
  have f33 : M29 x = some (.inr (6, [.int (nI 0), .ref q1, .int (nI 0), .ref q9, .ref q20, .null, .int (nI 0), .null, .null, .null, .null, .null, .int (nI 0), .int (nI 0), .null, .null, .null, .null, .int (nI 0), .null, .null, .null])) := by rw [eM29]; exact hm_up_s
  refine lv_aload_n hx hb dd_MO_init_28 rfl (lv_at hl 0 rfl) ?_
  refine lv_bipush (v := nI 16) hx hb dd_MO_init_29 (by decide +kernel) ?_
  refine hm_newa (atype := .boolean) (ty := .boolean) (N' := 16) (a0 := (16, .inl (fun _ => 0))) hx hb (hts _ tw_137) rfl hE.K hP hS 1 rfl (fun _ h9 => by cases h9) rfl (nI_pos (by omega)) (nI_clamp (by omega)) (by show _ * _ ≤ _; simp only [componentBytes]; omega) (by omega) (by omega) dd_MO_init_31 (fun q34 H hB_q34 hn_q34 hP hS => ?_)
  have hA_q34 : hm_A B q34 := Nat.le_trans hE.2.1 hB_q34
  obtain ⟨M35, eM35⟩ : ∃ z, z = hm_up M29 q34 (.inl (D.1 101, 16, .inl (fun _ => 0))) := ⟨_, rfl⟩
  rw [← eM35] at hP
  have ne36 : x ≠ q34 := hm_neN f33 hn_q34
  have f37 : M35 x = some (.inr (6, [.int (nI 0), .ref q1, .int (nI 0), .ref q9, .ref q20, .null, .int (nI 0), .null, .null, .null, .null, .null, .int (nI 0), .int (nI 0), .null, .null, .null, .null, .int (nI 0), .null, .null, .null])) := by rw [eM35]; exact hm_up_o ne36 f33
  have ne38 : q1 ≠ q34 := hm_neN f30 hn_q34
  have f39 : M35 q1 = some (.inl (D.1 102, 48, .inl (fun _ => 0))) := by rw [eM35]; exact hm_up_o ne38 f30
  have ne40 : q9 ≠ q34 := hm_neN f31 hn_q34
  have f41 : M35 q9 = some (.inl (D.1 102, 16, .inl (fun _ => 0))) := by rw [eM35]; exact hm_up_o ne40 f31
  have ne42 : q20 ≠ q34 := hm_neN f32 hn_q34
  have f43 : M35 q20 = some (.inl (D.1 102, 16, .inl (fun _ => 0))) := by rw [eM35]; exact hm_up_o ne42 f32
  have f44 : M35 q34 = some (.inl (D.1 101, 16, .inl (fun _ => 0))) := by rw [eM35]; exact hm_up_s
  refine W.widen (k := 4) (n := 96) (by omega) (by omega) ?_
  refine hm_putF (ci := 6) (v := .ref q34) (ty := .array .boolean) (C := rn_MO) (T := ft_MO) (N := 22) hx hb hts fi_MO fy_MO fo_MO fn_MO hown hE.K hP hS hA_x f37 rfl 5 (by decide) (hts _ tw_991) (fun _ h9 => h9) rfl hin rfl (by decide +kernel) rfl rfl (Nat.le_of_ble_eq_true rfl) dd_MO_init_33 (fun H locs hP hS => ?_)
  have hP : hm_P D cl_W (hm_up M35 x (.inr (6, [.int (nI 0), .ref q1, .int (nI 0), .ref q9, .ref q20, .ref q34, .int (nI 0), .null, .null, .null, .null, .null, .int (nI 0), .int (nI 0), .null, .null, .null, .null, .int (nI 0), .null, .null, .null]))) H := hP
  obtain ⟨M45, eM45⟩ : ∃ z, z = hm_up M35 x (.inr (6, [.int (nI 0), .ref q1, .int (nI 0), .ref q9, .ref q20, .ref q34, .int (nI 0), .null, .null, .null, .null, .null, .int (nI 0), .int (nI 0), .null, .null, .null, .null, .int (nI 0), .null, .null, .null])) := ⟨_, rfl⟩
  rw [← eM45] at hP
  have f46 : M45 q1 = some (.inl (D.1 102, 48, .inl (fun _ => 0))) := by rw [eM45]; exact hm_up_o (Ne.symm ne3) f39
  have f47 : M45 q9 = some (.inl (D.1 102, 16, .inl (fun _ => 0))) := by rw [eM45]; exact hm_up_o (Ne.symm ne11) f41
  have f48 : M45 q20 = some (.inl (D.1 102, 16, .inl (fun _ => 0))) := by rw [eM45]; exact hm_up_o (Ne.symm ne22) f43
  have f49 : M45 q34 = some (.inl (D.1 101, 16, .inl (fun _ => 0))) := by rw [eM45]; exact hm_up_o (Ne.symm ne36) f44
  have f50 : M45 x = some (.inr (6, [.int (nI 0), .ref q1, .int (nI 0), .ref q9, .ref q20, .ref q34, .int (nI 0), .null, .null, .null, .null, .null, .int (nI 0), .int (nI 0), .null, .null, .null, .null, .int (nI 0), .null, .null, .null])) := by rw [eM45]; exact hm_up_s
  refine lv_aload_n hx hb dd_MO_init_36 rfl (lv_at hl 0 rfl) ?_
  refine lv_bipush (v := nI 120) hx hb dd_MO_init_37 (by decide +kernel) ?_
  refine hm_newa (atype := .int) (ty := .int) (N' := 120) (a0 := (120, .inl (fun _ => 0))) hx hb (hts _ tw_183) rfl hE.K hP hS 2 rfl (fun _ h9 => by cases h9) rfl (nI_pos (by omega)) (nI_clamp (by omega)) (by show _ * _ ≤ _; simp only [componentBytes]; omega) (by omega) (by omega) dd_MO_init_39 (fun q51 H hB_q51 hn_q51 hP hS => ?_)
  have hA_q51 : hm_A B q51 := Nat.le_trans hE.2.1 hB_q51
  obtain ⟨M52, eM52⟩ : ∃ z, z = hm_up M45 q51 (.inl (D.1 102, 120, .inl (fun _ => 0))) := ⟨_, rfl⟩
  rw [← eM52] at hP
  have ne53 : x ≠ q51 := hm_neN f50 hn_q51
  have f54 : M52 x = some (.inr (6, [.int (nI 0), .ref q1, .int (nI 0), .ref q9, .ref q20, .ref q34, .int (nI 0), .null, .null, .null, .null, .null, .int (nI 0), .int (nI 0), .null, .null, .null, .null, .int (nI 0), .null, .null, .null])) := by rw [eM52]; exact hm_up_o ne53 f50
  have ne55 : q1 ≠ q51 := hm_neN f46 hn_q51
  have f56 : M52 q1 = some (.inl (D.1 102, 48, .inl (fun _ => 0))) := by rw [eM52]; exact hm_up_o ne55 f46
  have ne57 : q9 ≠ q51 := hm_neN f47 hn_q51
  have f58 : M52 q9 = some (.inl (D.1 102, 16, .inl (fun _ => 0))) := by rw [eM52]; exact hm_up_o ne57 f47
  have ne59 : q20 ≠ q51 := hm_neN f48 hn_q51
  have f60 : M52 q20 = some (.inl (D.1 102, 16, .inl (fun _ => 0))) := by rw [eM52]; exact hm_up_o ne59 f48
  have ne61 : q34 ≠ q51 := hm_neN f49 hn_q51
  have f62 : M52 q34 = some (.inl (D.1 101, 16, .inl (fun _ => 0))) := by rw [eM52]; exact hm_up_o ne61 f49
  have f63 : M52 q51 = some (.inl (D.1 102, 120, .inl (fun _ => 0))) := by rw [eM52]; exact hm_up_s
  refine W.widen (k := 5) (n := 216) (by omega) (by omega) ?_
  refine hm_putF (ci := 6) (v := .ref q51) (ty := .array .int) (C := rn_MO) (T := ft_MO) (N := 22) hx hb hts fi_MO fy_MO fo_MO fn_MO hown hE.K hP hS hA_x f54 rfl 7 (by decide) (hts _ tw_993) (fun _ h9 => h9) rfl hin rfl (by decide +kernel) rfl rfl (Nat.le_of_ble_eq_true rfl) dd_MO_init_41 (fun H locs hP hS => ?_)
  have hP : hm_P D cl_W (hm_up M52 x (.inr (6, [.int (nI 0), .ref q1, .int (nI 0), .ref q9, .ref q20, .ref q34, .int (nI 0), .ref q51, .null, .null, .null, .null, .int (nI 0), .int (nI 0), .null, .null, .null, .null, .int (nI 0), .null, .null, .null]))) H := hP
  obtain ⟨M64, eM64⟩ : ∃ z, z = hm_up M52 x (.inr (6, [.int (nI 0), .ref q1, .int (nI 0), .ref q9, .ref q20, .ref q34, .int (nI 0), .ref q51, .null, .null, .null, .null, .int (nI 0), .int (nI 0), .null, .null, .null, .null, .int (nI 0), .null, .null, .null])) := ⟨_, rfl⟩
  rw [← eM64] at hP
  have f65 : M64 q1 = some (.inl (D.1 102, 48, .inl (fun _ => 0))) := by rw [eM64]; exact hm_up_o (Ne.symm ne3) f56
  have f66 : M64 q9 = some (.inl (D.1 102, 16, .inl (fun _ => 0))) := by rw [eM64]; exact hm_up_o (Ne.symm ne11) f58
  have f67 : M64 q20 = some (.inl (D.1 102, 16, .inl (fun _ => 0))) := by rw [eM64]; exact hm_up_o (Ne.symm ne22) f60
  have f68 : M64 q34 = some (.inl (D.1 101, 16, .inl (fun _ => 0))) := by rw [eM64]; exact hm_up_o (Ne.symm ne36) f62
  have f69 : M64 q51 = some (.inl (D.1 102, 120, .inl (fun _ => 0))) := by rw [eM64]; exact hm_up_o (Ne.symm ne53) f63
  have f70 : M64 x = some (.inr (6, [.int (nI 0), .ref q1, .int (nI 0), .ref q9, .ref q20, .ref q34, .int (nI 0), .ref q51, .null, .null, .null, .null, .int (nI 0), .int (nI 0), .null, .null, .null, .null, .int (nI 0), .null, .null, .null])) := by rw [eM64]; exact hm_up_s
  refine lv_aload_n hx hb dd_MO_init_44 rfl (lv_at hl 0 rfl) ?_
  refine lv_bipush (v := nI 120) hx hb dd_MO_init_45 (by decide +kernel) ?_
  refine hm_newa (atype := .int) (ty := .int) (N' := 120) (a0 := (120, .inl (fun _ => 0))) hx hb (hts _ tw_183) rfl hE.K hP hS 2 rfl (fun _ h9 => by cases h9) rfl (nI_pos (by omega)) (nI_clamp (by omega)) (by show _ * _ ≤ _; simp only [componentBytes]; omega) (by omega) (by omega) dd_MO_init_47 (fun q71 H hB_q71 hn_q71 hP hS => ?_)
  have hA_q71 : hm_A B q71 := Nat.le_trans hE.2.1 hB_q71
  obtain ⟨M72, eM72⟩ : ∃ z, z = hm_up M64 q71 (.inl (D.1 102, 120, .inl (fun _ => 0))) := ⟨_, rfl⟩
  rw [← eM72] at hP
  have ne73 : x ≠ q71 := hm_neN f70 hn_q71
  have f74 : M72 x = some (.inr (6, [.int (nI 0), .ref q1, .int (nI 0), .ref q9, .ref q20, .ref q34, .int (nI 0), .ref q51, .null, .null, .null, .null, .int (nI 0), .int (nI 0), .null, .null, .null, .null, .int (nI 0), .null, .null, .null])) := by rw [eM72]; exact hm_up_o ne73 f70
  have ne75 : q1 ≠ q71 := hm_neN f65 hn_q71
  have f76 : M72 q1 = some (.inl (D.1 102, 48, .inl (fun _ => 0))) := by rw [eM72]; exact hm_up_o ne75 f65
  have ne77 : q9 ≠ q71 := hm_neN f66 hn_q71
  have f78 : M72 q9 = some (.inl (D.1 102, 16, .inl (fun _ => 0))) := by rw [eM72]; exact hm_up_o ne77 f66
  have ne79 : q20 ≠ q71 := hm_neN f67 hn_q71
  have f80 : M72 q20 = some (.inl (D.1 102, 16, .inl (fun _ => 0))) := by rw [eM72]; exact hm_up_o ne79 f67
  have ne81 : q34 ≠ q71 := hm_neN f68 hn_q71
  have f82 : M72 q34 = some (.inl (D.1 101, 16, .inl (fun _ => 0))) := by rw [eM72]; exact hm_up_o ne81 f68
  have ne83 : q51 ≠ q71 := hm_neN f69 hn_q71
  have f84 : M72 q51 = some (.inl (D.1 102, 120, .inl (fun _ => 0))) := by rw [eM72]; exact hm_up_o ne83 f69
  have f85 : M72 q71 = some (.inl (D.1 102, 120, .inl (fun _ => 0))) := by rw [eM72]; exact hm_up_s
  refine W.widen (k := 6) (n := 336) (by omega) (by omega) ?_
  refine hm_putF (ci := 6) (v := .ref q71) (ty := .array .int) (C := rn_MO) (T := ft_MO) (N := 22) hx hb hts fi_MO fy_MO fo_MO fn_MO hown hE.K hP hS hA_x f74 rfl 8 (by decide) (hts _ tw_994) (fun _ h9 => h9) rfl hin rfl (by decide +kernel) rfl rfl (Nat.le_of_ble_eq_true rfl) dd_MO_init_49 (fun H locs hP hS => ?_)
  have hP : hm_P D cl_W (hm_up M72 x (.inr (6, [.int (nI 0), .ref q1, .int (nI 0), .ref q9, .ref q20, .ref q34, .int (nI 0), .ref q51, .ref q71, .null, .null, .null, .int (nI 0), .int (nI 0), .null, .null, .null, .null, .int (nI 0), .null, .null, .null]))) H := hP
  obtain ⟨M86, eM86⟩ : ∃ z, z = hm_up M72 x (.inr (6, [.int (nI 0), .ref q1, .int (nI 0), .ref q9, .ref q20, .ref q34, .int (nI 0), .ref q51, .ref q71, .null, .null, .null, .int (nI 0), .int (nI 0), .null, .null, .null, .null, .int (nI 0), .null, .null, .null])) := ⟨_, rfl⟩
  rw [← eM86] at hP
  have f87 : M86 q1 = some (.inl (D.1 102, 48, .inl (fun _ => 0))) := by rw [eM86]; exact hm_up_o (Ne.symm ne3) f76
  have f88 : M86 q9 = some (.inl (D.1 102, 16, .inl (fun _ => 0))) := by rw [eM86]; exact hm_up_o (Ne.symm ne11) f78
  have f89 : M86 q20 = some (.inl (D.1 102, 16, .inl (fun _ => 0))) := by rw [eM86]; exact hm_up_o (Ne.symm ne22) f80
  have f90 : M86 q34 = some (.inl (D.1 101, 16, .inl (fun _ => 0))) := by rw [eM86]; exact hm_up_o (Ne.symm ne36) f82
  have f91 : M86 q51 = some (.inl (D.1 102, 120, .inl (fun _ => 0))) := by rw [eM86]; exact hm_up_o (Ne.symm ne53) f84
  have f92 : M86 q71 = some (.inl (D.1 102, 120, .inl (fun _ => 0))) := by rw [eM86]; exact hm_up_o (Ne.symm ne73) f85
  have f93 : M86 x = some (.inr (6, [.int (nI 0), .ref q1, .int (nI 0), .ref q9, .ref q20, .ref q34, .int (nI 0), .ref q51, .ref q71, .null, .null, .null, .int (nI 0), .int (nI 0), .null, .null, .null, .null, .int (nI 0), .null, .null, .null])) := by rw [eM86]; exact hm_up_s
  refine lv_aload_n hx hb dd_MO_init_52 rfl (lv_at hl 0 rfl) ?_
  refine lv_bipush (v := nI 120) hx hb dd_MO_init_53 (by decide +kernel) ?_
  refine hm_newa (atype := .int) (ty := .int) (N' := 120) (a0 := (120, .inl (fun _ => 0))) hx hb (hts _ tw_183) rfl hE.K hP hS 2 rfl (fun _ h9 => by cases h9) rfl (nI_pos (by omega)) (nI_clamp (by omega)) (by show _ * _ ≤ _; simp only [componentBytes]; omega) (by omega) (by omega) dd_MO_init_55 (fun q94 H hB_q94 hn_q94 hP hS => ?_)
  have hA_q94 : hm_A B q94 := Nat.le_trans hE.2.1 hB_q94
  obtain ⟨M95, eM95⟩ : ∃ z, z = hm_up M86 q94 (.inl (D.1 102, 120, .inl (fun _ => 0))) := ⟨_, rfl⟩
  rw [← eM95] at hP
  have ne96 : x ≠ q94 := hm_neN f93 hn_q94
  have f97 : M95 x = some (.inr (6, [.int (nI 0), .ref q1, .int (nI 0), .ref q9, .ref q20, .ref q34, .int (nI 0), .ref q51, .ref q71, .null, .null, .null, .int (nI 0), .int (nI 0), .null, .null, .null, .null, .int (nI 0), .null, .null, .null])) := by rw [eM95]; exact hm_up_o ne96 f93
  have ne98 : q1 ≠ q94 := hm_neN f87 hn_q94
  have f99 : M95 q1 = some (.inl (D.1 102, 48, .inl (fun _ => 0))) := by rw [eM95]; exact hm_up_o ne98 f87
  have ne100 : q9 ≠ q94 := hm_neN f88 hn_q94
  have f101 : M95 q9 = some (.inl (D.1 102, 16, .inl (fun _ => 0))) := by rw [eM95]; exact hm_up_o ne100 f88
  have ne102 : q20 ≠ q94 := hm_neN f89 hn_q94
  have f103 : M95 q20 = some (.inl (D.1 102, 16, .inl (fun _ => 0))) := by rw [eM95]; exact hm_up_o ne102 f89
  have ne104 : q34 ≠ q94 := hm_neN f90 hn_q94
  have f105 : M95 q34 = some (.inl (D.1 101, 16, .inl (fun _ => 0))) := by rw [eM95]; exact hm_up_o ne104 f90
  have ne106 : q51 ≠ q94 := hm_neN f91 hn_q94
  have f107 : M95 q51 = some (.inl (D.1 102, 120, .inl (fun _ => 0))) := by rw [eM95]; exact hm_up_o ne106 f91
  have ne108 : q71 ≠ q94 := hm_neN f92 hn_q94
  have f109 : M95 q71 = some (.inl (D.1 102, 120, .inl (fun _ => 0))) := by rw [eM95]; exact hm_up_o ne108 f92
  have f110 : M95 q94 = some (.inl (D.1 102, 120, .inl (fun _ => 0))) := by rw [eM95]; exact hm_up_s
  refine W.widen (k := 7) (n := 456) (by omega) (by omega) ?_
  refine hm_putF (ci := 6) (v := .ref q94) (ty := .array .int) (C := rn_MO) (T := ft_MO) (N := 22) hx hb hts fi_MO fy_MO fo_MO fn_MO hown hE.K hP hS hA_x f97 rfl 9 (by decide) (hts _ tw_995) (fun _ h9 => h9) rfl hin rfl (by decide +kernel) rfl rfl (Nat.le_of_ble_eq_true rfl) dd_MO_init_57 (fun H locs hP hS => ?_)
  have hP : hm_P D cl_W (hm_up M95 x (.inr (6, [.int (nI 0), .ref q1, .int (nI 0), .ref q9, .ref q20, .ref q34, .int (nI 0), .ref q51, .ref q71, .ref q94, .null, .null, .int (nI 0), .int (nI 0), .null, .null, .null, .null, .int (nI 0), .null, .null, .null]))) H := hP
  obtain ⟨M111, eM111⟩ : ∃ z, z = hm_up M95 x (.inr (6, [.int (nI 0), .ref q1, .int (nI 0), .ref q9, .ref q20, .ref q34, .int (nI 0), .ref q51, .ref q71, .ref q94, .null, .null, .int (nI 0), .int (nI 0), .null, .null, .null, .null, .int (nI 0), .null, .null, .null])) := ⟨_, rfl⟩
  rw [← eM111] at hP
  have f112 : M111 q1 = some (.inl (D.1 102, 48, .inl (fun _ => 0))) := by rw [eM111]; exact hm_up_o (Ne.symm ne3) f99
  have f113 : M111 q9 = some (.inl (D.1 102, 16, .inl (fun _ => 0))) := by rw [eM111]; exact hm_up_o (Ne.symm ne11) f101
  have f114 : M111 q20 = some (.inl (D.1 102, 16, .inl (fun _ => 0))) := by rw [eM111]; exact hm_up_o (Ne.symm ne22) f103
  have f115 : M111 q34 = some (.inl (D.1 101, 16, .inl (fun _ => 0))) := by rw [eM111]; exact hm_up_o (Ne.symm ne36) f105
  have f116 : M111 q51 = some (.inl (D.1 102, 120, .inl (fun _ => 0))) := by rw [eM111]; exact hm_up_o (Ne.symm ne53) f107
  have f117 : M111 q71 = some (.inl (D.1 102, 120, .inl (fun _ => 0))) := by rw [eM111]; exact hm_up_o (Ne.symm ne73) f109
  have f118 : M111 q94 = some (.inl (D.1 102, 120, .inl (fun _ => 0))) := by rw [eM111]; exact hm_up_o (Ne.symm ne96) f110
  have f119 : M111 x = some (.inr (6, [.int (nI 0), .ref q1, .int (nI 0), .ref q9, .ref q20, .ref q34, .int (nI 0), .ref q51, .ref q71, .ref q94, .null, .null, .int (nI 0), .int (nI 0), .null, .null, .null, .null, .int (nI 0), .null, .null, .null])) := by rw [eM111]; exact hm_up_s
  refine lv_aload_n hx hb dd_MO_init_60 rfl (lv_at hl 0 rfl) ?_
  refine lv_sipush (v := nI 5760) hx hb dd_MO_init_61 (by decide +kernel) ?_
  refine hm_newa (atype := .int) (ty := .int) (N' := 5760) (a0 := (5760, .inl (fun _ => 0))) hx hb (hts _ tw_183) rfl hE.K hP hS 2 rfl (fun _ h9 => by cases h9) rfl (nI_pos (by omega)) (nI_clamp (by omega)) (by show _ * _ ≤ _; simp only [componentBytes]; omega) (by omega) (by omega) dd_MO_init_64 (fun q120 H hB_q120 hn_q120 hP hS => ?_)
  have hA_q120 : hm_A B q120 := Nat.le_trans hE.2.1 hB_q120
  obtain ⟨M121, eM121⟩ : ∃ z, z = hm_up M111 q120 (.inl (D.1 102, 5760, .inl (fun _ => 0))) := ⟨_, rfl⟩
  rw [← eM121] at hP
  have ne122 : x ≠ q120 := hm_neN f119 hn_q120
  have f123 : M121 x = some (.inr (6, [.int (nI 0), .ref q1, .int (nI 0), .ref q9, .ref q20, .ref q34, .int (nI 0), .ref q51, .ref q71, .ref q94, .null, .null, .int (nI 0), .int (nI 0), .null, .null, .null, .null, .int (nI 0), .null, .null, .null])) := by rw [eM121]; exact hm_up_o ne122 f119
  have ne124 : q1 ≠ q120 := hm_neN f112 hn_q120
  have f125 : M121 q1 = some (.inl (D.1 102, 48, .inl (fun _ => 0))) := by rw [eM121]; exact hm_up_o ne124 f112
  have ne126 : q9 ≠ q120 := hm_neN f113 hn_q120
  have f127 : M121 q9 = some (.inl (D.1 102, 16, .inl (fun _ => 0))) := by rw [eM121]; exact hm_up_o ne126 f113
  have ne128 : q20 ≠ q120 := hm_neN f114 hn_q120
  have f129 : M121 q20 = some (.inl (D.1 102, 16, .inl (fun _ => 0))) := by rw [eM121]; exact hm_up_o ne128 f114
  have ne130 : q34 ≠ q120 := hm_neN f115 hn_q120
  have f131 : M121 q34 = some (.inl (D.1 101, 16, .inl (fun _ => 0))) := by rw [eM121]; exact hm_up_o ne130 f115
  have ne132 : q51 ≠ q120 := hm_neN f116 hn_q120
  have f133 : M121 q51 = some (.inl (D.1 102, 120, .inl (fun _ => 0))) := by rw [eM121]; exact hm_up_o ne132 f116
  have ne134 : q71 ≠ q120 := hm_neN f117 hn_q120
  have f135 : M121 q71 = some (.inl (D.1 102, 120, .inl (fun _ => 0))) := by rw [eM121]; exact hm_up_o ne134 f117
  have ne136 : q94 ≠ q120 := hm_neN f118 hn_q120
  have f137 : M121 q94 = some (.inl (D.1 102, 120, .inl (fun _ => 0))) := by rw [eM121]; exact hm_up_o ne136 f118
  have f138 : M121 q120 = some (.inl (D.1 102, 5760, .inl (fun _ => 0))) := by rw [eM121]; exact hm_up_s
  refine W.widen (k := 8) (n := 6216) (by omega) (by omega) ?_
  refine hm_putF (ci := 6) (v := .ref q120) (ty := .array .int) (C := rn_MO) (T := ft_MO) (N := 22) hx hb hts fi_MO fy_MO fo_MO fn_MO hown hE.K hP hS hA_x f123 rfl 10 (by decide) (hts _ tw_996) (fun _ h9 => h9) rfl hin rfl (by decide +kernel) rfl rfl (Nat.le_of_ble_eq_true rfl) dd_MO_init_66 (fun H locs hP hS => ?_)
  have hP : hm_P D cl_W (hm_up M121 x (.inr (6, [.int (nI 0), .ref q1, .int (nI 0), .ref q9, .ref q20, .ref q34, .int (nI 0), .ref q51, .ref q71, .ref q94, .ref q120, .null, .int (nI 0), .int (nI 0), .null, .null, .null, .null, .int (nI 0), .null, .null, .null]))) H := hP
  obtain ⟨M139, eM139⟩ : ∃ z, z = hm_up M121 x (.inr (6, [.int (nI 0), .ref q1, .int (nI 0), .ref q9, .ref q20, .ref q34, .int (nI 0), .ref q51, .ref q71, .ref q94, .ref q120, .null, .int (nI 0), .int (nI 0), .null, .null, .null, .null, .int (nI 0), .null, .null, .null])) := ⟨_, rfl⟩
  rw [← eM139] at hP
  have f140 : M139 q1 = some (.inl (D.1 102, 48, .inl (fun _ => 0))) := by rw [eM139]; exact hm_up_o (Ne.symm ne3) f125
  have f141 : M139 q9 = some (.inl (D.1 102, 16, .inl (fun _ => 0))) := by rw [eM139]; exact hm_up_o (Ne.symm ne11) f127
  have f142 : M139 q20 = some (.inl (D.1 102, 16, .inl (fun _ => 0))) := by rw [eM139]; exact hm_up_o (Ne.symm ne22) f129
  have f143 : M139 q34 = some (.inl (D.1 101, 16, .inl (fun _ => 0))) := by rw [eM139]; exact hm_up_o (Ne.symm ne36) f131
  have f144 : M139 q51 = some (.inl (D.1 102, 120, .inl (fun _ => 0))) := by rw [eM139]; exact hm_up_o (Ne.symm ne53) f133
  have f145 : M139 q71 = some (.inl (D.1 102, 120, .inl (fun _ => 0))) := by rw [eM139]; exact hm_up_o (Ne.symm ne73) f135
  have f146 : M139 q94 = some (.inl (D.1 102, 120, .inl (fun _ => 0))) := by rw [eM139]; exact hm_up_o (Ne.symm ne96) f137
  have f147 : M139 q120 = some (.inl (D.1 102, 5760, .inl (fun _ => 0))) := by rw [eM139]; exact hm_up_o (Ne.symm ne122) f138
  have f148 : M139 x = some (.inr (6, [.int (nI 0), .ref q1, .int (nI 0), .ref q9, .ref q20, .ref q34, .int (nI 0), .ref q51, .ref q71, .ref q94, .ref q120, .null, .int (nI 0), .int (nI 0), .null, .null, .null, .null, .int (nI 0), .null, .null, .null])) := by rw [eM139]; exact hm_up_s
  refine lv_aload_n hx hb dd_MO_init_69 rfl (lv_at hl 0 rfl) ?_
  refine lv_bipush (v := nI 48) hx hb dd_MO_init_70 (by decide +kernel) ?_
  refine hm_newa (atype := .int) (ty := .int) (N' := 48) (a0 := (48, .inl (fun _ => 0))) hx hb (hts _ tw_183) rfl hE.K hP hS 2 rfl (fun _ h9 => by cases h9) rfl (nI_pos (by omega)) (nI_clamp (by omega)) (by show _ * _ ≤ _; simp only [componentBytes]; omega) (by omega) (by omega) dd_MO_init_72 (fun q149 H hB_q149 hn_q149 hP hS => ?_)
  have hA_q149 : hm_A B q149 := Nat.le_trans hE.2.1 hB_q149
  obtain ⟨M150, eM150⟩ : ∃ z, z = hm_up M139 q149 (.inl (D.1 102, 48, .inl (fun _ => 0))) := ⟨_, rfl⟩
  rw [← eM150] at hP
  have ne151 : x ≠ q149 := hm_neN f148 hn_q149
  have f152 : M150 x = some (.inr (6, [.int (nI 0), .ref q1, .int (nI 0), .ref q9, .ref q20, .ref q34, .int (nI 0), .ref q51, .ref q71, .ref q94, .ref q120, .null, .int (nI 0), .int (nI 0), .null, .null, .null, .null, .int (nI 0), .null, .null, .null])) := by rw [eM150]; exact hm_up_o ne151 f148
  have ne153 : q1 ≠ q149 := hm_neN f140 hn_q149
  have f154 : M150 q1 = some (.inl (D.1 102, 48, .inl (fun _ => 0))) := by rw [eM150]; exact hm_up_o ne153 f140
  have ne155 : q9 ≠ q149 := hm_neN f141 hn_q149
  have f156 : M150 q9 = some (.inl (D.1 102, 16, .inl (fun _ => 0))) := by rw [eM150]; exact hm_up_o ne155 f141
  have ne157 : q20 ≠ q149 := hm_neN f142 hn_q149
  have f158 : M150 q20 = some (.inl (D.1 102, 16, .inl (fun _ => 0))) := by rw [eM150]; exact hm_up_o ne157 f142
  have ne159 : q34 ≠ q149 := hm_neN f143 hn_q149
  have f160 : M150 q34 = some (.inl (D.1 101, 16, .inl (fun _ => 0))) := by rw [eM150]; exact hm_up_o ne159 f143
  have ne161 : q51 ≠ q149 := hm_neN f144 hn_q149
  have f162 : M150 q51 = some (.inl (D.1 102, 120, .inl (fun _ => 0))) := by rw [eM150]; exact hm_up_o ne161 f144
  have ne163 : q71 ≠ q149 := hm_neN f145 hn_q149
  have f164 : M150 q71 = some (.inl (D.1 102, 120, .inl (fun _ => 0))) := by rw [eM150]; exact hm_up_o ne163 f145
  have ne165 : q94 ≠ q149 := hm_neN f146 hn_q149
  have f166 : M150 q94 = some (.inl (D.1 102, 120, .inl (fun _ => 0))) := by rw [eM150]; exact hm_up_o ne165 f146
  have ne167 : q120 ≠ q149 := hm_neN f147 hn_q149
  have f168 : M150 q120 = some (.inl (D.1 102, 5760, .inl (fun _ => 0))) := by rw [eM150]; exact hm_up_o ne167 f147
  have f169 : M150 q149 = some (.inl (D.1 102, 48, .inl (fun _ => 0))) := by rw [eM150]; exact hm_up_s
  refine W.widen (k := 9) (n := 6264) (by omega) (by omega) ?_
  refine hm_putF (ci := 6) (v := .ref q149) (ty := .array .int) (C := rn_MO) (T := ft_MO) (N := 22) hx hb hts fi_MO fy_MO fo_MO fn_MO hown hE.K hP hS hA_x f152 rfl 11 (by decide) (hts _ tw_997) (fun _ h9 => h9) rfl hin rfl (by decide +kernel) rfl rfl (Nat.le_of_ble_eq_true rfl) dd_MO_init_74 (fun H locs hP hS => ?_)
  have hP : hm_P D cl_W (hm_up M150 x (.inr (6, [.int (nI 0), .ref q1, .int (nI 0), .ref q9, .ref q20, .ref q34, .int (nI 0), .ref q51, .ref q71, .ref q94, .ref q120, .ref q149, .int (nI 0), .int (nI 0), .null, .null, .null, .null, .int (nI 0), .null, .null, .null]))) H := hP
  obtain ⟨M170, eM170⟩ : ∃ z, z = hm_up M150 x (.inr (6, [.int (nI 0), .ref q1, .int (nI 0), .ref q9, .ref q20, .ref q34, .int (nI 0), .ref q51, .ref q71, .ref q94, .ref q120, .ref q149, .int (nI 0), .int (nI 0), .null, .null, .null, .null, .int (nI 0), .null, .null, .null])) := ⟨_, rfl⟩
  rw [← eM170] at hP
  have f171 : M170 q1 = some (.inl (D.1 102, 48, .inl (fun _ => 0))) := by rw [eM170]; exact hm_up_o (Ne.symm ne3) f154
  have f172 : M170 q9 = some (.inl (D.1 102, 16, .inl (fun _ => 0))) := by rw [eM170]; exact hm_up_o (Ne.symm ne11) f156
  have f173 : M170 q20 = some (.inl (D.1 102, 16, .inl (fun _ => 0))) := by rw [eM170]; exact hm_up_o (Ne.symm ne22) f158
  have f174 : M170 q34 = some (.inl (D.1 101, 16, .inl (fun _ => 0))) := by rw [eM170]; exact hm_up_o (Ne.symm ne36) f160
  have f175 : M170 q51 = some (.inl (D.1 102, 120, .inl (fun _ => 0))) := by rw [eM170]; exact hm_up_o (Ne.symm ne53) f162
  have f176 : M170 q71 = some (.inl (D.1 102, 120, .inl (fun _ => 0))) := by rw [eM170]; exact hm_up_o (Ne.symm ne73) f164
  have f177 : M170 q94 = some (.inl (D.1 102, 120, .inl (fun _ => 0))) := by rw [eM170]; exact hm_up_o (Ne.symm ne96) f166
  have f178 : M170 q120 = some (.inl (D.1 102, 5760, .inl (fun _ => 0))) := by rw [eM170]; exact hm_up_o (Ne.symm ne122) f168
  have f179 : M170 q149 = some (.inl (D.1 102, 48, .inl (fun _ => 0))) := by rw [eM170]; exact hm_up_o (Ne.symm ne151) f169
  have f180 : M170 x = some (.inr (6, [.int (nI 0), .ref q1, .int (nI 0), .ref q9, .ref q20, .ref q34, .int (nI 0), .ref q51, .ref q71, .ref q94, .ref q120, .ref q149, .int (nI 0), .int (nI 0), .null, .null, .null, .null, .int (nI 0), .null, .null, .null])) := by rw [eM170]; exact hm_up_s
  refine lv_aload_n hx hb dd_MO_init_77 rfl (lv_at hl 0 rfl) ?_
  refine lv_bipush (v := nI 6) hx hb dd_MO_init_78 (by decide +kernel) ?_
  refine hm_newa (atype := .long) (ty := .long) (N' := 6) (a0 := (6, .inr (.inl (fun _ => 0)))) hx hb (hts _ tw_1053) rfl hE.K hP hS 3 rfl (fun _ h9 => by cases h9) rfl (nI_pos (by omega)) (nI_clamp (by omega)) (by show _ * _ ≤ _; simp only [componentBytes]; omega) (by omega) (by omega) dd_MO_init_80 (fun q181 H hB_q181 hn_q181 hP hS => ?_)
  have hA_q181 : hm_A B q181 := Nat.le_trans hE.2.1 hB_q181
  obtain ⟨M182, eM182⟩ : ∃ z, z = hm_up M170 q181 (.inl (D.1 103, 6, .inr (.inl (fun _ => 0)))) := ⟨_, rfl⟩
  rw [← eM182] at hP
  have ne183 : x ≠ q181 := hm_neN f180 hn_q181
  have f184 : M182 x = some (.inr (6, [.int (nI 0), .ref q1, .int (nI 0), .ref q9, .ref q20, .ref q34, .int (nI 0), .ref q51, .ref q71, .ref q94, .ref q120, .ref q149, .int (nI 0), .int (nI 0), .null, .null, .null, .null, .int (nI 0), .null, .null, .null])) := by rw [eM182]; exact hm_up_o ne183 f180
  have ne185 : q1 ≠ q181 := hm_neN f171 hn_q181
  have f186 : M182 q1 = some (.inl (D.1 102, 48, .inl (fun _ => 0))) := by rw [eM182]; exact hm_up_o ne185 f171
  have ne187 : q9 ≠ q181 := hm_neN f172 hn_q181
  have f188 : M182 q9 = some (.inl (D.1 102, 16, .inl (fun _ => 0))) := by rw [eM182]; exact hm_up_o ne187 f172
  have ne189 : q20 ≠ q181 := hm_neN f173 hn_q181
  have f190 : M182 q20 = some (.inl (D.1 102, 16, .inl (fun _ => 0))) := by rw [eM182]; exact hm_up_o ne189 f173
  have ne191 : q34 ≠ q181 := hm_neN f174 hn_q181
  have f192 : M182 q34 = some (.inl (D.1 101, 16, .inl (fun _ => 0))) := by rw [eM182]; exact hm_up_o ne191 f174
  have ne193 : q51 ≠ q181 := hm_neN f175 hn_q181
  have f194 : M182 q51 = some (.inl (D.1 102, 120, .inl (fun _ => 0))) := by rw [eM182]; exact hm_up_o ne193 f175
  have ne195 : q71 ≠ q181 := hm_neN f176 hn_q181
  have f196 : M182 q71 = some (.inl (D.1 102, 120, .inl (fun _ => 0))) := by rw [eM182]; exact hm_up_o ne195 f176
  have ne197 : q94 ≠ q181 := hm_neN f177 hn_q181
  have f198 : M182 q94 = some (.inl (D.1 102, 120, .inl (fun _ => 0))) := by rw [eM182]; exact hm_up_o ne197 f177
  have ne199 : q120 ≠ q181 := hm_neN f178 hn_q181
  have f200 : M182 q120 = some (.inl (D.1 102, 5760, .inl (fun _ => 0))) := by rw [eM182]; exact hm_up_o ne199 f178
  have ne201 : q149 ≠ q181 := hm_neN f179 hn_q181
  have f202 : M182 q149 = some (.inl (D.1 102, 48, .inl (fun _ => 0))) := by rw [eM182]; exact hm_up_o ne201 f179
  have f203 : M182 q181 = some (.inl (D.1 103, 6, .inr (.inl (fun _ => 0)))) := by rw [eM182]; exact hm_up_s
  refine W.widen (k := 10) (n := 6270) (by omega) (by omega) ?_
  refine hm_putF (ci := 6) (v := .ref q181) (ty := .array .long) (C := rn_MO) (T := ft_MO) (N := 22) hx hb hts fi_MO fy_MO fo_MO fn_MO hown hE.K hP hS hA_x f184 rfl 14 (by decide) (hts _ tw_1000) (fun _ h9 => h9) rfl hin rfl (by decide +kernel) rfl rfl (Nat.le_of_ble_eq_true rfl) dd_MO_init_82 (fun H locs hP hS => ?_)
  have hP : hm_P D cl_W (hm_up M182 x (.inr (6, [.int (nI 0), .ref q1, .int (nI 0), .ref q9, .ref q20, .ref q34, .int (nI 0), .ref q51, .ref q71, .ref q94, .ref q120, .ref q149, .int (nI 0), .int (nI 0), .ref q181, .null, .null, .null, .int (nI 0), .null, .null, .null]))) H := hP
  obtain ⟨M204, eM204⟩ : ∃ z, z = hm_up M182 x (.inr (6, [.int (nI 0), .ref q1, .int (nI 0), .ref q9, .ref q20, .ref q34, .int (nI 0), .ref q51, .ref q71, .ref q94, .ref q120, .ref q149, .int (nI 0), .int (nI 0), .ref q181, .null, .null, .null, .int (nI 0), .null, .null, .null])) := ⟨_, rfl⟩
  rw [← eM204] at hP
  have f205 : M204 q1 = some (.inl (D.1 102, 48, .inl (fun _ => 0))) := by rw [eM204]; exact hm_up_o (Ne.symm ne3) f186
  have f206 : M204 q9 = some (.inl (D.1 102, 16, .inl (fun _ => 0))) := by rw [eM204]; exact hm_up_o (Ne.symm ne11) f188
  have f207 : M204 q20 = some (.inl (D.1 102, 16, .inl (fun _ => 0))) := by rw [eM204]; exact hm_up_o (Ne.symm ne22) f190
  have f208 : M204 q34 = some (.inl (D.1 101, 16, .inl (fun _ => 0))) := by rw [eM204]; exact hm_up_o (Ne.symm ne36) f192
  have f209 : M204 q51 = some (.inl (D.1 102, 120, .inl (fun _ => 0))) := by rw [eM204]; exact hm_up_o (Ne.symm ne53) f194
  have f210 : M204 q71 = some (.inl (D.1 102, 120, .inl (fun _ => 0))) := by rw [eM204]; exact hm_up_o (Ne.symm ne73) f196
  have f211 : M204 q94 = some (.inl (D.1 102, 120, .inl (fun _ => 0))) := by rw [eM204]; exact hm_up_o (Ne.symm ne96) f198
  have f212 : M204 q120 = some (.inl (D.1 102, 5760, .inl (fun _ => 0))) := by rw [eM204]; exact hm_up_o (Ne.symm ne122) f200
  have f213 : M204 q149 = some (.inl (D.1 102, 48, .inl (fun _ => 0))) := by rw [eM204]; exact hm_up_o (Ne.symm ne151) f202
  have f214 : M204 q181 = some (.inl (D.1 103, 6, .inr (.inl (fun _ => 0)))) := by rw [eM204]; exact hm_up_o (Ne.symm ne183) f203
  have f215 : M204 x = some (.inr (6, [.int (nI 0), .ref q1, .int (nI 0), .ref q9, .ref q20, .ref q34, .int (nI 0), .ref q51, .ref q71, .ref q94, .ref q120, .ref q149, .int (nI 0), .int (nI 0), .ref q181, .null, .null, .null, .int (nI 0), .null, .null, .null])) := by rw [eM204]; exact hm_up_s
  refine lv_aload_n hx hb dd_MO_init_85 rfl (lv_at hl 0 rfl) ?_
  refine lv_bipush (v := nI 6) hx hb dd_MO_init_86 (by decide +kernel) ?_
  refine hm_newa (atype := .long) (ty := .long) (N' := 6) (a0 := (6, .inr (.inl (fun _ => 0)))) hx hb (hts _ tw_1053) rfl hE.K hP hS 3 rfl (fun _ h9 => by cases h9) rfl (nI_pos (by omega)) (nI_clamp (by omega)) (by show _ * _ ≤ _; simp only [componentBytes]; omega) (by omega) (by omega) dd_MO_init_88 (fun q216 H hB_q216 hn_q216 hP hS => ?_)
  have hA_q216 : hm_A B q216 := Nat.le_trans hE.2.1 hB_q216
  obtain ⟨M217, eM217⟩ : ∃ z, z = hm_up M204 q216 (.inl (D.1 103, 6, .inr (.inl (fun _ => 0)))) := ⟨_, rfl⟩
  rw [← eM217] at hP
  have ne218 : x ≠ q216 := hm_neN f215 hn_q216
  have f219 : M217 x = some (.inr (6, [.int (nI 0), .ref q1, .int (nI 0), .ref q9, .ref q20, .ref q34, .int (nI 0), .ref q51, .ref q71, .ref q94, .ref q120, .ref q149, .int (nI 0), .int (nI 0), .ref q181, .null, .null, .null, .int (nI 0), .null, .null, .null])) := by rw [eM217]; exact hm_up_o ne218 f215
  have ne220 : q1 ≠ q216 := hm_neN f205 hn_q216
  have f221 : M217 q1 = some (.inl (D.1 102, 48, .inl (fun _ => 0))) := by rw [eM217]; exact hm_up_o ne220 f205
  have ne222 : q9 ≠ q216 := hm_neN f206 hn_q216
  have f223 : M217 q9 = some (.inl (D.1 102, 16, .inl (fun _ => 0))) := by rw [eM217]; exact hm_up_o ne222 f206
  have ne224 : q20 ≠ q216 := hm_neN f207 hn_q216
  have f225 : M217 q20 = some (.inl (D.1 102, 16, .inl (fun _ => 0))) := by rw [eM217]; exact hm_up_o ne224 f207
  have ne226 : q34 ≠ q216 := hm_neN f208 hn_q216
  have f227 : M217 q34 = some (.inl (D.1 101, 16, .inl (fun _ => 0))) := by rw [eM217]; exact hm_up_o ne226 f208
  have ne228 : q51 ≠ q216 := hm_neN f209 hn_q216
  have f229 : M217 q51 = some (.inl (D.1 102, 120, .inl (fun _ => 0))) := by rw [eM217]; exact hm_up_o ne228 f209
  have ne230 : q71 ≠ q216 := hm_neN f210 hn_q216
  have f231 : M217 q71 = some (.inl (D.1 102, 120, .inl (fun _ => 0))) := by rw [eM217]; exact hm_up_o ne230 f210
  have ne232 : q94 ≠ q216 := hm_neN f211 hn_q216
  have f233 : M217 q94 = some (.inl (D.1 102, 120, .inl (fun _ => 0))) := by rw [eM217]; exact hm_up_o ne232 f211
  have ne234 : q120 ≠ q216 := hm_neN f212 hn_q216
  have f235 : M217 q120 = some (.inl (D.1 102, 5760, .inl (fun _ => 0))) := by rw [eM217]; exact hm_up_o ne234 f212
  have ne236 : q149 ≠ q216 := hm_neN f213 hn_q216
  have f237 : M217 q149 = some (.inl (D.1 102, 48, .inl (fun _ => 0))) := by rw [eM217]; exact hm_up_o ne236 f213
  have ne238 : q181 ≠ q216 := hm_neN f214 hn_q216
  have f239 : M217 q181 = some (.inl (D.1 103, 6, .inr (.inl (fun _ => 0)))) := by rw [eM217]; exact hm_up_o ne238 f214
  have f240 : M217 q216 = some (.inl (D.1 103, 6, .inr (.inl (fun _ => 0)))) := by rw [eM217]; exact hm_up_s
  refine W.widen (k := 11) (n := 6276) (by omega) (by omega) ?_
  refine hm_putF (ci := 6) (v := .ref q216) (ty := .array .long) (C := rn_MO) (T := ft_MO) (N := 22) hx hb hts fi_MO fy_MO fo_MO fn_MO hown hE.K hP hS hA_x f219 rfl 15 (by decide) (hts _ tw_1001) (fun _ h9 => h9) rfl hin rfl (by decide +kernel) rfl rfl (Nat.le_of_ble_eq_true rfl) dd_MO_init_90 (fun H locs hP hS => ?_)
  have hP : hm_P D cl_W (hm_up M217 x (.inr (6, [.int (nI 0), .ref q1, .int (nI 0), .ref q9, .ref q20, .ref q34, .int (nI 0), .ref q51, .ref q71, .ref q94, .ref q120, .ref q149, .int (nI 0), .int (nI 0), .ref q181, .ref q216, .null, .null, .int (nI 0), .null, .null, .null]))) H := hP
  obtain ⟨M241, eM241⟩ : ∃ z, z = hm_up M217 x (.inr (6, [.int (nI 0), .ref q1, .int (nI 0), .ref q9, .ref q20, .ref q34, .int (nI 0), .ref q51, .ref q71, .ref q94, .ref q120, .ref q149, .int (nI 0), .int (nI 0), .ref q181, .ref q216, .null, .null, .int (nI 0), .null, .null, .null])) := ⟨_, rfl⟩
  rw [← eM241] at hP
  have f242 : M241 q1 = some (.inl (D.1 102, 48, .inl (fun _ => 0))) := by rw [eM241]; exact hm_up_o (Ne.symm ne3) f221
  have f243 : M241 q9 = some (.inl (D.1 102, 16, .inl (fun _ => 0))) := by rw [eM241]; exact hm_up_o (Ne.symm ne11) f223
  have f244 : M241 q20 = some (.inl (D.1 102, 16, .inl (fun _ => 0))) := by rw [eM241]; exact hm_up_o (Ne.symm ne22) f225
  have f245 : M241 q34 = some (.inl (D.1 101, 16, .inl (fun _ => 0))) := by rw [eM241]; exact hm_up_o (Ne.symm ne36) f227
  have f246 : M241 q51 = some (.inl (D.1 102, 120, .inl (fun _ => 0))) := by rw [eM241]; exact hm_up_o (Ne.symm ne53) f229
  have f247 : M241 q71 = some (.inl (D.1 102, 120, .inl (fun _ => 0))) := by rw [eM241]; exact hm_up_o (Ne.symm ne73) f231
  have f248 : M241 q94 = some (.inl (D.1 102, 120, .inl (fun _ => 0))) := by rw [eM241]; exact hm_up_o (Ne.symm ne96) f233
  have f249 : M241 q120 = some (.inl (D.1 102, 5760, .inl (fun _ => 0))) := by rw [eM241]; exact hm_up_o (Ne.symm ne122) f235
  have f250 : M241 q149 = some (.inl (D.1 102, 48, .inl (fun _ => 0))) := by rw [eM241]; exact hm_up_o (Ne.symm ne151) f237
  have f251 : M241 q181 = some (.inl (D.1 103, 6, .inr (.inl (fun _ => 0)))) := by rw [eM241]; exact hm_up_o (Ne.symm ne183) f239
  have f252 : M241 q216 = some (.inl (D.1 103, 6, .inr (.inl (fun _ => 0)))) := by rw [eM241]; exact hm_up_o (Ne.symm ne218) f240
  have f253 : M241 x = some (.inr (6, [.int (nI 0), .ref q1, .int (nI 0), .ref q9, .ref q20, .ref q34, .int (nI 0), .ref q51, .ref q71, .ref q94, .ref q120, .ref q149, .int (nI 0), .int (nI 0), .ref q181, .ref q216, .null, .null, .int (nI 0), .null, .null, .null])) := by rw [eM241]; exact hm_up_s
  refine lv_aload_n hx hb dd_MO_init_93 rfl (lv_at hl 0 rfl) ?_
  refine lv_bipush (v := nI 16) hx hb dd_MO_init_94 (by decide +kernel) ?_
  refine hm_newa (atype := .boolean) (ty := .boolean) (N' := 16) (a0 := (16, .inl (fun _ => 0))) hx hb (hts _ tw_137) rfl hE.K hP hS 1 rfl (fun _ h9 => by cases h9) rfl (nI_pos (by omega)) (nI_clamp (by omega)) (by show _ * _ ≤ _; simp only [componentBytes]; omega) (by omega) (by omega) dd_MO_init_96 (fun q254 H hB_q254 hn_q254 hP hS => ?_)
  have hA_q254 : hm_A B q254 := Nat.le_trans hE.2.1 hB_q254
  obtain ⟨M255, eM255⟩ : ∃ z, z = hm_up M241 q254 (.inl (D.1 101, 16, .inl (fun _ => 0))) := ⟨_, rfl⟩
  rw [← eM255] at hP
  have ne256 : x ≠ q254 := hm_neN f253 hn_q254
  have f257 : M255 x = some (.inr (6, [.int (nI 0), .ref q1, .int (nI 0), .ref q9, .ref q20, .ref q34, .int (nI 0), .ref q51, .ref q71, .ref q94, .ref q120, .ref q149, .int (nI 0), .int (nI 0), .ref q181, .ref q216, .null, .null, .int (nI 0), .null, .null, .null])) := by rw [eM255]; exact hm_up_o ne256 f253
  have ne258 : q1 ≠ q254 := hm_neN f242 hn_q254
  have f259 : M255 q1 = some (.inl (D.1 102, 48, .inl (fun _ => 0))) := by rw [eM255]; exact hm_up_o ne258 f242
  have ne260 : q9 ≠ q254 := hm_neN f243 hn_q254
  have f261 : M255 q9 = some (.inl (D.1 102, 16, .inl (fun _ => 0))) := by rw [eM255]; exact hm_up_o ne260 f243
  have ne262 : q20 ≠ q254 := hm_neN f244 hn_q254
  have f263 : M255 q20 = some (.inl (D.1 102, 16, .inl (fun _ => 0))) := by rw [eM255]; exact hm_up_o ne262 f244
  have ne264 : q34 ≠ q254 := hm_neN f245 hn_q254
  have f265 : M255 q34 = some (.inl (D.1 101, 16, .inl (fun _ => 0))) := by rw [eM255]; exact hm_up_o ne264 f245
  have ne266 : q51 ≠ q254 := hm_neN f246 hn_q254
  have f267 : M255 q51 = some (.inl (D.1 102, 120, .inl (fun _ => 0))) := by rw [eM255]; exact hm_up_o ne266 f246
  have ne268 : q71 ≠ q254 := hm_neN f247 hn_q254
  have f269 : M255 q71 = some (.inl (D.1 102, 120, .inl (fun _ => 0))) := by rw [eM255]; exact hm_up_o ne268 f247
  have ne270 : q94 ≠ q254 := hm_neN f248 hn_q254
  have f271 : M255 q94 = some (.inl (D.1 102, 120, .inl (fun _ => 0))) := by rw [eM255]; exact hm_up_o ne270 f248
  have ne272 : q120 ≠ q254 := hm_neN f249 hn_q254
  have f273 : M255 q120 = some (.inl (D.1 102, 5760, .inl (fun _ => 0))) := by rw [eM255]; exact hm_up_o ne272 f249
  have ne274 : q149 ≠ q254 := hm_neN f250 hn_q254
  have f275 : M255 q149 = some (.inl (D.1 102, 48, .inl (fun _ => 0))) := by rw [eM255]; exact hm_up_o ne274 f250
  have ne276 : q181 ≠ q254 := hm_neN f251 hn_q254
  have f277 : M255 q181 = some (.inl (D.1 103, 6, .inr (.inl (fun _ => 0)))) := by rw [eM255]; exact hm_up_o ne276 f251
  have ne278 : q216 ≠ q254 := hm_neN f252 hn_q254
  have f279 : M255 q216 = some (.inl (D.1 103, 6, .inr (.inl (fun _ => 0)))) := by rw [eM255]; exact hm_up_o ne278 f252
  have f280 : M255 q254 = some (.inl (D.1 101, 16, .inl (fun _ => 0))) := by rw [eM255]; exact hm_up_s
  refine W.widen (k := 12) (n := 6292) (by omega) (by omega) ?_
  refine hm_putF (ci := 6) (v := .ref q254) (ty := .array .boolean) (C := rn_MO) (T := ft_MO) (N := 22) hx hb hts fi_MO fy_MO fo_MO fn_MO hown hE.K hP hS hA_x f257 rfl 16 (by decide) (hts _ tw_1002) (fun _ h9 => h9) rfl hin rfl (by decide +kernel) rfl rfl (Nat.le_of_ble_eq_true rfl) dd_MO_init_98 (fun H locs hP hS => ?_)
  have hP : hm_P D cl_W (hm_up M255 x (.inr (6, [.int (nI 0), .ref q1, .int (nI 0), .ref q9, .ref q20, .ref q34, .int (nI 0), .ref q51, .ref q71, .ref q94, .ref q120, .ref q149, .int (nI 0), .int (nI 0), .ref q181, .ref q216, .ref q254, .null, .int (nI 0), .null, .null, .null]))) H := hP
  obtain ⟨M281, eM281⟩ : ∃ z, z = hm_up M255 x (.inr (6, [.int (nI 0), .ref q1, .int (nI 0), .ref q9, .ref q20, .ref q34, .int (nI 0), .ref q51, .ref q71, .ref q94, .ref q120, .ref q149, .int (nI 0), .int (nI 0), .ref q181, .ref q216, .ref q254, .null, .int (nI 0), .null, .null, .null])) := ⟨_, rfl⟩
  rw [← eM281] at hP
  have f282 : M281 q1 = some (.inl (D.1 102, 48, .inl (fun _ => 0))) := by rw [eM281]; exact hm_up_o (Ne.symm ne3) f259
  have f283 : M281 q9 = some (.inl (D.1 102, 16, .inl (fun _ => 0))) := by rw [eM281]; exact hm_up_o (Ne.symm ne11) f261
  have f284 : M281 q20 = some (.inl (D.1 102, 16, .inl (fun _ => 0))) := by rw [eM281]; exact hm_up_o (Ne.symm ne22) f263
  have f285 : M281 q34 = some (.inl (D.1 101, 16, .inl (fun _ => 0))) := by rw [eM281]; exact hm_up_o (Ne.symm ne36) f265
  have f286 : M281 q51 = some (.inl (D.1 102, 120, .inl (fun _ => 0))) := by rw [eM281]; exact hm_up_o (Ne.symm ne53) f267
  have f287 : M281 q71 = some (.inl (D.1 102, 120, .inl (fun _ => 0))) := by rw [eM281]; exact hm_up_o (Ne.symm ne73) f269
  have f288 : M281 q94 = some (.inl (D.1 102, 120, .inl (fun _ => 0))) := by rw [eM281]; exact hm_up_o (Ne.symm ne96) f271
  have f289 : M281 q120 = some (.inl (D.1 102, 5760, .inl (fun _ => 0))) := by rw [eM281]; exact hm_up_o (Ne.symm ne122) f273
  have f290 : M281 q149 = some (.inl (D.1 102, 48, .inl (fun _ => 0))) := by rw [eM281]; exact hm_up_o (Ne.symm ne151) f275
  have f291 : M281 q181 = some (.inl (D.1 103, 6, .inr (.inl (fun _ => 0)))) := by rw [eM281]; exact hm_up_o (Ne.symm ne183) f277
  have f292 : M281 q216 = some (.inl (D.1 103, 6, .inr (.inl (fun _ => 0)))) := by rw [eM281]; exact hm_up_o (Ne.symm ne218) f279
  have f293 : M281 q254 = some (.inl (D.1 101, 16, .inl (fun _ => 0))) := by rw [eM281]; exact hm_up_o (Ne.symm ne256) f280
  have f294 : M281 x = some (.inr (6, [.int (nI 0), .ref q1, .int (nI 0), .ref q9, .ref q20, .ref q34, .int (nI 0), .ref q51, .ref q71, .ref q94, .ref q120, .ref q149, .int (nI 0), .int (nI 0), .ref q181, .ref q216, .ref q254, .null, .int (nI 0), .null, .null, .null])) := by rw [eM281]; exact hm_up_s
  refine lv_aload_n hx hb dd_MO_init_101 rfl (lv_at hl 0 rfl) ?_
  refine lv_bipush (v := nI 16) hx hb dd_MO_init_102 (by decide +kernel) ?_
  refine hm_newa (atype := .boolean) (ty := .boolean) (N' := 16) (a0 := (16, .inl (fun _ => 0))) hx hb (hts _ tw_137) rfl hE.K hP hS 1 rfl (fun _ h9 => by cases h9) rfl (nI_pos (by omega)) (nI_clamp (by omega)) (by show _ * _ ≤ _; simp only [componentBytes]; omega) (by omega) (by omega) dd_MO_init_104 (fun q295 H hB_q295 hn_q295 hP hS => ?_)
  have hA_q295 : hm_A B q295 := Nat.le_trans hE.2.1 hB_q295
  obtain ⟨M296, eM296⟩ : ∃ z, z = hm_up M281 q295 (.inl (D.1 101, 16, .inl (fun _ => 0))) := ⟨_, rfl⟩
  rw [← eM296] at hP
  have ne297 : x ≠ q295 := hm_neN f294 hn_q295
  have f298 : M296 x = some (.inr (6, [.int (nI 0), .ref q1, .int (nI 0), .ref q9, .ref q20, .ref q34, .int (nI 0), .ref q51, .ref q71, .ref q94, .ref q120, .ref q149, .int (nI 0), .int (nI 0), .ref q181, .ref q216, .ref q254, .null, .int (nI 0), .null, .null, .null])) := by rw [eM296]; exact hm_up_o ne297 f294
  have ne299 : q1 ≠ q295 := hm_neN f282 hn_q295
  have f300 : M296 q1 = some (.inl (D.1 102, 48, .inl (fun _ => 0))) := by rw [eM296]; exact hm_up_o ne299 f282
  have ne301 : q9 ≠ q295 := hm_neN f283 hn_q295
  have f302 : M296 q9 = some (.inl (D.1 102, 16, .inl (fun _ => 0))) := by rw [eM296]; exact hm_up_o ne301 f283
  have ne303 : q20 ≠ q295 := hm_neN f284 hn_q295
  have f304 : M296 q20 = some (.inl (D.1 102, 16, .inl (fun _ => 0))) := by rw [eM296]; exact hm_up_o ne303 f284
  have ne305 : q34 ≠ q295 := hm_neN f285 hn_q295
  have f306 : M296 q34 = some (.inl (D.1 101, 16, .inl (fun _ => 0))) := by rw [eM296]; exact hm_up_o ne305 f285
  have ne307 : q51 ≠ q295 := hm_neN f286 hn_q295
  have f308 : M296 q51 = some (.inl (D.1 102, 120, .inl (fun _ => 0))) := by rw [eM296]; exact hm_up_o ne307 f286
  have ne309 : q71 ≠ q295 := hm_neN f287 hn_q295
  have f310 : M296 q71 = some (.inl (D.1 102, 120, .inl (fun _ => 0))) := by rw [eM296]; exact hm_up_o ne309 f287
  have ne311 : q94 ≠ q295 := hm_neN f288 hn_q295
  have f312 : M296 q94 = some (.inl (D.1 102, 120, .inl (fun _ => 0))) := by rw [eM296]; exact hm_up_o ne311 f288
  have ne313 : q120 ≠ q295 := hm_neN f289 hn_q295
  have f314 : M296 q120 = some (.inl (D.1 102, 5760, .inl (fun _ => 0))) := by rw [eM296]; exact hm_up_o ne313 f289
  have ne315 : q149 ≠ q295 := hm_neN f290 hn_q295
  have f316 : M296 q149 = some (.inl (D.1 102, 48, .inl (fun _ => 0))) := by rw [eM296]; exact hm_up_o ne315 f290
  have ne317 : q181 ≠ q295 := hm_neN f291 hn_q295
  have f318 : M296 q181 = some (.inl (D.1 103, 6, .inr (.inl (fun _ => 0)))) := by rw [eM296]; exact hm_up_o ne317 f291
  have ne319 : q216 ≠ q295 := hm_neN f292 hn_q295
  have f320 : M296 q216 = some (.inl (D.1 103, 6, .inr (.inl (fun _ => 0)))) := by rw [eM296]; exact hm_up_o ne319 f292
  have ne321 : q254 ≠ q295 := hm_neN f293 hn_q295
  have f322 : M296 q254 = some (.inl (D.1 101, 16, .inl (fun _ => 0))) := by rw [eM296]; exact hm_up_o ne321 f293
  have f323 : M296 q295 = some (.inl (D.1 101, 16, .inl (fun _ => 0))) := by rw [eM296]; exact hm_up_s
  refine W.widen (k := 13) (n := 6308) (by omega) (by omega) ?_
  refine hm_putF (ci := 6) (v := .ref q295) (ty := .array .boolean) (C := rn_MO) (T := ft_MO) (N := 22) hx hb hts fi_MO fy_MO fo_MO fn_MO hown hE.K hP hS hA_x f298 rfl 17 (by decide) (hts _ tw_1003) (fun _ h9 => h9) rfl hin rfl (by decide +kernel) rfl rfl (Nat.le_of_ble_eq_true rfl) dd_MO_init_106 (fun H locs hP hS => ?_)
  have hP : hm_P D cl_W (hm_up M296 x (.inr (6, [.int (nI 0), .ref q1, .int (nI 0), .ref q9, .ref q20, .ref q34, .int (nI 0), .ref q51, .ref q71, .ref q94, .ref q120, .ref q149, .int (nI 0), .int (nI 0), .ref q181, .ref q216, .ref q254, .ref q295, .int (nI 0), .null, .null, .null]))) H := hP
  obtain ⟨M324, eM324⟩ : ∃ z, z = hm_up M296 x (.inr (6, [.int (nI 0), .ref q1, .int (nI 0), .ref q9, .ref q20, .ref q34, .int (nI 0), .ref q51, .ref q71, .ref q94, .ref q120, .ref q149, .int (nI 0), .int (nI 0), .ref q181, .ref q216, .ref q254, .ref q295, .int (nI 0), .null, .null, .null])) := ⟨_, rfl⟩
  rw [← eM324] at hP
  have f325 : M324 q1 = some (.inl (D.1 102, 48, .inl (fun _ => 0))) := by rw [eM324]; exact hm_up_o (Ne.symm ne3) f300
  have f326 : M324 q9 = some (.inl (D.1 102, 16, .inl (fun _ => 0))) := by rw [eM324]; exact hm_up_o (Ne.symm ne11) f302
  have f327 : M324 q20 = some (.inl (D.1 102, 16, .inl (fun _ => 0))) := by rw [eM324]; exact hm_up_o (Ne.symm ne22) f304
  have f328 : M324 q34 = some (.inl (D.1 101, 16, .inl (fun _ => 0))) := by rw [eM324]; exact hm_up_o (Ne.symm ne36) f306
  have f329 : M324 q51 = some (.inl (D.1 102, 120, .inl (fun _ => 0))) := by rw [eM324]; exact hm_up_o (Ne.symm ne53) f308
  have f330 : M324 q71 = some (.inl (D.1 102, 120, .inl (fun _ => 0))) := by rw [eM324]; exact hm_up_o (Ne.symm ne73) f310
  have f331 : M324 q94 = some (.inl (D.1 102, 120, .inl (fun _ => 0))) := by rw [eM324]; exact hm_up_o (Ne.symm ne96) f312
  have f332 : M324 q120 = some (.inl (D.1 102, 5760, .inl (fun _ => 0))) := by rw [eM324]; exact hm_up_o (Ne.symm ne122) f314
  have f333 : M324 q149 = some (.inl (D.1 102, 48, .inl (fun _ => 0))) := by rw [eM324]; exact hm_up_o (Ne.symm ne151) f316
  have f334 : M324 q181 = some (.inl (D.1 103, 6, .inr (.inl (fun _ => 0)))) := by rw [eM324]; exact hm_up_o (Ne.symm ne183) f318
  have f335 : M324 q216 = some (.inl (D.1 103, 6, .inr (.inl (fun _ => 0)))) := by rw [eM324]; exact hm_up_o (Ne.symm ne218) f320
  have f336 : M324 q254 = some (.inl (D.1 101, 16, .inl (fun _ => 0))) := by rw [eM324]; exact hm_up_o (Ne.symm ne256) f322
  have f337 : M324 q295 = some (.inl (D.1 101, 16, .inl (fun _ => 0))) := by rw [eM324]; exact hm_up_o (Ne.symm ne297) f323
  have f338 : M324 x = some (.inr (6, [.int (nI 0), .ref q1, .int (nI 0), .ref q9, .ref q20, .ref q34, .int (nI 0), .ref q51, .ref q71, .ref q94, .ref q120, .ref q149, .int (nI 0), .int (nI 0), .ref q181, .ref q216, .ref q254, .ref q295, .int (nI 0), .null, .null, .null])) := by rw [eM324]; exact hm_up_s
  refine lv_aload_n hx hb dd_MO_init_109 rfl (lv_at hl 0 rfl) ?_
  refine lv_sipush (v := nI 2601) hx hb dd_MO_init_110 (by decide +kernel) ?_
  refine hm_newa (atype := .boolean) (ty := .boolean) (N' := 2601) (a0 := (2601, .inl (fun _ => 0))) hx hb (hts _ tw_137) rfl hE.K hP hS 1 rfl (fun _ h9 => by cases h9) rfl (nI_pos (by omega)) (nI_clamp (by omega)) (by show _ * _ ≤ _; simp only [componentBytes]; omega) (by omega) (by omega) dd_MO_init_113 (fun q339 H hB_q339 hn_q339 hP hS => ?_)
  have hA_q339 : hm_A B q339 := Nat.le_trans hE.2.1 hB_q339
  obtain ⟨M340, eM340⟩ : ∃ z, z = hm_up M324 q339 (.inl (D.1 101, 2601, .inl (fun _ => 0))) := ⟨_, rfl⟩
  rw [← eM340] at hP
  have ne341 : x ≠ q339 := hm_neN f338 hn_q339
  have f342 : M340 x = some (.inr (6, [.int (nI 0), .ref q1, .int (nI 0), .ref q9, .ref q20, .ref q34, .int (nI 0), .ref q51, .ref q71, .ref q94, .ref q120, .ref q149, .int (nI 0), .int (nI 0), .ref q181, .ref q216, .ref q254, .ref q295, .int (nI 0), .null, .null, .null])) := by rw [eM340]; exact hm_up_o ne341 f338
  have ne343 : q1 ≠ q339 := hm_neN f325 hn_q339
  have f344 : M340 q1 = some (.inl (D.1 102, 48, .inl (fun _ => 0))) := by rw [eM340]; exact hm_up_o ne343 f325
  have ne345 : q9 ≠ q339 := hm_neN f326 hn_q339
  have f346 : M340 q9 = some (.inl (D.1 102, 16, .inl (fun _ => 0))) := by rw [eM340]; exact hm_up_o ne345 f326
  have ne347 : q20 ≠ q339 := hm_neN f327 hn_q339
  have f348 : M340 q20 = some (.inl (D.1 102, 16, .inl (fun _ => 0))) := by rw [eM340]; exact hm_up_o ne347 f327
  have ne349 : q34 ≠ q339 := hm_neN f328 hn_q339
  have f350 : M340 q34 = some (.inl (D.1 101, 16, .inl (fun _ => 0))) := by rw [eM340]; exact hm_up_o ne349 f328
  have ne351 : q51 ≠ q339 := hm_neN f329 hn_q339
  have f352 : M340 q51 = some (.inl (D.1 102, 120, .inl (fun _ => 0))) := by rw [eM340]; exact hm_up_o ne351 f329
  have ne353 : q71 ≠ q339 := hm_neN f330 hn_q339
  have f354 : M340 q71 = some (.inl (D.1 102, 120, .inl (fun _ => 0))) := by rw [eM340]; exact hm_up_o ne353 f330
  have ne355 : q94 ≠ q339 := hm_neN f331 hn_q339
  have f356 : M340 q94 = some (.inl (D.1 102, 120, .inl (fun _ => 0))) := by rw [eM340]; exact hm_up_o ne355 f331
  have ne357 : q120 ≠ q339 := hm_neN f332 hn_q339
  have f358 : M340 q120 = some (.inl (D.1 102, 5760, .inl (fun _ => 0))) := by rw [eM340]; exact hm_up_o ne357 f332
  have ne359 : q149 ≠ q339 := hm_neN f333 hn_q339
  have f360 : M340 q149 = some (.inl (D.1 102, 48, .inl (fun _ => 0))) := by rw [eM340]; exact hm_up_o ne359 f333
  have ne361 : q181 ≠ q339 := hm_neN f334 hn_q339
  have f362 : M340 q181 = some (.inl (D.1 103, 6, .inr (.inl (fun _ => 0)))) := by rw [eM340]; exact hm_up_o ne361 f334
  have ne363 : q216 ≠ q339 := hm_neN f335 hn_q339
  have f364 : M340 q216 = some (.inl (D.1 103, 6, .inr (.inl (fun _ => 0)))) := by rw [eM340]; exact hm_up_o ne363 f335
  have ne365 : q254 ≠ q339 := hm_neN f336 hn_q339
  have f366 : M340 q254 = some (.inl (D.1 101, 16, .inl (fun _ => 0))) := by rw [eM340]; exact hm_up_o ne365 f336
  have ne367 : q295 ≠ q339 := hm_neN f337 hn_q339
  have f368 : M340 q295 = some (.inl (D.1 101, 16, .inl (fun _ => 0))) := by rw [eM340]; exact hm_up_o ne367 f337
  have f369 : M340 q339 = some (.inl (D.1 101, 2601, .inl (fun _ => 0))) := by rw [eM340]; exact hm_up_s
  refine W.widen (k := 14) (n := 8909) (by omega) (by omega) ?_
  refine hm_putF (ci := 6) (v := .ref q339) (ty := .array .boolean) (C := rn_MO) (T := ft_MO) (N := 22) hx hb hts fi_MO fy_MO fo_MO fn_MO hown hE.K hP hS hA_x f342 rfl 19 (by decide) (hts _ tw_1005) (fun _ h9 => h9) rfl hin rfl (by decide +kernel) rfl rfl (Nat.le_of_ble_eq_true rfl) dd_MO_init_115 (fun H locs hP hS => ?_)
  have hP : hm_P D cl_W (hm_up M340 x (.inr (6, [.int (nI 0), .ref q1, .int (nI 0), .ref q9, .ref q20, .ref q34, .int (nI 0), .ref q51, .ref q71, .ref q94, .ref q120, .ref q149, .int (nI 0), .int (nI 0), .ref q181, .ref q216, .ref q254, .ref q295, .int (nI 0), .ref q339, .null, .null]))) H := hP
  obtain ⟨M370, eM370⟩ : ∃ z, z = hm_up M340 x (.inr (6, [.int (nI 0), .ref q1, .int (nI 0), .ref q9, .ref q20, .ref q34, .int (nI 0), .ref q51, .ref q71, .ref q94, .ref q120, .ref q149, .int (nI 0), .int (nI 0), .ref q181, .ref q216, .ref q254, .ref q295, .int (nI 0), .ref q339, .null, .null])) := ⟨_, rfl⟩
  rw [← eM370] at hP
  have f371 : M370 q1 = some (.inl (D.1 102, 48, .inl (fun _ => 0))) := by rw [eM370]; exact hm_up_o (Ne.symm ne3) f344
  have f372 : M370 q9 = some (.inl (D.1 102, 16, .inl (fun _ => 0))) := by rw [eM370]; exact hm_up_o (Ne.symm ne11) f346
  have f373 : M370 q20 = some (.inl (D.1 102, 16, .inl (fun _ => 0))) := by rw [eM370]; exact hm_up_o (Ne.symm ne22) f348
  have f374 : M370 q34 = some (.inl (D.1 101, 16, .inl (fun _ => 0))) := by rw [eM370]; exact hm_up_o (Ne.symm ne36) f350
  have f375 : M370 q51 = some (.inl (D.1 102, 120, .inl (fun _ => 0))) := by rw [eM370]; exact hm_up_o (Ne.symm ne53) f352
  have f376 : M370 q71 = some (.inl (D.1 102, 120, .inl (fun _ => 0))) := by rw [eM370]; exact hm_up_o (Ne.symm ne73) f354
  have f377 : M370 q94 = some (.inl (D.1 102, 120, .inl (fun _ => 0))) := by rw [eM370]; exact hm_up_o (Ne.symm ne96) f356
  have f378 : M370 q120 = some (.inl (D.1 102, 5760, .inl (fun _ => 0))) := by rw [eM370]; exact hm_up_o (Ne.symm ne122) f358
  have f379 : M370 q149 = some (.inl (D.1 102, 48, .inl (fun _ => 0))) := by rw [eM370]; exact hm_up_o (Ne.symm ne151) f360
  have f380 : M370 q181 = some (.inl (D.1 103, 6, .inr (.inl (fun _ => 0)))) := by rw [eM370]; exact hm_up_o (Ne.symm ne183) f362
  have f381 : M370 q216 = some (.inl (D.1 103, 6, .inr (.inl (fun _ => 0)))) := by rw [eM370]; exact hm_up_o (Ne.symm ne218) f364
  have f382 : M370 q254 = some (.inl (D.1 101, 16, .inl (fun _ => 0))) := by rw [eM370]; exact hm_up_o (Ne.symm ne256) f366
  have f383 : M370 q295 = some (.inl (D.1 101, 16, .inl (fun _ => 0))) := by rw [eM370]; exact hm_up_o (Ne.symm ne297) f368
  have f384 : M370 q339 = some (.inl (D.1 101, 2601, .inl (fun _ => 0))) := by rw [eM370]; exact hm_up_o (Ne.symm ne341) f369
  have f385 : M370 x = some (.inr (6, [.int (nI 0), .ref q1, .int (nI 0), .ref q9, .ref q20, .ref q34, .int (nI 0), .ref q51, .ref q71, .ref q94, .ref q120, .ref q149, .int (nI 0), .int (nI 0), .ref q181, .ref q216, .ref q254, .ref q295, .int (nI 0), .ref q339, .null, .null])) := by rw [eM370]; exact hm_up_s
  refine lv_aload_n hx hb dd_MO_init_118 rfl (lv_at hl 0 rfl) ?_
  refine lv_bipush (v := nI 52) hx hb dd_MO_init_119 (by decide +kernel) ?_
  refine hm_newa (atype := .int) (ty := .int) (N' := 52) (a0 := (52, .inl (fun _ => 0))) hx hb (hts _ tw_183) rfl hE.K hP hS 2 rfl (fun _ h9 => by cases h9) rfl (nI_pos (by omega)) (nI_clamp (by omega)) (by show _ * _ ≤ _; simp only [componentBytes]; omega) (by omega) (by omega) dd_MO_init_121 (fun q386 H hB_q386 hn_q386 hP hS => ?_)
  have hA_q386 : hm_A B q386 := Nat.le_trans hE.2.1 hB_q386
  obtain ⟨M387, eM387⟩ : ∃ z, z = hm_up M370 q386 (.inl (D.1 102, 52, .inl (fun _ => 0))) := ⟨_, rfl⟩
  rw [← eM387] at hP
  have ne388 : x ≠ q386 := hm_neN f385 hn_q386
  have f389 : M387 x = some (.inr (6, [.int (nI 0), .ref q1, .int (nI 0), .ref q9, .ref q20, .ref q34, .int (nI 0), .ref q51, .ref q71, .ref q94, .ref q120, .ref q149, .int (nI 0), .int (nI 0), .ref q181, .ref q216, .ref q254, .ref q295, .int (nI 0), .ref q339, .null, .null])) := by rw [eM387]; exact hm_up_o ne388 f385
  have ne390 : q1 ≠ q386 := hm_neN f371 hn_q386
  have f391 : M387 q1 = some (.inl (D.1 102, 48, .inl (fun _ => 0))) := by rw [eM387]; exact hm_up_o ne390 f371
  have ne392 : q9 ≠ q386 := hm_neN f372 hn_q386
  have f393 : M387 q9 = some (.inl (D.1 102, 16, .inl (fun _ => 0))) := by rw [eM387]; exact hm_up_o ne392 f372
  have ne394 : q20 ≠ q386 := hm_neN f373 hn_q386
  have f395 : M387 q20 = some (.inl (D.1 102, 16, .inl (fun _ => 0))) := by rw [eM387]; exact hm_up_o ne394 f373
  have ne396 : q34 ≠ q386 := hm_neN f374 hn_q386
  have f397 : M387 q34 = some (.inl (D.1 101, 16, .inl (fun _ => 0))) := by rw [eM387]; exact hm_up_o ne396 f374
  have ne398 : q51 ≠ q386 := hm_neN f375 hn_q386
  have f399 : M387 q51 = some (.inl (D.1 102, 120, .inl (fun _ => 0))) := by rw [eM387]; exact hm_up_o ne398 f375
  have ne400 : q71 ≠ q386 := hm_neN f376 hn_q386
  have f401 : M387 q71 = some (.inl (D.1 102, 120, .inl (fun _ => 0))) := by rw [eM387]; exact hm_up_o ne400 f376
  have ne402 : q94 ≠ q386 := hm_neN f377 hn_q386
  have f403 : M387 q94 = some (.inl (D.1 102, 120, .inl (fun _ => 0))) := by rw [eM387]; exact hm_up_o ne402 f377
  have ne404 : q120 ≠ q386 := hm_neN f378 hn_q386
  have f405 : M387 q120 = some (.inl (D.1 102, 5760, .inl (fun _ => 0))) := by rw [eM387]; exact hm_up_o ne404 f378
  have ne406 : q149 ≠ q386 := hm_neN f379 hn_q386
  have f407 : M387 q149 = some (.inl (D.1 102, 48, .inl (fun _ => 0))) := by rw [eM387]; exact hm_up_o ne406 f379
  have ne408 : q181 ≠ q386 := hm_neN f380 hn_q386
  have f409 : M387 q181 = some (.inl (D.1 103, 6, .inr (.inl (fun _ => 0)))) := by rw [eM387]; exact hm_up_o ne408 f380
  have ne410 : q216 ≠ q386 := hm_neN f381 hn_q386
  have f411 : M387 q216 = some (.inl (D.1 103, 6, .inr (.inl (fun _ => 0)))) := by rw [eM387]; exact hm_up_o ne410 f381
  have ne412 : q254 ≠ q386 := hm_neN f382 hn_q386
  have f413 : M387 q254 = some (.inl (D.1 101, 16, .inl (fun _ => 0))) := by rw [eM387]; exact hm_up_o ne412 f382
  have ne414 : q295 ≠ q386 := hm_neN f383 hn_q386
  have f415 : M387 q295 = some (.inl (D.1 101, 16, .inl (fun _ => 0))) := by rw [eM387]; exact hm_up_o ne414 f383
  have ne416 : q339 ≠ q386 := hm_neN f384 hn_q386
  have f417 : M387 q339 = some (.inl (D.1 101, 2601, .inl (fun _ => 0))) := by rw [eM387]; exact hm_up_o ne416 f384
  have f418 : M387 q386 = some (.inl (D.1 102, 52, .inl (fun _ => 0))) := by rw [eM387]; exact hm_up_s
  refine W.widen (k := 15) (n := 8961) (by omega) (by omega) ?_
  refine hm_putF (ci := 6) (v := .ref q386) (ty := .array .int) (C := rn_MO) (T := ft_MO) (N := 22) hx hb hts fi_MO fy_MO fo_MO fn_MO hown hE.K hP hS hA_x f389 rfl 20 (by decide) (hts _ tw_1006) (fun _ h9 => h9) rfl hin rfl (by decide +kernel) rfl rfl (Nat.le_of_ble_eq_true rfl) dd_MO_init_123 (fun H locs hP hS => ?_)
  have hP : hm_P D cl_W (hm_up M387 x (.inr (6, [.int (nI 0), .ref q1, .int (nI 0), .ref q9, .ref q20, .ref q34, .int (nI 0), .ref q51, .ref q71, .ref q94, .ref q120, .ref q149, .int (nI 0), .int (nI 0), .ref q181, .ref q216, .ref q254, .ref q295, .int (nI 0), .ref q339, .ref q386, .null]))) H := hP
  obtain ⟨M419, eM419⟩ : ∃ z, z = hm_up M387 x (.inr (6, [.int (nI 0), .ref q1, .int (nI 0), .ref q9, .ref q20, .ref q34, .int (nI 0), .ref q51, .ref q71, .ref q94, .ref q120, .ref q149, .int (nI 0), .int (nI 0), .ref q181, .ref q216, .ref q254, .ref q295, .int (nI 0), .ref q339, .ref q386, .null])) := ⟨_, rfl⟩
  rw [← eM419] at hP
  have f420 : M419 q1 = some (.inl (D.1 102, 48, .inl (fun _ => 0))) := by rw [eM419]; exact hm_up_o (Ne.symm ne3) f391
  have f421 : M419 q9 = some (.inl (D.1 102, 16, .inl (fun _ => 0))) := by rw [eM419]; exact hm_up_o (Ne.symm ne11) f393
  have f422 : M419 q20 = some (.inl (D.1 102, 16, .inl (fun _ => 0))) := by rw [eM419]; exact hm_up_o (Ne.symm ne22) f395
  have f423 : M419 q34 = some (.inl (D.1 101, 16, .inl (fun _ => 0))) := by rw [eM419]; exact hm_up_o (Ne.symm ne36) f397
  have f424 : M419 q51 = some (.inl (D.1 102, 120, .inl (fun _ => 0))) := by rw [eM419]; exact hm_up_o (Ne.symm ne53) f399
  have f425 : M419 q71 = some (.inl (D.1 102, 120, .inl (fun _ => 0))) := by rw [eM419]; exact hm_up_o (Ne.symm ne73) f401
  have f426 : M419 q94 = some (.inl (D.1 102, 120, .inl (fun _ => 0))) := by rw [eM419]; exact hm_up_o (Ne.symm ne96) f403
  have f427 : M419 q120 = some (.inl (D.1 102, 5760, .inl (fun _ => 0))) := by rw [eM419]; exact hm_up_o (Ne.symm ne122) f405
  have f428 : M419 q149 = some (.inl (D.1 102, 48, .inl (fun _ => 0))) := by rw [eM419]; exact hm_up_o (Ne.symm ne151) f407
  have f429 : M419 q181 = some (.inl (D.1 103, 6, .inr (.inl (fun _ => 0)))) := by rw [eM419]; exact hm_up_o (Ne.symm ne183) f409
  have f430 : M419 q216 = some (.inl (D.1 103, 6, .inr (.inl (fun _ => 0)))) := by rw [eM419]; exact hm_up_o (Ne.symm ne218) f411
  have f431 : M419 q254 = some (.inl (D.1 101, 16, .inl (fun _ => 0))) := by rw [eM419]; exact hm_up_o (Ne.symm ne256) f413
  have f432 : M419 q295 = some (.inl (D.1 101, 16, .inl (fun _ => 0))) := by rw [eM419]; exact hm_up_o (Ne.symm ne297) f415
  have f433 : M419 q339 = some (.inl (D.1 101, 2601, .inl (fun _ => 0))) := by rw [eM419]; exact hm_up_o (Ne.symm ne341) f417
  have f434 : M419 q386 = some (.inl (D.1 102, 52, .inl (fun _ => 0))) := by rw [eM419]; exact hm_up_o (Ne.symm ne388) f418
  have f435 : M419 x = some (.inr (6, [.int (nI 0), .ref q1, .int (nI 0), .ref q9, .ref q20, .ref q34, .int (nI 0), .ref q51, .ref q71, .ref q94, .ref q120, .ref q149, .int (nI 0), .int (nI 0), .ref q181, .ref q216, .ref q254, .ref q295, .int (nI 0), .ref q339, .ref q386, .null])) := by rw [eM419]; exact hm_up_s
  refine lv_aload_n hx hb dd_MO_init_126 rfl (lv_at hl 0 rfl) ?_
  refine lv_bipush (v := nI 52) hx hb dd_MO_init_127 (by decide +kernel) ?_
  refine hm_newa (atype := .int) (ty := .int) (N' := 52) (a0 := (52, .inl (fun _ => 0))) hx hb (hts _ tw_183) rfl hE.K hP hS 2 rfl (fun _ h9 => by cases h9) rfl (nI_pos (by omega)) (nI_clamp (by omega)) (by show _ * _ ≤ _; simp only [componentBytes]; omega) (by omega) (by omega) dd_MO_init_129 (fun q436 H hB_q436 hn_q436 hP hS => ?_)
  have hA_q436 : hm_A B q436 := Nat.le_trans hE.2.1 hB_q436
  obtain ⟨M437, eM437⟩ : ∃ z, z = hm_up M419 q436 (.inl (D.1 102, 52, .inl (fun _ => 0))) := ⟨_, rfl⟩
  rw [← eM437] at hP
  have ne438 : x ≠ q436 := hm_neN f435 hn_q436
  have f439 : M437 x = some (.inr (6, [.int (nI 0), .ref q1, .int (nI 0), .ref q9, .ref q20, .ref q34, .int (nI 0), .ref q51, .ref q71, .ref q94, .ref q120, .ref q149, .int (nI 0), .int (nI 0), .ref q181, .ref q216, .ref q254, .ref q295, .int (nI 0), .ref q339, .ref q386, .null])) := by rw [eM437]; exact hm_up_o ne438 f435
  have ne440 : q1 ≠ q436 := hm_neN f420 hn_q436
  have f441 : M437 q1 = some (.inl (D.1 102, 48, .inl (fun _ => 0))) := by rw [eM437]; exact hm_up_o ne440 f420
  have ne442 : q9 ≠ q436 := hm_neN f421 hn_q436
  have f443 : M437 q9 = some (.inl (D.1 102, 16, .inl (fun _ => 0))) := by rw [eM437]; exact hm_up_o ne442 f421
  have ne444 : q20 ≠ q436 := hm_neN f422 hn_q436
  have f445 : M437 q20 = some (.inl (D.1 102, 16, .inl (fun _ => 0))) := by rw [eM437]; exact hm_up_o ne444 f422
  have ne446 : q34 ≠ q436 := hm_neN f423 hn_q436
  have f447 : M437 q34 = some (.inl (D.1 101, 16, .inl (fun _ => 0))) := by rw [eM437]; exact hm_up_o ne446 f423
  have ne448 : q51 ≠ q436 := hm_neN f424 hn_q436
  have f449 : M437 q51 = some (.inl (D.1 102, 120, .inl (fun _ => 0))) := by rw [eM437]; exact hm_up_o ne448 f424
  have ne450 : q71 ≠ q436 := hm_neN f425 hn_q436
  have f451 : M437 q71 = some (.inl (D.1 102, 120, .inl (fun _ => 0))) := by rw [eM437]; exact hm_up_o ne450 f425
  have ne452 : q94 ≠ q436 := hm_neN f426 hn_q436
  have f453 : M437 q94 = some (.inl (D.1 102, 120, .inl (fun _ => 0))) := by rw [eM437]; exact hm_up_o ne452 f426
  have ne454 : q120 ≠ q436 := hm_neN f427 hn_q436
  have f455 : M437 q120 = some (.inl (D.1 102, 5760, .inl (fun _ => 0))) := by rw [eM437]; exact hm_up_o ne454 f427
  have ne456 : q149 ≠ q436 := hm_neN f428 hn_q436
  have f457 : M437 q149 = some (.inl (D.1 102, 48, .inl (fun _ => 0))) := by rw [eM437]; exact hm_up_o ne456 f428
  have ne458 : q181 ≠ q436 := hm_neN f429 hn_q436
  have f459 : M437 q181 = some (.inl (D.1 103, 6, .inr (.inl (fun _ => 0)))) := by rw [eM437]; exact hm_up_o ne458 f429
  have ne460 : q216 ≠ q436 := hm_neN f430 hn_q436
  have f461 : M437 q216 = some (.inl (D.1 103, 6, .inr (.inl (fun _ => 0)))) := by rw [eM437]; exact hm_up_o ne460 f430
  have ne462 : q254 ≠ q436 := hm_neN f431 hn_q436
  have f463 : M437 q254 = some (.inl (D.1 101, 16, .inl (fun _ => 0))) := by rw [eM437]; exact hm_up_o ne462 f431
  have ne464 : q295 ≠ q436 := hm_neN f432 hn_q436
  have f465 : M437 q295 = some (.inl (D.1 101, 16, .inl (fun _ => 0))) := by rw [eM437]; exact hm_up_o ne464 f432
  have ne466 : q339 ≠ q436 := hm_neN f433 hn_q436
  have f467 : M437 q339 = some (.inl (D.1 101, 2601, .inl (fun _ => 0))) := by rw [eM437]; exact hm_up_o ne466 f433
  have ne468 : q386 ≠ q436 := hm_neN f434 hn_q436
  have f469 : M437 q386 = some (.inl (D.1 102, 52, .inl (fun _ => 0))) := by rw [eM437]; exact hm_up_o ne468 f434
  have f470 : M437 q436 = some (.inl (D.1 102, 52, .inl (fun _ => 0))) := by rw [eM437]; exact hm_up_s
  refine W.widen (k := 16) (n := 9013) (by omega) (by omega) ?_
  refine hm_putF (ci := 6) (v := .ref q436) (ty := .array .int) (C := rn_MO) (T := ft_MO) (N := 22) hx hb hts fi_MO fy_MO fo_MO fn_MO hown hE.K hP hS hA_x f439 rfl 21 (by decide) (hts _ tw_1007) (fun _ h9 => h9) rfl hin rfl (by decide +kernel) rfl rfl (Nat.le_of_ble_eq_true rfl) dd_MO_init_131 (fun H locs hP hS => ?_)
  have hP : hm_P D cl_W (hm_up M437 x (.inr (6, [.int (nI 0), .ref q1, .int (nI 0), .ref q9, .ref q20, .ref q34, .int (nI 0), .ref q51, .ref q71, .ref q94, .ref q120, .ref q149, .int (nI 0), .int (nI 0), .ref q181, .ref q216, .ref q254, .ref q295, .int (nI 0), .ref q339, .ref q386, .ref q436]))) H := hP
  obtain ⟨M471, eM471⟩ : ∃ z, z = hm_up M437 x (.inr (6, [.int (nI 0), .ref q1, .int (nI 0), .ref q9, .ref q20, .ref q34, .int (nI 0), .ref q51, .ref q71, .ref q94, .ref q120, .ref q149, .int (nI 0), .int (nI 0), .ref q181, .ref q216, .ref q254, .ref q295, .int (nI 0), .ref q339, .ref q386, .ref q436])) := ⟨_, rfl⟩
  rw [← eM471] at hP
  have f472 : M471 q1 = some (.inl (D.1 102, 48, .inl (fun _ => 0))) := by rw [eM471]; exact hm_up_o (Ne.symm ne3) f441
  have f473 : M471 q9 = some (.inl (D.1 102, 16, .inl (fun _ => 0))) := by rw [eM471]; exact hm_up_o (Ne.symm ne11) f443
  have f474 : M471 q20 = some (.inl (D.1 102, 16, .inl (fun _ => 0))) := by rw [eM471]; exact hm_up_o (Ne.symm ne22) f445
  have f475 : M471 q34 = some (.inl (D.1 101, 16, .inl (fun _ => 0))) := by rw [eM471]; exact hm_up_o (Ne.symm ne36) f447
  have f476 : M471 q51 = some (.inl (D.1 102, 120, .inl (fun _ => 0))) := by rw [eM471]; exact hm_up_o (Ne.symm ne53) f449
  have f477 : M471 q71 = some (.inl (D.1 102, 120, .inl (fun _ => 0))) := by rw [eM471]; exact hm_up_o (Ne.symm ne73) f451
  have f478 : M471 q94 = some (.inl (D.1 102, 120, .inl (fun _ => 0))) := by rw [eM471]; exact hm_up_o (Ne.symm ne96) f453
  have f479 : M471 q120 = some (.inl (D.1 102, 5760, .inl (fun _ => 0))) := by rw [eM471]; exact hm_up_o (Ne.symm ne122) f455
  have f480 : M471 q149 = some (.inl (D.1 102, 48, .inl (fun _ => 0))) := by rw [eM471]; exact hm_up_o (Ne.symm ne151) f457
  have f481 : M471 q181 = some (.inl (D.1 103, 6, .inr (.inl (fun _ => 0)))) := by rw [eM471]; exact hm_up_o (Ne.symm ne183) f459
  have f482 : M471 q216 = some (.inl (D.1 103, 6, .inr (.inl (fun _ => 0)))) := by rw [eM471]; exact hm_up_o (Ne.symm ne218) f461
  have f483 : M471 q254 = some (.inl (D.1 101, 16, .inl (fun _ => 0))) := by rw [eM471]; exact hm_up_o (Ne.symm ne256) f463
  have f484 : M471 q295 = some (.inl (D.1 101, 16, .inl (fun _ => 0))) := by rw [eM471]; exact hm_up_o (Ne.symm ne297) f465
  have f485 : M471 q339 = some (.inl (D.1 101, 2601, .inl (fun _ => 0))) := by rw [eM471]; exact hm_up_o (Ne.symm ne341) f467
  have f486 : M471 q386 = some (.inl (D.1 102, 52, .inl (fun _ => 0))) := by rw [eM471]; exact hm_up_o (Ne.symm ne388) f469
  have f487 : M471 q436 = some (.inl (D.1 102, 52, .inl (fun _ => 0))) := by rw [eM471]; exact hm_up_o (Ne.symm ne438) f470
  have f488 : M471 x = some (.inr (6, [.int (nI 0), .ref q1, .int (nI 0), .ref q9, .ref q20, .ref q34, .int (nI 0), .ref q51, .ref q71, .ref q94, .ref q120, .ref q149, .int (nI 0), .int (nI 0), .ref q181, .ref q216, .ref q254, .ref q295, .int (nI 0), .ref q339, .ref q386, .ref q436])) := by rw [eM471]; exact hm_up_s
  have kk489 : hm_k M M [x] := hm_krf
  have ko491 := hm_kn0 kk489 hn_q1
  have kk490 : hm_k M M2 [x] := hm_kn kk489 hn_q1 eM2
  have kk492 : hm_k M M6 [x] := hm_ku kk490 (Or.inr (by simp)) eM6
  have ko494 := hm_kn0 kk492 hn_q9
  have kk493 : hm_k M M10 [x] := hm_kn kk492 hn_q9 eM10
  have kk495 : hm_k M M16 [x] := hm_ku kk493 (Or.inr (by simp)) eM16
  have ko497 := hm_kn0 kk495 hn_q20
  have kk496 : hm_k M M21 [x] := hm_kn kk495 hn_q20 eM21
  have kk498 : hm_k M M29 [x] := hm_ku kk496 (Or.inr (by simp)) eM29
  have ko500 := hm_kn0 kk498 hn_q34
  have kk499 : hm_k M M35 [x] := hm_kn kk498 hn_q34 eM35
  have kk501 : hm_k M M45 [x] := hm_ku kk499 (Or.inr (by simp)) eM45
  have ko503 := hm_kn0 kk501 hn_q51
  have kk502 : hm_k M M52 [x] := hm_kn kk501 hn_q51 eM52
  have kk504 : hm_k M M64 [x] := hm_ku kk502 (Or.inr (by simp)) eM64
  have ko506 := hm_kn0 kk504 hn_q71
  have kk505 : hm_k M M72 [x] := hm_kn kk504 hn_q71 eM72
  have kk507 : hm_k M M86 [x] := hm_ku kk505 (Or.inr (by simp)) eM86
  have ko509 := hm_kn0 kk507 hn_q94
  have kk508 : hm_k M M95 [x] := hm_kn kk507 hn_q94 eM95
  have kk510 : hm_k M M111 [x] := hm_ku kk508 (Or.inr (by simp)) eM111
  have ko512 := hm_kn0 kk510 hn_q120
  have kk511 : hm_k M M121 [x] := hm_kn kk510 hn_q120 eM121
  have kk513 : hm_k M M139 [x] := hm_ku kk511 (Or.inr (by simp)) eM139
  have ko515 := hm_kn0 kk513 hn_q149
  have kk514 : hm_k M M150 [x] := hm_kn kk513 hn_q149 eM150
  have kk516 : hm_k M M170 [x] := hm_ku kk514 (Or.inr (by simp)) eM170
  have ko518 := hm_kn0 kk516 hn_q181
  have kk517 : hm_k M M182 [x] := hm_kn kk516 hn_q181 eM182
  have kk519 : hm_k M M204 [x] := hm_ku kk517 (Or.inr (by simp)) eM204
  have ko521 := hm_kn0 kk519 hn_q216
  have kk520 : hm_k M M217 [x] := hm_kn kk519 hn_q216 eM217
  have kk522 : hm_k M M241 [x] := hm_ku kk520 (Or.inr (by simp)) eM241
  have ko524 := hm_kn0 kk522 hn_q254
  have kk523 : hm_k M M255 [x] := hm_kn kk522 hn_q254 eM255
  have kk525 : hm_k M M281 [x] := hm_ku kk523 (Or.inr (by simp)) eM281
  have ko527 := hm_kn0 kk525 hn_q295
  have kk526 : hm_k M M296 [x] := hm_kn kk525 hn_q295 eM296
  have kk528 : hm_k M M324 [x] := hm_ku kk526 (Or.inr (by simp)) eM324
  have ko530 := hm_kn0 kk528 hn_q339
  have kk529 : hm_k M M340 [x] := hm_kn kk528 hn_q339 eM340
  have kk531 : hm_k M M370 [x] := hm_ku kk529 (Or.inr (by simp)) eM370
  have ko533 := hm_kn0 kk531 hn_q386
  have kk532 : hm_k M M387 [x] := hm_kn kk531 hn_q386 eM387
  have kk534 : hm_k M M419 [x] := hm_ku kk532 (Or.inr (by simp)) eM419
  have ko536 := hm_kn0 kk534 hn_q436
  have kk535 : hm_k M M437 [x] := hm_kn kk534 hn_q436 eM437
  have kk537 : hm_k M M471 [x] := hm_ku kk535 (Or.inr (by simp)) eM471
  obtain ⟨P, hP9⟩ : ∃ P : Nat → Nat, P = fun i => [x, q1, 0, q9, q20, q34, 0, q51, q71, q94, q120, q149, 0, 0, q181, q216, q254, q295, 0, q339, q386, q436].getD i 0 := ⟨_, rfl⟩
  have hpk0 : P 0 = x := by rw [hP9]; rfl
  have hpk1 : P 1 = q1 := by rw [hP9]; rfl
  have hpk3 : P 3 = q9 := by rw [hP9]; rfl
  have hpk4 : P 4 = q20 := by rw [hP9]; rfl
  have hpk5 : P 5 = q34 := by rw [hP9]; rfl
  have hpk7 : P 7 = q51 := by rw [hP9]; rfl
  have hpk8 : P 8 = q71 := by rw [hP9]; rfl
  have hpk9 : P 9 = q94 := by rw [hP9]; rfl
  have hpk10 : P 10 = q120 := by rw [hP9]; rfl
  have hpk11 : P 11 = q149 := by rw [hP9]; rfl
  have hpk14 : P 14 = q181 := by rw [hP9]; rfl
  have hpk15 : P 15 = q216 := by rw [hP9]; rfl
  have hpk16 : P 16 = q254 := by rw [hP9]; rfl
  have hpk17 : P 17 = q295 := by rw [hP9]; rfl
  have hpk19 : P 19 = q339 := by rw [hP9]; rfl
  have hpk20 : P 20 = q386 := by rw [hP9]; rfl
  have hpk21 : P 21 = q436 := by rw [hP9]; rfl
  have dn0_1 : P 0 ≠ P 1 := by rw [hpk0, hpk1]; exact ne3
  have dn0_3 : P 0 ≠ P 3 := by rw [hpk0, hpk3]; exact ne11
  have dn0_4 : P 0 ≠ P 4 := by rw [hpk0, hpk4]; exact ne22
  have dn0_5 : P 0 ≠ P 5 := by rw [hpk0, hpk5]; exact ne36
  have dn0_7 : P 0 ≠ P 7 := by rw [hpk0, hpk7]; exact ne53
  have dn0_8 : P 0 ≠ P 8 := by rw [hpk0, hpk8]; exact ne73
  have dn0_9 : P 0 ≠ P 9 := by rw [hpk0, hpk9]; exact ne96
  have dn0_10 : P 0 ≠ P 10 := by rw [hpk0, hpk10]; exact ne122
  have dn0_11 : P 0 ≠ P 11 := by rw [hpk0, hpk11]; exact ne151
  have dn0_14 : P 0 ≠ P 14 := by rw [hpk0, hpk14]; exact ne183
  have dn0_15 : P 0 ≠ P 15 := by rw [hpk0, hpk15]; exact ne218
  have dn0_16 : P 0 ≠ P 16 := by rw [hpk0, hpk16]; exact ne256
  have dn0_17 : P 0 ≠ P 17 := by rw [hpk0, hpk17]; exact ne297
  have dn0_19 : P 0 ≠ P 19 := by rw [hpk0, hpk19]; exact ne341
  have dn0_20 : P 0 ≠ P 20 := by rw [hpk0, hpk20]; exact ne388
  have dn0_21 : P 0 ≠ P 21 := by rw [hpk0, hpk21]; exact ne438
  have dn1_3 : P 1 ≠ P 3 := by rw [hpk1, hpk3]; exact ne13
  have dn1_4 : P 1 ≠ P 4 := by rw [hpk1, hpk4]; exact ne24
  have dn1_5 : P 1 ≠ P 5 := by rw [hpk1, hpk5]; exact ne38
  have dn1_7 : P 1 ≠ P 7 := by rw [hpk1, hpk7]; exact ne55
  have dn1_8 : P 1 ≠ P 8 := by rw [hpk1, hpk8]; exact ne75
  have dn1_9 : P 1 ≠ P 9 := by rw [hpk1, hpk9]; exact ne98
  have dn1_10 : P 1 ≠ P 10 := by rw [hpk1, hpk10]; exact ne124
  have dn1_11 : P 1 ≠ P 11 := by rw [hpk1, hpk11]; exact ne153
  have dn1_14 : P 1 ≠ P 14 := by rw [hpk1, hpk14]; exact ne185
  have dn1_15 : P 1 ≠ P 15 := by rw [hpk1, hpk15]; exact ne220
  have dn1_16 : P 1 ≠ P 16 := by rw [hpk1, hpk16]; exact ne258
  have dn1_17 : P 1 ≠ P 17 := by rw [hpk1, hpk17]; exact ne299
  have dn1_19 : P 1 ≠ P 19 := by rw [hpk1, hpk19]; exact ne343
  have dn1_20 : P 1 ≠ P 20 := by rw [hpk1, hpk20]; exact ne390
  have dn1_21 : P 1 ≠ P 21 := by rw [hpk1, hpk21]; exact ne440
  have dn3_4 : P 3 ≠ P 4 := by rw [hpk3, hpk4]; exact ne26
  have dn3_5 : P 3 ≠ P 5 := by rw [hpk3, hpk5]; exact ne40
  have dn3_7 : P 3 ≠ P 7 := by rw [hpk3, hpk7]; exact ne57
  have dn3_8 : P 3 ≠ P 8 := by rw [hpk3, hpk8]; exact ne77
  have dn3_9 : P 3 ≠ P 9 := by rw [hpk3, hpk9]; exact ne100
  have dn3_10 : P 3 ≠ P 10 := by rw [hpk3, hpk10]; exact ne126
  have dn3_11 : P 3 ≠ P 11 := by rw [hpk3, hpk11]; exact ne155
  have dn3_14 : P 3 ≠ P 14 := by rw [hpk3, hpk14]; exact ne187
  have dn3_15 : P 3 ≠ P 15 := by rw [hpk3, hpk15]; exact ne222
  have dn3_16 : P 3 ≠ P 16 := by rw [hpk3, hpk16]; exact ne260
  have dn3_17 : P 3 ≠ P 17 := by rw [hpk3, hpk17]; exact ne301
  have dn3_19 : P 3 ≠ P 19 := by rw [hpk3, hpk19]; exact ne345
  have dn3_20 : P 3 ≠ P 20 := by rw [hpk3, hpk20]; exact ne392
  have dn3_21 : P 3 ≠ P 21 := by rw [hpk3, hpk21]; exact ne442
  have dn4_5 : P 4 ≠ P 5 := by rw [hpk4, hpk5]; exact ne42
  have dn4_7 : P 4 ≠ P 7 := by rw [hpk4, hpk7]; exact ne59
  have dn4_8 : P 4 ≠ P 8 := by rw [hpk4, hpk8]; exact ne79
  have dn4_9 : P 4 ≠ P 9 := by rw [hpk4, hpk9]; exact ne102
  have dn4_10 : P 4 ≠ P 10 := by rw [hpk4, hpk10]; exact ne128
  have dn4_11 : P 4 ≠ P 11 := by rw [hpk4, hpk11]; exact ne157
  have dn4_14 : P 4 ≠ P 14 := by rw [hpk4, hpk14]; exact ne189
  have dn4_15 : P 4 ≠ P 15 := by rw [hpk4, hpk15]; exact ne224
  have dn4_16 : P 4 ≠ P 16 := by rw [hpk4, hpk16]; exact ne262
  have dn4_17 : P 4 ≠ P 17 := by rw [hpk4, hpk17]; exact ne303
  have dn4_19 : P 4 ≠ P 19 := by rw [hpk4, hpk19]; exact ne347
  have dn4_20 : P 4 ≠ P 20 := by rw [hpk4, hpk20]; exact ne394
  have dn4_21 : P 4 ≠ P 21 := by rw [hpk4, hpk21]; exact ne444
  have dn5_7 : P 5 ≠ P 7 := by rw [hpk5, hpk7]; exact ne61
  have dn5_8 : P 5 ≠ P 8 := by rw [hpk5, hpk8]; exact ne81
  have dn5_9 : P 5 ≠ P 9 := by rw [hpk5, hpk9]; exact ne104
  have dn5_10 : P 5 ≠ P 10 := by rw [hpk5, hpk10]; exact ne130
  have dn5_11 : P 5 ≠ P 11 := by rw [hpk5, hpk11]; exact ne159
  have dn5_14 : P 5 ≠ P 14 := by rw [hpk5, hpk14]; exact ne191
  have dn5_15 : P 5 ≠ P 15 := by rw [hpk5, hpk15]; exact ne226
  have dn5_16 : P 5 ≠ P 16 := by rw [hpk5, hpk16]; exact ne264
  have dn5_17 : P 5 ≠ P 17 := by rw [hpk5, hpk17]; exact ne305
  have dn5_19 : P 5 ≠ P 19 := by rw [hpk5, hpk19]; exact ne349
  have dn5_20 : P 5 ≠ P 20 := by rw [hpk5, hpk20]; exact ne396
  have dn5_21 : P 5 ≠ P 21 := by rw [hpk5, hpk21]; exact ne446
  have dn7_8 : P 7 ≠ P 8 := by rw [hpk7, hpk8]; exact ne83
  have dn7_9 : P 7 ≠ P 9 := by rw [hpk7, hpk9]; exact ne106
  have dn7_10 : P 7 ≠ P 10 := by rw [hpk7, hpk10]; exact ne132
  have dn7_11 : P 7 ≠ P 11 := by rw [hpk7, hpk11]; exact ne161
  have dn7_14 : P 7 ≠ P 14 := by rw [hpk7, hpk14]; exact ne193
  have dn7_15 : P 7 ≠ P 15 := by rw [hpk7, hpk15]; exact ne228
  have dn7_16 : P 7 ≠ P 16 := by rw [hpk7, hpk16]; exact ne266
  have dn7_17 : P 7 ≠ P 17 := by rw [hpk7, hpk17]; exact ne307
  have dn7_19 : P 7 ≠ P 19 := by rw [hpk7, hpk19]; exact ne351
  have dn7_20 : P 7 ≠ P 20 := by rw [hpk7, hpk20]; exact ne398
  have dn7_21 : P 7 ≠ P 21 := by rw [hpk7, hpk21]; exact ne448
  have dn8_9 : P 8 ≠ P 9 := by rw [hpk8, hpk9]; exact ne108
  have dn8_10 : P 8 ≠ P 10 := by rw [hpk8, hpk10]; exact ne134
  have dn8_11 : P 8 ≠ P 11 := by rw [hpk8, hpk11]; exact ne163
  have dn8_14 : P 8 ≠ P 14 := by rw [hpk8, hpk14]; exact ne195
  have dn8_15 : P 8 ≠ P 15 := by rw [hpk8, hpk15]; exact ne230
  have dn8_16 : P 8 ≠ P 16 := by rw [hpk8, hpk16]; exact ne268
  have dn8_17 : P 8 ≠ P 17 := by rw [hpk8, hpk17]; exact ne309
  have dn8_19 : P 8 ≠ P 19 := by rw [hpk8, hpk19]; exact ne353
  have dn8_20 : P 8 ≠ P 20 := by rw [hpk8, hpk20]; exact ne400
  have dn8_21 : P 8 ≠ P 21 := by rw [hpk8, hpk21]; exact ne450
  have dn9_10 : P 9 ≠ P 10 := by rw [hpk9, hpk10]; exact ne136
  have dn9_11 : P 9 ≠ P 11 := by rw [hpk9, hpk11]; exact ne165
  have dn9_14 : P 9 ≠ P 14 := by rw [hpk9, hpk14]; exact ne197
  have dn9_15 : P 9 ≠ P 15 := by rw [hpk9, hpk15]; exact ne232
  have dn9_16 : P 9 ≠ P 16 := by rw [hpk9, hpk16]; exact ne270
  have dn9_17 : P 9 ≠ P 17 := by rw [hpk9, hpk17]; exact ne311
  have dn9_19 : P 9 ≠ P 19 := by rw [hpk9, hpk19]; exact ne355
  have dn9_20 : P 9 ≠ P 20 := by rw [hpk9, hpk20]; exact ne402
  have dn9_21 : P 9 ≠ P 21 := by rw [hpk9, hpk21]; exact ne452
  have dn10_11 : P 10 ≠ P 11 := by rw [hpk10, hpk11]; exact ne167
  have dn10_14 : P 10 ≠ P 14 := by rw [hpk10, hpk14]; exact ne199
  have dn10_15 : P 10 ≠ P 15 := by rw [hpk10, hpk15]; exact ne234
  have dn10_16 : P 10 ≠ P 16 := by rw [hpk10, hpk16]; exact ne272
  have dn10_17 : P 10 ≠ P 17 := by rw [hpk10, hpk17]; exact ne313
  have dn10_19 : P 10 ≠ P 19 := by rw [hpk10, hpk19]; exact ne357
  have dn10_20 : P 10 ≠ P 20 := by rw [hpk10, hpk20]; exact ne404
  have dn10_21 : P 10 ≠ P 21 := by rw [hpk10, hpk21]; exact ne454
  have dn11_14 : P 11 ≠ P 14 := by rw [hpk11, hpk14]; exact ne201
  have dn11_15 : P 11 ≠ P 15 := by rw [hpk11, hpk15]; exact ne236
  have dn11_16 : P 11 ≠ P 16 := by rw [hpk11, hpk16]; exact ne274
  have dn11_17 : P 11 ≠ P 17 := by rw [hpk11, hpk17]; exact ne315
  have dn11_19 : P 11 ≠ P 19 := by rw [hpk11, hpk19]; exact ne359
  have dn11_20 : P 11 ≠ P 20 := by rw [hpk11, hpk20]; exact ne406
  have dn11_21 : P 11 ≠ P 21 := by rw [hpk11, hpk21]; exact ne456
  have dn14_15 : P 14 ≠ P 15 := by rw [hpk14, hpk15]; exact ne238
  have dn14_16 : P 14 ≠ P 16 := by rw [hpk14, hpk16]; exact ne276
  have dn14_17 : P 14 ≠ P 17 := by rw [hpk14, hpk17]; exact ne317
  have dn14_19 : P 14 ≠ P 19 := by rw [hpk14, hpk19]; exact ne361
  have dn14_20 : P 14 ≠ P 20 := by rw [hpk14, hpk20]; exact ne408
  have dn14_21 : P 14 ≠ P 21 := by rw [hpk14, hpk21]; exact ne458
  have dn15_16 : P 15 ≠ P 16 := by rw [hpk15, hpk16]; exact ne278
  have dn15_17 : P 15 ≠ P 17 := by rw [hpk15, hpk17]; exact ne319
  have dn15_19 : P 15 ≠ P 19 := by rw [hpk15, hpk19]; exact ne363
  have dn15_20 : P 15 ≠ P 20 := by rw [hpk15, hpk20]; exact ne410
  have dn15_21 : P 15 ≠ P 21 := by rw [hpk15, hpk21]; exact ne460
  have dn16_17 : P 16 ≠ P 17 := by rw [hpk16, hpk17]; exact ne321
  have dn16_19 : P 16 ≠ P 19 := by rw [hpk16, hpk19]; exact ne365
  have dn16_20 : P 16 ≠ P 20 := by rw [hpk16, hpk20]; exact ne412
  have dn16_21 : P 16 ≠ P 21 := by rw [hpk16, hpk21]; exact ne462
  have dn17_19 : P 17 ≠ P 19 := by rw [hpk17, hpk19]; exact ne367
  have dn17_20 : P 17 ≠ P 20 := by rw [hpk17, hpk20]; exact ne414
  have dn17_21 : P 17 ≠ P 21 := by rw [hpk17, hpk21]; exact ne464
  have dn19_20 : P 19 ≠ P 20 := by rw [hpk19, hpk20]; exact ne416
  have dn19_21 : P 19 ≠ P 21 := by rw [hpk19, hpk21]; exact ne466
  have dn20_21 : P 20 ≠ P 21 := by rw [hpk20, hpk21]; exact ne468
  obtain ⟨O, hO9⟩ : ∃ O : Nat → Nat, O = fun q => if q = P 0 then 700 else if q = P 1 then 701 else if q = P 3 then 703 else if q = P 4 then 704 else if q = P 5 then 705 else if q = P 7 then 707 else if q = P 8 then 708 else if q = P 9 then 709 else if q = P 10 then 710 else if q = P 11 then 711 else if q = P 14 then 714 else if q = P 15 then 715 else if q = P 16 then 716 else if q = P 17 then 717 else if q = P 19 then 719 else if q = P 20 then 720 else if q = P 21 then 721 else 0 := ⟨_, rfl⟩
  have ho0 : O (P 0) = 700 + 0 := by
    rw [hO9]
    show (if P 0 = P 0 then 700 else if P 0 = P 1 then 701 else if P 0 = P 3 then 703 else if P 0 = P 4 then 704 else if P 0 = P 5 then 705 else if P 0 = P 7 then 707 else if P 0 = P 8 then 708 else if P 0 = P 9 then 709 else if P 0 = P 10 then 710 else if P 0 = P 11 then 711 else if P 0 = P 14 then 714 else if P 0 = P 15 then 715 else if P 0 = P 16 then 716 else if P 0 = P 17 then 717 else if P 0 = P 19 then 719 else if P 0 = P 20 then 720 else if P 0 = P 21 then 721 else 0) = _
    rw [if_pos rfl]
  have ho1 : O (P 1) = 700 + 1 := by
    rw [hO9]
    show (if P 1 = P 0 then 700 else if P 1 = P 1 then 701 else if P 1 = P 3 then 703 else if P 1 = P 4 then 704 else if P 1 = P 5 then 705 else if P 1 = P 7 then 707 else if P 1 = P 8 then 708 else if P 1 = P 9 then 709 else if P 1 = P 10 then 710 else if P 1 = P 11 then 711 else if P 1 = P 14 then 714 else if P 1 = P 15 then 715 else if P 1 = P 16 then 716 else if P 1 = P 17 then 717 else if P 1 = P 19 then 719 else if P 1 = P 20 then 720 else if P 1 = P 21 then 721 else 0) = _
    rw [if_neg (Ne.symm dn0_1), if_pos rfl]
  have ho3 : O (P 3) = 700 + 3 := by
    rw [hO9]
    show (if P 3 = P 0 then 700 else if P 3 = P 1 then 701 else if P 3 = P 3 then 703 else if P 3 = P 4 then 704 else if P 3 = P 5 then 705 else if P 3 = P 7 then 707 else if P 3 = P 8 then 708 else if P 3 = P 9 then 709 else if P 3 = P 10 then 710 else if P 3 = P 11 then 711 else if P 3 = P 14 then 714 else if P 3 = P 15 then 715 else if P 3 = P 16 then 716 else if P 3 = P 17 then 717 else if P 3 = P 19 then 719 else if P 3 = P 20 then 720 else if P 3 = P 21 then 721 else 0) = _
    rw [if_neg (Ne.symm dn0_3), if_neg (Ne.symm dn1_3), if_pos rfl]
  have ho4 : O (P 4) = 700 + 4 := by
    rw [hO9]
    show (if P 4 = P 0 then 700 else if P 4 = P 1 then 701 else if P 4 = P 3 then 703 else if P 4 = P 4 then 704 else if P 4 = P 5 then 705 else if P 4 = P 7 then 707 else if P 4 = P 8 then 708 else if P 4 = P 9 then 709 else if P 4 = P 10 then 710 else if P 4 = P 11 then 711 else if P 4 = P 14 then 714 else if P 4 = P 15 then 715 else if P 4 = P 16 then 716 else if P 4 = P 17 then 717 else if P 4 = P 19 then 719 else if P 4 = P 20 then 720 else if P 4 = P 21 then 721 else 0) = _
    rw [if_neg (Ne.symm dn0_4), if_neg (Ne.symm dn1_4), if_neg (Ne.symm dn3_4), if_pos rfl]
  have ho5 : O (P 5) = 700 + 5 := by
    rw [hO9]
    show (if P 5 = P 0 then 700 else if P 5 = P 1 then 701 else if P 5 = P 3 then 703 else if P 5 = P 4 then 704 else if P 5 = P 5 then 705 else if P 5 = P 7 then 707 else if P 5 = P 8 then 708 else if P 5 = P 9 then 709 else if P 5 = P 10 then 710 else if P 5 = P 11 then 711 else if P 5 = P 14 then 714 else if P 5 = P 15 then 715 else if P 5 = P 16 then 716 else if P 5 = P 17 then 717 else if P 5 = P 19 then 719 else if P 5 = P 20 then 720 else if P 5 = P 21 then 721 else 0) = _
    rw [if_neg (Ne.symm dn0_5), if_neg (Ne.symm dn1_5), if_neg (Ne.symm dn3_5), if_neg (Ne.symm dn4_5), if_pos rfl]
  have ho7 : O (P 7) = 700 + 7 := by
    rw [hO9]
    show (if P 7 = P 0 then 700 else if P 7 = P 1 then 701 else if P 7 = P 3 then 703 else if P 7 = P 4 then 704 else if P 7 = P 5 then 705 else if P 7 = P 7 then 707 else if P 7 = P 8 then 708 else if P 7 = P 9 then 709 else if P 7 = P 10 then 710 else if P 7 = P 11 then 711 else if P 7 = P 14 then 714 else if P 7 = P 15 then 715 else if P 7 = P 16 then 716 else if P 7 = P 17 then 717 else if P 7 = P 19 then 719 else if P 7 = P 20 then 720 else if P 7 = P 21 then 721 else 0) = _
    rw [if_neg (Ne.symm dn0_7), if_neg (Ne.symm dn1_7), if_neg (Ne.symm dn3_7), if_neg (Ne.symm dn4_7), if_neg (Ne.symm dn5_7), if_pos rfl]
  have ho8 : O (P 8) = 700 + 8 := by
    rw [hO9]
    show (if P 8 = P 0 then 700 else if P 8 = P 1 then 701 else if P 8 = P 3 then 703 else if P 8 = P 4 then 704 else if P 8 = P 5 then 705 else if P 8 = P 7 then 707 else if P 8 = P 8 then 708 else if P 8 = P 9 then 709 else if P 8 = P 10 then 710 else if P 8 = P 11 then 711 else if P 8 = P 14 then 714 else if P 8 = P 15 then 715 else if P 8 = P 16 then 716 else if P 8 = P 17 then 717 else if P 8 = P 19 then 719 else if P 8 = P 20 then 720 else if P 8 = P 21 then 721 else 0) = _
    rw [if_neg (Ne.symm dn0_8), if_neg (Ne.symm dn1_8), if_neg (Ne.symm dn3_8), if_neg (Ne.symm dn4_8), if_neg (Ne.symm dn5_8), if_neg (Ne.symm dn7_8), if_pos rfl]
  have ho9 : O (P 9) = 700 + 9 := by
    rw [hO9]
    show (if P 9 = P 0 then 700 else if P 9 = P 1 then 701 else if P 9 = P 3 then 703 else if P 9 = P 4 then 704 else if P 9 = P 5 then 705 else if P 9 = P 7 then 707 else if P 9 = P 8 then 708 else if P 9 = P 9 then 709 else if P 9 = P 10 then 710 else if P 9 = P 11 then 711 else if P 9 = P 14 then 714 else if P 9 = P 15 then 715 else if P 9 = P 16 then 716 else if P 9 = P 17 then 717 else if P 9 = P 19 then 719 else if P 9 = P 20 then 720 else if P 9 = P 21 then 721 else 0) = _
    rw [if_neg (Ne.symm dn0_9), if_neg (Ne.symm dn1_9), if_neg (Ne.symm dn3_9), if_neg (Ne.symm dn4_9), if_neg (Ne.symm dn5_9), if_neg (Ne.symm dn7_9), if_neg (Ne.symm dn8_9), if_pos rfl]
  have ho10 : O (P 10) = 700 + 10 := by
    rw [hO9]
    show (if P 10 = P 0 then 700 else if P 10 = P 1 then 701 else if P 10 = P 3 then 703 else if P 10 = P 4 then 704 else if P 10 = P 5 then 705 else if P 10 = P 7 then 707 else if P 10 = P 8 then 708 else if P 10 = P 9 then 709 else if P 10 = P 10 then 710 else if P 10 = P 11 then 711 else if P 10 = P 14 then 714 else if P 10 = P 15 then 715 else if P 10 = P 16 then 716 else if P 10 = P 17 then 717 else if P 10 = P 19 then 719 else if P 10 = P 20 then 720 else if P 10 = P 21 then 721 else 0) = _
    rw [if_neg (Ne.symm dn0_10), if_neg (Ne.symm dn1_10), if_neg (Ne.symm dn3_10), if_neg (Ne.symm dn4_10), if_neg (Ne.symm dn5_10), if_neg (Ne.symm dn7_10), if_neg (Ne.symm dn8_10), if_neg (Ne.symm dn9_10), if_pos rfl]
  have ho11 : O (P 11) = 700 + 11 := by
    rw [hO9]
    show (if P 11 = P 0 then 700 else if P 11 = P 1 then 701 else if P 11 = P 3 then 703 else if P 11 = P 4 then 704 else if P 11 = P 5 then 705 else if P 11 = P 7 then 707 else if P 11 = P 8 then 708 else if P 11 = P 9 then 709 else if P 11 = P 10 then 710 else if P 11 = P 11 then 711 else if P 11 = P 14 then 714 else if P 11 = P 15 then 715 else if P 11 = P 16 then 716 else if P 11 = P 17 then 717 else if P 11 = P 19 then 719 else if P 11 = P 20 then 720 else if P 11 = P 21 then 721 else 0) = _
    rw [if_neg (Ne.symm dn0_11), if_neg (Ne.symm dn1_11), if_neg (Ne.symm dn3_11), if_neg (Ne.symm dn4_11), if_neg (Ne.symm dn5_11), if_neg (Ne.symm dn7_11), if_neg (Ne.symm dn8_11), if_neg (Ne.symm dn9_11), if_neg (Ne.symm dn10_11), if_pos rfl]
  have ho14 : O (P 14) = 700 + 14 := by
    rw [hO9]
    show (if P 14 = P 0 then 700 else if P 14 = P 1 then 701 else if P 14 = P 3 then 703 else if P 14 = P 4 then 704 else if P 14 = P 5 then 705 else if P 14 = P 7 then 707 else if P 14 = P 8 then 708 else if P 14 = P 9 then 709 else if P 14 = P 10 then 710 else if P 14 = P 11 then 711 else if P 14 = P 14 then 714 else if P 14 = P 15 then 715 else if P 14 = P 16 then 716 else if P 14 = P 17 then 717 else if P 14 = P 19 then 719 else if P 14 = P 20 then 720 else if P 14 = P 21 then 721 else 0) = _
    rw [if_neg (Ne.symm dn0_14), if_neg (Ne.symm dn1_14), if_neg (Ne.symm dn3_14), if_neg (Ne.symm dn4_14), if_neg (Ne.symm dn5_14), if_neg (Ne.symm dn7_14), if_neg (Ne.symm dn8_14), if_neg (Ne.symm dn9_14), if_neg (Ne.symm dn10_14), if_neg (Ne.symm dn11_14), if_pos rfl]
  have ho15 : O (P 15) = 700 + 15 := by
    rw [hO9]
    show (if P 15 = P 0 then 700 else if P 15 = P 1 then 701 else if P 15 = P 3 then 703 else if P 15 = P 4 then 704 else if P 15 = P 5 then 705 else if P 15 = P 7 then 707 else if P 15 = P 8 then 708 else if P 15 = P 9 then 709 else if P 15 = P 10 then 710 else if P 15 = P 11 then 711 else if P 15 = P 14 then 714 else if P 15 = P 15 then 715 else if P 15 = P 16 then 716 else if P 15 = P 17 then 717 else if P 15 = P 19 then 719 else if P 15 = P 20 then 720 else if P 15 = P 21 then 721 else 0) = _
    rw [if_neg (Ne.symm dn0_15), if_neg (Ne.symm dn1_15), if_neg (Ne.symm dn3_15), if_neg (Ne.symm dn4_15), if_neg (Ne.symm dn5_15), if_neg (Ne.symm dn7_15), if_neg (Ne.symm dn8_15), if_neg (Ne.symm dn9_15), if_neg (Ne.symm dn10_15), if_neg (Ne.symm dn11_15), if_neg (Ne.symm dn14_15), if_pos rfl]
  have ho16 : O (P 16) = 700 + 16 := by
    rw [hO9]
    show (if P 16 = P 0 then 700 else if P 16 = P 1 then 701 else if P 16 = P 3 then 703 else if P 16 = P 4 then 704 else if P 16 = P 5 then 705 else if P 16 = P 7 then 707 else if P 16 = P 8 then 708 else if P 16 = P 9 then 709 else if P 16 = P 10 then 710 else if P 16 = P 11 then 711 else if P 16 = P 14 then 714 else if P 16 = P 15 then 715 else if P 16 = P 16 then 716 else if P 16 = P 17 then 717 else if P 16 = P 19 then 719 else if P 16 = P 20 then 720 else if P 16 = P 21 then 721 else 0) = _
    rw [if_neg (Ne.symm dn0_16), if_neg (Ne.symm dn1_16), if_neg (Ne.symm dn3_16), if_neg (Ne.symm dn4_16), if_neg (Ne.symm dn5_16), if_neg (Ne.symm dn7_16), if_neg (Ne.symm dn8_16), if_neg (Ne.symm dn9_16), if_neg (Ne.symm dn10_16), if_neg (Ne.symm dn11_16), if_neg (Ne.symm dn14_16), if_neg (Ne.symm dn15_16), if_pos rfl]
  have ho17 : O (P 17) = 700 + 17 := by
    rw [hO9]
    show (if P 17 = P 0 then 700 else if P 17 = P 1 then 701 else if P 17 = P 3 then 703 else if P 17 = P 4 then 704 else if P 17 = P 5 then 705 else if P 17 = P 7 then 707 else if P 17 = P 8 then 708 else if P 17 = P 9 then 709 else if P 17 = P 10 then 710 else if P 17 = P 11 then 711 else if P 17 = P 14 then 714 else if P 17 = P 15 then 715 else if P 17 = P 16 then 716 else if P 17 = P 17 then 717 else if P 17 = P 19 then 719 else if P 17 = P 20 then 720 else if P 17 = P 21 then 721 else 0) = _
    rw [if_neg (Ne.symm dn0_17), if_neg (Ne.symm dn1_17), if_neg (Ne.symm dn3_17), if_neg (Ne.symm dn4_17), if_neg (Ne.symm dn5_17), if_neg (Ne.symm dn7_17), if_neg (Ne.symm dn8_17), if_neg (Ne.symm dn9_17), if_neg (Ne.symm dn10_17), if_neg (Ne.symm dn11_17), if_neg (Ne.symm dn14_17), if_neg (Ne.symm dn15_17), if_neg (Ne.symm dn16_17), if_pos rfl]
  have ho19 : O (P 19) = 700 + 19 := by
    rw [hO9]
    show (if P 19 = P 0 then 700 else if P 19 = P 1 then 701 else if P 19 = P 3 then 703 else if P 19 = P 4 then 704 else if P 19 = P 5 then 705 else if P 19 = P 7 then 707 else if P 19 = P 8 then 708 else if P 19 = P 9 then 709 else if P 19 = P 10 then 710 else if P 19 = P 11 then 711 else if P 19 = P 14 then 714 else if P 19 = P 15 then 715 else if P 19 = P 16 then 716 else if P 19 = P 17 then 717 else if P 19 = P 19 then 719 else if P 19 = P 20 then 720 else if P 19 = P 21 then 721 else 0) = _
    rw [if_neg (Ne.symm dn0_19), if_neg (Ne.symm dn1_19), if_neg (Ne.symm dn3_19), if_neg (Ne.symm dn4_19), if_neg (Ne.symm dn5_19), if_neg (Ne.symm dn7_19), if_neg (Ne.symm dn8_19), if_neg (Ne.symm dn9_19), if_neg (Ne.symm dn10_19), if_neg (Ne.symm dn11_19), if_neg (Ne.symm dn14_19), if_neg (Ne.symm dn15_19), if_neg (Ne.symm dn16_19), if_neg (Ne.symm dn17_19), if_pos rfl]
  have ho20 : O (P 20) = 700 + 20 := by
    rw [hO9]
    show (if P 20 = P 0 then 700 else if P 20 = P 1 then 701 else if P 20 = P 3 then 703 else if P 20 = P 4 then 704 else if P 20 = P 5 then 705 else if P 20 = P 7 then 707 else if P 20 = P 8 then 708 else if P 20 = P 9 then 709 else if P 20 = P 10 then 710 else if P 20 = P 11 then 711 else if P 20 = P 14 then 714 else if P 20 = P 15 then 715 else if P 20 = P 16 then 716 else if P 20 = P 17 then 717 else if P 20 = P 19 then 719 else if P 20 = P 20 then 720 else if P 20 = P 21 then 721 else 0) = _
    rw [if_neg (Ne.symm dn0_20), if_neg (Ne.symm dn1_20), if_neg (Ne.symm dn3_20), if_neg (Ne.symm dn4_20), if_neg (Ne.symm dn5_20), if_neg (Ne.symm dn7_20), if_neg (Ne.symm dn8_20), if_neg (Ne.symm dn9_20), if_neg (Ne.symm dn10_20), if_neg (Ne.symm dn11_20), if_neg (Ne.symm dn14_20), if_neg (Ne.symm dn15_20), if_neg (Ne.symm dn16_20), if_neg (Ne.symm dn17_20), if_neg (Ne.symm dn19_20), if_pos rfl]
  have ho21 : O (P 21) = 700 + 21 := by
    rw [hO9]
    show (if P 21 = P 0 then 700 else if P 21 = P 1 then 701 else if P 21 = P 3 then 703 else if P 21 = P 4 then 704 else if P 21 = P 5 then 705 else if P 21 = P 7 then 707 else if P 21 = P 8 then 708 else if P 21 = P 9 then 709 else if P 21 = P 10 then 710 else if P 21 = P 11 then 711 else if P 21 = P 14 then 714 else if P 21 = P 15 then 715 else if P 21 = P 16 then 716 else if P 21 = P 17 then 717 else if P 21 = P 19 then 719 else if P 21 = P 20 then 720 else if P 21 = P 21 then 721 else 0) = _
    rw [if_neg (Ne.symm dn0_21), if_neg (Ne.symm dn1_21), if_neg (Ne.symm dn3_21), if_neg (Ne.symm dn4_21), if_neg (Ne.symm dn5_21), if_neg (Ne.symm dn7_21), if_neg (Ne.symm dn8_21), if_neg (Ne.symm dn9_21), if_neg (Ne.symm dn10_21), if_neg (Ne.symm dn11_21), if_neg (Ne.symm dn14_21), if_neg (Ne.symm dn15_21), if_neg (Ne.symm dn16_21), if_neg (Ne.symm dn17_21), if_neg (Ne.symm dn19_21), if_neg (Ne.symm dn20_21), if_pos rfl]
  have po : ∀ k ∈ mo_ks, O (P k) = 700 + k := fun k hk9 => by
    simp only [mo_ks, List.mem_cons, List.not_mem_nil, or_false] at hk9
    rcases hk9 with rfl | rfl | rfl | rfl | rfl | rfl | rfl | rfl | rfl | rfl | rfl | rfl | rfl | rfl | rfl | rfl | rfl
    · exact ho0
    · exact ho1
    · exact ho3
    · exact ho4
    · exact ho5
    · exact ho7
    · exact ho8
    · exact ho9
    · exact ho10
    · exact ho11
    · exact ho14
    · exact ho15
    · exact ho16
    · exact ho17
    · exact ho19
    · exact ho20
    · exact ho21
  have pb : ∀ k ∈ mo_ks, B ≤ P k := fun k hk9 => by
    simp only [mo_ks, List.mem_cons, List.not_mem_nil, or_false] at hk9
    rcases hk9 with rfl | rfl | rfl | rfl | rfl | rfl | rfl | rfl | rfl | rfl | rfl | rfl | rfl | rfl | rfl | rfl | rfl
    · rw [hpk0]; exact hA_x
    · rw [hpk1]; exact hA_q1
    · rw [hpk3]; exact hA_q9
    · rw [hpk4]; exact hA_q20
    · rw [hpk5]; exact hA_q34
    · rw [hpk7]; exact hA_q51
    · rw [hpk8]; exact hA_q71
    · rw [hpk9]; exact hA_q94
    · rw [hpk10]; exact hA_q120
    · rw [hpk11]; exact hA_q149
    · rw [hpk14]; exact hA_q181
    · rw [hpk15]; exact hA_q216
    · rw [hpk16]; exact hA_q254
    · rw [hpk17]; exact hA_q295
    · rw [hpk19]; exact hA_q339
    · rw [hpk20]; exact hA_q386
    · rw [hpk21]; exact hA_q436
  have hOz : ∀ q, (∀ k ∈ mo_ks, q ≠ P k) → O q = 0 := fun q hq => by
    rw [hO9]
    show (if q = P 0 then 700 else if q = P 1 then 701 else if q = P 3 then 703 else if q = P 4 then 704 else if q = P 5 then 705 else if q = P 7 then 707 else if q = P 8 then 708 else if q = P 9 then 709 else if q = P 10 then 710 else if q = P 11 then 711 else if q = P 14 then 714 else if q = P 15 then 715 else if q = P 16 then 716 else if q = P 17 then 717 else if q = P 19 then 719 else if q = P 20 then 720 else if q = P 21 then 721 else 0) = 0
    rw [if_neg (hq 0 (by decide)), if_neg (hq 1 (by decide)), if_neg (hq 3 (by decide)), if_neg (hq 4 (by decide)), if_neg (hq 5 (by decide)), if_neg (hq 7 (by decide)), if_neg (hq 8 (by decide)), if_neg (hq 9 (by decide)), if_neg (hq 10 (by decide)), if_neg (hq 11 (by decide)), if_neg (hq 14 (by decide)), if_neg (hq 15 (by decide)), if_neg (hq 16 (by decide)), if_neg (hq 17 (by decide)), if_neg (hq 19 (by decide)), if_neg (hq 20 (by decide)), if_neg (hq 21 (by decide))]
  have hun : ∀ k ∈ mo_ks, k ≠ 0 → M (P k) = none := fun k hk9 hk0 => by
    simp only [mo_ks, List.mem_cons, List.not_mem_nil, or_false] at hk9
    rcases hk9 with rfl | rfl | rfl | rfl | rfl | rfl | rfl | rfl | rfl | rfl | rfl | rfl | rfl | rfl | rfl | rfl | rfl
    · exact absurd rfl hk0
    · rw [hpk1]; exact ko491.resolve_right (fun h9 => ne3 (List.mem_singleton.mp h9).symm)
    · rw [hpk3]; exact ko494.resolve_right (fun h9 => ne11 (List.mem_singleton.mp h9).symm)
    · rw [hpk4]; exact ko497.resolve_right (fun h9 => ne22 (List.mem_singleton.mp h9).symm)
    · rw [hpk5]; exact ko500.resolve_right (fun h9 => ne36 (List.mem_singleton.mp h9).symm)
    · rw [hpk7]; exact ko503.resolve_right (fun h9 => ne53 (List.mem_singleton.mp h9).symm)
    · rw [hpk8]; exact ko506.resolve_right (fun h9 => ne73 (List.mem_singleton.mp h9).symm)
    · rw [hpk9]; exact ko509.resolve_right (fun h9 => ne96 (List.mem_singleton.mp h9).symm)
    · rw [hpk10]; exact ko512.resolve_right (fun h9 => ne122 (List.mem_singleton.mp h9).symm)
    · rw [hpk11]; exact ko515.resolve_right (fun h9 => ne151 (List.mem_singleton.mp h9).symm)
    · rw [hpk14]; exact ko518.resolve_right (fun h9 => ne183 (List.mem_singleton.mp h9).symm)
    · rw [hpk15]; exact ko521.resolve_right (fun h9 => ne218 (List.mem_singleton.mp h9).symm)
    · rw [hpk16]; exact ko524.resolve_right (fun h9 => ne256 (List.mem_singleton.mp h9).symm)
    · rw [hpk17]; exact ko527.resolve_right (fun h9 => ne297 (List.mem_singleton.mp h9).symm)
    · rw [hpk19]; exact ko530.resolve_right (fun h9 => ne341 (List.mem_singleton.mp h9).symm)
    · rw [hpk20]; exact ko533.resolve_right (fun h9 => ne388 (List.mem_singleton.mp h9).symm)
    · rw [hpk21]; exact ko536.resolve_right (fun h9 => ne438 (List.mem_singleton.mp h9).symm)
  obtain ⟨I, hI9⟩ : ∃ I : Nat → Int32, I = fun _ => nI 0 := ⟨_, rfl⟩
  obtain ⟨A, hA9⟩ : ∃ A : Nat → Nat → Int32, A = fun _ _ => 0 := ⟨_, rfl⟩
  obtain ⟨L, hL9⟩ : ∃ L : Nat → Nat → Int64, L = fun _ _ => 0 := ⟨_, rfl⟩
  have p0 : M471 (P 0) = some (.inr (6, [.int (I 0), .ref (P 1), .int (I 2), .ref (P 3), .ref (P 4), .ref (P 5), .int (I 6), .ref (P 7), .ref (P 8), .ref (P 9), .ref (P 10), .ref (P 11), .int (I 12), .int (I 13), .ref (P 14), .ref (P 15), .ref (P 16), .ref (P 17), .int (I 18), .ref (P 19), .ref (P 20), .ref (P 21)])) := by rw [hI9, hpk0, hpk1, hpk3, hpk4, hpk5, hpk7, hpk8, hpk9, hpk10, hpk11, hpk14, hpk15, hpk16, hpk17, hpk19, hpk20, hpk21]; exact f488
  have p1 : M471 (P 1) = some (.inl (D.1 102, 48, .inl (A 1))) := by rw [hA9, hpk1]; exact f472
  have p3 : M471 (P 3) = some (.inl (D.1 102, 16, .inl (A 3))) := by rw [hA9, hpk3]; exact f473
  have p4 : M471 (P 4) = some (.inl (D.1 102, 16, .inl (A 4))) := by rw [hA9, hpk4]; exact f474
  have p5 : M471 (P 5) = some (.inl (D.1 101, 16, .inl (A 5))) := by rw [hA9, hpk5]; exact f475
  have p7 : M471 (P 7) = some (.inl (D.1 102, 120, .inl (A 7))) := by rw [hA9, hpk7]; exact f476
  have p8 : M471 (P 8) = some (.inl (D.1 102, 120, .inl (A 8))) := by rw [hA9, hpk8]; exact f477
  have p9 : M471 (P 9) = some (.inl (D.1 102, 120, .inl (A 9))) := by rw [hA9, hpk9]; exact f478
  have p10 : M471 (P 10) = some (.inl (D.1 102, 5760, .inl (A 10))) := by rw [hA9, hpk10]; exact f479
  have p11 : M471 (P 11) = some (.inl (D.1 102, 48, .inl (A 11))) := by rw [hA9, hpk11]; exact f480
  have p14 : M471 (P 14) = some (.inl (D.1 103, 6, .inr (.inl (L 14)))) := by rw [hL9, hpk14]; exact f481
  have p15 : M471 (P 15) = some (.inl (D.1 103, 6, .inr (.inl (L 15)))) := by rw [hL9, hpk15]; exact f482
  have p16 : M471 (P 16) = some (.inl (D.1 101, 16, .inl (A 16))) := by rw [hA9, hpk16]; exact f483
  have p17 : M471 (P 17) = some (.inl (D.1 101, 16, .inl (A 17))) := by rw [hA9, hpk17]; exact f484
  have p19 : M471 (P 19) = some (.inl (D.1 101, 2601, .inl (A 19))) := by rw [hA9, hpk19]; exact f485
  have p20 : M471 (P 20) = some (.inl (D.1 102, 52, .inl (A 20))) := by rw [hA9, hpk20]; exact f486
  have p21 : M471 (P 21) = some (.inl (D.1 102, 52, .inl (A 21))) := by rw [hA9, hpk21]; exact f487
  have hF0 : cz_F O M O M471 pm := cz_F.k0 kk537 (hm_a1 ⟨by rw [← hpk0, ho0]; unfold pm; omega, _, by rw [← hpk0]; exact p0⟩)
  have hl : lv_has ls 2 [(0, .ref (P 0))] := by rw [hpk0]; exact hl
  refine lv_iconst (v := nI 0) hx hb dd_MO_init_134 (by decide +kernel) ?_
  refine lv_istore_n (lv' := [(1, .int (nI 0)), (0, .ref (P 0))]) hx hb dd_MO_init_135 rfl hl (by decide) rfl (fun ls hl => ?_)
  have lp136 : ∀ (n9 : Nat) (k : Nat) (f3 : Nat → Int32) (f4 : Nat → Int32) (Mu136 : hm_M), (k ≤ 16) → (∀ j, j < k → f3 j = -1) → (mo_D B D P O Mu136 I (va_up (va_up A 3 f3) 4 f4) L) → (cz_F O M O Mu136 pm) → 16 - k < n9 → ∀ (H : Heap) (locs : List Loc) (ls : Array Slot), hm_P D cl_W Mu136 H → va_S (hm_A B) s.heap H locs → lv_has ls 2 [(0, .ref (P 0)), (1, .int (nI k))] → W p l e R s m ([.ref x] : List Value).toArray below meth c H locs (16) (9013) (MQ below (hm_Nv B D (fun M1 => ∃ (P O : Nat → Nat) (I : Nat → Int32) (A : Nat → Nat → Int32) (L : Nat → Nat → Int64), P 0 = x ∧ mo_D B D P O M1 I A L ∧ mo_S I A L [] (fun _ => none) (fun _ => false) [] [] [] (fun _ => false) (fun _ => false) ∧ (∀ q, (∀ k ∈ mo_ks, q ≠ P k) → O q = 0) ∧ (∀ k ∈ mo_ks, k ≠ 0 → M (P k) = none) ∧ cz_F O M O M1 pm)) ([.ref x] : List Value).toArray s (16) (9013) (hm_A B)) (F0 m 136 ls []) := by
    intro n9
    induction n9 with
    | zero => intro k f3 f4 Mu136 hk h3 hd136 hF136 hm; exact absurd hm (Nat.not_lt_zero _)
    | succ n9 ih136 =>
      intro k f3 f4 Mu136 hk h3 hd136 hF136 hm H locs ls hP hS hl
      obtain ⟨g538_0, g538_1, g538_3, g538_4, g538_5, g538_7, g538_8, g538_9, g538_10, g538_11, g538_14, g538_15, g538_16, g538_17, g538_19, g538_20, g538_21, -, -⟩ := id hd136
      have g538_1 : Mu136 (P 1) = some (.inl (D.1 102, 48, .inl (A 1))) := g538_1
      have g538_3 : Mu136 (P 3) = some (.inl (D.1 102, 16, .inl f3)) := g538_3
      have g538_4 : Mu136 (P 4) = some (.inl (D.1 102, 16, .inl f4)) := g538_4
      have g538_5 : Mu136 (P 5) = some (.inl (D.1 101, 16, .inl (A 5))) := g538_5
      have g538_7 : Mu136 (P 7) = some (.inl (D.1 102, 120, .inl (A 7))) := g538_7
      have g538_8 : Mu136 (P 8) = some (.inl (D.1 102, 120, .inl (A 8))) := g538_8
      have g538_9 : Mu136 (P 9) = some (.inl (D.1 102, 120, .inl (A 9))) := g538_9
      have g538_10 : Mu136 (P 10) = some (.inl (D.1 102, 5760, .inl (A 10))) := g538_10
      have g538_11 : Mu136 (P 11) = some (.inl (D.1 102, 48, .inl (A 11))) := g538_11
      have g538_16 : Mu136 (P 16) = some (.inl (D.1 101, 16, .inl (A 16))) := g538_16
      have g538_17 : Mu136 (P 17) = some (.inl (D.1 101, 16, .inl (A 17))) := g538_17
      have g538_19 : Mu136 (P 19) = some (.inl (D.1 101, 2601, .inl (A 19))) := g538_19
      have g538_20 : Mu136 (P 20) = some (.inl (D.1 102, 52, .inl (A 20))) := g538_20
      have g538_21 : Mu136 (P 21) = some (.inl (D.1 102, 52, .inl (A 21))) := g538_21
      refine lv_iload_n hx hb dd_MO_init_136 rfl (lv_at hl 1 rfl) ?_
      refine lv_bipush (v := nI 16) hx hb dd_MO_init_137 (by decide +kernel) ?_
      refine hn_icmp_ge (tgt := 162) hx hb (by omega) (by omega) dd_MO_init_139 (by decide) (fun c539 => ?_) (fun c539 => ?_)
      · exact hm_Ev hx hb hr hS hP (⟨P, O, I, (va_up (va_up A 3 f3) 4 f4), L, hpk0, ⟨g538_0, g538_1, g538_3, g538_4, g538_5, g538_7, g538_8, g538_9, g538_10, g538_11, g538_14, g538_15, g538_16, g538_17, g538_19, g538_20, g538_21, po, pb⟩, ⟨⟨by rw [hI9]; rfl, fun j hj => absurd hj (Nat.not_lt_zero _), Nat.zero_le _, fun c hc => absurd hc List.not_mem_nil⟩, fun k9 hk9 => Or.inl ⟨rfl, h3 k9 (by omega)⟩, by rw [hA9]; rfl, ⟨by rw [hI9]; rfl, Nat.zero_le _, fun b9 d9 h9 => by cases h9⟩, ⟨by rw [hI9]; rfl, fun j hj => absurd hj (Nat.not_lt_zero _), Nat.zero_le _, fun c hc => absurd hc List.not_mem_nil⟩, ⟨by rw [hI9]; rfl, Nat.zero_le _, fun j9 h8 h9 => by cases h9⟩, by rw [hA9]; rfl, by rw [hA9]; rfl⟩, hOz, hun, hF136⟩) hlocks (by omega) (by omega) dd_MO_init_162
      · refine lv_aload_n hx hb dd_MO_init_142 rfl (lv_at hl 0 rfl) ?_
        refine hm_get (ci := 6) (C := rn_MO) (T := ft_MO) (N := 22) hx hb hts fi_MO hown hE.K hP g538_0 rfl 3 (by decide) (hts _ tw_989) (fun _ h9 => h9) rfl dd_MO_init_143 ?_
        refine lv_iload_n hx hb dd_MO_init_146 rfl (lv_at hl 1 rfl) ?_
        refine lv_iconst (v := (-1)) hx hb dd_MO_init_147 (by decide +kernel) ?_
        refine hm_iast (j := k) hx hb hE.K hP hS (pb 3 (by decide)) 2 g538_3 rfl (vp_in_nI (by omega) (by omega)) (nI_clamp (by omega)) dd_MO_init_148 (fun H locs hP hS => ?_)
        obtain ⟨M540, eM540⟩ : ∃ z, z = hm_up Mu136 (P 3) (.inl (D.1 102, 16, .inl (upd f3 k (-1)))) := ⟨_, rfl⟩
        rw [← eM540] at hP
        have f541 : M540 (P 0) = some (.inr (6, [.int (I 0), .ref (P 1), .int (I 2), .ref (P 3), .ref (P 4), .ref (P 5), .int (I 6), .ref (P 7), .ref (P 8), .ref (P 9), .ref (P 10), .ref (P 11), .int (I 12), .int (I 13), .ref (P 14), .ref (P 15), .ref (P 16), .ref (P 17), .int (I 18), .ref (P 19), .ref (P 20), .ref (P 21)])) := by rw [eM540]; exact hm_up_o (hm_neO (po 0 (by decide)) (po 3 (by decide)) (by decide)) g538_0
        have f542 : M540 (P 1) = some (.inl (D.1 102, 48, .inl (A 1))) := by rw [eM540]; exact hm_up_o (hm_neO (po 1 (by decide)) (po 3 (by decide)) (by decide)) g538_1
        have f543 : M540 (P 4) = some (.inl (D.1 102, 16, .inl f4)) := by rw [eM540]; exact hm_up_o (hm_neO (po 4 (by decide)) (po 3 (by decide)) (by decide)) g538_4
        have f544 : M540 (P 5) = some (.inl (D.1 101, 16, .inl (A 5))) := by rw [eM540]; exact hm_up_o (hm_neO (po 5 (by decide)) (po 3 (by decide)) (by decide)) g538_5
        have f545 : M540 (P 7) = some (.inl (D.1 102, 120, .inl (A 7))) := by rw [eM540]; exact hm_up_o (hm_neO (po 7 (by decide)) (po 3 (by decide)) (by decide)) g538_7
        have f546 : M540 (P 8) = some (.inl (D.1 102, 120, .inl (A 8))) := by rw [eM540]; exact hm_up_o (hm_neO (po 8 (by decide)) (po 3 (by decide)) (by decide)) g538_8
        have f547 : M540 (P 9) = some (.inl (D.1 102, 120, .inl (A 9))) := by rw [eM540]; exact hm_up_o (hm_neO (po 9 (by decide)) (po 3 (by decide)) (by decide)) g538_9
        have f548 : M540 (P 10) = some (.inl (D.1 102, 5760, .inl (A 10))) := by rw [eM540]; exact hm_up_o (hm_neO (po 10 (by decide)) (po 3 (by decide)) (by decide)) g538_10
        have f549 : M540 (P 11) = some (.inl (D.1 102, 48, .inl (A 11))) := by rw [eM540]; exact hm_up_o (hm_neO (po 11 (by decide)) (po 3 (by decide)) (by decide)) g538_11
        have f550 : M540 (P 14) = some (.inl (D.1 103, 6, .inr (.inl (L 14)))) := by rw [eM540]; exact hm_up_o (hm_neO (po 14 (by decide)) (po 3 (by decide)) (by decide)) g538_14
        have f551 : M540 (P 15) = some (.inl (D.1 103, 6, .inr (.inl (L 15)))) := by rw [eM540]; exact hm_up_o (hm_neO (po 15 (by decide)) (po 3 (by decide)) (by decide)) g538_15
        have f552 : M540 (P 16) = some (.inl (D.1 101, 16, .inl (A 16))) := by rw [eM540]; exact hm_up_o (hm_neO (po 16 (by decide)) (po 3 (by decide)) (by decide)) g538_16
        have f553 : M540 (P 17) = some (.inl (D.1 101, 16, .inl (A 17))) := by rw [eM540]; exact hm_up_o (hm_neO (po 17 (by decide)) (po 3 (by decide)) (by decide)) g538_17
        have f554 : M540 (P 19) = some (.inl (D.1 101, 2601, .inl (A 19))) := by rw [eM540]; exact hm_up_o (hm_neO (po 19 (by decide)) (po 3 (by decide)) (by decide)) g538_19
        have f555 : M540 (P 20) = some (.inl (D.1 102, 52, .inl (A 20))) := by rw [eM540]; exact hm_up_o (hm_neO (po 20 (by decide)) (po 3 (by decide)) (by decide)) g538_20
        have f556 : M540 (P 21) = some (.inl (D.1 102, 52, .inl (A 21))) := by rw [eM540]; exact hm_up_o (hm_neO (po 21 (by decide)) (po 3 (by decide)) (by decide)) g538_21
        have f557 : M540 (P 3) = some (.inl (D.1 102, 16, .inl (upd f3 k (-1)))) := by rw [eM540]; exact hm_up_s
        refine lv_aload_n hx hb dd_MO_init_149 rfl (lv_at hl 0 rfl) ?_
        refine hm_get (ci := 6) (C := rn_MO) (T := ft_MO) (N := 22) hx hb hts fi_MO hown hE.K hP f541 rfl 4 (by decide) (hts _ tw_990) (fun _ h9 => h9) rfl dd_MO_init_150 ?_
        refine lv_iload_n hx hb dd_MO_init_153 rfl (lv_at hl 1 rfl) ?_
        refine lv_iconst (v := (-1)) hx hb dd_MO_init_154 (by decide +kernel) ?_
        refine hm_iast (j := k) hx hb hE.K hP hS (pb 4 (by decide)) 2 f543 rfl (vp_in_nI (by omega) (by omega)) (nI_clamp (by omega)) dd_MO_init_155 (fun H locs hP hS => ?_)
        obtain ⟨M558, eM558⟩ : ∃ z, z = hm_up M540 (P 4) (.inl (D.1 102, 16, .inl (upd f4 k (-1)))) := ⟨_, rfl⟩
        rw [← eM558] at hP
        have f559 : M558 (P 0) = some (.inr (6, [.int (I 0), .ref (P 1), .int (I 2), .ref (P 3), .ref (P 4), .ref (P 5), .int (I 6), .ref (P 7), .ref (P 8), .ref (P 9), .ref (P 10), .ref (P 11), .int (I 12), .int (I 13), .ref (P 14), .ref (P 15), .ref (P 16), .ref (P 17), .int (I 18), .ref (P 19), .ref (P 20), .ref (P 21)])) := by rw [eM558]; exact hm_up_o (hm_neO (po 0 (by decide)) (po 4 (by decide)) (by decide)) f541
        have f560 : M558 (P 1) = some (.inl (D.1 102, 48, .inl (A 1))) := by rw [eM558]; exact hm_up_o (hm_neO (po 1 (by decide)) (po 4 (by decide)) (by decide)) f542
        have f561 : M558 (P 3) = some (.inl (D.1 102, 16, .inl (upd f3 k (-1)))) := by rw [eM558]; exact hm_up_o (hm_neO (po 3 (by decide)) (po 4 (by decide)) (by decide)) f557
        have f562 : M558 (P 5) = some (.inl (D.1 101, 16, .inl (A 5))) := by rw [eM558]; exact hm_up_o (hm_neO (po 5 (by decide)) (po 4 (by decide)) (by decide)) f544
        have f563 : M558 (P 7) = some (.inl (D.1 102, 120, .inl (A 7))) := by rw [eM558]; exact hm_up_o (hm_neO (po 7 (by decide)) (po 4 (by decide)) (by decide)) f545
        have f564 : M558 (P 8) = some (.inl (D.1 102, 120, .inl (A 8))) := by rw [eM558]; exact hm_up_o (hm_neO (po 8 (by decide)) (po 4 (by decide)) (by decide)) f546
        have f565 : M558 (P 9) = some (.inl (D.1 102, 120, .inl (A 9))) := by rw [eM558]; exact hm_up_o (hm_neO (po 9 (by decide)) (po 4 (by decide)) (by decide)) f547
        have f566 : M558 (P 10) = some (.inl (D.1 102, 5760, .inl (A 10))) := by rw [eM558]; exact hm_up_o (hm_neO (po 10 (by decide)) (po 4 (by decide)) (by decide)) f548
        have f567 : M558 (P 11) = some (.inl (D.1 102, 48, .inl (A 11))) := by rw [eM558]; exact hm_up_o (hm_neO (po 11 (by decide)) (po 4 (by decide)) (by decide)) f549
        have f568 : M558 (P 14) = some (.inl (D.1 103, 6, .inr (.inl (L 14)))) := by rw [eM558]; exact hm_up_o (hm_neO (po 14 (by decide)) (po 4 (by decide)) (by decide)) f550
        have f569 : M558 (P 15) = some (.inl (D.1 103, 6, .inr (.inl (L 15)))) := by rw [eM558]; exact hm_up_o (hm_neO (po 15 (by decide)) (po 4 (by decide)) (by decide)) f551
        have f570 : M558 (P 16) = some (.inl (D.1 101, 16, .inl (A 16))) := by rw [eM558]; exact hm_up_o (hm_neO (po 16 (by decide)) (po 4 (by decide)) (by decide)) f552
        have f571 : M558 (P 17) = some (.inl (D.1 101, 16, .inl (A 17))) := by rw [eM558]; exact hm_up_o (hm_neO (po 17 (by decide)) (po 4 (by decide)) (by decide)) f553
        have f572 : M558 (P 19) = some (.inl (D.1 101, 2601, .inl (A 19))) := by rw [eM558]; exact hm_up_o (hm_neO (po 19 (by decide)) (po 4 (by decide)) (by decide)) f554
        have f573 : M558 (P 20) = some (.inl (D.1 102, 52, .inl (A 20))) := by rw [eM558]; exact hm_up_o (hm_neO (po 20 (by decide)) (po 4 (by decide)) (by decide)) f555
        have f574 : M558 (P 21) = some (.inl (D.1 102, 52, .inl (A 21))) := by rw [eM558]; exact hm_up_o (hm_neO (po 21 (by decide)) (po 4 (by decide)) (by decide)) f556
        have f575 : M558 (P 4) = some (.inl (D.1 102, 16, .inl (upd f4 k (-1)))) := by rw [eM558]; exact hm_up_s
        refine lv_iinc (v := nI (k + 1)) (lv' := [(1, .int (nI (k + 1))), (0, .ref (P 0))]) hx hb dd_MO_init_156 hl (k := 1) rfl (nI_1 k) (by decide) rfl (fun ls hl => ?_)
        refine lv_goto (tgt := 136) hx hb dd_MO_init_159 (by decide) ?_
        have kk576 : hm_k Mu136 Mu136 [(P 3), (P 4)] := hm_krf
        have kk577 : hm_k Mu136 M540 [(P 3), (P 4)] := hm_ku kk576 (Or.inr (by simp)) eM540
        have kk578 : hm_k Mu136 M558 [(P 3), (P 4)] := hm_ku kk577 (Or.inr (by simp)) eM558
        exact ih136 (k + 1) (upd f3 k (-1)) (upd f4 k (-1)) M558 (by omega) (fun j hj => by
            by_cases h9 : j = k
            · rw [h9]; exact up_s
            · exact (up_o h9).trans (h3 j (by omega))) (⟨f559, f560, f561, f575, f562, f563, f564, f565, f566, f567, f568, f569, f570, f571, f572, f573, f574, po, pb⟩) ((hF136).trans (cz_F.k0 kk578 (hm_a2 ⟨by rw [po 3 (by decide)]; unfold pm; omega, _, f561⟩ ⟨by rw [po 4 (by decide)]; unfold pm; omega, _, f575⟩))) (by omega) _ _ _ hP hS (lv_sub hl [1, 0] rfl)
  exact lp136 _ 0 (A 3) (A 4) M471 (Nat.zero_le _) (fun j hj => absurd hj (Nat.not_lt_zero _)) (⟨p0, p1, p3, p4, p5, p7, p8, p9, p10, p11, p14, p15, p16, p17, p19, p20, p21, po, pb⟩) (hF0) (Nat.lt_succ_self _) _ _ _ hP hS (lv_sub hl [1, 0] rfl)
