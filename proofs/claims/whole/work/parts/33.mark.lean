/-! the tape is taken; the routing's rows -/
theorem tk_tx {D : va_G} {O : Nat → Nat} {M M1 M2 : hm_M} {r a t0 : Nat} {e : va_E} {t : List Nat} (h : tx_S D (hm_w M M1) r t) (k2 : hm_k M1 M2 [a]) (ha : M a = some e) : tx_S D (cz_I (cz_z O M (fun _ => 0)) M2) r t := tx_mono (fun q x hq => by
  obtain ⟨h1, h2⟩ := hm_w_i hq
  exact cz_I_m (cz_z_n h1) (k2 q x h2 (hm_n1 (fun e2 => by rw [e2, ha] at h1; cases h1)))) h
theorem cg_n {g h c : Nat} (hc : c / 100 = g) (hn : g ≠ h) : ¬ cg h c := fun e => hn (hc.symm.trans e)
theorem cg_0 {g : Nat} (h : 0 < g) : ¬ cg g 0 := fun e => by unfold cg at e; omega
theorem hm_neO {O : Nat → Nat} {a b x y : Nat} (h1 : O a = x) (h2 : O b = y) (h : x ≠ y) : a ≠ b := fun e => h (by rw [← h1, ← h2, e])
/-- marks -/
def mp_c (ps : Nat → Bool) (x : Int32) : Bool := decide (in16 x) && !ps x.toInt.toNat
def mp_s (ps : Nat → Bool) (x : Int32) : Nat → Bool := if mp_c ps x = true then va_up ps x.toInt.toNat true else ps
def mp_o (ps : Nat → Bool) (od : Nat → Int32) (x : Int32) : Nat → Int32 := if mp_c ps x = true then upd od (qu_n ps) x else od
theorem mp_0 {ps : Nat → Bool} {x : Int32} (h : mp_c ps x = false) : mp_s ps x = ps ∧ ∀ od, mp_o ps od x = od := ⟨by rw [mp_s, h, if_neg (by decide)], fun od => by rw [mp_o, h, if_neg (by decide)]⟩
theorem mp_1 {ps : Nat → Bool} {x : Int32} (h : mp_c ps x = true) : mp_s ps x = va_up ps x.toInt.toNat true ∧ ∀ od, mp_o ps od x = upd od (qu_n ps) x := ⟨by rw [mp_s, h, if_pos rfl], fun od => by rw [mp_o, h, if_pos rfl]⟩
theorem bz_up (ps : Nat → Bool) (j : Nat) (b : Bool) : upd (fun k => nI (bz (ps k))) j (nI (bz b)) = fun k => nI (bz (va_up ps j b k)) := by
  funext k
  unfold upd va_up
  split <;> rfl

set_option maxHeartbeats 4000000 in
set_option maxRecDepth 100000 in
theorem kc_RD_takeTape (l : Launch) (B : Nat) (D : va_G) (G : Nat → Nat) (M : hm_M) (N O : Nat → Nat) (hI : im_R D G N O M) (t : List Nat) (hT : tp_R B D N O M t) : Met l yy_RD_takeTape ws_RD_takeTape ({ frames := 6, cells := 2, slots := 104, locals := 151 }) (hm_Pc B D G M [.ref (N 0)]) (hm_Nr B D (fun r M1 => ∃ O1, tp_R B D N O1 M1 [] ∧ tx_S D (cz_I O1 M1) r t ∧ cz_F O M O1 M1 (cg 1))) (2) (104) (hm_A B) := by
  refine Met.ofW (cc := cd_RD_takeTape) (maxL := 2) (ret := ((some (FieldType.object "java/lang/String")))) (by decide) rfl ?_
  intro p e s m args below meth c s₁ B0 hml hv
  obtain ⟨rfl, hE, hP⟩ := hv
  have hx := B0.exec
  have hb := B0.bytes
  have hr := B0.returns
  have hts : ∀ w ∈ tb_G, w.before _ s = true := fun w h => atoms_spec (ws := ws_RD_takeTape) B0.pre w (List.mem_cons_of_mem _ h)
  have hown : s.vm.findClass "RouteDesk" = some m.cls := findClass_of_methodNamed B0.named
  have hlocks := B0.notSynchronized
  have hRf : (headSpec ws_RD_takeTape { frames := 6, cells := 2, slots := 104, locals := 151 }).room.frames = 6 := rfl
  have hRl : (headSpec ws_RD_takeTape { frames := 6, cells := 2, slots := 104, locals := 151 }).room.locals = 151 := rfl
  have hRc : (headSpec ws_RD_takeTape { frames := 6, cells := 2, slots := 104, locals := 151 }).room.cells = 2 := rfl
  have hRs : (headSpec ws_RD_takeTape { frames := 6, cells := 2, slots := 104, locals := 151 }).room.slots = 104 := rfl
  generalize (headSpec ws_RD_takeTape { frames := 6, cells := 2, slots := 104, locals := 151 }).room = R at hRf hRl hRc hRs ⊢
  have hS : va_S (hm_A B) s.heap s.heap [] := va_S.rf
  have hl := lv_entry ([.ref (N 0)]) (n := 2) (Nat.le_of_ble_eq_true rfl)
  rw [lg_entry_eq]
  generalize (lg_sl ([.ref (N 0)]) ++ List.replicate (2 - (lg_sl ([.ref (N 0)])).length) Slot.unset).toArray = ls at hl ⊢
  have hl : lv_has ls 2 [(0, .ref (N 0))] := hl
  obtain ⟨v, ⟨mm, f, ml, hsb⟩, to1, to2, tl⟩ := id hT
  obtain ⟨h1, h2, h3, h4, h5, h6, h7, hA_1, hA_v⟩ := id hsb
  refine lv_aload_n hx hb dd_RD_takeTape_0 rfl (lv_at hl 0 rfl) ?_
  refine hm_get (ci := 0) (C := rn_RD) (T := ft_RD) (N := 6) hx hb hts fi_RD hown hE.K hP hI.o rfl 0 (by decide) (hts _ tw_184) (fun _ h9 => h9) rfl dd_RD_takeTape_1 ?_
  refine hm_cr hS (hm_rV 0 (As := []) (rest := []) ⟨hx, hb, hml, hown, hts⟩ hE hS hP (kc_SB_toString l B D G M (N 1) v mm f ml t hsb) rfl h1 tw_369 tw_366 tw_367 tw_368 tw_38 (by decide +kernel) rfl rfl ⟨by show 5 + 1 ≤ R.frames; omega, by show 8 + (1 + 11) + 131 ≤ R.locals; omega⟩ rfl hl.1 rfl (Nat.le_of_ble_eq_true rfl) dd_RD_takeTape_4 ⟨by omega, by omega⟩) (fun r1 M2 H locs hw3 hP hS => ?_)
  refine W.widen (k := 2) (n := 104) (by omega) (by omega) ?_
  obtain ⟨kt, kk1⟩ := hw3
  have f4 : M2 (N 0) = some (.inr (0, [.ref (N 1), .ref (N 2), .ref (N 3), .ref (N 4), .ref (N 5), .ref (N 7)])) := kk1 _ _ hI.o (hm_n0 )
  have f5 : M2 (N 1) = some (.inr (7, [.ref v, .int (nI 0), .int (nI ml), .int (nI t.length)])) := kk1 _ _ h1 (hm_n0 )
  have f6 : M2 v = some (.inl (D.1 100, mm, .inl f)) := kk1 _ _ h2 (hm_n0 )
  refine lv_astore_n (lv' := [(1, .ref r1), (0, .ref (N 0))]) hx hb dd_RD_takeTape_7 rfl hl (by decide) rfl (fun ls hl => ?_)
  refine lv_aload_n hx hb dd_RD_takeTape_8 rfl (lv_at hl 1 rfl) ?_
  refine hm_get (ci := 0) (C := rn_RD) (T := ft_RD) (N := 6) hx hb hts fi_RD hown hE.K hP f4 rfl 0 (by decide) (hts _ tw_184) (fun _ h9 => h9) rfl dd_RD_takeTape_9 ?_
  refine lv_iconst (v := nI 0) hx hb dd_RD_takeTape_12 (by decide +kernel) ?_
  refine hm_cv hS (hm_rV 1 (As := [.int (nI 0)]) (rest := []) ⟨hx, hb, hml, hown, hts⟩ hE hS hP (kc_SB_setLength0 l B D G M2 (N 1) v mm f ml t ⟨f5, f6, h3, h4, h5, h6, h7, hA_1, hA_v⟩) rfl f5 tw_564 tw_561 tw_562 tw_563 tw_38 (by decide +kernel) rfl rfl ⟨by show 2 + 1 ≤ R.frames; omega, by show 8 + (2 + 11) + 43 ≤ R.locals; omega⟩ rfl hl.1 rfl (Nat.le_of_ble_eq_true rfl) dd_RD_takeTape_13 ⟨by omega, by omega⟩) (fun M8 H locs hw9 hP hS => ?_)
  refine W.widen (k := 2) (n := 104) (by omega) (by omega) ?_
  obtain ⟨ks, kk2⟩ := hw9
  obtain ⟨mm2, f2, ml2, hsb2⟩ := id ks
  refine lv_aload_n hx hb dd_RD_takeTape_16 rfl (lv_at hl 0 rfl) ?_
  have kk10 : hm_k M M [(N 1)] := hm_krf
  have kk11 : hm_k M M2 [(N 1)] := hm_kt kk10 kk1 (hm_a0 )
  have kk12 : hm_k M M8 [(N 1)] := hm_kt kk11 kk2 (hm_a1 (Or.inr (by simp)))
  exact hm_Er (v := r1) hx hb hr (Or.inl ⟨_, rfl⟩) hS hP (⟨cz_z O M (fun _ => 0), ⟨v, ks, (cz_z_o h1).trans to1, (cz_z_o h2).trans to2, Nat.zero_le _⟩, tk_tx (t0 := 0) kt kk2 h1, cz_F.k kk12 (hm_a1 ⟨by rw [to1]; rfl, _, hsb2.1⟩)⟩) hlocks (by omega) (by omega) dd_RD_takeTape_17
set_option maxHeartbeats 4000000 in
set_option maxRecDepth 100000 in
theorem kc_EX_init (l : Launch) (B : Nat) (D : va_G) (G : Nat → Nat) (M : hm_M) (a : Nat) (ha : M a = some (.inr (2, [.int (nI 0), .int (nI 0)]))) (hA_a : hm_A B a) (x : Int32) : Met l yy_EX_init ws_EX_init ({ frames := 1, cells := 0, slots := 0, locals := 12 }) (hm_Pc B D G M [.ref a, .int x]) (hm_Nv B D (fun M1 => M1 = hm_up M a (.inr (2, [.int x, .int (-1)])))) (0) (0) (hm_A B) := by
  refine Met.ofW (cc := cd_EX_init) (maxL := 2) (ret := none) (by decide) rfl ?_
  intro p e s m args below meth c s₁ B0 hml hv
  obtain ⟨rfl, hE, hP⟩ := hv
  have hx := B0.exec
  have hb := B0.bytes
  have hr := B0.returns
  have hts : ∀ w ∈ tb_G, w.before _ s = true := fun w h => atoms_spec (ws := ws_EX_init) B0.pre w (List.mem_cons_of_mem _ h)
  have hown : s.vm.findClass "RouteDesk$Exchange" = some m.cls := findClass_of_methodNamed B0.named
  have hlocks := B0.notSynchronized
  have hRf : (headSpec ws_EX_init { frames := 1, cells := 0, slots := 0, locals := 12 }).room.frames = 1 := rfl
  have hRl : (headSpec ws_EX_init { frames := 1, cells := 0, slots := 0, locals := 12 }).room.locals = 12 := rfl
  have hRc : (headSpec ws_EX_init { frames := 1, cells := 0, slots := 0, locals := 12 }).room.cells = 0 := rfl
  have hRs : (headSpec ws_EX_init { frames := 1, cells := 0, slots := 0, locals := 12 }).room.slots = 0 := rfl
  generalize (headSpec ws_EX_init { frames := 1, cells := 0, slots := 0, locals := 12 }).room = R at hRf hRl hRc hRs ⊢
  have hin : meth.name = "<init>" := (name_of_methodNamed B0.named B0.method).1
  have hS : va_S (hm_A B) s.heap s.heap [] := va_S.rf
  have hl := lv_entry ([.ref a, .int x]) (n := 2) (Nat.le_of_ble_eq_true rfl)
  rw [lg_entry_eq]
  generalize (lg_sl ([.ref a, .int x]) ++ List.replicate (2 - (lg_sl ([.ref a, .int x])).length) Slot.unset).toArray = ls at hl ⊢
  have hl : lv_has ls 2 [(0, .ref a), (1, .int x)] := hl
  refine lv_aload_n hx hb dd_EX_init_0 rfl (lv_at hl 0 rfl) ?_
  refine W.objInit hx hb hown (hts _ tw_789) (hts _ tw_74) (hts _ tw_75) rfl (by rw [hml]; exact hl.1) rfl dd_EX_init_1 (by omega) (by rw [hRl]; exact Nat.le_of_ble_eq_true rfl) ?_
  refine W.eq (g2 := F0 m 4 ls []) rfl ?_
  refine lv_aload_n hx hb dd_EX_init_4 rfl (lv_at hl 0 rfl) ?_
  refine lv_iconst (v := (-1)) hx hb dd_EX_init_5 (by decide +kernel) ?_
  refine hm_put (ci := 2) (v := .int (-1)) (ty := .int) (C := rn_EX) (T := ft_EX) (N := 2) hx hb hts fi_EX fy_EX fo_EX fn_EX hown hE.K hP hS hA_a ha rfl 1 (by decide) (hts _ tw_792) (fun _ h9 => h9) rfl (by decide +kernel) rfl rfl (Nat.le_of_ble_eq_true rfl) dd_EX_init_6 (fun H locs hP hS => ?_)
  have hP : hm_P D cl_W (hm_up M a (.inr (2, [.int (nI 0), .int (-1)]))) H := hP
  obtain ⟨M1, eM1⟩ : ∃ z, z = hm_up M a (.inr (2, [.int (nI 0), .int (-1)])) := ⟨_, rfl⟩
  rw [← eM1] at hP
  have f2 : M1 a = some (.inr (2, [.int (nI 0), .int (-1)])) := by rw [eM1]; exact hm_up_s
  refine lv_aload_n hx hb dd_EX_init_9 rfl (lv_at hl 0 rfl) ?_
  refine lv_iload_n hx hb dd_EX_init_10 rfl (lv_at hl 1 rfl) ?_
  refine hm_putF (ci := 2) (v := .int x) (ty := .int) (C := rn_EX) (T := ft_EX) (N := 2) hx hb hts fi_EX fy_EX fo_EX fn_EX hown hE.K hP hS hA_a f2 rfl 0 (by decide) (hts _ tw_790) (fun _ h9 => h9) rfl hin rfl (by decide +kernel) rfl rfl (Nat.le_of_ble_eq_true rfl) dd_EX_init_11 (fun H locs hP hS => ?_)
  have hP : hm_P D cl_W (hm_up M1 a (.inr (2, [.int x, .int (-1)]))) H := hP
  obtain ⟨M3, eM3⟩ : ∃ z, z = hm_up M1 a (.inr (2, [.int x, .int (-1)])) := ⟨_, rfl⟩
  rw [← eM3] at hP
  have f4 : M3 a = some (.inr (2, [.int x, .int (-1)])) := by rw [eM3]; exact hm_up_s
  exact hm_Ev hx hb hr hS hP (by rw [eM3, eM1]; exact hm_uu) hlocks (by omega) (by omega) dd_EX_init_14
set_option maxHeartbeats 4000000 in
set_option maxRecDepth 100000 in
theorem kc_BI_init (l : Launch) (B : Nat) (D : va_G) (G : Nat → Nat) (M : hm_M) (a : Nat) (ha : M a = some (.inr (1, [.int (nI 0), .int (nI 0), .int (nI 0), .null]))) (hA_a : hm_A B a) (x y : Int32) (q : Bool) (s9 : Nat) : Met l yy_BI_init ws_BI_init ({ frames := 1, cells := 0, slots := 0, locals := 12 }) (hm_Pc B D G M [.ref a, .int x, .int y, .int (nI (bz q)), .ref s9]) (hm_Nv B D (fun M1 => M1 = hm_up M a (.inr (1, [.int x, .int y, .int (nI (bz q)), .ref s9])))) (0) (0) (hm_A B) := by
  refine Met.ofW (cc := cd_BI_init) (maxL := 5) (ret := none) (by decide) rfl ?_
  intro p e s m args below meth c s₁ B0 hml hv
  obtain ⟨rfl, hE, hP⟩ := hv
  have hx := B0.exec
  have hb := B0.bytes
  have hr := B0.returns
  have hts : ∀ w ∈ tb_G, w.before _ s = true := fun w h => atoms_spec (ws := ws_BI_init) B0.pre w (List.mem_cons_of_mem _ h)
  have hown : s.vm.findClass "RouteDesk$Binding" = some m.cls := findClass_of_methodNamed B0.named
  have hlocks := B0.notSynchronized
  have hRf : (headSpec ws_BI_init { frames := 1, cells := 0, slots := 0, locals := 12 }).room.frames = 1 := rfl
  have hRl : (headSpec ws_BI_init { frames := 1, cells := 0, slots := 0, locals := 12 }).room.locals = 12 := rfl
  have hRc : (headSpec ws_BI_init { frames := 1, cells := 0, slots := 0, locals := 12 }).room.cells = 0 := rfl
  have hRs : (headSpec ws_BI_init { frames := 1, cells := 0, slots := 0, locals := 12 }).room.slots = 0 := rfl
  generalize (headSpec ws_BI_init { frames := 1, cells := 0, slots := 0, locals := 12 }).room = R at hRf hRl hRc hRs ⊢
  have hin : meth.name = "<init>" := (name_of_methodNamed B0.named B0.method).1
  have hS : va_S (hm_A B) s.heap s.heap [] := va_S.rf
  have hl := lv_entry ([.ref a, .int x, .int y, .int (nI (bz q)), .ref s9]) (n := 5) (Nat.le_of_ble_eq_true rfl)
  rw [lg_entry_eq]
  generalize (lg_sl ([.ref a, .int x, .int y, .int (nI (bz q)), .ref s9]) ++ List.replicate (5 - (lg_sl ([.ref a, .int x, .int y, .int (nI (bz q)), .ref s9])).length) Slot.unset).toArray = ls at hl ⊢
  have hl : lv_has ls 5 [(0, .ref a), (1, .int x), (2, .int y), (3, .int (nI (bz q))), (4, .ref s9)] := hl
  refine lv_aload_n hx hb dd_BI_init_0 rfl (lv_at hl 0 rfl) ?_
  refine W.objInit hx hb hown (hts _ tw_870) (hts _ tw_74) (hts _ tw_75) rfl (by rw [hml]; exact hl.1) rfl dd_BI_init_1 (by omega) (by rw [hRl]; exact Nat.le_of_ble_eq_true rfl) ?_
  refine W.eq (g2 := F0 m 4 ls []) rfl ?_
  refine lv_aload_n hx hb dd_BI_init_4 rfl (lv_at hl 0 rfl) ?_
  refine lv_iload_n hx hb dd_BI_init_5 rfl (lv_at hl 1 rfl) ?_
  refine hm_putF (ci := 1) (v := .int x) (ty := .int) (C := rn_BI) (T := ft_BI) (N := 4) hx hb hts fi_BI fy_BI fo_BI fn_BI hown hE.K hP hS hA_a ha rfl 0 (by decide) (hts _ tw_871) (fun _ h9 => h9) rfl hin rfl (by decide +kernel) rfl rfl (Nat.le_of_ble_eq_true rfl) dd_BI_init_6 (fun H locs hP hS => ?_)
  have hP : hm_P D cl_W (hm_up M a (.inr (1, [.int x, .int (nI 0), .int (nI 0), .null]))) H := hP
  obtain ⟨M1, eM1⟩ : ∃ z, z = hm_up M a (.inr (1, [.int x, .int (nI 0), .int (nI 0), .null])) := ⟨_, rfl⟩
  rw [← eM1] at hP
  have f2 : M1 a = some (.inr (1, [.int x, .int (nI 0), .int (nI 0), .null])) := by rw [eM1]; exact hm_up_s
  refine lv_aload_n hx hb dd_BI_init_9 rfl (lv_at hl 0 rfl) ?_
  refine lv_iload_n hx hb dd_BI_init_10 rfl (lv_at hl 2 rfl) ?_
  refine hm_putF (ci := 1) (v := .int y) (ty := .int) (C := rn_BI) (T := ft_BI) (N := 4) hx hb hts fi_BI fy_BI fo_BI fn_BI hown hE.K hP hS hA_a f2 rfl 1 (by decide) (hts _ tw_873) (fun _ h9 => h9) rfl hin rfl (by decide +kernel) rfl rfl (Nat.le_of_ble_eq_true rfl) dd_BI_init_11 (fun H locs hP hS => ?_)
  have hP : hm_P D cl_W (hm_up M1 a (.inr (1, [.int x, .int y, .int (nI 0), .null]))) H := hP
  obtain ⟨M3, eM3⟩ : ∃ z, z = hm_up M1 a (.inr (1, [.int x, .int y, .int (nI 0), .null])) := ⟨_, rfl⟩
  rw [← eM3] at hP
  have f4 : M3 a = some (.inr (1, [.int x, .int y, .int (nI 0), .null])) := by rw [eM3]; exact hm_up_s
  refine lv_aload_n hx hb dd_BI_init_14 rfl (lv_at hl 0 rfl) ?_
  refine lv_iload_n hx hb dd_BI_init_15 rfl (lv_at hl 3 rfl) ?_
  refine hm_putF (ci := 1) (v := .int (nI (bz q))) (ty := .boolean) (C := rn_BI) (T := ft_BI) (N := 4) hx hb hts fi_BI fy_BI fo_BI fn_BI hown hE.K hP hS hA_a f4 rfl 2 (by decide) (hts _ tw_875) (fun _ h9 => h9) rfl hin rfl (by decide +kernel) (bz_n q) (bz_fit q) (Nat.le_of_ble_eq_true rfl) dd_BI_init_16 (fun H locs hP hS => ?_)
  have hP : hm_P D cl_W (hm_up M3 a (.inr (1, [.int x, .int y, .int (nI (bz q)), .null]))) H := hP
  obtain ⟨M5, eM5⟩ : ∃ z, z = hm_up M3 a (.inr (1, [.int x, .int y, .int (nI (bz q)), .null])) := ⟨_, rfl⟩
  rw [← eM5] at hP
  have f6 : M5 a = some (.inr (1, [.int x, .int y, .int (nI (bz q)), .null])) := by rw [eM5]; exact hm_up_s
  refine lv_aload_n hx hb dd_BI_init_19 rfl (lv_at hl 0 rfl) ?_
  refine lv_aload hx hb dd_BI_init_20 (lv_at hl 4 rfl) ?_
  refine hm_putF (ci := 1) (v := .ref s9) (ty := .object "java/lang/String") (C := rn_BI) (T := ft_BI) (N := 4) hx hb hts fi_BI fy_BI fo_BI fn_BI hown hE.K hP hS hA_a f6 rfl 3 (by decide) (hts _ tw_877) (fun _ h9 => h9) rfl hin rfl (by decide +kernel) rfl rfl (Nat.le_of_ble_eq_true rfl) dd_BI_init_22 (fun H locs hP hS => ?_)
  have hP : hm_P D cl_W (hm_up M5 a (.inr (1, [.int x, .int y, .int (nI (bz q)), .ref s9]))) H := hP
  obtain ⟨M7, eM7⟩ : ∃ z, z = hm_up M5 a (.inr (1, [.int x, .int y, .int (nI (bz q)), .ref s9])) := ⟨_, rfl⟩
  rw [← eM7] at hP
  have f8 : M7 a = some (.inr (1, [.int x, .int y, .int (nI (bz q)), .ref s9])) := by rw [eM7]; exact hm_up_s
  exact hm_Ev hx hb hr hS hP (by rw [eM7, eM5, eM3, eM1]; rw [hm_uu, hm_uu, hm_uu]) hlocks (by omega) (by omega) dd_BI_init_25
set_option maxHeartbeats 4000000 in
set_option maxRecDepth 100000 in
theorem kc_HD_init (l : Launch) (B : Nat) (D : va_G) (G : Nat → Nat) (M : hm_M) (a : Nat) (ha : M a = some (.inr (3, [.null, .null]))) (hA_a : hm_A B a) (u w : Nat) : Met l yy_HD_init ws_HD_init ({ frames := 1, cells := 0, slots := 0, locals := 12 }) (hm_Pc B D G M [.ref a, .ref u, .ref w]) (hm_Nv B D (fun M1 => M1 = hm_up M a (.inr (3, [.ref u, .ref w])))) (0) (0) (hm_A B) := by
  refine Met.ofW (cc := cd_HD_init) (maxL := 3) (ret := none) (by decide) rfl ?_
  intro p e s m args below meth c s₁ B0 hml hv
  obtain ⟨rfl, hE, hP⟩ := hv
  have hx := B0.exec
  have hb := B0.bytes
  have hr := B0.returns
  have hts : ∀ w ∈ tb_G, w.before _ s = true := fun w h => atoms_spec (ws := ws_HD_init) B0.pre w (List.mem_cons_of_mem _ h)
  have hown : s.vm.findClass "RouteDesk$Header" = some m.cls := findClass_of_methodNamed B0.named
  have hlocks := B0.notSynchronized
  have hRf : (headSpec ws_HD_init { frames := 1, cells := 0, slots := 0, locals := 12 }).room.frames = 1 := rfl
  have hRl : (headSpec ws_HD_init { frames := 1, cells := 0, slots := 0, locals := 12 }).room.locals = 12 := rfl
  have hRc : (headSpec ws_HD_init { frames := 1, cells := 0, slots := 0, locals := 12 }).room.cells = 0 := rfl
  have hRs : (headSpec ws_HD_init { frames := 1, cells := 0, slots := 0, locals := 12 }).room.slots = 0 := rfl
  generalize (headSpec ws_HD_init { frames := 1, cells := 0, slots := 0, locals := 12 }).room = R at hRf hRl hRc hRs ⊢
  have hin : meth.name = "<init>" := (name_of_methodNamed B0.named B0.method).1
  have hS : va_S (hm_A B) s.heap s.heap [] := va_S.rf
  have hl := lv_entry ([.ref a, .ref u, .ref w]) (n := 3) (Nat.le_of_ble_eq_true rfl)
  rw [lg_entry_eq]
  generalize (lg_sl ([.ref a, .ref u, .ref w]) ++ List.replicate (3 - (lg_sl ([.ref a, .ref u, .ref w])).length) Slot.unset).toArray = ls at hl ⊢
  have hl : lv_has ls 3 [(0, .ref a), (1, .ref u), (2, .ref w)] := hl
  refine lv_aload_n hx hb dd_HD_init_0 rfl (lv_at hl 0 rfl) ?_
  refine W.objInit hx hb hown (hts _ tw_688) (hts _ tw_74) (hts _ tw_75) rfl (by rw [hml]; exact hl.1) rfl dd_HD_init_1 (by omega) (by rw [hRl]; exact Nat.le_of_ble_eq_true rfl) ?_
  refine W.eq (g2 := F0 m 4 ls []) rfl ?_
  refine lv_aload_n hx hb dd_HD_init_4 rfl (lv_at hl 0 rfl) ?_
  refine lv_aload_n hx hb dd_HD_init_5 rfl (lv_at hl 1 rfl) ?_
  refine hm_putF (ci := 3) (v := .ref u) (ty := .object "java/lang/String") (C := rn_HD) (T := ft_HD) (N := 2) hx hb hts fi_HD fy_HD fo_HD fn_HD hown hE.K hP hS hA_a ha rfl 0 (by decide) (hts _ tw_689) (fun _ h9 => h9) rfl hin rfl (by decide +kernel) rfl rfl (Nat.le_of_ble_eq_true rfl) dd_HD_init_6 (fun H locs hP hS => ?_)
  have hP : hm_P D cl_W (hm_up M a (.inr (3, [.ref u, .null]))) H := hP
  obtain ⟨M1, eM1⟩ : ∃ z, z = hm_up M a (.inr (3, [.ref u, .null])) := ⟨_, rfl⟩
  rw [← eM1] at hP
  have f2 : M1 a = some (.inr (3, [.ref u, .null])) := by rw [eM1]; exact hm_up_s
  refine lv_aload_n hx hb dd_HD_init_9 rfl (lv_at hl 0 rfl) ?_
  refine lv_aload_n hx hb dd_HD_init_10 rfl (lv_at hl 2 rfl) ?_
  refine hm_put (ci := 3) (v := .ref w) (ty := .object "java/lang/String") (C := rn_HD) (T := ft_HD) (N := 2) hx hb hts fi_HD fy_HD fo_HD fn_HD hown hE.K hP hS hA_a f2 rfl 1 (by decide) (hts _ tw_692) (fun _ h9 => h9) rfl (by decide +kernel) rfl rfl (Nat.le_of_ble_eq_true rfl) dd_HD_init_11 (fun H locs hP hS => ?_)
  have hP : hm_P D cl_W (hm_up M1 a (.inr (3, [.ref u, .ref w]))) H := hP
  obtain ⟨M3, eM3⟩ : ∃ z, z = hm_up M1 a (.inr (3, [.ref u, .ref w])) := ⟨_, rfl⟩
  rw [← eM3] at hP
  have f4 : M3 a = some (.inr (3, [.ref u, .ref w])) := by rw [eM3]; exact hm_up_s
  exact hm_Ev hx hb hr hS hP (by rw [eM3, eM1]; exact hm_uu) hlocks (by omega) (by omega) dd_HD_init_14
theorem hm_a4 {P : Nat → Prop} {a b c d : Nat} (h : P a) (h2 : P b) (h3 : P c) (h4 : P d) : ∀ x ∈ [a, b, c, d], P x := fun x hx => by
  rcases List.mem_cons.mp hx with e | e
  · rw [e]; exact h
  · exact hm_a3 h2 h3 h4 x e
set_option maxHeartbeats 4000000 in
set_option maxRecDepth 100000 in
theorem kc_RT_markPassed (l : Launch) (B : Nat) (D : va_G) (G : Nat → Nat) (M : hm_M) (N O : Nat → Nat) (ps : Nat → Bool) (od : Nat → Int32) (fo : Nat → Bool) (hR : rt_R B D N O M ps od fo) (x : Int32) : Met l yy_RT_markPassed ws_RT_markPassed ({ frames := 0, cells := 0, slots := 0, locals := 0 }) (hm_Pc B D G M [.ref (N 7), .int x]) (hm_Nv B D (fun M1 => rt_R B D N O M1 (mp_s ps x) (mp_o ps od x) fo ∧ cz_F O M O M1 (cg 6))) (0) (0) (hm_A B) := by
  refine Met.ofW (cc := cd_RT_markPassed) (maxL := 2) (ret := none) (by decide) rfl ?_
  intro p e s m args below meth c s₁ B0 hml hv
  obtain ⟨rfl, hE, hP⟩ := hv
  have hx := B0.exec
  have hb := B0.bytes
  have hr := B0.returns
  have hts : ∀ w ∈ tb_G, w.before _ s = true := fun w h => atoms_spec (ws := ws_RT_markPassed) B0.pre w (List.mem_cons_of_mem _ h)
  have hown : s.vm.findClass "RouteDesk$Routing" = some m.cls := findClass_of_methodNamed B0.named
  have hlocks := B0.notSynchronized
  have hRf : (headSpec ws_RT_markPassed { frames := 0, cells := 0, slots := 0, locals := 0 }).room.frames = 0 := rfl
  have hRl : (headSpec ws_RT_markPassed { frames := 0, cells := 0, slots := 0, locals := 0 }).room.locals = 0 := rfl
  have hRc : (headSpec ws_RT_markPassed { frames := 0, cells := 0, slots := 0, locals := 0 }).room.cells = 0 := rfl
  have hRs : (headSpec ws_RT_markPassed { frames := 0, cells := 0, slots := 0, locals := 0 }).room.slots = 0 := rfl
  generalize (headSpec ws_RT_markPassed { frames := 0, cells := 0, slots := 0, locals := 0 }).room = R at hRf hRl hRc hRs ⊢
  have hS : va_S (hm_A B) s.heap s.heap [] := va_S.rf
  have hl := lv_entry ([.ref (N 7), .int x]) (n := 2) (Nat.le_of_ble_eq_true rfl)
  rw [lg_entry_eq]
  generalize (lg_sl ([.ref (N 7), .int x]) ++ List.replicate (2 - (lg_sl ([.ref (N 7), .int x])).length) Slot.unset).toArray = ls at hl ⊢
  have hl : lv_has ls 2 [(0, .ref (N 7)), (1, .int x)] := hl
  have t16 : (nI 16).toInt = 16 := by decide
  have tm1 : (-1 : Int32).toInt = -1 := by decide
  have t0 : (nI 0).toInt = 0 := by decide
  have t2 : (nI 2).toInt = 2 := by decide
  have t3 : (nI 3).toInt = 3 := by decide
  obtain ⟨r1, r2, r3, r4, ⟨ro1, ro2, ro3, ro4⟩, ⟨rb1, rb2, rb3, rb4⟩⟩ := id hR
  have rp := qu_le ps
  have rf := qu_le fo
  refine lv_iload_n hx hb dd_RT_markPassed_0 rfl (lv_at hl 1 rfl) ?_
  refine hi_if_lt (tgt := 28) hx hb dd_RT_markPassed_1 (by decide) (fun c1 => ?_) (fun c1 => ?_)
  · have hc : mp_c ps x = false := by rw [mp_c, decide_eq_false (fun h9 => by have := h9.1; have := h9.2; omega)]; rfl
    exact hm_Ev hx hb hr hS hP (⟨by rw [(mp_0 hc).1, (mp_0 hc).2]; exact hR, cz_F.rf⟩) hlocks (by omega) (by omega) dd_RT_markPassed_28
  · refine lv_iload_n hx hb dd_RT_markPassed_4 rfl (lv_at hl 1 rfl) ?_
    refine lv_bipush (v := nI 16) hx hb dd_RT_markPassed_5 (by decide +kernel) ?_
    refine hi_icmp_ge (tgt := 28) hx hb dd_RT_markPassed_7 (by decide) (fun c2 => ?_) (fun c2 => ?_)
    · have hc : mp_c ps x = false := by rw [mp_c, decide_eq_false (fun h9 => by have := h9.1; have := h9.2; omega)]; rfl
      exact hm_Ev hx hb hr hS hP (⟨by rw [(mp_0 hc).1, (mp_0 hc).2]; exact hR, cz_F.rf⟩) hlocks (by omega) (by omega) dd_RT_markPassed_28
    · refine lv_aload_n hx hb dd_RT_markPassed_10 rfl (lv_at hl 0 rfl) ?_
      refine hm_get (ci := 5) (C := rn_RT) (T := ft_RT) (N := 5) hx hb hts fi_RT hown hE.K hP r1 rfl 2 (by decide) (hts _ tw_167) (fun _ h9 => h9) rfl dd_RT_markPassed_11 ?_
      refine lv_bipush (v := nI 16) hx hb dd_RT_markPassed_14 (by decide +kernel) ?_
      refine hn_icmp_ge (tgt := 28) hx hb (by omega) (by omega) dd_RT_markPassed_16 (by decide) (fun c3 => ?_) (fun c3 => ?_)
      · have hc : mp_c ps x = false := by
          cases h9 : ps x.toInt.toNat with
          | true => rw [mp_c, h9]; simp
          | false => have := qu_lt h9 (by omega); omega
        exact hm_Ev hx hb hr hS hP (⟨by rw [(mp_0 hc).1, (mp_0 hc).2]; exact hR, cz_F.rf⟩) hlocks (by omega) (by omega) dd_RT_markPassed_28
      · refine lv_aload_n hx hb dd_RT_markPassed_19 rfl (lv_at hl 0 rfl) ?_
        refine hm_get (ci := 5) (C := rn_RT) (T := ft_RT) (N := 5) hx hb hts fi_RT hown hE.K hP r1 rfl 0 (by decide) (hts _ tw_163) (fun _ h9 => h9) rfl dd_RT_markPassed_20 ?_
        refine lv_iload_n hx hb dd_RT_markPassed_23 rfl (lv_at hl 1 rfl) ?_
        refine hm_zald (j := x.toInt.toNat) hx hb hE.K hP 1 r2 rfl (hi_in (by omega) (by omega)) hi_clamp dd_RT_markPassed_24 ?_
        refine W.eq (g2 := F0 m 25 ls [.int (nI (bz (ps x.toInt.toNat)))]) rfl ?_
        refine hn_if_eq (tgt := 29) hx hb (bz_b _) dd_RT_markPassed_25 (by decide) (fun c4 => ?_) (fun c4 => ?_)
        · have c5 := bz_f c4
          have c6 := qu_lt c5 (by omega)
          refine lv_aload_n hx hb dd_RT_markPassed_29 rfl (lv_at hl 0 rfl) ?_
          refine hm_get (ci := 5) (C := rn_RT) (T := ft_RT) (N := 5) hx hb hts fi_RT hown hE.K hP r1 rfl 0 (by decide) (hts _ tw_163) (fun _ h9 => h9) rfl dd_RT_markPassed_30 ?_
          refine lv_iload_n hx hb dd_RT_markPassed_33 rfl (lv_at hl 1 rfl) ?_
          refine lv_iconst (v := nI 1) hx hb dd_RT_markPassed_34 (by decide +kernel) ?_
          refine hm_zast (y := nI (bz true)) (j := x.toInt.toNat) hx hb hE.K hP hS rb2 1 r2 rfl (hi_in (by omega) (by omega)) hi_clamp rfl dd_RT_markPassed_35 (fun H locs hP hS => ?_)
          obtain ⟨M5, eM5⟩ : ∃ z, z = hm_up M (N 8) (.inl (D.1 101, 16, .inl (upd (fun k => nI (bz (ps k))) x.toInt.toNat (nI (bz true))))) := ⟨_, rfl⟩
          rw [← eM5] at hP
          have f6 : M5 (N 7) = some (.inr (5, [.ref (N 8), .ref (N 9), .int (nI (qu_n ps)), .ref (N 10), .int (nI (qu_n fo))])) := by rw [eM5]; exact hm_up_o (hm_ne r1 r2 (by intro h9; cases h9)) r1
          have f7 : M5 (N 9) = some (.inl (D.1 102, 16, .inl od)) := by rw [eM5]; exact hm_up_o (Ne.symm (hm_neO ro2 ro3 (by decide))) r3
          have f8 : M5 (N 10) = some (.inl (D.1 101, 16, .inl (fun k => nI (bz (fo k))))) := by rw [eM5]; exact hm_up_o (Ne.symm (hm_neO ro2 ro4 (by decide))) r4
          have f9 : M5 (N 8) = some (.inl (D.1 101, 16, .inl (upd (fun k => nI (bz (ps k))) x.toInt.toNat (nI (bz true))))) := by rw [eM5]; exact hm_up_s
          refine lv_aload_n hx hb dd_RT_markPassed_36 rfl (lv_at hl 0 rfl) ?_
          refine hm_get (ci := 5) (C := rn_RT) (T := ft_RT) (N := 5) hx hb hts fi_RT hown hE.K hP f6 rfl 1 (by decide) (hts _ tw_165) (fun _ h9 => h9) rfl dd_RT_markPassed_37 ?_
          refine lv_aload_n hx hb dd_RT_markPassed_40 rfl (lv_at hl 0 rfl) ?_
          refine hm_get (ci := 5) (C := rn_RT) (T := ft_RT) (N := 5) hx hb hts fi_RT hown hE.K hP f6 rfl 2 (by decide) (hts _ tw_167) (fun _ h9 => h9) rfl dd_RT_markPassed_41 ?_
          refine lv_iload_n hx hb dd_RT_markPassed_44 rfl (lv_at hl 1 rfl) ?_
          refine hm_iast (j := qu_n ps) hx hb hE.K hP hS rb3 2 f7 rfl (vp_in_nI (by omega) (by omega)) (nI_clamp (by omega)) dd_RT_markPassed_45 (fun H locs hP hS => ?_)
          obtain ⟨M10, eM10⟩ : ∃ z, z = hm_up M5 (N 9) (.inl (D.1 102, 16, .inl (upd od (qu_n ps) x))) := ⟨_, rfl⟩
          rw [← eM10] at hP
          have f11 : M10 (N 7) = some (.inr (5, [.ref (N 8), .ref (N 9), .int (nI (qu_n ps)), .ref (N 10), .int (nI (qu_n fo))])) := by rw [eM10]; exact hm_up_o (hm_ne f6 f7 (by intro h9; cases h9)) f6
          have f12 : M10 (N 8) = some (.inl (D.1 101, 16, .inl (upd (fun k => nI (bz (ps k))) x.toInt.toNat (nI (bz true))))) := by rw [eM10]; exact hm_up_o (hm_neO ro2 ro3 (by decide)) f9
          have f13 : M10 (N 10) = some (.inl (D.1 101, 16, .inl (fun k => nI (bz (fo k))))) := by rw [eM10]; exact hm_up_o (Ne.symm (hm_neO ro3 ro4 (by decide))) f8
          have f14 : M10 (N 9) = some (.inl (D.1 102, 16, .inl (upd od (qu_n ps) x))) := by rw [eM10]; exact hm_up_s
          refine lv_aload_n hx hb dd_RT_markPassed_46 rfl (lv_at hl 0 rfl) ?_
          refine lv_dup hx hb dd_RT_markPassed_47 rfl ?_
          refine hm_get (ci := 5) (C := rn_RT) (T := ft_RT) (N := 5) hx hb hts fi_RT hown hE.K hP f11 rfl 2 (by decide) (hts _ tw_167) (fun _ h9 => h9) rfl dd_RT_markPassed_48 ?_
          refine lv_iconst (v := nI 1) hx hb dd_RT_markPassed_51 (by decide +kernel) ?_
          refine hn_iadd hx hb dd_RT_markPassed_52 ?_
          refine hm_put (ci := 5) (v := .int (nI ((qu_n ps) + 1))) (ty := .int) (C := rn_RT) (T := ft_RT) (N := 5) hx hb hts fi_RT fy_RT fo_RT fn_RT hown hE.K hP hS rb1 f11 rfl 2 (by decide) (hts _ tw_167) (fun _ h9 => h9) rfl (by decide +kernel) rfl rfl (Nat.le_of_ble_eq_true rfl) dd_RT_markPassed_53 (fun H locs hP hS => ?_)
          have hP : hm_P D cl_W (hm_up M10 (N 7) (.inr (5, [.ref (N 8), .ref (N 9), .int (nI ((qu_n ps) + 1)), .ref (N 10), .int (nI (qu_n fo))]))) H := hP
          obtain ⟨M15, eM15⟩ : ∃ z, z = hm_up M10 (N 7) (.inr (5, [.ref (N 8), .ref (N 9), .int (nI ((qu_n ps) + 1)), .ref (N 10), .int (nI (qu_n fo))])) := ⟨_, rfl⟩
          rw [← eM15] at hP
          have f16 : M15 (N 8) = some (.inl (D.1 101, 16, .inl (upd (fun k => nI (bz (ps k))) x.toInt.toNat (nI (bz true))))) := by rw [eM15]; exact hm_up_o (hm_ne f12 f11 (by intro h9; cases h9)) f12
          have f17 : M15 (N 9) = some (.inl (D.1 102, 16, .inl (upd od (qu_n ps) x))) := by rw [eM15]; exact hm_up_o (hm_ne f14 f11 (by intro h9; cases h9)) f14
          have f18 : M15 (N 10) = some (.inl (D.1 101, 16, .inl (fun k => nI (bz (fo k))))) := by rw [eM15]; exact hm_up_o (hm_ne f13 f11 (by intro h9; cases h9)) f13
          have f19 : M15 (N 7) = some (.inr (5, [.ref (N 8), .ref (N 9), .int (nI ((qu_n ps) + 1)), .ref (N 10), .int (nI (qu_n fo))])) := by rw [eM15]; exact hm_up_s
          have kk20 : hm_k M M [(N 7), (N 8), (N 9), (N 10)] := hm_krf
          have kk21 : hm_k M M5 [(N 7), (N 8), (N 9), (N 10)] := hm_ku kk20 (Or.inr (by simp)) eM5
          have kk22 : hm_k M M10 [(N 7), (N 8), (N 9), (N 10)] := hm_ku kk21 (Or.inr (by simp)) eM10
          have kk23 : hm_k M M15 [(N 7), (N 8), (N 9), (N 10)] := hm_ku kk22 (Or.inr (by simp)) eM15
          have hc : mp_c ps x = true := by rw [mp_c, c5, decide_eq_true ⟨by omega, by omega⟩]; rfl
          exact hm_Ev hx hb hr hS hP (⟨by rw [(mp_1 hc).1, (mp_1 hc).2]; exact ⟨by rw [qu_up c5 (by omega)]; exact f19, by rw [← bz_up]; exact f16, f17, f18, ⟨ro1, ro2, ro3, ro4⟩, ⟨rb1, rb2, rb3, rb4⟩⟩, cz_F.k0 kk23 (hm_a4 ⟨by rw [ro1]; rfl, _, f19⟩ ⟨by rw [ro2]; rfl, _, f16⟩ ⟨by rw [ro3]; rfl, _, f17⟩ ⟨by rw [ro4]; rfl, _, f18⟩)⟩) hlocks (by omega) (by omega) dd_RT_markPassed_56
        · have hc : mp_c ps x = false := by rw [mp_c, bz_t c4]; simp
          exact hm_Ev hx hb hr hS hP (⟨by rw [(mp_0 hc).1, (mp_0 hc).2]; exact hR, cz_F.rf⟩) hlocks (by omega) (by omega) dd_RT_markPassed_28
set_option maxHeartbeats 4000000 in
set_option maxRecDepth 100000 in
theorem kc_RT_markFound (l : Launch) (B : Nat) (D : va_G) (G : Nat → Nat) (M : hm_M) (N O : Nat → Nat) (ps : Nat → Bool) (od : Nat → Int32) (fo : Nat → Bool) (hR : rt_R B D N O M ps od fo) (x : Int32) : Met l yy_RT_markFound ws_RT_markFound ({ frames := 0, cells := 0, slots := 0, locals := 0 }) (hm_Pc B D G M [.ref (N 7), .int x]) (hm_Nv B D (fun M1 => rt_R B D N O M1 ps od (mp_s fo x) ∧ cz_F O M O M1 (cg 6))) (0) (0) (hm_A B) := by
  refine Met.ofW (cc := cd_RT_markFound) (maxL := 2) (ret := none) (by decide) rfl ?_
  intro p e s m args below meth c s₁ B0 hml hv
  obtain ⟨rfl, hE, hP⟩ := hv
  have hx := B0.exec
  have hb := B0.bytes
  have hr := B0.returns
  have hts : ∀ w ∈ tb_G, w.before _ s = true := fun w h => atoms_spec (ws := ws_RT_markFound) B0.pre w (List.mem_cons_of_mem _ h)
  have hown : s.vm.findClass "RouteDesk$Routing" = some m.cls := findClass_of_methodNamed B0.named
  have hlocks := B0.notSynchronized
  have hRf : (headSpec ws_RT_markFound { frames := 0, cells := 0, slots := 0, locals := 0 }).room.frames = 0 := rfl
  have hRl : (headSpec ws_RT_markFound { frames := 0, cells := 0, slots := 0, locals := 0 }).room.locals = 0 := rfl
  have hRc : (headSpec ws_RT_markFound { frames := 0, cells := 0, slots := 0, locals := 0 }).room.cells = 0 := rfl
  have hRs : (headSpec ws_RT_markFound { frames := 0, cells := 0, slots := 0, locals := 0 }).room.slots = 0 := rfl
  generalize (headSpec ws_RT_markFound { frames := 0, cells := 0, slots := 0, locals := 0 }).room = R at hRf hRl hRc hRs ⊢
  have hS : va_S (hm_A B) s.heap s.heap [] := va_S.rf
  have hl := lv_entry ([.ref (N 7), .int x]) (n := 2) (Nat.le_of_ble_eq_true rfl)
  rw [lg_entry_eq]
  generalize (lg_sl ([.ref (N 7), .int x]) ++ List.replicate (2 - (lg_sl ([.ref (N 7), .int x])).length) Slot.unset).toArray = ls at hl ⊢
  have hl : lv_has ls 2 [(0, .ref (N 7)), (1, .int x)] := hl
  have t16 : (nI 16).toInt = 16 := by decide
  have tm1 : (-1 : Int32).toInt = -1 := by decide
  have t0 : (nI 0).toInt = 0 := by decide
  have t2 : (nI 2).toInt = 2 := by decide
  have t3 : (nI 3).toInt = 3 := by decide
  obtain ⟨r1, r2, r3, r4, ⟨ro1, ro2, ro3, ro4⟩, ⟨rb1, rb2, rb3, rb4⟩⟩ := id hR
  have rp := qu_le ps
  have rf := qu_le fo
  refine lv_iload_n hx hb dd_RT_markFound_0 rfl (lv_at hl 1 rfl) ?_
  refine hi_if_lt (tgt := 19) hx hb dd_RT_markFound_1 (by decide) (fun c1 => ?_) (fun c1 => ?_)
  · have hc : mp_c fo x = false := by rw [mp_c, decide_eq_false (fun h9 => by have := h9.1; have := h9.2; omega)]; rfl
    exact hm_Ev hx hb hr hS hP (⟨by rw [(mp_0 hc).1]; exact hR, cz_F.rf⟩) hlocks (by omega) (by omega) dd_RT_markFound_19
  · refine lv_iload_n hx hb dd_RT_markFound_4 rfl (lv_at hl 1 rfl) ?_
    refine lv_bipush (v := nI 16) hx hb dd_RT_markFound_5 (by decide +kernel) ?_
    refine hi_icmp_ge (tgt := 19) hx hb dd_RT_markFound_7 (by decide) (fun c2 => ?_) (fun c2 => ?_)
    · have hc : mp_c fo x = false := by rw [mp_c, decide_eq_false (fun h9 => by have := h9.1; have := h9.2; omega)]; rfl
      exact hm_Ev hx hb hr hS hP (⟨by rw [(mp_0 hc).1]; exact hR, cz_F.rf⟩) hlocks (by omega) (by omega) dd_RT_markFound_19
    · refine lv_aload_n hx hb dd_RT_markFound_10 rfl (lv_at hl 0 rfl) ?_
      refine hm_get (ci := 5) (C := rn_RT) (T := ft_RT) (N := 5) hx hb hts fi_RT hown hE.K hP r1 rfl 3 (by decide) (hts _ tw_169) (fun _ h9 => h9) rfl dd_RT_markFound_11 ?_
      refine lv_iload_n hx hb dd_RT_markFound_14 rfl (lv_at hl 1 rfl) ?_
      refine hm_zald (j := x.toInt.toNat) hx hb hE.K hP 1 r4 rfl (hi_in (by omega) (by omega)) hi_clamp dd_RT_markFound_15 ?_
      refine W.eq (g2 := F0 m 16 ls [.int (nI (bz (fo x.toInt.toNat)))]) rfl ?_
      refine hn_if_eq (tgt := 20) hx hb (bz_b _) dd_RT_markFound_16 (by decide) (fun c3 => ?_) (fun c3 => ?_)
      · have c5 := bz_f c3
        have c6 := qu_lt c5 (by omega)
        refine lv_aload_n hx hb dd_RT_markFound_20 rfl (lv_at hl 0 rfl) ?_
        refine hm_get (ci := 5) (C := rn_RT) (T := ft_RT) (N := 5) hx hb hts fi_RT hown hE.K hP r1 rfl 3 (by decide) (hts _ tw_169) (fun _ h9 => h9) rfl dd_RT_markFound_21 ?_
        refine lv_iload_n hx hb dd_RT_markFound_24 rfl (lv_at hl 1 rfl) ?_
        refine lv_iconst (v := nI 1) hx hb dd_RT_markFound_25 (by decide +kernel) ?_
        refine hm_zast (y := nI (bz true)) (j := x.toInt.toNat) hx hb hE.K hP hS rb4 1 r4 rfl (hi_in (by omega) (by omega)) hi_clamp rfl dd_RT_markFound_26 (fun H locs hP hS => ?_)
        obtain ⟨M4, eM4⟩ : ∃ z, z = hm_up M (N 10) (.inl (D.1 101, 16, .inl (upd (fun k => nI (bz (fo k))) x.toInt.toNat (nI (bz true))))) := ⟨_, rfl⟩
        rw [← eM4] at hP
        have f5 : M4 (N 7) = some (.inr (5, [.ref (N 8), .ref (N 9), .int (nI (qu_n ps)), .ref (N 10), .int (nI (qu_n fo))])) := by rw [eM4]; exact hm_up_o (hm_ne r1 r4 (by intro h9; cases h9)) r1
        have f6 : M4 (N 8) = some (.inl (D.1 101, 16, .inl (fun k => nI (bz (ps k))))) := by rw [eM4]; exact hm_up_o (hm_neO ro2 ro4 (by decide)) r2
        have f7 : M4 (N 9) = some (.inl (D.1 102, 16, .inl od)) := by rw [eM4]; exact hm_up_o (hm_neO ro3 ro4 (by decide)) r3
        have f8 : M4 (N 10) = some (.inl (D.1 101, 16, .inl (upd (fun k => nI (bz (fo k))) x.toInt.toNat (nI (bz true))))) := by rw [eM4]; exact hm_up_s
        refine lv_aload_n hx hb dd_RT_markFound_27 rfl (lv_at hl 0 rfl) ?_
        refine lv_dup hx hb dd_RT_markFound_28 rfl ?_
        refine hm_get (ci := 5) (C := rn_RT) (T := ft_RT) (N := 5) hx hb hts fi_RT hown hE.K hP f5 rfl 4 (by decide) (hts _ tw_170) (fun _ h9 => h9) rfl dd_RT_markFound_29 ?_
        refine lv_iconst (v := nI 1) hx hb dd_RT_markFound_32 (by decide +kernel) ?_
        refine hn_iadd hx hb dd_RT_markFound_33 ?_
        refine hm_put (ci := 5) (v := .int (nI ((qu_n fo) + 1))) (ty := .int) (C := rn_RT) (T := ft_RT) (N := 5) hx hb hts fi_RT fy_RT fo_RT fn_RT hown hE.K hP hS rb1 f5 rfl 4 (by decide) (hts _ tw_170) (fun _ h9 => h9) rfl (by decide +kernel) rfl rfl (Nat.le_of_ble_eq_true rfl) dd_RT_markFound_34 (fun H locs hP hS => ?_)
        have hP : hm_P D cl_W (hm_up M4 (N 7) (.inr (5, [.ref (N 8), .ref (N 9), .int (nI (qu_n ps)), .ref (N 10), .int (nI ((qu_n fo) + 1))]))) H := hP
        obtain ⟨M9, eM9⟩ : ∃ z, z = hm_up M4 (N 7) (.inr (5, [.ref (N 8), .ref (N 9), .int (nI (qu_n ps)), .ref (N 10), .int (nI ((qu_n fo) + 1))])) := ⟨_, rfl⟩
        rw [← eM9] at hP
        have f10 : M9 (N 8) = some (.inl (D.1 101, 16, .inl (fun k => nI (bz (ps k))))) := by rw [eM9]; exact hm_up_o (hm_ne f6 f5 (by intro h9; cases h9)) f6
        have f11 : M9 (N 9) = some (.inl (D.1 102, 16, .inl od)) := by rw [eM9]; exact hm_up_o (hm_ne f7 f5 (by intro h9; cases h9)) f7
        have f12 : M9 (N 10) = some (.inl (D.1 101, 16, .inl (upd (fun k => nI (bz (fo k))) x.toInt.toNat (nI (bz true))))) := by rw [eM9]; exact hm_up_o (hm_ne f8 f5 (by intro h9; cases h9)) f8
        have f13 : M9 (N 7) = some (.inr (5, [.ref (N 8), .ref (N 9), .int (nI (qu_n ps)), .ref (N 10), .int (nI ((qu_n fo) + 1))])) := by rw [eM9]; exact hm_up_s
        have kk14 : hm_k M M [(N 7), (N 8), (N 9), (N 10)] := hm_krf
        have kk15 : hm_k M M4 [(N 7), (N 8), (N 9), (N 10)] := hm_ku kk14 (Or.inr (by simp)) eM4
        have kk16 : hm_k M M9 [(N 7), (N 8), (N 9), (N 10)] := hm_ku kk15 (Or.inr (by simp)) eM9
        have hc : mp_c fo x = true := by rw [mp_c, c5, decide_eq_true ⟨by omega, by omega⟩]; rfl
        exact hm_Ev hx hb hr hS hP (⟨by rw [(mp_1 hc).1]; exact ⟨by rw [qu_up c5 (by omega)]; exact f13, f10, f11, by rw [← bz_up]; exact f12, ⟨ro1, ro2, ro3, ro4⟩, ⟨rb1, rb2, rb3, rb4⟩⟩, cz_F.k0 kk16 (hm_a4 ⟨by rw [ro1]; rfl, _, f13⟩ ⟨by rw [ro2]; rfl, _, f10⟩ ⟨by rw [ro3]; rfl, _, f11⟩ ⟨by rw [ro4]; rfl, _, f12⟩)⟩) hlocks (by omega) (by omega) dd_RT_markFound_37
      · have hc : mp_c fo x = false := by rw [mp_c, bz_t c3]; simp
        exact hm_Ev hx hb hr hS hP (⟨by rw [(mp_0 hc).1]; exact hR, cz_F.rf⟩) hlocks (by omega) (by omega) dd_RT_markFound_19
