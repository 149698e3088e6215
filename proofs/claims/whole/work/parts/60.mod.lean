/-! the model's cells: I its int fields, A its rows of ints and booleans, L its rows of longs, by the fields' places -/
def mo_ks : List Nat := [0, 1, 3, 4, 5, 7, 8, 9, 10, 11, 14, 15, 16, 17, 19, 20, 21]
def pm (c : Nat) : Prop := 7 ≤ c / 100
def mo_D (B : Nat) (D : va_G) (P O : Nat → Nat) (M : hm_M) (I : Nat → Int32) (A : Nat → Nat → Int32) (L : Nat → Nat → Int64) : Prop := (M (P 0) = some (.inr (6, [.int (I 0), .ref (P 1), .int (I 2), .ref (P 3), .ref (P 4), .ref (P 5), .int (I 6), .ref (P 7), .ref (P 8), .ref (P 9), .ref (P 10), .ref (P 11), .int (I 12), .int (I 13), .ref (P 14), .ref (P 15), .ref (P 16), .ref (P 17), .int (I 18), .ref (P 19), .ref (P 20), .ref (P 21)]))) ∧ (M (P 1) = some (.inl (D.1 102, 48, .inl (A 1)))) ∧ (M (P 3) = some (.inl (D.1 102, 16, .inl (A 3)))) ∧ (M (P 4) = some (.inl (D.1 102, 16, .inl (A 4)))) ∧ (M (P 5) = some (.inl (D.1 101, 16, .inl (A 5)))) ∧ (M (P 7) = some (.inl (D.1 102, 120, .inl (A 7)))) ∧ (M (P 8) = some (.inl (D.1 102, 120, .inl (A 8)))) ∧ (M (P 9) = some (.inl (D.1 102, 120, .inl (A 9)))) ∧ (M (P 10) = some (.inl (D.1 102, 5760, .inl (A 10)))) ∧ (M (P 11) = some (.inl (D.1 102, 48, .inl (A 11)))) ∧ (M (P 14) = some (.inl (D.1 103, 6, .inr (.inl (L 14))))) ∧ (M (P 15) = some (.inl (D.1 103, 6, .inr (.inl (L 15))))) ∧ (M (P 16) = some (.inl (D.1 101, 16, .inl (A 16)))) ∧ (M (P 17) = some (.inl (D.1 101, 16, .inl (A 17)))) ∧ (M (P 19) = some (.inl (D.1 101, 2601, .inl (A 19)))) ∧ (M (P 20) = some (.inl (D.1 102, 52, .inl (A 20)))) ∧ (M (P 21) = some (.inl (D.1 102, 52, .inl (A 21)))) ∧ (∀ k ∈ mo_ks, O (P k) = 700 + k) ∧ (∀ k ∈ mo_ks, B ≤ P k)
theorem pm_0 : ¬ pm 0 := by unfold pm; omega
theorem mo_D.kept {B : Nat} {D : va_G} {P O O1 : Nat → Nat} {M M1 : hm_M} {I : Nat → Int32} {A : Nat → Nat → Int32} {L : Nat → Nat → Int64} {p : Nat → Prop} (h : mo_D B D P O M I A L) (hf : cz_F O M O1 M1 p) (hp : ∀ c, 7 ≤ c / 100 → ¬ p c) : mo_D B D P O1 M1 I A L := by
  obtain ⟨p0, p1, p3, p4, p5, p7, p8, p9, p10, p11, p14, p15, p16, p17, p19, p20, p21, po, pb⟩ := h
  have go : ∀ k ∈ mo_ks, ∀ e, M (P k) = some e → M1 (P k) = some e ∧ O1 (P k) = O (P k) := fun k hk e he => by
    have a := hf _ _ he
    exact ⟨a.2.1 (hp _ (by rw [po k hk]; omega)), a.1⟩
  refine ⟨(go 0 (by decide) _ p0).1, (go 1 (by decide) _ p1).1, (go 3 (by decide) _ p3).1, (go 4 (by decide) _ p4).1, (go 5 (by decide) _ p5).1, (go 7 (by decide) _ p7).1, (go 8 (by decide) _ p8).1, (go 9 (by decide) _ p9).1, (go 10 (by decide) _ p10).1, (go 11 (by decide) _ p11).1, (go 14 (by decide) _ p14).1, (go 15 (by decide) _ p15).1, (go 16 (by decide) _ p16).1, (go 17 (by decide) _ p17).1, (go 19 (by decide) _ p19).1, (go 20 (by decide) _ p20).1, (go 21 (by decide) _ p21).1, fun k hk => ?_, pb⟩
  have : ∃ e, M (P k) = some e := by
    simp only [mo_ks, List.mem_cons, List.not_mem_nil, or_false] at hk
    rcases hk with rfl | rfl | rfl | rfl | rfl | rfl | rfl | rfl | rfl | rfl | rfl | rfl | rfl | rfl | rfl | rfl | rfl
    · exact ⟨_, p0⟩
    · exact ⟨_, p1⟩
    · exact ⟨_, p3⟩
    · exact ⟨_, p4⟩
    · exact ⟨_, p5⟩
    · exact ⟨_, p7⟩
    · exact ⟨_, p8⟩
    · exact ⟨_, p9⟩
    · exact ⟨_, p10⟩
    · exact ⟨_, p11⟩
    · exact ⟨_, p14⟩
    · exact ⟨_, p15⟩
    · exact ⟨_, p16⟩
    · exact ⟨_, p17⟩
    · exact ⟨_, p19⟩
    · exact ⟨_, p20⟩
    · exact ⟨_, p21⟩
  obtain ⟨e, he⟩ := this
  exact (go k hk e he).2.trans (po k hk)
def me_x (A : Nat → Nat → Int32) (x : Int32) : Bool := decide (in16 x) && !decide (A 3 x.toInt.toNat = -1)

theorem hm_a5 {P : Nat → Prop} {a b c d e : Nat} (h0 : P a) (h1 : P b) (h2 : P c) (h3 : P d) (h4 : P e) : ∀ x ∈ [a, b, c, d, e], P x := fun x hx => by
  rcases List.mem_cons.mp hx with e | e
  · rw [e]; exact h0
  · exact hm_a4 h1 h2 h3 h4 x e
theorem hm_a6 {P : Nat → Prop} {a b c d e f : Nat} (h0 : P a) (h1 : P b) (h2 : P c) (h3 : P d) (h4 : P e) (h5 : P f) : ∀ x ∈ [a, b, c, d, e, f], P x := fun x hx => by
  rcases List.mem_cons.mp hx with e | e
  · rw [e]; exact h0
  · exact hm_a5 h1 h2 h3 h4 h5 x e
theorem hm_a7 {P : Nat → Prop} {a b c d e f g : Nat} (h0 : P a) (h1 : P b) (h2 : P c) (h3 : P d) (h4 : P e) (h5 : P f) (h6 : P g) : ∀ x ∈ [a, b, c, d, e, f, g], P x := fun x hx => by
  rcases List.mem_cons.mp hx with e | e
  · rw [e]; exact h0
  · exact hm_a6 h1 h2 h3 h4 h5 h6 x e
theorem hm_a8 {P : Nat → Prop} {a b c d e f g h : Nat} (h0 : P a) (h1 : P b) (h2 : P c) (h3 : P d) (h4 : P e) (h5 : P f) (h6 : P g) (h7 : P h) : ∀ x ∈ [a, b, c, d, e, f, g, h], P x := fun x hx => by
  rcases List.mem_cons.mp hx with e | e
  · rw [e]; exact h0
  · exact hm_a7 h1 h2 h3 h4 h5 h6 h7 x e
theorem hm_a9 {P : Nat → Prop} {a b c d e f g h i : Nat} (h0 : P a) (h1 : P b) (h2 : P c) (h3 : P d) (h4 : P e) (h5 : P f) (h6 : P g) (h7 : P h) (h8 : P i) : ∀ x ∈ [a, b, c, d, e, f, g, h, i], P x := fun x hx => by
  rcases List.mem_cons.mp hx with e | e
  · rw [e]; exact h0
  · exact hm_a8 h1 h2 h3 h4 h5 h6 h7 h8 x e
set_option maxHeartbeats 4000000 in
set_option maxRecDepth 100000 in
theorem kc_MO_thrown (l : Launch) (B : Nat) (D : va_G) (G : Nat → Nat) (M : hm_M) (P O : Nat → Nat) (I : Nat → Int32) (A : Nat → Nat → Int32) (L : Nat → Nat → Int64) (hD : mo_D B D P O M I A L) : Met l yy_MO_thrown ws_MO_thrown ({ frames := 0, cells := 0, slots := 0, locals := 0 }) (hm_Pc B D G M [.ref (P 0)]) (hm_Ni B D (fun r M1 => r = I 0 ∧ M1 = M)) (0) (0) (hm_A B) := by
  refine Met.ofW (cc := cd_MO_thrown) (maxL := 1) (ret := ((some FieldType.int))) (by decide) rfl ?_
  intro p e s m args below meth c s₁ B0 hml hv
  obtain ⟨rfl, hE, hP⟩ := hv
  have hx := B0.exec
  have hb := B0.bytes
  have hr := B0.returns
  have hts : ∀ w ∈ tb_G, w.before _ s = true := fun w h => atoms_spec (ws := ws_MO_thrown) B0.pre w (List.mem_cons_of_mem _ h)
  have hown : s.vm.findClass "RouteDeskModel" = some m.cls := findClass_of_methodNamed B0.named
  have hlocks := B0.notSynchronized
  have hRf : (headSpec ws_MO_thrown { frames := 0, cells := 0, slots := 0, locals := 0 }).room.frames = 0 := rfl
  have hRl : (headSpec ws_MO_thrown { frames := 0, cells := 0, slots := 0, locals := 0 }).room.locals = 0 := rfl
  have hRc : (headSpec ws_MO_thrown { frames := 0, cells := 0, slots := 0, locals := 0 }).room.cells = 0 := rfl
  have hRs : (headSpec ws_MO_thrown { frames := 0, cells := 0, slots := 0, locals := 0 }).room.slots = 0 := rfl
  generalize (headSpec ws_MO_thrown { frames := 0, cells := 0, slots := 0, locals := 0 }).room = R at hRf hRl hRc hRs ⊢
  have hS : va_S (hm_A B) s.heap s.heap [] := va_S.rf
  have hl := lv_entry ([.ref (P 0)]) (n := 1) (Nat.le_of_ble_eq_true rfl)
  rw [lg_entry_eq]
  generalize (lg_sl ([.ref (P 0)]) ++ List.replicate (1 - (lg_sl ([.ref (P 0)])).length) Slot.unset).toArray = ls at hl ⊢
  have hl : lv_has ls 1 [(0, .ref (P 0))] := hl
  obtain ⟨p0, p1, p3, p4, p5, p7, p8, p9, p10, p11, p14, p15, p16, p17, p19, p20, p21, po, pb⟩ := id hD
  refine lv_aload_n hx hb dd_MO_thrown_0 rfl (lv_at hl 0 rfl) ?_
  refine hm_get (ci := 6) (C := rn_MO) (T := ft_MO) (N := 22) hx hb hts fi_MO hown hE.K hP p0 rfl 0 (by decide) (hts _ tw_986) (fun _ h9 => h9) rfl dd_MO_thrown_1 ?_
  exact hm_Ei (v := (I 0)) hx hb hr rfl hS hP (⟨rfl, rfl⟩) hlocks (by omega) (by omega) dd_MO_thrown_4
set_option maxHeartbeats 4000000 in
set_option maxRecDepth 100000 in
theorem kc_MO_raise (l : Launch) (B : Nat) (D : va_G) (G : Nat → Nat) (M : hm_M) (P O : Nat → Nat) (I : Nat → Int32) (A : Nat → Nat → Int32) (L : Nat → Nat → Int64) (hD : mo_D B D P O M I A L) (c9 : Int32) : Met l yy_MO_raise ws_MO_raise ({ frames := 0, cells := 0, slots := 0, locals := 0 }) (hm_Pc B D G M [.ref (P 0), .int c9]) (hm_Ni B D (fun r M1 => r = nI 0 ∧ mo_D B D P O M1 (va_up I 0 c9) A L ∧ cz_F O M O M1 pm)) (0) (0) (hm_A B) := by
  refine Met.ofW (cc := cd_MO_raise) (maxL := 2) (ret := ((some FieldType.int))) (by decide) rfl ?_
  intro p e s m args below meth c s₁ B0 hml hv
  obtain ⟨rfl, hE, hP⟩ := hv
  have hx := B0.exec
  have hb := B0.bytes
  have hr := B0.returns
  have hts : ∀ w ∈ tb_G, w.before _ s = true := fun w h => atoms_spec (ws := ws_MO_raise) B0.pre w (List.mem_cons_of_mem _ h)
  have hown : s.vm.findClass "RouteDeskModel" = some m.cls := findClass_of_methodNamed B0.named
  have hlocks := B0.notSynchronized
  have hRf : (headSpec ws_MO_raise { frames := 0, cells := 0, slots := 0, locals := 0 }).room.frames = 0 := rfl
  have hRl : (headSpec ws_MO_raise { frames := 0, cells := 0, slots := 0, locals := 0 }).room.locals = 0 := rfl
  have hRc : (headSpec ws_MO_raise { frames := 0, cells := 0, slots := 0, locals := 0 }).room.cells = 0 := rfl
  have hRs : (headSpec ws_MO_raise { frames := 0, cells := 0, slots := 0, locals := 0 }).room.slots = 0 := rfl
  generalize (headSpec ws_MO_raise { frames := 0, cells := 0, slots := 0, locals := 0 }).room = R at hRf hRl hRc hRs ⊢
  have hS : va_S (hm_A B) s.heap s.heap [] := va_S.rf
  have hl := lv_entry ([.ref (P 0), .int c9]) (n := 2) (Nat.le_of_ble_eq_true rfl)
  rw [lg_entry_eq]
  generalize (lg_sl ([.ref (P 0), .int c9]) ++ List.replicate (2 - (lg_sl ([.ref (P 0), .int c9])).length) Slot.unset).toArray = ls at hl ⊢
  have hl : lv_has ls 2 [(0, .ref (P 0)), (1, .int c9)] := hl
  obtain ⟨p0, p1, p3, p4, p5, p7, p8, p9, p10, p11, p14, p15, p16, p17, p19, p20, p21, po, pb⟩ := id hD
  refine lv_aload_n hx hb dd_MO_raise_0 rfl (lv_at hl 0 rfl) ?_
  refine lv_iload_n hx hb dd_MO_raise_1 rfl (lv_at hl 1 rfl) ?_
  refine hm_put (ci := 6) (v := .int c9) (ty := .int) (C := rn_MO) (T := ft_MO) (N := 22) hx hb hts fi_MO fy_MO fo_MO fn_MO hown hE.K hP hS (pb 0 (by decide)) p0 rfl 0 (by decide) (hts _ tw_986) (fun _ h9 => h9) rfl (by decide +kernel) rfl rfl (Nat.le_of_ble_eq_true rfl) dd_MO_raise_2 (fun H locs hP hS => ?_)
  have hP : hm_P D cl_W (hm_up M (P 0) (.inr (6, [.int c9, .ref (P 1), .int (I 2), .ref (P 3), .ref (P 4), .ref (P 5), .int (I 6), .ref (P 7), .ref (P 8), .ref (P 9), .ref (P 10), .ref (P 11), .int (I 12), .int (I 13), .ref (P 14), .ref (P 15), .ref (P 16), .ref (P 17), .int (I 18), .ref (P 19), .ref (P 20), .ref (P 21)]))) H := hP
  obtain ⟨M1, eM1⟩ : ∃ z, z = hm_up M (P 0) (.inr (6, [.int c9, .ref (P 1), .int (I 2), .ref (P 3), .ref (P 4), .ref (P 5), .int (I 6), .ref (P 7), .ref (P 8), .ref (P 9), .ref (P 10), .ref (P 11), .int (I 12), .int (I 13), .ref (P 14), .ref (P 15), .ref (P 16), .ref (P 17), .int (I 18), .ref (P 19), .ref (P 20), .ref (P 21)])) := ⟨_, rfl⟩
  rw [← eM1] at hP
  have f2 : M1 (P 1) = some (.inl (D.1 102, 48, .inl (A 1))) := by rw [eM1]; exact hm_up_o (hm_neO (po 1 (by decide)) (po 0 (by decide)) (by decide)) p1
  have f3 : M1 (P 3) = some (.inl (D.1 102, 16, .inl (A 3))) := by rw [eM1]; exact hm_up_o (hm_neO (po 3 (by decide)) (po 0 (by decide)) (by decide)) p3
  have f4 : M1 (P 4) = some (.inl (D.1 102, 16, .inl (A 4))) := by rw [eM1]; exact hm_up_o (hm_neO (po 4 (by decide)) (po 0 (by decide)) (by decide)) p4
  have f5 : M1 (P 5) = some (.inl (D.1 101, 16, .inl (A 5))) := by rw [eM1]; exact hm_up_o (hm_neO (po 5 (by decide)) (po 0 (by decide)) (by decide)) p5
  have f6 : M1 (P 7) = some (.inl (D.1 102, 120, .inl (A 7))) := by rw [eM1]; exact hm_up_o (hm_neO (po 7 (by decide)) (po 0 (by decide)) (by decide)) p7
  have f7 : M1 (P 8) = some (.inl (D.1 102, 120, .inl (A 8))) := by rw [eM1]; exact hm_up_o (hm_neO (po 8 (by decide)) (po 0 (by decide)) (by decide)) p8
  have f8 : M1 (P 9) = some (.inl (D.1 102, 120, .inl (A 9))) := by rw [eM1]; exact hm_up_o (hm_neO (po 9 (by decide)) (po 0 (by decide)) (by decide)) p9
  have f9 : M1 (P 10) = some (.inl (D.1 102, 5760, .inl (A 10))) := by rw [eM1]; exact hm_up_o (hm_neO (po 10 (by decide)) (po 0 (by decide)) (by decide)) p10
  have f10 : M1 (P 11) = some (.inl (D.1 102, 48, .inl (A 11))) := by rw [eM1]; exact hm_up_o (hm_neO (po 11 (by decide)) (po 0 (by decide)) (by decide)) p11
  have f11 : M1 (P 14) = some (.inl (D.1 103, 6, .inr (.inl (L 14)))) := by rw [eM1]; exact hm_up_o (hm_neO (po 14 (by decide)) (po 0 (by decide)) (by decide)) p14
  have f12 : M1 (P 15) = some (.inl (D.1 103, 6, .inr (.inl (L 15)))) := by rw [eM1]; exact hm_up_o (hm_neO (po 15 (by decide)) (po 0 (by decide)) (by decide)) p15
  have f13 : M1 (P 16) = some (.inl (D.1 101, 16, .inl (A 16))) := by rw [eM1]; exact hm_up_o (hm_neO (po 16 (by decide)) (po 0 (by decide)) (by decide)) p16
  have f14 : M1 (P 17) = some (.inl (D.1 101, 16, .inl (A 17))) := by rw [eM1]; exact hm_up_o (hm_neO (po 17 (by decide)) (po 0 (by decide)) (by decide)) p17
  have f15 : M1 (P 19) = some (.inl (D.1 101, 2601, .inl (A 19))) := by rw [eM1]; exact hm_up_o (hm_neO (po 19 (by decide)) (po 0 (by decide)) (by decide)) p19
  have f16 : M1 (P 20) = some (.inl (D.1 102, 52, .inl (A 20))) := by rw [eM1]; exact hm_up_o (hm_neO (po 20 (by decide)) (po 0 (by decide)) (by decide)) p20
  have f17 : M1 (P 21) = some (.inl (D.1 102, 52, .inl (A 21))) := by rw [eM1]; exact hm_up_o (hm_neO (po 21 (by decide)) (po 0 (by decide)) (by decide)) p21
  have f18 : M1 (P 0) = some (.inr (6, [.int c9, .ref (P 1), .int (I 2), .ref (P 3), .ref (P 4), .ref (P 5), .int (I 6), .ref (P 7), .ref (P 8), .ref (P 9), .ref (P 10), .ref (P 11), .int (I 12), .int (I 13), .ref (P 14), .ref (P 15), .ref (P 16), .ref (P 17), .int (I 18), .ref (P 19), .ref (P 20), .ref (P 21)])) := by rw [eM1]; exact hm_up_s
  refine lv_iconst (v := nI 0) hx hb dd_MO_raise_5 (by decide +kernel) ?_
  have kk19 : hm_k M M [(P 0)] := hm_krf
  have kk20 : hm_k M M1 [(P 0)] := hm_ku kk19 (Or.inr (by simp)) eM1
  exact hm_Ei (v := nI 0) hx hb hr rfl hS hP (⟨rfl, ⟨f18, f2, f3, f4, f5, f6, f7, f8, f9, f10, f11, f12, f13, f14, f15, f16, f17, po, pb⟩, cz_F.k0 kk20 (hm_a1 ⟨by rw [po 0 (by decide)]; unfold pm; omega, _, f18⟩)⟩) hlocks (by omega) (by omega) dd_MO_raise_6
set_option maxHeartbeats 4000000 in
set_option maxRecDepth 100000 in
theorem kc_MO_isExchange (l : Launch) (B : Nat) (D : va_G) (G : Nat → Nat) (M : hm_M) (P O : Nat → Nat) (I : Nat → Int32) (A : Nat → Nat → Int32) (L : Nat → Nat → Int64) (hD : mo_D B D P O M I A L) (x : Int32) : Met l yy_MO_isExchange ws_MO_isExchange ({ frames := 0, cells := 0, slots := 0, locals := 0 }) (hm_Pc B D G M [.ref (P 0), .int x]) (hm_Ni B D (fun r M1 => r = nI (bz (me_x A x)) ∧ M1 = M)) (0) (0) (hm_A B) := by
  refine Met.ofW (cc := cd_MO_isExchange) (maxL := 2) (ret := ((some FieldType.boolean))) (by decide) rfl ?_
  intro p e s m args below meth c s₁ B0 hml hv
  obtain ⟨rfl, hE, hP⟩ := hv
  have hx := B0.exec
  have hb := B0.bytes
  have hr := B0.returns
  have hts : ∀ w ∈ tb_G, w.before _ s = true := fun w h => atoms_spec (ws := ws_MO_isExchange) B0.pre w (List.mem_cons_of_mem _ h)
  have hown : s.vm.findClass "RouteDeskModel" = some m.cls := findClass_of_methodNamed B0.named
  have hlocks := B0.notSynchronized
  have hRf : (headSpec ws_MO_isExchange { frames := 0, cells := 0, slots := 0, locals := 0 }).room.frames = 0 := rfl
  have hRl : (headSpec ws_MO_isExchange { frames := 0, cells := 0, slots := 0, locals := 0 }).room.locals = 0 := rfl
  have hRc : (headSpec ws_MO_isExchange { frames := 0, cells := 0, slots := 0, locals := 0 }).room.cells = 0 := rfl
  have hRs : (headSpec ws_MO_isExchange { frames := 0, cells := 0, slots := 0, locals := 0 }).room.slots = 0 := rfl
  generalize (headSpec ws_MO_isExchange { frames := 0, cells := 0, slots := 0, locals := 0 }).room = R at hRf hRl hRc hRs ⊢
  have hS : va_S (hm_A B) s.heap s.heap [] := va_S.rf
  have hl := lv_entry ([.ref (P 0), .int x]) (n := 2) (Nat.le_of_ble_eq_true rfl)
  rw [lg_entry_eq]
  generalize (lg_sl ([.ref (P 0), .int x]) ++ List.replicate (2 - (lg_sl ([.ref (P 0), .int x])).length) Slot.unset).toArray = ls at hl ⊢
  have hl : lv_has ls 2 [(0, .ref (P 0)), (1, .int x)] := hl
  have t16 : (nI 16).toInt = 16 := by decide
  have tm1 : (-1 : Int32).toInt = -1 := by decide
  have t0 : (nI 0).toInt = 0 := by decide
  have t2 : (nI 2).toInt = 2 := by decide
  have t3 : (nI 3).toInt = 3 := by decide
  obtain ⟨p0, p1, p3, p4, p5, p7, p8, p9, p10, p11, p14, p15, p16, p17, p19, p20, p21, po, pb⟩ := id hD
  refine lv_iload_n hx hb dd_MO_isExchange_0 rfl (lv_at hl 1 rfl) ?_
  refine hi_if_lt (tgt := 24) hx hb dd_MO_isExchange_1 (by decide) (fun c1 => ?_) (fun c1 => ?_)
  · have hno : me_x A x = false := by rw [me_x, decide_eq_false (fun h9 => by have := h9.1; have := h9.2; omega)]; rfl
    refine lv_iconst (v := nI 0) hx hb dd_MO_isExchange_24 (by decide +kernel) ?_
    exact hm_Ei (v := nI 0) hx hb hr rfl hS hP (⟨bz_0 hno, rfl⟩) hlocks (by omega) (by omega) dd_MO_isExchange_25
  · refine lv_iload_n hx hb dd_MO_isExchange_4 rfl (lv_at hl 1 rfl) ?_
    refine lv_bipush (v := nI 16) hx hb dd_MO_isExchange_5 (by decide +kernel) ?_
    refine hi_icmp_ge (tgt := 24) hx hb dd_MO_isExchange_7 (by decide) (fun c2 => ?_) (fun c2 => ?_)
    · have hno : me_x A x = false := by rw [me_x, decide_eq_false (fun h9 => by have := h9.1; have := h9.2; omega)]; rfl
      refine lv_iconst (v := nI 0) hx hb dd_MO_isExchange_24 (by decide +kernel) ?_
      exact hm_Ei (v := nI 0) hx hb hr rfl hS hP (⟨bz_0 hno, rfl⟩) hlocks (by omega) (by omega) dd_MO_isExchange_25
    · refine lv_aload_n hx hb dd_MO_isExchange_10 rfl (lv_at hl 0 rfl) ?_
      refine hm_get (ci := 6) (C := rn_MO) (T := ft_MO) (N := 22) hx hb hts fi_MO hown hE.K hP p0 rfl 3 (by decide) (hts _ tw_989) (fun _ h9 => h9) rfl dd_MO_isExchange_11 ?_
      refine lv_iload_n hx hb dd_MO_isExchange_14 rfl (lv_at hl 1 rfl) ?_
      refine hm_iald (j := x.toInt.toNat) hx hb hE.K hP 2 p3 rfl (hi_in (by omega) (by omega)) hi_clamp dd_MO_isExchange_15 ?_
      refine lv_iconst (v := (-1)) hx hb dd_MO_isExchange_16 (by decide +kernel) ?_
      refine hi_icmp_eq (tgt := 24) hx hb dd_MO_isExchange_17 (by decide) (fun c3 => ?_) (fun c3 => ?_)
      · have hno : me_x A x = false := by rw [me_x, decide_eq_true (hi_eq (by omega) : A 3 x.toInt.toNat = -1)]; simp
        refine lv_iconst (v := nI 0) hx hb dd_MO_isExchange_24 (by decide +kernel) ?_
        exact hm_Ei (v := nI 0) hx hb hr rfl hS hP (⟨bz_0 hno, rfl⟩) hlocks (by omega) (by omega) dd_MO_isExchange_25
      · have hyes : me_x A x = true := by rw [me_x, decide_eq_false (hi_ne c3), decide_eq_true ⟨by omega, by omega⟩]; rfl
        refine lv_iconst (v := nI 1) hx hb dd_MO_isExchange_20 (by decide +kernel) ?_
        refine lv_goto (tgt := 25) hx hb dd_MO_isExchange_21 (by decide) ?_
        exact hm_Ei (v := nI 1) hx hb hr rfl hS hP (⟨bz_1 hyes, rfl⟩) hlocks (by omega) (by omega) dd_MO_isExchange_25
set_option maxHeartbeats 4000000 in
set_option maxRecDepth 100000 in
theorem kc_MO_isQueue (l : Launch) (B : Nat) (D : va_G) (G : Nat → Nat) (M : hm_M) (P O : Nat → Nat) (I : Nat → Int32) (A : Nat → Nat → Int32) (L : Nat → Nat → Int64) (hD : mo_D B D P O M I A L) (qs : Nat → Bool) (hQ : A 5 = fun k => nI (bz (qs k))) (x : Int32) : Met l yy_MO_isQueue ws_MO_isQueue ({ frames := 0, cells := 0, slots := 0, locals := 0 }) (hm_Pc B D G M [.ref (P 0), .int x]) (hm_Ni B D (fun r M1 => r = nI (bz (qu_at qs x)) ∧ M1 = M)) (0) (0) (hm_A B) := by
  refine Met.ofW (cc := cd_MO_isQueue) (maxL := 2) (ret := ((some FieldType.boolean))) (by decide) rfl ?_
  intro p e s m args below meth c s₁ B0 hml hv
  obtain ⟨rfl, hE, hP⟩ := hv
  have hx := B0.exec
  have hb := B0.bytes
  have hr := B0.returns
  have hts : ∀ w ∈ tb_G, w.before _ s = true := fun w h => atoms_spec (ws := ws_MO_isQueue) B0.pre w (List.mem_cons_of_mem _ h)
  have hown : s.vm.findClass "RouteDeskModel" = some m.cls := findClass_of_methodNamed B0.named
  have hlocks := B0.notSynchronized
  have hRf : (headSpec ws_MO_isQueue { frames := 0, cells := 0, slots := 0, locals := 0 }).room.frames = 0 := rfl
  have hRl : (headSpec ws_MO_isQueue { frames := 0, cells := 0, slots := 0, locals := 0 }).room.locals = 0 := rfl
  have hRc : (headSpec ws_MO_isQueue { frames := 0, cells := 0, slots := 0, locals := 0 }).room.cells = 0 := rfl
  have hRs : (headSpec ws_MO_isQueue { frames := 0, cells := 0, slots := 0, locals := 0 }).room.slots = 0 := rfl
  generalize (headSpec ws_MO_isQueue { frames := 0, cells := 0, slots := 0, locals := 0 }).room = R at hRf hRl hRc hRs ⊢
  have hS : va_S (hm_A B) s.heap s.heap [] := va_S.rf
  have hl := lv_entry ([.ref (P 0), .int x]) (n := 2) (Nat.le_of_ble_eq_true rfl)
  rw [lg_entry_eq]
  generalize (lg_sl ([.ref (P 0), .int x]) ++ List.replicate (2 - (lg_sl ([.ref (P 0), .int x])).length) Slot.unset).toArray = ls at hl ⊢
  have hl : lv_has ls 2 [(0, .ref (P 0)), (1, .int x)] := hl
  have t16 : (nI 16).toInt = 16 := by decide
  have tm1 : (-1 : Int32).toInt = -1 := by decide
  have t0 : (nI 0).toInt = 0 := by decide
  have t2 : (nI 2).toInt = 2 := by decide
  have t3 : (nI 3).toInt = 3 := by decide
  obtain ⟨p0, p1, p3, p4, p5, p7, p8, p9, p10, p11, p14, p15, p16, p17, p19, p20, p21, po, pb⟩ := id hD
  refine lv_iload_n hx hb dd_MO_isQueue_0 rfl (lv_at hl 1 rfl) ?_
  refine hi_if_lt (tgt := 23) hx hb dd_MO_isQueue_1 (by decide) (fun c1 => ?_) (fun c1 => ?_)
  · have hno : qu_at qs x = false := by rw [qu_at, decide_eq_false (fun h9 => by have := h9.1; have := h9.2; omega)]; rfl
    refine lv_iconst (v := nI 0) hx hb dd_MO_isQueue_23 (by decide +kernel) ?_
    exact hm_Ei (v := nI 0) hx hb hr rfl hS hP (⟨bz_0 hno, rfl⟩) hlocks (by omega) (by omega) dd_MO_isQueue_24
  · refine lv_iload_n hx hb dd_MO_isQueue_4 rfl (lv_at hl 1 rfl) ?_
    refine lv_bipush (v := nI 16) hx hb dd_MO_isQueue_5 (by decide +kernel) ?_
    refine hi_icmp_ge (tgt := 23) hx hb dd_MO_isQueue_7 (by decide) (fun c2 => ?_) (fun c2 => ?_)
    · have hno : qu_at qs x = false := by rw [qu_at, decide_eq_false (fun h9 => by have := h9.1; have := h9.2; omega)]; rfl
      refine lv_iconst (v := nI 0) hx hb dd_MO_isQueue_23 (by decide +kernel) ?_
      exact hm_Ei (v := nI 0) hx hb hr rfl hS hP (⟨bz_0 hno, rfl⟩) hlocks (by omega) (by omega) dd_MO_isQueue_24
    · refine lv_aload_n hx hb dd_MO_isQueue_10 rfl (lv_at hl 0 rfl) ?_
      refine hm_get (ci := 6) (C := rn_MO) (T := ft_MO) (N := 22) hx hb hts fi_MO hown hE.K hP p0 rfl 5 (by decide) (hts _ tw_991) (fun _ h9 => h9) rfl dd_MO_isQueue_11 ?_
      refine lv_iload_n hx hb dd_MO_isQueue_14 rfl (lv_at hl 1 rfl) ?_
      refine hm_zald (j := x.toInt.toNat) hx hb hE.K hP 1 p5 rfl (hi_in (by omega) (by omega)) hi_clamp dd_MO_isQueue_15 ?_
      rw [hQ]
      refine W.eq (g2 := F0 m 16 ls [.int (nI (bz (qs x.toInt.toNat)))]) rfl ?_
      refine hn_if_eq (tgt := 23) hx hb (bz_b _) dd_MO_isQueue_16 (by decide) (fun c3 => ?_) (fun c3 => ?_)
      · have hno : qu_at qs x = false := by rw [qu_at, bz_f c3, Bool.and_false]
        refine lv_iconst (v := nI 0) hx hb dd_MO_isQueue_23 (by decide +kernel) ?_
        exact hm_Ei (v := nI 0) hx hb hr rfl hS hP (⟨bz_0 hno, rfl⟩) hlocks (by omega) (by omega) dd_MO_isQueue_24
      · have hyes : qu_at qs x = true := by rw [qu_at, bz_t c3, decide_eq_true ⟨by omega, by omega⟩]; rfl
        refine lv_iconst (v := nI 1) hx hb dd_MO_isQueue_19 (by decide +kernel) ?_
        refine lv_goto (tgt := 24) hx hb dd_MO_isQueue_20 (by decide) ?_
        exact hm_Ei (v := nI 1) hx hb hr rfl hS hP (⟨bz_1 hyes, rfl⟩) hlocks (by omega) (by omega) dd_MO_isQueue_24
set_option maxHeartbeats 4000000 in
set_option maxRecDepth 100000 in
theorem kc_MO_isGoal (l : Launch) (B : Nat) (D : va_G) (G : Nat → Nat) (M : hm_M) (P O : Nat → Nat) (I : Nat → Int32) (A : Nat → Nat → Int32) (L : Nat → Nat → Int64) (hD : mo_D B D P O M I A L) (qs : Nat → Bool) (hQ : A 5 = fun k => nI (bz (qs k))) (x : Int32) (q : Bool) : Met l yy_MO_isGoal ws_MO_isGoal ({ frames := 1, cells := 0, slots := 0, locals := 21 }) (hm_Pc B D G M [.ref (P 0), .int x, .int (nI (bz q))]) (hm_Ni B D (fun r M1 => r = nI (bz ((if q then qu_at qs x else me_x A x))) ∧ M1 = M)) (0) (0) (hm_A B) := by
  refine Met.ofW (cc := cd_MO_isGoal) (maxL := 3) (ret := ((some FieldType.boolean))) (by decide) rfl ?_
  intro p e s m args below meth c s₁ B0 hml hv
  obtain ⟨rfl, hE, hP⟩ := hv
  have hx := B0.exec
  have hb := B0.bytes
  have hr := B0.returns
  have hts : ∀ w ∈ tb_G, w.before _ s = true := fun w h => atoms_spec (ws := ws_MO_isGoal) B0.pre w (List.mem_cons_of_mem _ h)
  have hown : s.vm.findClass "RouteDeskModel" = some m.cls := findClass_of_methodNamed B0.named
  have hlocks := B0.notSynchronized
  have hRf : (headSpec ws_MO_isGoal { frames := 1, cells := 0, slots := 0, locals := 21 }).room.frames = 1 := rfl
  have hRl : (headSpec ws_MO_isGoal { frames := 1, cells := 0, slots := 0, locals := 21 }).room.locals = 21 := rfl
  have hRc : (headSpec ws_MO_isGoal { frames := 1, cells := 0, slots := 0, locals := 21 }).room.cells = 0 := rfl
  have hRs : (headSpec ws_MO_isGoal { frames := 1, cells := 0, slots := 0, locals := 21 }).room.slots = 0 := rfl
  generalize (headSpec ws_MO_isGoal { frames := 1, cells := 0, slots := 0, locals := 21 }).room = R at hRf hRl hRc hRs ⊢
  have hS : va_S (hm_A B) s.heap s.heap [] := va_S.rf
  have hl := lv_entry ([.ref (P 0), .int x, .int (nI (bz q))]) (n := 3) (Nat.le_of_ble_eq_true rfl)
  rw [lg_entry_eq]
  generalize (lg_sl ([.ref (P 0), .int x, .int (nI (bz q))]) ++ List.replicate (3 - (lg_sl ([.ref (P 0), .int x, .int (nI (bz q))])).length) Slot.unset).toArray = ls at hl ⊢
  have hl : lv_has ls 3 [(0, .ref (P 0)), (1, .int x), (2, .int (nI (bz q)))] := hl
  obtain ⟨p0, p1, p3, p4, p5, p7, p8, p9, p10, p11, p14, p15, p16, p17, p19, p20, p21, po, pb⟩ := id hD
  refine lv_iload_n hx hb dd_MO_isGoal_0 rfl (lv_at hl 2 rfl) ?_
  refine hn_if_eq (tgt := 12) hx hb (bz_b _) dd_MO_isGoal_1 (by decide) (fun c1 => ?_) (fun c1 => ?_)
  · have hq := bz_f c1
    refine lv_aload_n hx hb dd_MO_isGoal_12 rfl (lv_at hl 0 rfl) ?_
    refine lv_iload_n hx hb dd_MO_isGoal_13 rfl (lv_at hl 1 rfl) ?_
    refine hm_ci hS (hm_rV 1 (As := [.int x]) (rest := []) ⟨hx, hb, hml, hown, hts⟩ hE hS hP (kc_MO_isExchange l B D G M P O I A L hD x) rfl p0 tw_1078 tw_1075 tw_1077 tw_18 tw_46 (by decide +kernel) rfl rfl ⟨by show 0 + 1 ≤ R.frames; omega, by show 8 + (2 + 11) + 0 ≤ R.locals; omega⟩ rfl hl.1 rfl (Nat.le_of_ble_eq_true rfl) dd_MO_isGoal_14 ⟨by omega, by omega⟩) (fun r2 M3 H locs hw4 hP hS => ?_)
    refine W.widen (k := 0) (n := 0) (by omega) (by omega) ?_
    obtain ⟨rfl, eM3⟩ := hw4
    rw [eM3] at hP
    exact hm_Ei (v := nI (bz (me_x A x))) hx hb hr (bz_n _) hS hP (⟨by rw [hq]; rfl, rfl⟩) hlocks (by omega) (by omega) dd_MO_isGoal_17
  · have hq := bz_t c1
    refine lv_aload_n hx hb dd_MO_isGoal_4 rfl (lv_at hl 0 rfl) ?_
    refine lv_iload_n hx hb dd_MO_isGoal_5 rfl (lv_at hl 1 rfl) ?_
    refine hm_ci hS (hm_rV 1 (As := [.int x]) (rest := []) ⟨hx, hb, hml, hown, hts⟩ hE hS hP (kc_MO_isQueue l B D G M P O I A L hD qs hQ x) rfl p0 tw_1090 tw_1087 tw_1089 tw_19 tw_46 (by decide +kernel) rfl rfl ⟨by show 0 + 1 ≤ R.frames; omega, by show 8 + (2 + 11) + 0 ≤ R.locals; omega⟩ rfl hl.1 rfl (Nat.le_of_ble_eq_true rfl) dd_MO_isGoal_6 ⟨by omega, by omega⟩) (fun r5 M6 H locs hw7 hP hS => ?_)
    refine W.widen (k := 0) (n := 0) (by omega) (by omega) ?_
    obtain ⟨rfl, eM6⟩ := hw7
    rw [eM6] at hP
    refine lv_goto (tgt := 17) hx hb dd_MO_isGoal_9 (by decide) ?_
    exact hm_Ei (v := nI (bz (qu_at qs x))) hx hb hr (bz_n _) hS hP (⟨by rw [hq]; rfl, rfl⟩) hlocks (by omega) (by omega) dd_MO_isGoal_17
set_option maxHeartbeats 4000000 in
set_option maxRecDepth 100000 in
theorem kc_MO_isSmall (l : Launch) (B : Nat) (D : va_G) (G : Nat → Nat) (M : hm_M) (c9 : Nat) (hc9 : c9 < 128) : Met l yy_MO_isSmall ws_MO_isSmall ({ frames := 0, cells := 0, slots := 0, locals := 0 }) (hm_Pc B D G M [.int (nI c9)]) (hm_Ni B D (fun r M1 => r = nI (bz (ch_small c9)) ∧ M1 = M)) (0) (0) (hm_A B) := by
  refine Met.ofW (cc := cd_MO_isSmall) (maxL := 1) (ret := ((some FieldType.boolean))) (by decide) rfl ?_
  intro p e s m args below meth c s₁ B0 hml hv
  obtain ⟨rfl, hE, hP⟩ := hv
  have hx := B0.exec
  have hb := B0.bytes
  have hr := B0.returns
  have hts : ∀ w ∈ tb_G, w.before _ s = true := fun w h => atoms_spec (ws := ws_MO_isSmall) B0.pre w (List.mem_cons_of_mem _ h)
  have hown : s.vm.findClass "RouteDeskModel" = some m.cls := findClass_of_methodNamed B0.named
  have hlocks := B0.notSynchronized
  have hRf : (headSpec ws_MO_isSmall { frames := 0, cells := 0, slots := 0, locals := 0 }).room.frames = 0 := rfl
  have hRl : (headSpec ws_MO_isSmall { frames := 0, cells := 0, slots := 0, locals := 0 }).room.locals = 0 := rfl
  have hRc : (headSpec ws_MO_isSmall { frames := 0, cells := 0, slots := 0, locals := 0 }).room.cells = 0 := rfl
  have hRs : (headSpec ws_MO_isSmall { frames := 0, cells := 0, slots := 0, locals := 0 }).room.slots = 0 := rfl
  generalize (headSpec ws_MO_isSmall { frames := 0, cells := 0, slots := 0, locals := 0 }).room = R at hRf hRl hRc hRs ⊢
  have hS : va_S (hm_A B) s.heap s.heap [] := va_S.rf
  have hl := lv_entry ([.int (nI c9)]) (n := 1) (Nat.le_of_ble_eq_true rfl)
  rw [lg_entry_eq]
  generalize (lg_sl ([.int (nI c9)]) ++ List.replicate (1 - (lg_sl ([.int (nI c9)])).length) Slot.unset).toArray = ls at hl ⊢
  have hl : lv_has ls 1 [(0, .int (nI c9))] := hl
  refine lv_iload_n hx hb dd_MO_isSmall_0 rfl (lv_at hl 0 rfl) ?_
  refine lv_bipush (v := nI 97) hx hb dd_MO_isSmall_1 (by decide +kernel) ?_
  refine hn_icmp_lt (tgt := 16) hx hb (by omega) (by omega) dd_MO_isSmall_3 (by decide) (fun c1 => ?_) (fun c1 => ?_)
  · refine lv_iconst (v := nI 0) hx hb dd_MO_isSmall_16 (by decide +kernel) ?_
    exact hm_Ei (v := nI 0) hx hb hr rfl hS hP (⟨bz_0 (decide_eq_false (by omega)), rfl⟩) hlocks (by omega) (by omega) dd_MO_isSmall_17
  · refine lv_iload_n hx hb dd_MO_isSmall_6 rfl (lv_at hl 0 rfl) ?_
    refine lv_bipush (v := nI 122) hx hb dd_MO_isSmall_7 (by decide +kernel) ?_
    refine hn_icmp_gt (tgt := 16) hx hb (by omega) (by omega) dd_MO_isSmall_9 (by decide) (fun c2 => ?_) (fun c2 => ?_)
    · refine lv_iconst (v := nI 0) hx hb dd_MO_isSmall_16 (by decide +kernel) ?_
      exact hm_Ei (v := nI 0) hx hb hr rfl hS hP (⟨bz_0 (decide_eq_false (by omega)), rfl⟩) hlocks (by omega) (by omega) dd_MO_isSmall_17
    · refine lv_iconst (v := nI 1) hx hb dd_MO_isSmall_12 (by decide +kernel) ?_
      refine lv_goto (tgt := 17) hx hb dd_MO_isSmall_13 (by decide) ?_
      exact hm_Ei (v := nI 1) hx hb hr rfl hS hP (⟨bz_1 (decide_eq_true (by omega)), rfl⟩) hlocks (by omega) (by omega) dd_MO_isSmall_17
set_option maxHeartbeats 4000000 in
set_option maxRecDepth 100000 in
theorem kc_MO_isPart (l : Launch) (B : Nat) (D : va_G) (G : Nat → Nat) (M : hm_M) (c9 : Nat) (hc9 : c9 < 128) : Met l yy_MO_isPart ws_MO_isPart ({ frames := 1, cells := 0, slots := 0, locals := 20 }) (hm_Pc B D G M [.int (nI c9)]) (hm_Ni B D (fun r M1 => r = nI (bz (ch_part c9)) ∧ M1 = M)) (0) (0) (hm_A B) := by
  refine Met.ofW (cc := cd_MO_isPart) (maxL := 1) (ret := ((some FieldType.boolean))) (by decide) rfl ?_
  intro p e s m args below meth c s₁ B0 hml hv
  obtain ⟨rfl, hE, hP⟩ := hv
  have hx := B0.exec
  have hb := B0.bytes
  have hr := B0.returns
  have hts : ∀ w ∈ tb_G, w.before _ s = true := fun w h => atoms_spec (ws := ws_MO_isPart) B0.pre w (List.mem_cons_of_mem _ h)
  have hown : s.vm.findClass "RouteDeskModel" = some m.cls := findClass_of_methodNamed B0.named
  have hlocks := B0.notSynchronized
  have hRf : (headSpec ws_MO_isPart { frames := 1, cells := 0, slots := 0, locals := 20 }).room.frames = 1 := rfl
  have hRl : (headSpec ws_MO_isPart { frames := 1, cells := 0, slots := 0, locals := 20 }).room.locals = 20 := rfl
  have hRc : (headSpec ws_MO_isPart { frames := 1, cells := 0, slots := 0, locals := 20 }).room.cells = 0 := rfl
  have hRs : (headSpec ws_MO_isPart { frames := 1, cells := 0, slots := 0, locals := 20 }).room.slots = 0 := rfl
  generalize (headSpec ws_MO_isPart { frames := 1, cells := 0, slots := 0, locals := 20 }).room = R at hRf hRl hRc hRs ⊢
  have hS : va_S (hm_A B) s.heap s.heap [] := va_S.rf
  have hl := lv_entry ([.int (nI c9)]) (n := 1) (Nat.le_of_ble_eq_true rfl)
  rw [lg_entry_eq]
  generalize (lg_sl ([.int (nI c9)]) ++ List.replicate (1 - (lg_sl ([.int (nI c9)])).length) Slot.unset).toArray = ls at hl ⊢
  have hl : lv_has ls 1 [(0, .int (nI c9))] := hl
  refine lv_iload_n hx hb dd_MO_isPart_0 rfl (lv_at hl 0 rfl) ?_
  refine hm_ci hS (hm_rS 1 (As := [.int (nI c9)]) (rest := []) ⟨hx, hb, hml, hown, hts⟩ hE hS hP (kc_MO_isSmall l B D G M c9 hc9) tw_1121 tw_1119 tw_1120 tw_46 (by decide +kernel) rfl rfl ⟨by show 0 + 1 ≤ R.frames; omega, by show 8 + (1 + 11) + 0 ≤ R.locals; omega⟩ rfl hl.1 rfl (Nat.le_of_ble_eq_true rfl) dd_MO_isPart_1 ⟨by omega, by omega⟩) (fun r1 M2 H locs hw3 hP hS => ?_)
  refine W.widen (k := 0) (n := 0) (by omega) (by omega) ?_
  obtain ⟨rfl, eM2⟩ := hw3
  rw [eM2] at hP
  refine hn_if_ne (tgt := 19) hx hb (bz_b _) dd_MO_isPart_4 (by decide) (fun c4 => ?_) (fun c4 => ?_)
  · have hy := bz_t c4
    refine lv_iconst (v := nI 1) hx hb dd_MO_isPart_19 (by decide +kernel) ?_
    refine lv_goto (tgt := 24) hx hb dd_MO_isPart_20 (by decide) ?_
    exact hm_Ei (v := nI 1) hx hb hr rfl hS hP (⟨bz_1 (by rw [ch_part, hy]; rfl), rfl⟩) hlocks (by omega) (by omega) dd_MO_isPart_24
  · have hn := bz_f c4
    refine lv_iload_n hx hb dd_MO_isPart_7 rfl (lv_at hl 0 rfl) ?_
    refine lv_bipush (v := nI 48) hx hb dd_MO_isPart_8 (by decide +kernel) ?_
    refine hn_icmp_lt (tgt := 23) hx hb (by omega) (by omega) dd_MO_isPart_10 (by decide) (fun c5 => ?_) (fun c5 => ?_)
    · refine lv_iconst (v := nI 0) hx hb dd_MO_isPart_23 (by decide +kernel) ?_
      exact hm_Ei (v := nI 0) hx hb hr rfl hS hP (⟨bz_0 (by rw [ch_part, hn, ch_digit, decide_eq_false (by omega)]; rfl), rfl⟩) hlocks (by omega) (by omega) dd_MO_isPart_24
    · refine lv_iload_n hx hb dd_MO_isPart_13 rfl (lv_at hl 0 rfl) ?_
      refine lv_bipush (v := nI 57) hx hb dd_MO_isPart_14 (by decide +kernel) ?_
      refine hn_icmp_gt (tgt := 23) hx hb (by omega) (by omega) dd_MO_isPart_16 (by decide) (fun c6 => ?_) (fun c6 => ?_)
      · refine lv_iconst (v := nI 0) hx hb dd_MO_isPart_23 (by decide +kernel) ?_
        exact hm_Ei (v := nI 0) hx hb hr rfl hS hP (⟨bz_0 (by rw [ch_part, hn, ch_digit, decide_eq_false (by omega)]; rfl), rfl⟩) hlocks (by omega) (by omega) dd_MO_isPart_24
      · refine lv_iconst (v := nI 1) hx hb dd_MO_isPart_19 (by decide +kernel) ?_
        refine lv_goto (tgt := 24) hx hb dd_MO_isPart_20 (by decide) ?_
        exact hm_Ei (v := nI 1) hx hb hr rfl hS hP (⟨bz_1 (by rw [ch_part, ch_digit, decide_eq_true (by omega)]; simp), rfl⟩) hlocks (by omega) (by omega) dd_MO_isPart_24
set_option maxHeartbeats 4000000 in
set_option maxRecDepth 100000 in
theorem kc_MO_passed (l : Launch) (B : Nat) (D : va_G) (G : Nat → Nat) (M : hm_M) (P O : Nat → Nat) (I : Nat → Int32) (A : Nat → Nat → Int32) (L : Nat → Nat → Int64) (hD : mo_D B D P O M I A L) (ps : Nat → Bool) (hPs : A 17 = fun k => nI (bz (ps k))) (x : Int32) : Met l yy_MO_passed ws_MO_passed ({ frames := 0, cells := 0, slots := 0, locals := 0 }) (hm_Pc B D G M [.ref (P 0), .int x]) (hm_Ni B D (fun r M1 => r = nI (bz (qu_at ps x)) ∧ mo_D B D P O M1 (va_up I 0 (nI 0)) A L ∧ cz_F O M O M1 pm)) (0) (0) (hm_A B) := by
  refine Met.ofW (cc := cd_MO_passed) (maxL := 2) (ret := ((some FieldType.boolean))) (by decide) rfl ?_
  intro p e s m args below meth c s₁ B0 hml hv
  obtain ⟨rfl, hE, hP⟩ := hv
  have hx := B0.exec
  have hb := B0.bytes
  have hr := B0.returns
  have hts : ∀ w ∈ tb_G, w.before _ s = true := fun w h => atoms_spec (ws := ws_MO_passed) B0.pre w (List.mem_cons_of_mem _ h)
  have hown : s.vm.findClass "RouteDeskModel" = some m.cls := findClass_of_methodNamed B0.named
  have hlocks := B0.notSynchronized
  have hRf : (headSpec ws_MO_passed { frames := 0, cells := 0, slots := 0, locals := 0 }).room.frames = 0 := rfl
  have hRl : (headSpec ws_MO_passed { frames := 0, cells := 0, slots := 0, locals := 0 }).room.locals = 0 := rfl
  have hRc : (headSpec ws_MO_passed { frames := 0, cells := 0, slots := 0, locals := 0 }).room.cells = 0 := rfl
  have hRs : (headSpec ws_MO_passed { frames := 0, cells := 0, slots := 0, locals := 0 }).room.slots = 0 := rfl
  generalize (headSpec ws_MO_passed { frames := 0, cells := 0, slots := 0, locals := 0 }).room = R at hRf hRl hRc hRs ⊢
  have hS : va_S (hm_A B) s.heap s.heap [] := va_S.rf
  have hl := lv_entry ([.ref (P 0), .int x]) (n := 2) (Nat.le_of_ble_eq_true rfl)
  rw [lg_entry_eq]
  generalize (lg_sl ([.ref (P 0), .int x]) ++ List.replicate (2 - (lg_sl ([.ref (P 0), .int x])).length) Slot.unset).toArray = ls at hl ⊢
  have hl : lv_has ls 2 [(0, .ref (P 0)), (1, .int x)] := hl
  have t16 : (nI 16).toInt = 16 := by decide
  have tm1 : (-1 : Int32).toInt = -1 := by decide
  have t0 : (nI 0).toInt = 0 := by decide
  have t2 : (nI 2).toInt = 2 := by decide
  have t3 : (nI 3).toInt = 3 := by decide
  obtain ⟨p0, p1, p3, p4, p5, p7, p8, p9, p10, p11, p14, p15, p16, p17, p19, p20, p21, po, pb⟩ := id hD
  refine lv_aload_n hx hb dd_MO_passed_0 rfl (lv_at hl 0 rfl) ?_
  refine lv_iconst (v := nI 0) hx hb dd_MO_passed_1 (by decide +kernel) ?_
  refine hm_put (ci := 6) (v := .int (nI 0)) (ty := .int) (C := rn_MO) (T := ft_MO) (N := 22) hx hb hts fi_MO fy_MO fo_MO fn_MO hown hE.K hP hS (pb 0 (by decide)) p0 rfl 0 (by decide) (hts _ tw_986) (fun _ h9 => h9) rfl (by decide +kernel) rfl rfl (Nat.le_of_ble_eq_true rfl) dd_MO_passed_2 (fun H locs hP hS => ?_)
  have hP : hm_P D cl_W (hm_up M (P 0) (.inr (6, [.int (nI 0), .ref (P 1), .int (I 2), .ref (P 3), .ref (P 4), .ref (P 5), .int (I 6), .ref (P 7), .ref (P 8), .ref (P 9), .ref (P 10), .ref (P 11), .int (I 12), .int (I 13), .ref (P 14), .ref (P 15), .ref (P 16), .ref (P 17), .int (I 18), .ref (P 19), .ref (P 20), .ref (P 21)]))) H := hP
  obtain ⟨M1, eM1⟩ : ∃ z, z = hm_up M (P 0) (.inr (6, [.int (nI 0), .ref (P 1), .int (I 2), .ref (P 3), .ref (P 4), .ref (P 5), .int (I 6), .ref (P 7), .ref (P 8), .ref (P 9), .ref (P 10), .ref (P 11), .int (I 12), .int (I 13), .ref (P 14), .ref (P 15), .ref (P 16), .ref (P 17), .int (I 18), .ref (P 19), .ref (P 20), .ref (P 21)])) := ⟨_, rfl⟩
  rw [← eM1] at hP
  have f2 : M1 (P 1) = some (.inl (D.1 102, 48, .inl (A 1))) := by rw [eM1]; exact hm_up_o (hm_neO (po 1 (by decide)) (po 0 (by decide)) (by decide)) p1
  have f3 : M1 (P 3) = some (.inl (D.1 102, 16, .inl (A 3))) := by rw [eM1]; exact hm_up_o (hm_neO (po 3 (by decide)) (po 0 (by decide)) (by decide)) p3
  have f4 : M1 (P 4) = some (.inl (D.1 102, 16, .inl (A 4))) := by rw [eM1]; exact hm_up_o (hm_neO (po 4 (by decide)) (po 0 (by decide)) (by decide)) p4
  have f5 : M1 (P 5) = some (.inl (D.1 101, 16, .inl (A 5))) := by rw [eM1]; exact hm_up_o (hm_neO (po 5 (by decide)) (po 0 (by decide)) (by decide)) p5
  have f6 : M1 (P 7) = some (.inl (D.1 102, 120, .inl (A 7))) := by rw [eM1]; exact hm_up_o (hm_neO (po 7 (by decide)) (po 0 (by decide)) (by decide)) p7
  have f7 : M1 (P 8) = some (.inl (D.1 102, 120, .inl (A 8))) := by rw [eM1]; exact hm_up_o (hm_neO (po 8 (by decide)) (po 0 (by decide)) (by decide)) p8
  have f8 : M1 (P 9) = some (.inl (D.1 102, 120, .inl (A 9))) := by rw [eM1]; exact hm_up_o (hm_neO (po 9 (by decide)) (po 0 (by decide)) (by decide)) p9
  have f9 : M1 (P 10) = some (.inl (D.1 102, 5760, .inl (A 10))) := by rw [eM1]; exact hm_up_o (hm_neO (po 10 (by decide)) (po 0 (by decide)) (by decide)) p10
  have f10 : M1 (P 11) = some (.inl (D.1 102, 48, .inl (A 11))) := by rw [eM1]; exact hm_up_o (hm_neO (po 11 (by decide)) (po 0 (by decide)) (by decide)) p11
  have f11 : M1 (P 14) = some (.inl (D.1 103, 6, .inr (.inl (L 14)))) := by rw [eM1]; exact hm_up_o (hm_neO (po 14 (by decide)) (po 0 (by decide)) (by decide)) p14
  have f12 : M1 (P 15) = some (.inl (D.1 103, 6, .inr (.inl (L 15)))) := by rw [eM1]; exact hm_up_o (hm_neO (po 15 (by decide)) (po 0 (by decide)) (by decide)) p15
  have f13 : M1 (P 16) = some (.inl (D.1 101, 16, .inl (A 16))) := by rw [eM1]; exact hm_up_o (hm_neO (po 16 (by decide)) (po 0 (by decide)) (by decide)) p16
  have f14 : M1 (P 17) = some (.inl (D.1 101, 16, .inl (A 17))) := by rw [eM1]; exact hm_up_o (hm_neO (po 17 (by decide)) (po 0 (by decide)) (by decide)) p17
  have f15 : M1 (P 19) = some (.inl (D.1 101, 2601, .inl (A 19))) := by rw [eM1]; exact hm_up_o (hm_neO (po 19 (by decide)) (po 0 (by decide)) (by decide)) p19
  have f16 : M1 (P 20) = some (.inl (D.1 102, 52, .inl (A 20))) := by rw [eM1]; exact hm_up_o (hm_neO (po 20 (by decide)) (po 0 (by decide)) (by decide)) p20
  have f17 : M1 (P 21) = some (.inl (D.1 102, 52, .inl (A 21))) := by rw [eM1]; exact hm_up_o (hm_neO (po 21 (by decide)) (po 0 (by decide)) (by decide)) p21
  have f18 : M1 (P 0) = some (.inr (6, [.int (nI 0), .ref (P 1), .int (I 2), .ref (P 3), .ref (P 4), .ref (P 5), .int (I 6), .ref (P 7), .ref (P 8), .ref (P 9), .ref (P 10), .ref (P 11), .int (I 12), .int (I 13), .ref (P 14), .ref (P 15), .ref (P 16), .ref (P 17), .int (I 18), .ref (P 19), .ref (P 20), .ref (P 21)])) := by rw [eM1]; exact hm_up_s
  refine lv_iload_n hx hb dd_MO_passed_5 rfl (lv_at hl 1 rfl) ?_
  refine hi_if_lt (tgt := 28) hx hb dd_MO_passed_6 (by decide) (fun c19 => ?_) (fun c19 => ?_)
  · have hno : qu_at ps x = false := by rw [qu_at, decide_eq_false (fun h9 => by have := h9.1; have := h9.2; omega)]; rfl
    refine lv_iconst (v := nI 0) hx hb dd_MO_passed_28 (by decide +kernel) ?_
    have kk20 : hm_k M M [(P 0)] := hm_krf
    have kk21 : hm_k M M1 [(P 0)] := hm_ku kk20 (Or.inr (by simp)) eM1
    exact hm_Ei (v := nI 0) hx hb hr rfl hS hP (⟨bz_0 hno, ⟨f18, f2, f3, f4, f5, f6, f7, f8, f9, f10, f11, f12, f13, f14, f15, f16, f17, po, pb⟩, cz_F.k0 kk21 (hm_a1 ⟨by rw [po 0 (by decide)]; unfold pm; omega, _, f18⟩)⟩) hlocks (by omega) (by omega) dd_MO_passed_29
  · refine lv_iload_n hx hb dd_MO_passed_9 rfl (lv_at hl 1 rfl) ?_
    refine lv_bipush (v := nI 16) hx hb dd_MO_passed_10 (by decide +kernel) ?_
    refine hi_icmp_ge (tgt := 28) hx hb dd_MO_passed_12 (by decide) (fun c22 => ?_) (fun c22 => ?_)
    · have hno : qu_at ps x = false := by rw [qu_at, decide_eq_false (fun h9 => by have := h9.1; have := h9.2; omega)]; rfl
      refine lv_iconst (v := nI 0) hx hb dd_MO_passed_28 (by decide +kernel) ?_
      have kk23 : hm_k M M [(P 0)] := hm_krf
      have kk24 : hm_k M M1 [(P 0)] := hm_ku kk23 (Or.inr (by simp)) eM1
      exact hm_Ei (v := nI 0) hx hb hr rfl hS hP (⟨bz_0 hno, ⟨f18, f2, f3, f4, f5, f6, f7, f8, f9, f10, f11, f12, f13, f14, f15, f16, f17, po, pb⟩, cz_F.k0 kk24 (hm_a1 ⟨by rw [po 0 (by decide)]; unfold pm; omega, _, f18⟩)⟩) hlocks (by omega) (by omega) dd_MO_passed_29
    · refine lv_aload_n hx hb dd_MO_passed_15 rfl (lv_at hl 0 rfl) ?_
      refine hm_get (ci := 6) (C := rn_MO) (T := ft_MO) (N := 22) hx hb hts fi_MO hown hE.K hP f18 rfl 17 (by decide) (hts _ tw_1003) (fun _ h9 => h9) rfl dd_MO_passed_16 ?_
      refine lv_iload_n hx hb dd_MO_passed_19 rfl (lv_at hl 1 rfl) ?_
      refine hm_zald (j := x.toInt.toNat) hx hb hE.K hP 1 f14 rfl (hi_in (by omega) (by omega)) hi_clamp dd_MO_passed_20 ?_
      rw [hPs]
      refine W.eq (g2 := F0 m 21 ls [.int (nI (bz (ps x.toInt.toNat)))]) rfl ?_
      refine hn_if_eq (tgt := 28) hx hb (bz_b _) dd_MO_passed_21 (by decide) (fun c25 => ?_) (fun c25 => ?_)
      · have hno : qu_at ps x = false := by rw [qu_at, bz_f c25, Bool.and_false]
        refine lv_iconst (v := nI 0) hx hb dd_MO_passed_28 (by decide +kernel) ?_
        have kk26 : hm_k M M [(P 0)] := hm_krf
        have kk27 : hm_k M M1 [(P 0)] := hm_ku kk26 (Or.inr (by simp)) eM1
        exact hm_Ei (v := nI 0) hx hb hr rfl hS hP (⟨bz_0 hno, ⟨f18, f2, f3, f4, f5, f6, f7, f8, f9, f10, f11, f12, f13, f14, f15, f16, f17, po, pb⟩, cz_F.k0 kk27 (hm_a1 ⟨by rw [po 0 (by decide)]; unfold pm; omega, _, f18⟩)⟩) hlocks (by omega) (by omega) dd_MO_passed_29
      · have hyes : qu_at ps x = true := by rw [qu_at, bz_t c25, decide_eq_true ⟨by omega, by omega⟩]; rfl
        refine lv_iconst (v := nI 1) hx hb dd_MO_passed_24 (by decide +kernel) ?_
        refine lv_goto (tgt := 29) hx hb dd_MO_passed_25 (by decide) ?_
        have kk28 : hm_k M M [(P 0)] := hm_krf
        have kk29 : hm_k M M1 [(P 0)] := hm_ku kk28 (Or.inr (by simp)) eM1
        exact hm_Ei (v := nI 1) hx hb hr rfl hS hP (⟨bz_1 hyes, ⟨f18, f2, f3, f4, f5, f6, f7, f8, f9, f10, f11, f12, f13, f14, f15, f16, f17, po, pb⟩, cz_F.k0 kk29 (hm_a1 ⟨by rw [po 0 (by decide)]; unfold pm; omega, _, f18⟩)⟩) hlocks (by omega) (by omega) dd_MO_passed_29
