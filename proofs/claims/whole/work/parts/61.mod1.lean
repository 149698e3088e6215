/-! what the model's cells say -/
def tpS (n : Int32) (f : Nat → Int32) (t : List Nat) : Prop := n = nI t.length ∧ (∀ j, j < t.length → f j = nI (t.getD j 0)) ∧ t.length ≤ 48 ∧ ∀ c ∈ t, c < 128
def exS (f g : Nat → Int32) (ex : Nat → Option (Int32 × Int32)) : Prop := ∀ k, k < 16 → (ex k = none ∧ f k = -1) ∨ ∃ s o, ex k = some (s, o) ∧ f k = s ∧ g k = o ∧ 0 ≤ s.toInt ∧ s.toInt ≤ 3
def to_I (y : Int32) (q : Bool) : Int32 := if q = true then nI 16 + y else y
def bdS1 (f g z x : Nat → Int32) (b : Nat) (d : bd_T) : Prop := f b = d.1 ∧ g b = to_I d.2.1 d.2.2.1 ∧ tpS (z b) (fun i => x (48 * b + i)) d.2.2.2 ∧ in16 d.1 ∧ in16 d.2.1
def bdS (n : Int32) (f g z x : Nat → Int32) (bs : List bd_T) : Prop := n = nI bs.length ∧ bs.length ≤ 120 ∧ ∀ b d, bs[b]? = some d → bdS1 f g z x b d
/-- a word as a number, base 256 -/
def cdn (w : List Nat) : Nat := w.foldl (fun a c => a * 256 + c) 0
def cd (w : List Nat) : Int64 := lN (cdn w)
def hdS (n : Int32) (f g : Nat → Int64) (hs : List (List Nat × List Nat)) : Prop := n = nI hs.length ∧ hs.length ≤ 6 ∧ ∀ j h, hs[j]? = some h → f j = cd h.1 ∧ g j = cd h.2 ∧ nm_ok h.1 = true ∧ vl_ok h.2 = true
def mo_S (I : Nat → Int32) (A : Nat → Nat → Int32) (L : Nat → Nat → Int64) (t : List Nat) (ex : Nat → Option (Int32 × Int32)) (qs : Nat → Bool) (bs : List bd_T) (key : List Nat) (hs : List (List Nat × List Nat)) (fo ps : Nat → Bool) : Prop := tpS (I 2) (A 1) t ∧ exS (A 3) (A 4) ex ∧ (A 5 = fun k => nI (bz (qs k))) ∧ bdS (I 6) (A 7) (A 8) (A 9) (A 10) bs ∧ tpS (I 12) (A 11) key ∧ hdS (I 13) (L 14) (L 15) hs ∧ (A 16 = fun k => nI (bz (fo k))) ∧ (A 17 = fun k => nI (bz (ps k)))
theorem exS_b {A : Nat → Nat → Int32} {ex : Nat → Option (Int32 × Int32)} (h : exS (A 3) (A 4) ex) (x : Int32) : me_x A x = (ex_at ex x).isSome := by
  have tm1 : (-1 : Int32).toInt = -1 := by decide
  rw [me_x, ex_at]
  by_cases hi : in16 x
  · rw [if_pos hi, decide_eq_true hi]
    rcases h x.toInt.toNat (by have := hi.1; have := hi.2; omega) with ⟨h1, h2⟩ | ⟨s, o, h1, h2, h3, h4, h5⟩
    · rw [h1, h2]; rfl
    · rw [h1, h2, decide_eq_false (fun e => by rw [e] at h4; omega)]; rfl
  · rw [if_neg hi, decide_eq_false hi]; rfl
theorem exS_x {A : Nat → Nat → Int32} {ex : Nat → Option (Int32 × Int32)} (h : exS (A 3) (A 4) ex) (x : Int32) : nI (bz (me_x A x)) = nI (bz (ex_at ex x).isSome) := by
  rw [exS_b h]
theorem tpS_0 {f : Nat → Int32} : tpS (nI 0) f [] := ⟨rfl, fun _ h => absurd h (Nat.not_lt_zero _), Nat.zero_le _, fun _ h => by cases h⟩

theorem exS_alt {f g : Nat → Int32} {ex : Nat → Option (Int32 × Int32)} {x y : Int32} (h : exS f g ex) (hin : in16 x) (hs : (ex_at ex x).isSome = true) (hy : al_ok ex x y = true) : exS f (upd g x.toInt.toNat y) (al_x ex x y) := fun k hk => by
  rw [al_x, if_pos hy]
  unfold va_up upd
  by_cases e : k = x.toInt.toNat
  · subst e
    rw [if_pos rfl, if_pos rfl]
    rw [ex_in hin] at hs ⊢
    rcases h x.toInt.toNat hk with ⟨h1, h2⟩ | ⟨s, o, h1, h2, h3, h4⟩
    · rw [h1] at hs; cases hs
    · right; rw [h1]; exact ⟨s, y, rfl, h2, rfl, h4⟩
  · rw [if_neg e, if_neg e]; exact h k hk
theorem ex_some {ex : Nat → Option (Int32 × Int32)} {x : Int32} (h : (ex_at ex x).isSome = true) : in16 x := by
  by_cases hi : in16 x
  · exact hi
  · rw [ex_at, if_neg hi] at h; cases h

set_option maxHeartbeats 4000000 in
set_option maxRecDepth 100000 in
theorem kc_MO_alternate (l : Launch) (B : Nat) (D : va_G) (G : Nat → Nat) (M : hm_M) (P O : Nat → Nat) (I : Nat → Int32) (A : Nat → Nat → Int32) (L : Nat → Nat → Int64) (hD : mo_D B D P O M I A L) (t : List Nat) (ex : Nat → Option (Int32 × Int32)) (qs : Nat → Bool) (bs : List bd_T) (key : List Nat) (hs : List (List Nat × List Nat)) (fo ps : Nat → Bool) (hZ : mo_S I A L t ex qs bs key hs fo ps) (x y : Int32) : Met l yy_MO_alternate ws_MO_alternate ({ frames := 1, cells := 0, slots := 0, locals := 21 }) (hm_Pc B D G M [.ref (P 0), .int x, .int y]) (hm_Ni B D (fun r M1 => r = nI (bz (al_ok ex x y)) ∧ ∃ I1 A1 L1, mo_D B D P O M1 I1 A1 L1 ∧ I1 0 = nI 0 ∧ mo_S I1 A1 L1 t (al_x ex x y) qs bs key hs fo ps ∧ cz_F O M O M1 pm)) (0) (0) (hm_A B) := by
  refine Met.ofW (cc := cd_MO_alternate) (maxL := 3) (ret := ((some FieldType.boolean))) (by decide) rfl ?_
  intro p e s m args below meth c s₁ B0 hml hv
  obtain ⟨rfl, hE, hP⟩ := hv
  have hx := B0.exec
  have hb := B0.bytes
  have hr := B0.returns
  have hts : ∀ w ∈ tb_G, w.before _ s = true := fun w h => atoms_spec (ws := ws_MO_alternate) B0.pre w (List.mem_cons_of_mem _ h)
  have hown : s.vm.findClass "RouteDeskModel" = some m.cls := findClass_of_methodNamed B0.named
  have hlocks := B0.notSynchronized
  have hRf : (headSpec ws_MO_alternate { frames := 1, cells := 0, slots := 0, locals := 21 }).room.frames = 1 := rfl
  have hRl : (headSpec ws_MO_alternate { frames := 1, cells := 0, slots := 0, locals := 21 }).room.locals = 21 := rfl
  have hRc : (headSpec ws_MO_alternate { frames := 1, cells := 0, slots := 0, locals := 21 }).room.cells = 0 := rfl
  have hRs : (headSpec ws_MO_alternate { frames := 1, cells := 0, slots := 0, locals := 21 }).room.slots = 0 := rfl
  generalize (headSpec ws_MO_alternate { frames := 1, cells := 0, slots := 0, locals := 21 }).room = R at hRf hRl hRc hRs ⊢
  have hS : va_S (hm_A B) s.heap s.heap [] := va_S.rf
  have hl := lv_entry ([.ref (P 0), .int x, .int y]) (n := 3) (Nat.le_of_ble_eq_true rfl)
  rw [lg_entry_eq]
  generalize (lg_sl ([.ref (P 0), .int x, .int y]) ++ List.replicate (3 - (lg_sl ([.ref (P 0), .int x, .int y])).length) Slot.unset).toArray = ls at hl ⊢
  have hl : lv_has ls 3 [(0, .ref (P 0)), (1, .int x), (2, .int y)] := hl
  have t16 : (nI 16).toInt = 16 := by decide
  have tm1 : (-1 : Int32).toInt = -1 := by decide
  have t0 : (nI 0).toInt = 0 := by decide
  have t2 : (nI 2).toInt = 2 := by decide
  have t3 : (nI 3).toInt = 3 := by decide
  have t1 : (nI 1).toInt = 1 := by decide
  have t4 : (nI 4).toInt = 4 := by decide
  obtain ⟨p0, p1, p3, p4, p5, p7, p8, p9, p10, p11, p14, p15, p16, p17, p19, p20, p21, po, pb⟩ := id hD
  obtain ⟨hT, hX, hQ, hB, hK, hH, hFo, hPs⟩ := id hZ
  obtain ⟨ti1, ti2, ti3, ti4⟩ := id hT
  obtain ⟨bi1, bi2, bi3⟩ := id hB
  obtain ⟨ki1, ki2, ki3, ki4⟩ := id hK
  obtain ⟨hi1, hi2, hi3⟩ := id hH
  refine lv_aload_n hx hb dd_MO_alternate_0 rfl (lv_at hl 0 rfl) ?_
  refine lv_iconst (v := nI 0) hx hb dd_MO_alternate_1 (by decide +kernel) ?_
  refine hm_put (ci := 6) (v := .int (nI 0)) (ty := .int) (C := rn_MO) (T := ft_MO) (N := 22) hx hb hts fi_MO fy_MO fo_MO fn_MO hown hE.K hP hS (pb 0 (by decide)) p0 rfl 0 (by decide) (hts _ tw_986) (fun _ h9 => h9) rfl (by decide +kernel) rfl rfl (Nat.le_of_ble_eq_true rfl) dd_MO_alternate_2 (fun H locs hP hS => ?_)
  have hP : hm_P D cl_W (hm_up M (P 0) (.inr (6, [.int (nI 0), .ref (P 1), .int (I 2), .ref (P 3), .ref (P 4), .ref (P 5), .int (I 6), .ref (P 7), .ref (P 8), .ref (P 9), .ref (P 10), .ref (P 11), .int (I 12), .int (I 13), .ref (P 14), .ref (P 15), .ref (P 16), .ref (P 17), .int (I 18), .ref (P 19), .ref (P 20), .ref (P 21)]))) H := hP
  obtain ⟨M1, eM1⟩ : ∃ z, z = hm_up M (P 0) (.inr (6, [.int (nI 0), .ref (P 1), .int (I 2), .ref (P 3), .ref (P 4), .ref (P 5), .int (I 6), .ref (P 7), .ref (P 8), .ref (P 9), .ref (P 10), .ref (P 11), .int (I 12), .int (I 13), .ref (P 14), .ref (P 15), .ref (P 16), .ref (P 17), .int (I 18), .ref (P 19), .ref (P 20), .ref (P 21)])) := ⟨_, rfl⟩
  rw [← eM1] at hP
  have f2 : M1 (P 1) = some (.inl (D.1 102, 48, .inl (A 1))) := by rw [eM1]; exact hm_up_o (hm_neO (po 1 (by decide)) (po 0 (by decide)) (by decide)) p1
  have f3 : M1 (P 3) = some (.inl (D.1 102, 16, .inl (A 3))) := by rw [eM1]; exact hm_up_o (hm_neO (po 3 (by decide)) (po 0 (by decide)) (by decide)) p3
  have f4 : M1 (P 4) = some (.inl (D.1 102, 16, .inl (A 4))) := by rw [eM1]; exact hm_up_o (hm_neO (po 4 (by decide)) (po 0 (by decide)) (by decide)) p4
  have f5 : M1 (P 5) = some (.inl (D.1 101, 16, .inl (A 5))) := by rw [eM1]; exact hm_up_o (hm_neO (po 5 (by decide)) (po 0 (by decide)) (by decide)) p5
  have f6 : M1 (P 7) = some (.inl (D.1 102, 120, .inl (A 7))) := by rw [eM1]; exact hm_up_o (hm_neO (po 7 (by decide)) (po 0 (by decide)) (by decide)) p7
  have f7 : M1 (P 8) = some (.inl (D.1 102, 120, .inl (A 8))) := by rw [eM1]; exact hm_up_o (hm_neO (po 8 (by decide)) (po 0 (by decide)) (by decide)) p8
  have f8 : M1 (P 9) = some (.inl (D.1 102, 120, .inl (A 9))) := by rw [eM1]; exact hm_up_o (hm_neO (po 9 (by decide)) (po 0 (by decide)) (by decide)) p9
  have f9 : M1 (P 10) = some (.inl (D.1 102, 5760, .inl (A 10))) := by rw [eM1]; exact hm_up_o (hm_neO (po 10 (by decide)) (po 0 (by decide)) (by decide)) p10
  have f10 : M1 (P 11) = some (.inl (D.1 102, 48, .inl (A 11))) := by rw [eM1]; exact hm_up_o (hm_neO (po 11 (by decide)) (po 0 (by decide)) (by decide)) p11
  have f11 : M1 (P 14) = some (.inl (D.1 103, 6, .inr (.inl (L 14)))) := by rw [eM1]; exact hm_up_o (hm_neO (po 14 (by decide)) (po 0 (by decide)) (by decide)) p14
  have f12 : M1 (P 15) = some (.inl (D.1 103, 6, .inr (.inl (L 15)))) := by rw [eM1]; exact hm_up_o (hm_neO (po 15 (by decide)) (po 0 (by decide)) (by decide)) p15
  have f13 : M1 (P 16) = some (.inl (D.1 101, 16, .inl (A 16))) := by rw [eM1]; exact hm_up_o (hm_neO (po 16 (by decide)) (po 0 (by decide)) (by decide)) p16
  have f14 : M1 (P 17) = some (.inl (D.1 101, 16, .inl (A 17))) := by rw [eM1]; exact hm_up_o (hm_neO (po 17 (by decide)) (po 0 (by decide)) (by decide)) p17
  have f15 : M1 (P 19) = some (.inl (D.1 101, 2601, .inl (A 19))) := by rw [eM1]; exact hm_up_o (hm_neO (po 19 (by decide)) (po 0 (by decide)) (by decide)) p19
  have f16 : M1 (P 20) = some (.inl (D.1 102, 52, .inl (A 20))) := by rw [eM1]; exact hm_up_o (hm_neO (po 20 (by decide)) (po 0 (by decide)) (by decide)) p20
  have f17 : M1 (P 21) = some (.inl (D.1 102, 52, .inl (A 21))) := by rw [eM1]; exact hm_up_o (hm_neO (po 21 (by decide)) (po 0 (by decide)) (by decide)) p21
  have f18 : M1 (P 0) = some (.inr (6, [.int (nI 0), .ref (P 1), .int (I 2), .ref (P 3), .ref (P 4), .ref (P 5), .int (I 6), .ref (P 7), .ref (P 8), .ref (P 9), .ref (P 10), .ref (P 11), .int (I 12), .int (I 13), .ref (P 14), .ref (P 15), .ref (P 16), .ref (P 17), .int (I 18), .ref (P 19), .ref (P 20), .ref (P 21)])) := by rw [eM1]; exact hm_up_s
  refine lv_aload_n hx hb dd_MO_alternate_5 rfl (lv_at hl 0 rfl) ?_
  refine lv_iload_n hx hb dd_MO_alternate_6 rfl (lv_at hl 1 rfl) ?_
  have hd19 : mo_D B D P O M1 (va_up I 0 (nI 0)) A L := ⟨f18, f2, f3, f4, f5, f6, f7, f8, f9, f10, f11, f12, f13, f14, f15, f16, f17, po, pb⟩
  refine hm_ci hS (hm_rV 1 (As := [.int x]) (rest := []) ⟨hx, hb, hml, hown, hts⟩ hE hS hP (kc_MO_isExchange l B D G M1 P O (va_up I 0 (nI 0)) A L hd19 x) rfl f18 tw_1078 tw_1075 tw_1077 tw_18 tw_46 (by decide +kernel) rfl rfl ⟨by show 0 + 1 ≤ R.frames; omega, by show 8 + (2 + 11) + 0 ≤ R.locals; omega⟩ rfl hl.1 rfl (Nat.le_of_ble_eq_true rfl) dd_MO_alternate_7 ⟨by omega, by omega⟩) (fun r20 M21 H locs hw22 hP hS => ?_)
  refine W.widen (k := 0) (n := 0) (by omega) (by omega) ?_
  obtain ⟨hrM21, eM21⟩ := hw22
  rw [eM21] at hP
  have hrM21 := hrM21.trans (by rw [exS_x (A := A) hX])
  obtain rfl : r20 = nI (bz (ex_at ex x).isSome) := hrM21
  refine hn_if_eq (tgt := 29) hx hb (bz_b _) dd_MO_alternate_10 (by decide) (fun c23 => ?_) (fun c23 => ?_)
  · have hno : al_ok ex x y = false := by rw [al_ok, bz_f c23]; rfl
    refine lv_iconst (v := nI 0) hx hb dd_MO_alternate_29 (by decide +kernel) ?_
    have kk24 : hm_k M M [(P 0)] := hm_krf
    have kk25 : hm_k M M1 [(P 0)] := hm_ku kk24 (Or.inr (by simp)) eM1
    exact hm_Ei (v := nI 0) hx hb hr rfl hS hP (⟨bz_0 hno, (va_up I 0 (nI 0)), A, L, ⟨f18, f2, f3, f4, f5, f6, f7, f8, f9, f10, f11, f12, f13, f14, f15, f16, f17, po, pb⟩, rfl, ⟨hT, by rw [al_x, hno, if_neg (by decide)]; exact hX, hQ, hB, hK, hH, hFo, hPs⟩, cz_F.k0 kk25 (hm_a1 ⟨by rw [po 0 (by decide)]; unfold pm; omega, _, f18⟩)⟩) hlocks (by omega) (by omega) dd_MO_alternate_30
  · have hxs := bz_t c23
    have hin := ex_some hxs
    have hin1 := hin.1
    have hin2 := hin.2
    refine lv_iload_n hx hb dd_MO_alternate_13 rfl (lv_at hl 2 rfl) ?_
    refine lv_iconst (v := (-1)) hx hb dd_MO_alternate_14 (by decide +kernel) ?_
    refine hi_icmp_lt (tgt := 29) hx hb dd_MO_alternate_15 (by decide) (fun c26 => ?_) (fun c26 => ?_)
    · have hno : al_ok ex x y = false := by rw [al_ok, decide_eq_false (fun h9 => by obtain ⟨q1, q2, q3⟩ := h9; omega), Bool.and_false]
      refine lv_iconst (v := nI 0) hx hb dd_MO_alternate_29 (by decide +kernel) ?_
      have kk27 : hm_k M M [(P 0)] := hm_krf
      have kk28 : hm_k M M1 [(P 0)] := hm_ku kk27 (Or.inr (by simp)) eM1
      exact hm_Ei (v := nI 0) hx hb hr rfl hS hP (⟨bz_0 hno, (va_up I 0 (nI 0)), A, L, ⟨f18, f2, f3, f4, f5, f6, f7, f8, f9, f10, f11, f12, f13, f14, f15, f16, f17, po, pb⟩, rfl, ⟨hT, by rw [al_x, hno, if_neg (by decide)]; exact hX, hQ, hB, hK, hH, hFo, hPs⟩, cz_F.k0 kk28 (hm_a1 ⟨by rw [po 0 (by decide)]; unfold pm; omega, _, f18⟩)⟩) hlocks (by omega) (by omega) dd_MO_alternate_30
    · refine lv_iload_n hx hb dd_MO_alternate_18 rfl (lv_at hl 2 rfl) ?_
      refine lv_bipush (v := nI 16) hx hb dd_MO_alternate_19 (by decide +kernel) ?_
      refine hi_icmp_ge (tgt := 29) hx hb dd_MO_alternate_21 (by decide) (fun c29 => ?_) (fun c29 => ?_)
      · have hno : al_ok ex x y = false := by rw [al_ok, decide_eq_false (fun h9 => by obtain ⟨q1, q2, q3⟩ := h9; omega), Bool.and_false]
        refine lv_iconst (v := nI 0) hx hb dd_MO_alternate_29 (by decide +kernel) ?_
        have kk30 : hm_k M M [(P 0)] := hm_krf
        have kk31 : hm_k M M1 [(P 0)] := hm_ku kk30 (Or.inr (by simp)) eM1
        exact hm_Ei (v := nI 0) hx hb hr rfl hS hP (⟨bz_0 hno, (va_up I 0 (nI 0)), A, L, ⟨f18, f2, f3, f4, f5, f6, f7, f8, f9, f10, f11, f12, f13, f14, f15, f16, f17, po, pb⟩, rfl, ⟨hT, by rw [al_x, hno, if_neg (by decide)]; exact hX, hQ, hB, hK, hH, hFo, hPs⟩, cz_F.k0 kk31 (hm_a1 ⟨by rw [po 0 (by decide)]; unfold pm; omega, _, f18⟩)⟩) hlocks (by omega) (by omega) dd_MO_alternate_30
      · refine lv_iload_n hx hb dd_MO_alternate_24 rfl (lv_at hl 2 rfl) ?_
        refine lv_iload_n hx hb dd_MO_alternate_25 rfl (lv_at hl 1 rfl) ?_
        refine hi_icmp_ne (tgt := 31) hx hb dd_MO_alternate_26 (by decide) (fun c32 => ?_) (fun c32 => ?_)
        · refine lv_aload_n hx hb dd_MO_alternate_31 rfl (lv_at hl 0 rfl) ?_
          refine hm_get (ci := 6) (C := rn_MO) (T := ft_MO) (N := 22) hx hb hts fi_MO hown hE.K hP f18 rfl 4 (by decide) (hts _ tw_990) (fun _ h9 => h9) rfl dd_MO_alternate_32 ?_
          refine lv_iload_n hx hb dd_MO_alternate_35 rfl (lv_at hl 1 rfl) ?_
          refine lv_iload_n hx hb dd_MO_alternate_36 rfl (lv_at hl 2 rfl) ?_
          refine hm_iast (j := x.toInt.toNat) hx hb hE.K hP hS (pb 4 (by decide)) 2 f4 rfl (hi_in (by omega) (by omega)) hi_clamp dd_MO_alternate_37 (fun H locs hP hS => ?_)
          obtain ⟨M33, eM33⟩ : ∃ z, z = hm_up M1 (P 4) (.inl (D.1 102, 16, .inl (upd (A 4) x.toInt.toNat y))) := ⟨_, rfl⟩
          rw [← eM33] at hP
          have f34 : M33 (P 0) = some (.inr (6, [.int (nI 0), .ref (P 1), .int (I 2), .ref (P 3), .ref (P 4), .ref (P 5), .int (I 6), .ref (P 7), .ref (P 8), .ref (P 9), .ref (P 10), .ref (P 11), .int (I 12), .int (I 13), .ref (P 14), .ref (P 15), .ref (P 16), .ref (P 17), .int (I 18), .ref (P 19), .ref (P 20), .ref (P 21)])) := by rw [eM33]; exact hm_up_o (hm_neO (po 0 (by decide)) (po 4 (by decide)) (by decide)) f18
          have f35 : M33 (P 1) = some (.inl (D.1 102, 48, .inl (A 1))) := by rw [eM33]; exact hm_up_o (hm_neO (po 1 (by decide)) (po 4 (by decide)) (by decide)) f2
          have f36 : M33 (P 3) = some (.inl (D.1 102, 16, .inl (A 3))) := by rw [eM33]; exact hm_up_o (hm_neO (po 3 (by decide)) (po 4 (by decide)) (by decide)) f3
          have f37 : M33 (P 5) = some (.inl (D.1 101, 16, .inl (A 5))) := by rw [eM33]; exact hm_up_o (hm_neO (po 5 (by decide)) (po 4 (by decide)) (by decide)) f5
          have f38 : M33 (P 7) = some (.inl (D.1 102, 120, .inl (A 7))) := by rw [eM33]; exact hm_up_o (hm_neO (po 7 (by decide)) (po 4 (by decide)) (by decide)) f6
          have f39 : M33 (P 8) = some (.inl (D.1 102, 120, .inl (A 8))) := by rw [eM33]; exact hm_up_o (hm_neO (po 8 (by decide)) (po 4 (by decide)) (by decide)) f7
          have f40 : M33 (P 9) = some (.inl (D.1 102, 120, .inl (A 9))) := by rw [eM33]; exact hm_up_o (hm_neO (po 9 (by decide)) (po 4 (by decide)) (by decide)) f8
          have f41 : M33 (P 10) = some (.inl (D.1 102, 5760, .inl (A 10))) := by rw [eM33]; exact hm_up_o (hm_neO (po 10 (by decide)) (po 4 (by decide)) (by decide)) f9
          have f42 : M33 (P 11) = some (.inl (D.1 102, 48, .inl (A 11))) := by rw [eM33]; exact hm_up_o (hm_neO (po 11 (by decide)) (po 4 (by decide)) (by decide)) f10
          have f43 : M33 (P 14) = some (.inl (D.1 103, 6, .inr (.inl (L 14)))) := by rw [eM33]; exact hm_up_o (hm_neO (po 14 (by decide)) (po 4 (by decide)) (by decide)) f11
          have f44 : M33 (P 15) = some (.inl (D.1 103, 6, .inr (.inl (L 15)))) := by rw [eM33]; exact hm_up_o (hm_neO (po 15 (by decide)) (po 4 (by decide)) (by decide)) f12
          have f45 : M33 (P 16) = some (.inl (D.1 101, 16, .inl (A 16))) := by rw [eM33]; exact hm_up_o (hm_neO (po 16 (by decide)) (po 4 (by decide)) (by decide)) f13
          have f46 : M33 (P 17) = some (.inl (D.1 101, 16, .inl (A 17))) := by rw [eM33]; exact hm_up_o (hm_neO (po 17 (by decide)) (po 4 (by decide)) (by decide)) f14
          have f47 : M33 (P 19) = some (.inl (D.1 101, 2601, .inl (A 19))) := by rw [eM33]; exact hm_up_o (hm_neO (po 19 (by decide)) (po 4 (by decide)) (by decide)) f15
          have f48 : M33 (P 20) = some (.inl (D.1 102, 52, .inl (A 20))) := by rw [eM33]; exact hm_up_o (hm_neO (po 20 (by decide)) (po 4 (by decide)) (by decide)) f16
          have f49 : M33 (P 21) = some (.inl (D.1 102, 52, .inl (A 21))) := by rw [eM33]; exact hm_up_o (hm_neO (po 21 (by decide)) (po 4 (by decide)) (by decide)) f17
          have f50 : M33 (P 4) = some (.inl (D.1 102, 16, .inl (upd (A 4) x.toInt.toNat y))) := by rw [eM33]; exact hm_up_s
          refine lv_iconst (v := nI 1) hx hb dd_MO_alternate_38 (by decide +kernel) ?_
          have hyes : al_ok ex x y = true := by rw [al_ok, hxs, decide_eq_true ⟨by omega, by omega, fun h9 => by omega⟩]; rfl
          have kk51 : hm_k M M [(P 0), (P 4)] := hm_krf
          have kk52 : hm_k M M1 [(P 0), (P 4)] := hm_ku kk51 (Or.inr (by simp)) eM1
          have kk53 : hm_k M M33 [(P 0), (P 4)] := hm_ku kk52 (Or.inr (by simp)) eM33
          exact hm_Ei (v := nI 1) hx hb hr rfl hS hP (⟨bz_1 hyes, (va_up I 0 (nI 0)), (va_up A 4 (upd (A 4) x.toInt.toNat y)), L, ⟨f34, f35, f36, f50, f37, f38, f39, f40, f41, f42, f43, f44, f45, f46, f47, f48, f49, po, pb⟩, rfl, ⟨hT, exS_alt hX hin hxs hyes, hQ, hB, hK, hH, hFo, hPs⟩, cz_F.k0 kk53 (hm_a2 ⟨by rw [po 0 (by decide)]; unfold pm; omega, _, f34⟩ ⟨by rw [po 4 (by decide)]; unfold pm; omega, _, f50⟩)⟩) hlocks (by omega) (by omega) dd_MO_alternate_39
        · have hno : al_ok ex x y = false := by rw [al_ok, decide_eq_false (fun h9 => by obtain ⟨q1, q2, q3⟩ := h9; omega), Bool.and_false]
          refine lv_iconst (v := nI 0) hx hb dd_MO_alternate_29 (by decide +kernel) ?_
          have kk54 : hm_k M M [(P 0)] := hm_krf
          have kk55 : hm_k M M1 [(P 0)] := hm_ku kk54 (Or.inr (by simp)) eM1
          exact hm_Ei (v := nI 0) hx hb hr rfl hS hP (⟨bz_0 hno, (va_up I 0 (nI 0)), A, L, ⟨f18, f2, f3, f4, f5, f6, f7, f8, f9, f10, f11, f12, f13, f14, f15, f16, f17, po, pb⟩, rfl, ⟨hT, by rw [al_x, hno, if_neg (by decide)]; exact hX, hQ, hB, hK, hH, hFo, hPs⟩, cz_F.k0 kk55 (hm_a1 ⟨by rw [po 0 (by decide)]; unfold pm; omega, _, f18⟩)⟩) hlocks (by omega) (by omega) dd_MO_alternate_30
theorem exS_new {f g : Nat → Int32} {ex : Nat → Option (Int32 × Int32)} {s : Int32} {j : Nat} (h : exS f g ex) (hs : 0 ≤ s.toInt ∧ s.toInt ≤ 3) : exS (upd f j s) (upd g j (-1)) (va_up ex j (some (s, -1))) := fun k hk => by
  unfold va_up upd
  by_cases e : k = j
  · rw [if_pos e, if_pos e, if_pos e]; exact Or.inr ⟨s, -1, rfl, rfl, rfl, hs⟩
  · rw [if_neg e, if_neg e, if_neg e]; exact h k hk

set_option maxHeartbeats 4000000 in
set_option maxRecDepth 100000 in
theorem kc_MO_exchange1 (l : Launch) (B : Nat) (D : va_G) (G : Nat → Nat) (M : hm_M) (P O : Nat → Nat) (I : Nat → Int32) (A : Nat → Nat → Int32) (L : Nat → Nat → Int64) (hD : mo_D B D P O M I A L) (t : List Nat) (ex : Nat → Option (Int32 × Int32)) (qs : Nat → Bool) (bs : List bd_T) (key : List Nat) (hs : List (List Nat × List Nat)) (fo ps : Nat → Bool) (hZ : mo_S I A L t ex qs bs key hs fo ps) (sx : Int32) (hs9 : ¬ (0 ≤ sx.toInt ∧ sx.toInt ≤ 3)) : Met l yy_MO_exchange ws_MO_exchange ({ frames := 1, cells := 0, slots := 0, locals := 21 }) (hm_Pc B D G M [.ref (P 0), .int sx]) (hm_Ni B D (fun r M1 => r = nI 0 ∧ ∃ I1 A1 L1, mo_D B D P O M1 I1 A1 L1 ∧ I1 0 = nI 1 ∧ mo_S I1 A1 L1 t ex qs bs key hs fo ps ∧ cz_F O M O M1 pm)) (0) (0) (hm_A B) := by
  refine Met.ofW (cc := cd_MO_exchange) (maxL := 3) (ret := ((some FieldType.int))) (by decide) rfl ?_
  intro p e s m args below meth c s₁ B0 hml hv
  obtain ⟨rfl, hE, hP⟩ := hv
  have hx := B0.exec
  have hb := B0.bytes
  have hr := B0.returns
  have hts : ∀ w ∈ tb_G, w.before _ s = true := fun w h => atoms_spec (ws := ws_MO_exchange) B0.pre w (List.mem_cons_of_mem _ h)
  have hown : s.vm.findClass "RouteDeskModel" = some m.cls := findClass_of_methodNamed B0.named
  have hlocks := B0.notSynchronized
  have hRf : (headSpec ws_MO_exchange { frames := 1, cells := 0, slots := 0, locals := 21 }).room.frames = 1 := rfl
  have hRl : (headSpec ws_MO_exchange { frames := 1, cells := 0, slots := 0, locals := 21 }).room.locals = 21 := rfl
  have hRc : (headSpec ws_MO_exchange { frames := 1, cells := 0, slots := 0, locals := 21 }).room.cells = 0 := rfl
  have hRs : (headSpec ws_MO_exchange { frames := 1, cells := 0, slots := 0, locals := 21 }).room.slots = 0 := rfl
  generalize (headSpec ws_MO_exchange { frames := 1, cells := 0, slots := 0, locals := 21 }).room = R at hRf hRl hRc hRs ⊢
  have hS : va_S (hm_A B) s.heap s.heap [] := va_S.rf
  have hl := lv_entry ([.ref (P 0), .int sx]) (n := 3) (Nat.le_of_ble_eq_true rfl)
  rw [lg_entry_eq]
  generalize (lg_sl ([.ref (P 0), .int sx]) ++ List.replicate (3 - (lg_sl ([.ref (P 0), .int sx])).length) Slot.unset).toArray = ls at hl ⊢
  have hl : lv_has ls 3 [(0, .ref (P 0)), (1, .int sx)] := hl
  have t16 : (nI 16).toInt = 16 := by decide
  have tm1 : (-1 : Int32).toInt = -1 := by decide
  have t0 : (nI 0).toInt = 0 := by decide
  have t2 : (nI 2).toInt = 2 := by decide
  have t3 : (nI 3).toInt = 3 := by decide
  have t1 : (nI 1).toInt = 1 := by decide
  have t4 : (nI 4).toInt = 4 := by decide
  obtain ⟨p0, p1, p3, p4, p5, p7, p8, p9, p10, p11, p14, p15, p16, p17, p19, p20, p21, po, pb⟩ := id hD
  obtain ⟨hT, hX, hQ, hB, hK, hH, hFo, hPs⟩ := id hZ
  obtain ⟨ti1, ti2, ti3, ti4⟩ := id hT
  obtain ⟨bi1, bi2, bi3⟩ := id hB
  obtain ⟨ki1, ki2, ki3, ki4⟩ := id hK
  obtain ⟨hi1, hi2, hi3⟩ := id hH
  refine lv_iload_n hx hb dd_MO_exchange_0 rfl (lv_at hl 1 rfl) ?_
  refine hi_if_lt (tgt := 9) hx hb dd_MO_exchange_1 (by decide) (fun c1 => ?_) (fun c1 => ?_)
  · refine lv_aload_n hx hb dd_MO_exchange_9 rfl (lv_at hl 0 rfl) ?_
    refine lv_iconst (v := nI 1) hx hb dd_MO_exchange_10 (by decide +kernel) ?_
    have hF3 : cz_F O M O M pm := cz_F.rf
    have hd2 : mo_D B D P O M I A L := ⟨p0, p1, p3, p4, p5, p7, p8, p9, p10, p11, p14, p15, p16, p17, p19, p20, p21, po, pb⟩
    refine hm_ci hS (hm_rV 1 (As := [.int (nI 1)]) (rest := []) ⟨hx, hb, hml, hown, hts⟩ hE hS hP (kc_MO_raise l B D G M P O I A L hd2 (nI 1)) rfl p0 tw_1070 tw_1067 tw_1069 tw_17 tw_46 (by decide +kernel) rfl rfl ⟨by show 0 + 1 ≤ R.frames; omega, by show 8 + (2 + 11) + 0 ≤ R.locals; omega⟩ rfl hl.1 rfl (Nat.le_of_ble_eq_true rfl) dd_MO_exchange_11 ⟨by omega, by omega⟩) (fun r4 M5 H locs hw6 hP hS => ?_)
    refine W.widen (k := 0) (n := 0) (by omega) (by omega) ?_
    obtain ⟨rfl, hd7, hF8⟩ := hw6
    have hF8 := hF3.trans hF8
    obtain ⟨g9_0, g9_1, g9_3, g9_4, g9_5, g9_7, g9_8, g9_9, g9_10, g9_11, g9_14, g9_15, g9_16, g9_17, g9_19, g9_20, g9_21, -, -⟩ := id hd7
    have g9_0 : M5 (P 0) = some (.inr (6, [.int (nI 1), .ref (P 1), .int (I 2), .ref (P 3), .ref (P 4), .ref (P 5), .int (I 6), .ref (P 7), .ref (P 8), .ref (P 9), .ref (P 10), .ref (P 11), .int (I 12), .int (I 13), .ref (P 14), .ref (P 15), .ref (P 16), .ref (P 17), .int (I 18), .ref (P 19), .ref (P 20), .ref (P 21)])) := g9_0
    exact hm_Ei (v := nI 0) hx hb hr rfl hS hP (⟨rfl, (va_up I 0 (nI 1)), A, L, ⟨g9_0, g9_1, g9_3, g9_4, g9_5, g9_7, g9_8, g9_9, g9_10, g9_11, g9_14, g9_15, g9_16, g9_17, g9_19, g9_20, g9_21, po, pb⟩, rfl, ⟨hT, hX, hQ, hB, hK, hH, hFo, hPs⟩, hF8⟩) hlocks (by omega) (by omega) dd_MO_exchange_14
  · refine lv_iload_n hx hb dd_MO_exchange_4 rfl (lv_at hl 1 rfl) ?_
    refine lv_iconst (v := nI 3) hx hb dd_MO_exchange_5 (by decide +kernel) ?_
    refine hi_icmp_le (tgt := 15) hx hb dd_MO_exchange_6 (by decide) (fun c10 => ?_) (fun c10 => ?_)
    · exact absurd ⟨by omega, by omega⟩ hs9
    · refine lv_aload_n hx hb dd_MO_exchange_9 rfl (lv_at hl 0 rfl) ?_
      refine lv_iconst (v := nI 1) hx hb dd_MO_exchange_10 (by decide +kernel) ?_
      have hF12 : cz_F O M O M pm := cz_F.rf
      have hd11 : mo_D B D P O M I A L := ⟨p0, p1, p3, p4, p5, p7, p8, p9, p10, p11, p14, p15, p16, p17, p19, p20, p21, po, pb⟩
      refine hm_ci hS (hm_rV 1 (As := [.int (nI 1)]) (rest := []) ⟨hx, hb, hml, hown, hts⟩ hE hS hP (kc_MO_raise l B D G M P O I A L hd11 (nI 1)) rfl p0 tw_1070 tw_1067 tw_1069 tw_17 tw_46 (by decide +kernel) rfl rfl ⟨by show 0 + 1 ≤ R.frames; omega, by show 8 + (2 + 11) + 0 ≤ R.locals; omega⟩ rfl hl.1 rfl (Nat.le_of_ble_eq_true rfl) dd_MO_exchange_11 ⟨by omega, by omega⟩) (fun r13 M14 H locs hw15 hP hS => ?_)
      refine W.widen (k := 0) (n := 0) (by omega) (by omega) ?_
      obtain ⟨rfl, hd16, hF17⟩ := hw15
      have hF17 := hF12.trans hF17
      obtain ⟨g18_0, g18_1, g18_3, g18_4, g18_5, g18_7, g18_8, g18_9, g18_10, g18_11, g18_14, g18_15, g18_16, g18_17, g18_19, g18_20, g18_21, -, -⟩ := id hd16
      have g18_0 : M14 (P 0) = some (.inr (6, [.int (nI 1), .ref (P 1), .int (I 2), .ref (P 3), .ref (P 4), .ref (P 5), .int (I 6), .ref (P 7), .ref (P 8), .ref (P 9), .ref (P 10), .ref (P 11), .int (I 12), .int (I 13), .ref (P 14), .ref (P 15), .ref (P 16), .ref (P 17), .int (I 18), .ref (P 19), .ref (P 20), .ref (P 21)])) := g18_0
      exact hm_Ei (v := nI 0) hx hb hr rfl hS hP (⟨rfl, (va_up I 0 (nI 1)), A, L, ⟨g18_0, g18_1, g18_3, g18_4, g18_5, g18_7, g18_8, g18_9, g18_10, g18_11, g18_14, g18_15, g18_16, g18_17, g18_19, g18_20, g18_21, po, pb⟩, rfl, ⟨hT, hX, hQ, hB, hK, hH, hFo, hPs⟩, hF17⟩) hlocks (by omega) (by omega) dd_MO_exchange_14
set_option maxHeartbeats 4000000 in
set_option maxRecDepth 100000 in
theorem kc_MO_exchange2 (l : Launch) (B : Nat) (D : va_G) (G : Nat → Nat) (M : hm_M) (P O : Nat → Nat) (I : Nat → Int32) (A : Nat → Nat → Int32) (L : Nat → Nat → Int64) (hD : mo_D B D P O M I A L) (t : List Nat) (ex : Nat → Option (Int32 × Int32)) (qs : Nat → Bool) (bs : List bd_T) (key : List Nat) (hs : List (List Nat × List Nat)) (fo ps : Nat → Bool) (hZ : mo_S I A L t ex qs bs key hs fo ps) (sx : Int32) (hs9 : 0 ≤ sx.toInt ∧ sx.toInt ≤ 3) (hfull : ∀ k, k < 16 → ex k ≠ none) : Met l yy_MO_exchange ws_MO_exchange ({ frames := 1, cells := 0, slots := 0, locals := 21 }) (hm_Pc B D G M [.ref (P 0), .int sx]) (hm_Ni B D (fun r M1 => r = nI 0 ∧ ∃ I1 A1 L1, mo_D B D P O M1 I1 A1 L1 ∧ I1 0 = nI 2 ∧ mo_S I1 A1 L1 t ex qs bs key hs fo ps ∧ cz_F O M O M1 pm)) (0) (0) (hm_A B) := by
  refine Met.ofW (cc := cd_MO_exchange) (maxL := 3) (ret := ((some FieldType.int))) (by decide) rfl ?_
  intro p e s m args below meth c s₁ B0 hml hv
  obtain ⟨rfl, hE, hP⟩ := hv
  have hx := B0.exec
  have hb := B0.bytes
  have hr := B0.returns
  have hts : ∀ w ∈ tb_G, w.before _ s = true := fun w h => atoms_spec (ws := ws_MO_exchange) B0.pre w (List.mem_cons_of_mem _ h)
  have hown : s.vm.findClass "RouteDeskModel" = some m.cls := findClass_of_methodNamed B0.named
  have hlocks := B0.notSynchronized
  have hRf : (headSpec ws_MO_exchange { frames := 1, cells := 0, slots := 0, locals := 21 }).room.frames = 1 := rfl
  have hRl : (headSpec ws_MO_exchange { frames := 1, cells := 0, slots := 0, locals := 21 }).room.locals = 21 := rfl
  have hRc : (headSpec ws_MO_exchange { frames := 1, cells := 0, slots := 0, locals := 21 }).room.cells = 0 := rfl
  have hRs : (headSpec ws_MO_exchange { frames := 1, cells := 0, slots := 0, locals := 21 }).room.slots = 0 := rfl
  generalize (headSpec ws_MO_exchange { frames := 1, cells := 0, slots := 0, locals := 21 }).room = R at hRf hRl hRc hRs ⊢
  have hS : va_S (hm_A B) s.heap s.heap [] := va_S.rf
  have hl := lv_entry ([.ref (P 0), .int sx]) (n := 3) (Nat.le_of_ble_eq_true rfl)
  rw [lg_entry_eq]
  generalize (lg_sl ([.ref (P 0), .int sx]) ++ List.replicate (3 - (lg_sl ([.ref (P 0), .int sx])).length) Slot.unset).toArray = ls at hl ⊢
  have hl : lv_has ls 3 [(0, .ref (P 0)), (1, .int sx)] := hl
  have t16 : (nI 16).toInt = 16 := by decide
  have tm1 : (-1 : Int32).toInt = -1 := by decide
  have t0 : (nI 0).toInt = 0 := by decide
  have t2 : (nI 2).toInt = 2 := by decide
  have t3 : (nI 3).toInt = 3 := by decide
  have t1 : (nI 1).toInt = 1 := by decide
  have t4 : (nI 4).toInt = 4 := by decide
  obtain ⟨p0, p1, p3, p4, p5, p7, p8, p9, p10, p11, p14, p15, p16, p17, p19, p20, p21, po, pb⟩ := id hD
  obtain ⟨hT, hX, hQ, hB, hK, hH, hFo, hPs⟩ := id hZ
  obtain ⟨ti1, ti2, ti3, ti4⟩ := id hT
  obtain ⟨bi1, bi2, bi3⟩ := id hB
  obtain ⟨ki1, ki2, ki3, ki4⟩ := id hK
  obtain ⟨hi1, hi2, hi3⟩ := id hH
  refine lv_iload_n hx hb dd_MO_exchange_0 rfl (lv_at hl 1 rfl) ?_
  refine hi_if_lt (tgt := 9) hx hb dd_MO_exchange_1 (by decide) (fun c1 => absurd c1 (by omega)) (fun c1 => ?_)
  refine lv_iload_n hx hb dd_MO_exchange_4 rfl (lv_at hl 1 rfl) ?_
  refine lv_iconst (v := nI 3) hx hb dd_MO_exchange_5 (by decide +kernel) ?_
  refine hi_icmp_le (tgt := 15) hx hb dd_MO_exchange_6 (by decide) (fun c2 => ?_) (fun c2 => absurd c2 (by omega))
  refine lv_iconst (v := nI 0) hx hb dd_MO_exchange_15 (by decide +kernel) ?_
  refine lv_istore_n (lv' := [(2, .int (nI 0)), (0, .ref (P 0)), (1, .int sx)]) hx hb dd_MO_exchange_16 rfl hl (by decide) rfl (fun ls hl => ?_)
  have lp17 : ∀ (n9 : Nat) (k : Nat) (Mu17 : hm_M), (k ≤ 16) → (∀ j, j < k → ex j ≠ none) → (mo_D B D P O Mu17 I A L) → (cz_F O M O Mu17 pm) → 16 - k < n9 → ∀ (H : Heap) (locs : List Loc) (ls : Array Slot), hm_P D cl_W Mu17 H → va_S (hm_A B) s.heap H locs → lv_has ls 3 [(0, .ref (P 0)), (1, .int sx), (2, .int (nI k))] → W p l e R s m ([.ref (P 0), .int sx] : List Value).toArray below meth c H locs (0) (0) (MQ below (hm_Ni B D (fun r M1 => r = nI 0 ∧ ∃ I1 A1 L1, mo_D B D P O M1 I1 A1 L1 ∧ I1 0 = nI 2 ∧ mo_S I1 A1 L1 t ex qs bs key hs fo ps ∧ cz_F O M O M1 pm)) ([.ref (P 0), .int sx] : List Value).toArray s (0) (0) (hm_A B)) (F0 m 17 ls []) := by
    intro n9
    induction n9 with
    | zero => intro k Mu17 hk hbe hd17 hF17 hm; exact absurd hm (Nat.not_lt_zero _)
    | succ n9 ih17 =>
      intro k Mu17 hk hbe hd17 hF17 hm H locs ls hP hS hl
      obtain ⟨g3_0, g3_1, g3_3, g3_4, g3_5, g3_7, g3_8, g3_9, g3_10, g3_11, g3_14, g3_15, g3_16, g3_17, g3_19, g3_20, g3_21, -, -⟩ := id hd17
      refine lv_iload_n hx hb dd_MO_exchange_17 rfl (lv_at hl 2 rfl) ?_
      refine lv_bipush (v := nI 16) hx hb dd_MO_exchange_18 (by decide +kernel) ?_
      refine hn_icmp_ge (tgt := 39) hx hb (by omega) (by omega) dd_MO_exchange_20 (by decide) (fun c4 => ?_) (fun c4 => ?_)
      · refine lv_iload_n hx hb dd_MO_exchange_39 rfl (lv_at hl 2 rfl) ?_
        refine lv_bipush (v := nI 16) hx hb dd_MO_exchange_40 (by decide +kernel) ?_
        refine hn_icmp_ne (tgt := 51) hx hb (by omega) (by omega) dd_MO_exchange_42 (by decide) (fun c5 => absurd c5 (by omega)) (fun c5 => ?_)
        refine lv_aload_n hx hb dd_MO_exchange_45 rfl (lv_at hl 0 rfl) ?_
        refine lv_iconst (v := nI 2) hx hb dd_MO_exchange_46 (by decide +kernel) ?_
        have hF7 : cz_F O M O Mu17 pm := hF17
        have hd6 : mo_D B D P O Mu17 I A L := ⟨g3_0, g3_1, g3_3, g3_4, g3_5, g3_7, g3_8, g3_9, g3_10, g3_11, g3_14, g3_15, g3_16, g3_17, g3_19, g3_20, g3_21, po, pb⟩
        refine hm_ci hS (hm_rV 1 (As := [.int (nI 2)]) (rest := []) ⟨hx, hb, hml, hown, hts⟩ hE hS hP (kc_MO_raise l B D G Mu17 P O I A L hd6 (nI 2)) rfl g3_0 tw_1070 tw_1067 tw_1069 tw_17 tw_46 (by decide +kernel) rfl rfl ⟨by show 0 + 1 ≤ R.frames; omega, by show 8 + (2 + 11) + 0 ≤ R.locals; omega⟩ rfl hl.1 rfl (Nat.le_of_ble_eq_true rfl) dd_MO_exchange_47 ⟨by omega, by omega⟩) (fun r8 M9 H locs hw10 hP hS => ?_)
        refine W.widen (k := 0) (n := 0) (by omega) (by omega) ?_
        obtain ⟨rfl, hd11, hF12⟩ := hw10
        have hF12 := hF7.trans hF12
        obtain ⟨g13_0, g13_1, g13_3, g13_4, g13_5, g13_7, g13_8, g13_9, g13_10, g13_11, g13_14, g13_15, g13_16, g13_17, g13_19, g13_20, g13_21, -, -⟩ := id hd11
        have g13_0 : M9 (P 0) = some (.inr (6, [.int (nI 2), .ref (P 1), .int (I 2), .ref (P 3), .ref (P 4), .ref (P 5), .int (I 6), .ref (P 7), .ref (P 8), .ref (P 9), .ref (P 10), .ref (P 11), .int (I 12), .int (I 13), .ref (P 14), .ref (P 15), .ref (P 16), .ref (P 17), .int (I 18), .ref (P 19), .ref (P 20), .ref (P 21)])) := g13_0
        exact hm_Ei (v := nI 0) hx hb hr rfl hS hP (⟨rfl, (va_up I 0 (nI 2)), A, L, ⟨g13_0, g13_1, g13_3, g13_4, g13_5, g13_7, g13_8, g13_9, g13_10, g13_11, g13_14, g13_15, g13_16, g13_17, g13_19, g13_20, g13_21, po, pb⟩, rfl, ⟨hT, hX, hQ, hB, hK, hH, hFo, hPs⟩, hF12⟩) hlocks (by omega) (by omega) dd_MO_exchange_50
      · refine lv_aload_n hx hb dd_MO_exchange_23 rfl (lv_at hl 0 rfl) ?_
        refine hm_get (ci := 6) (C := rn_MO) (T := ft_MO) (N := 22) hx hb hts fi_MO hown hE.K hP g3_0 rfl 3 (by decide) (hts _ tw_989) (fun _ h9 => h9) rfl dd_MO_exchange_24 ?_
        refine lv_iload_n hx hb dd_MO_exchange_27 rfl (lv_at hl 2 rfl) ?_
        refine hm_iald (j := k) hx hb hE.K hP 2 g3_3 rfl (vp_in_nI (by omega) (by omega)) (nI_clamp (by omega)) dd_MO_exchange_28 ?_
        refine lv_iconst (v := (-1)) hx hb dd_MO_exchange_29 (by decide +kernel) ?_
        refine hi_icmp_eq (tgt := 39) hx hb dd_MO_exchange_30 (by decide) (fun c14 => ?_) (fun c14 => ?_)
        · have hxk : ex k = none := by
            rcases hX k (by omega) with h9 | ⟨s9, o9, g1, g2, g3, g4, g5⟩
            · exact h9.1
            · rw [g2] at c14; omega
          exact absurd hxk (hfull k (by omega))
        · have hxk : ex k ≠ none := fun h8 => by
            rcases hX k (by omega) with h9 | ⟨s9, o9, g1, g2, g3, g4, g5⟩
            · exact c14 (by rw [h9.2])
            · rw [h8] at g1; cases g1
          refine lv_iinc (v := nI (k + 1)) (lv' := [(2, .int (nI (k + 1))), (0, .ref (P 0)), (1, .int sx)]) hx hb dd_MO_exchange_33 hl (k := 2) rfl (nI_1 k) (by decide) rfl (fun ls hl => ?_)
          refine lv_goto (tgt := 17) hx hb dd_MO_exchange_36 (by decide) ?_
          exact ih17 (k + 1) Mu17 (by omega) (fun j hj => by
              by_cases h9 : j = k
              · subst h9; exact hxk
              · exact hbe j (by omega)) (⟨g3_0, g3_1, g3_3, g3_4, g3_5, g3_7, g3_8, g3_9, g3_10, g3_11, g3_14, g3_15, g3_16, g3_17, g3_19, g3_20, g3_21, po, pb⟩) (hF17) (by omega) _ _ _ hP hS (lv_sub hl [1, 2, 0] rfl)
  exact lp17 _ 0 M (Nat.zero_le _) (fun j hj => absurd hj (Nat.not_lt_zero _)) (⟨p0, p1, p3, p4, p5, p7, p8, p9, p10, p11, p14, p15, p16, p17, p19, p20, p21, po, pb⟩) (cz_F.rf) (Nat.lt_succ_self _) _ _ _ hP hS (lv_sub hl [1, 2, 0] rfl)
set_option maxHeartbeats 4000000 in
set_option maxRecDepth 100000 in
theorem kc_MO_exchange (l : Launch) (B : Nat) (D : va_G) (G : Nat → Nat) (M : hm_M) (P O : Nat → Nat) (I : Nat → Int32) (A : Nat → Nat → Int32) (L : Nat → Nat → Int64) (hD : mo_D B D P O M I A L) (t : List Nat) (ex : Nat → Option (Int32 × Int32)) (qs : Nat → Bool) (bs : List bd_T) (key : List Nat) (hs : List (List Nat × List Nat)) (fo ps : Nat → Bool) (hZ : mo_S I A L t ex qs bs key hs fo ps) (sx : Int32) (hs9 : 0 ≤ sx.toInt ∧ sx.toInt ≤ 3) (j9 : Nat) (hj9 : j9 < 16) (hfree : ex j9 = none) (hbef : ∀ k, k < j9 → ex k ≠ none) : Met l yy_MO_exchange ws_MO_exchange ({ frames := 0, cells := 0, slots := 0, locals := 0 }) (hm_Pc B D G M [.ref (P 0), .int sx]) (hm_Ni B D (fun r M1 => r = nI j9 ∧ ∃ I1 A1 L1, mo_D B D P O M1 I1 A1 L1 ∧ I1 0 = nI 0 ∧ mo_S I1 A1 L1 t (va_up ex j9 (some (sx, -1))) qs bs key hs fo ps ∧ cz_F O M O M1 pm)) (0) (0) (hm_A B) := by
  refine Met.ofW (cc := cd_MO_exchange) (maxL := 3) (ret := ((some FieldType.int))) (by decide) rfl ?_
  intro p e s m args below meth c s₁ B0 hml hv
  obtain ⟨rfl, hE, hP⟩ := hv
  have hx := B0.exec
  have hb := B0.bytes
  have hr := B0.returns
  have hts : ∀ w ∈ tb_G, w.before _ s = true := fun w h => atoms_spec (ws := ws_MO_exchange) B0.pre w (List.mem_cons_of_mem _ h)
  have hown : s.vm.findClass "RouteDeskModel" = some m.cls := findClass_of_methodNamed B0.named
  have hlocks := B0.notSynchronized
  have hRf : (headSpec ws_MO_exchange { frames := 0, cells := 0, slots := 0, locals := 0 }).room.frames = 0 := rfl
  have hRl : (headSpec ws_MO_exchange { frames := 0, cells := 0, slots := 0, locals := 0 }).room.locals = 0 := rfl
  have hRc : (headSpec ws_MO_exchange { frames := 0, cells := 0, slots := 0, locals := 0 }).room.cells = 0 := rfl
  have hRs : (headSpec ws_MO_exchange { frames := 0, cells := 0, slots := 0, locals := 0 }).room.slots = 0 := rfl
  generalize (headSpec ws_MO_exchange { frames := 0, cells := 0, slots := 0, locals := 0 }).room = R at hRf hRl hRc hRs ⊢
  have hS : va_S (hm_A B) s.heap s.heap [] := va_S.rf
  have hl := lv_entry ([.ref (P 0), .int sx]) (n := 3) (Nat.le_of_ble_eq_true rfl)
  rw [lg_entry_eq]
  generalize (lg_sl ([.ref (P 0), .int sx]) ++ List.replicate (3 - (lg_sl ([.ref (P 0), .int sx])).length) Slot.unset).toArray = ls at hl ⊢
  have hl : lv_has ls 3 [(0, .ref (P 0)), (1, .int sx)] := hl
  have t16 : (nI 16).toInt = 16 := by decide
  have tm1 : (-1 : Int32).toInt = -1 := by decide
  have t0 : (nI 0).toInt = 0 := by decide
  have t2 : (nI 2).toInt = 2 := by decide
  have t3 : (nI 3).toInt = 3 := by decide
  have t1 : (nI 1).toInt = 1 := by decide
  have t4 : (nI 4).toInt = 4 := by decide
  obtain ⟨p0, p1, p3, p4, p5, p7, p8, p9, p10, p11, p14, p15, p16, p17, p19, p20, p21, po, pb⟩ := id hD
  obtain ⟨hT, hX, hQ, hB, hK, hH, hFo, hPs⟩ := id hZ
  obtain ⟨ti1, ti2, ti3, ti4⟩ := id hT
  obtain ⟨bi1, bi2, bi3⟩ := id hB
  obtain ⟨ki1, ki2, ki3, ki4⟩ := id hK
  obtain ⟨hi1, hi2, hi3⟩ := id hH
  refine lv_iload_n hx hb dd_MO_exchange_0 rfl (lv_at hl 1 rfl) ?_
  refine hi_if_lt (tgt := 9) hx hb dd_MO_exchange_1 (by decide) (fun c1 => absurd c1 (by omega)) (fun c1 => ?_)
  refine lv_iload_n hx hb dd_MO_exchange_4 rfl (lv_at hl 1 rfl) ?_
  refine lv_iconst (v := nI 3) hx hb dd_MO_exchange_5 (by decide +kernel) ?_
  refine hi_icmp_le (tgt := 15) hx hb dd_MO_exchange_6 (by decide) (fun c2 => ?_) (fun c2 => absurd c2 (by omega))
  refine lv_iconst (v := nI 0) hx hb dd_MO_exchange_15 (by decide +kernel) ?_
  refine lv_istore_n (lv' := [(2, .int (nI 0)), (0, .ref (P 0)), (1, .int sx)]) hx hb dd_MO_exchange_16 rfl hl (by decide) rfl (fun ls hl => ?_)
  have lp17 : ∀ (n9 : Nat) (k : Nat) (Mu17 : hm_M), (k ≤ 16) → (∀ j, j < k → ex j ≠ none) → (mo_D B D P O Mu17 I A L) → (cz_F O M O Mu17 pm) → 16 - k < n9 → ∀ (H : Heap) (locs : List Loc) (ls : Array Slot), hm_P D cl_W Mu17 H → va_S (hm_A B) s.heap H locs → lv_has ls 3 [(0, .ref (P 0)), (1, .int sx), (2, .int (nI k))] → W p l e R s m ([.ref (P 0), .int sx] : List Value).toArray below meth c H locs (0) (0) (MQ below (hm_Ni B D (fun r M1 => r = nI j9 ∧ ∃ I1 A1 L1, mo_D B D P O M1 I1 A1 L1 ∧ I1 0 = nI 0 ∧ mo_S I1 A1 L1 t (va_up ex j9 (some (sx, -1))) qs bs key hs fo ps ∧ cz_F O M O M1 pm)) ([.ref (P 0), .int sx] : List Value).toArray s (0) (0) (hm_A B)) (F0 m 17 ls []) := by
    intro n9
    induction n9 with
    | zero => intro k Mu17 hk hbe hd17 hF17 hm; exact absurd hm (Nat.not_lt_zero _)
    | succ n9 ih17 =>
      intro k Mu17 hk hbe hd17 hF17 hm H locs ls hP hS hl
      obtain ⟨g3_0, g3_1, g3_3, g3_4, g3_5, g3_7, g3_8, g3_9, g3_10, g3_11, g3_14, g3_15, g3_16, g3_17, g3_19, g3_20, g3_21, -, -⟩ := id hd17
      refine lv_iload_n hx hb dd_MO_exchange_17 rfl (lv_at hl 2 rfl) ?_
      refine lv_bipush (v := nI 16) hx hb dd_MO_exchange_18 (by decide +kernel) ?_
      refine hn_icmp_ge (tgt := 39) hx hb (by omega) (by omega) dd_MO_exchange_20 (by decide) (fun c4 => ?_) (fun c4 => ?_)
      · exact absurd hfree (hbe j9 (by omega))
      · refine lv_aload_n hx hb dd_MO_exchange_23 rfl (lv_at hl 0 rfl) ?_
        refine hm_get (ci := 6) (C := rn_MO) (T := ft_MO) (N := 22) hx hb hts fi_MO hown hE.K hP g3_0 rfl 3 (by decide) (hts _ tw_989) (fun _ h9 => h9) rfl dd_MO_exchange_24 ?_
        refine lv_iload_n hx hb dd_MO_exchange_27 rfl (lv_at hl 2 rfl) ?_
        refine hm_iald (j := k) hx hb hE.K hP 2 g3_3 rfl (vp_in_nI (by omega) (by omega)) (nI_clamp (by omega)) dd_MO_exchange_28 ?_
        refine lv_iconst (v := (-1)) hx hb dd_MO_exchange_29 (by decide +kernel) ?_
        refine hi_icmp_eq (tgt := 39) hx hb dd_MO_exchange_30 (by decide) (fun c5 => ?_) (fun c5 => ?_)
        · have hxk : ex k = none := by
            rcases hX k (by omega) with h9 | ⟨s9, o9, g1, g2, g3, g4, g5⟩
            · exact h9.1
            · rw [g2] at c5; omega
          refine lv_iload_n hx hb dd_MO_exchange_39 rfl (lv_at hl 2 rfl) ?_
          refine lv_bipush (v := nI 16) hx hb dd_MO_exchange_40 (by decide +kernel) ?_
          refine hn_icmp_ne (tgt := 51) hx hb (by omega) (by omega) dd_MO_exchange_42 (by decide) (fun c6 => ?_) (fun c6 => absurd c6 (by omega))
          obtain rfl : k = j9 := by
            rcases Nat.lt_trichotomy k j9 with h9 | h9 | h9
            · exact absurd hxk (hbef k h9)
            · exact h9
            · exact absurd hfree (hbe j9 h9)
          refine lv_aload_n hx hb dd_MO_exchange_51 rfl (lv_at hl 0 rfl) ?_
          refine lv_iconst (v := nI 0) hx hb dd_MO_exchange_52 (by decide +kernel) ?_
          refine hm_put (ci := 6) (v := .int (nI 0)) (ty := .int) (C := rn_MO) (T := ft_MO) (N := 22) hx hb hts fi_MO fy_MO fo_MO fn_MO hown hE.K hP hS (pb 0 (by decide)) g3_0 rfl 0 (by decide) (hts _ tw_986) (fun _ h9 => h9) rfl (by decide +kernel) rfl rfl (Nat.le_of_ble_eq_true rfl) dd_MO_exchange_53 (fun H locs hP hS => ?_)
          have hP : hm_P D cl_W (hm_up Mu17 (P 0) (.inr (6, [.int (nI 0), .ref (P 1), .int (I 2), .ref (P 3), .ref (P 4), .ref (P 5), .int (I 6), .ref (P 7), .ref (P 8), .ref (P 9), .ref (P 10), .ref (P 11), .int (I 12), .int (I 13), .ref (P 14), .ref (P 15), .ref (P 16), .ref (P 17), .int (I 18), .ref (P 19), .ref (P 20), .ref (P 21)]))) H := hP
          obtain ⟨M7, eM7⟩ : ∃ z, z = hm_up Mu17 (P 0) (.inr (6, [.int (nI 0), .ref (P 1), .int (I 2), .ref (P 3), .ref (P 4), .ref (P 5), .int (I 6), .ref (P 7), .ref (P 8), .ref (P 9), .ref (P 10), .ref (P 11), .int (I 12), .int (I 13), .ref (P 14), .ref (P 15), .ref (P 16), .ref (P 17), .int (I 18), .ref (P 19), .ref (P 20), .ref (P 21)])) := ⟨_, rfl⟩
          rw [← eM7] at hP
          have f8 : M7 (P 1) = some (.inl (D.1 102, 48, .inl (A 1))) := by rw [eM7]; exact hm_up_o (hm_neO (po 1 (by decide)) (po 0 (by decide)) (by decide)) g3_1
          have f9 : M7 (P 3) = some (.inl (D.1 102, 16, .inl (A 3))) := by rw [eM7]; exact hm_up_o (hm_neO (po 3 (by decide)) (po 0 (by decide)) (by decide)) g3_3
          have f10 : M7 (P 4) = some (.inl (D.1 102, 16, .inl (A 4))) := by rw [eM7]; exact hm_up_o (hm_neO (po 4 (by decide)) (po 0 (by decide)) (by decide)) g3_4
          have f11 : M7 (P 5) = some (.inl (D.1 101, 16, .inl (A 5))) := by rw [eM7]; exact hm_up_o (hm_neO (po 5 (by decide)) (po 0 (by decide)) (by decide)) g3_5
          have f12 : M7 (P 7) = some (.inl (D.1 102, 120, .inl (A 7))) := by rw [eM7]; exact hm_up_o (hm_neO (po 7 (by decide)) (po 0 (by decide)) (by decide)) g3_7
          have f13 : M7 (P 8) = some (.inl (D.1 102, 120, .inl (A 8))) := by rw [eM7]; exact hm_up_o (hm_neO (po 8 (by decide)) (po 0 (by decide)) (by decide)) g3_8
          have f14 : M7 (P 9) = some (.inl (D.1 102, 120, .inl (A 9))) := by rw [eM7]; exact hm_up_o (hm_neO (po 9 (by decide)) (po 0 (by decide)) (by decide)) g3_9
          have f15 : M7 (P 10) = some (.inl (D.1 102, 5760, .inl (A 10))) := by rw [eM7]; exact hm_up_o (hm_neO (po 10 (by decide)) (po 0 (by decide)) (by decide)) g3_10
          have f16 : M7 (P 11) = some (.inl (D.1 102, 48, .inl (A 11))) := by rw [eM7]; exact hm_up_o (hm_neO (po 11 (by decide)) (po 0 (by decide)) (by decide)) g3_11
          have f17 : M7 (P 14) = some (.inl (D.1 103, 6, .inr (.inl (L 14)))) := by rw [eM7]; exact hm_up_o (hm_neO (po 14 (by decide)) (po 0 (by decide)) (by decide)) g3_14
          have f18 : M7 (P 15) = some (.inl (D.1 103, 6, .inr (.inl (L 15)))) := by rw [eM7]; exact hm_up_o (hm_neO (po 15 (by decide)) (po 0 (by decide)) (by decide)) g3_15
          have f19 : M7 (P 16) = some (.inl (D.1 101, 16, .inl (A 16))) := by rw [eM7]; exact hm_up_o (hm_neO (po 16 (by decide)) (po 0 (by decide)) (by decide)) g3_16
          have f20 : M7 (P 17) = some (.inl (D.1 101, 16, .inl (A 17))) := by rw [eM7]; exact hm_up_o (hm_neO (po 17 (by decide)) (po 0 (by decide)) (by decide)) g3_17
          have f21 : M7 (P 19) = some (.inl (D.1 101, 2601, .inl (A 19))) := by rw [eM7]; exact hm_up_o (hm_neO (po 19 (by decide)) (po 0 (by decide)) (by decide)) g3_19
          have f22 : M7 (P 20) = some (.inl (D.1 102, 52, .inl (A 20))) := by rw [eM7]; exact hm_up_o (hm_neO (po 20 (by decide)) (po 0 (by decide)) (by decide)) g3_20
          have f23 : M7 (P 21) = some (.inl (D.1 102, 52, .inl (A 21))) := by rw [eM7]; exact hm_up_o (hm_neO (po 21 (by decide)) (po 0 (by decide)) (by decide)) g3_21
          have f24 : M7 (P 0) = some (.inr (6, [.int (nI 0), .ref (P 1), .int (I 2), .ref (P 3), .ref (P 4), .ref (P 5), .int (I 6), .ref (P 7), .ref (P 8), .ref (P 9), .ref (P 10), .ref (P 11), .int (I 12), .int (I 13), .ref (P 14), .ref (P 15), .ref (P 16), .ref (P 17), .int (I 18), .ref (P 19), .ref (P 20), .ref (P 21)])) := by rw [eM7]; exact hm_up_s
          refine lv_aload_n hx hb dd_MO_exchange_56 rfl (lv_at hl 0 rfl) ?_
          refine hm_get (ci := 6) (C := rn_MO) (T := ft_MO) (N := 22) hx hb hts fi_MO hown hE.K hP f24 rfl 3 (by decide) (hts _ tw_989) (fun _ h9 => h9) rfl dd_MO_exchange_57 ?_
          refine lv_iload_n hx hb dd_MO_exchange_60 rfl (lv_at hl 2 rfl) ?_
          refine lv_iload_n hx hb dd_MO_exchange_61 rfl (lv_at hl 1 rfl) ?_
          refine hm_iast (j := k) hx hb hE.K hP hS (pb 3 (by decide)) 2 f9 rfl (vp_in_nI (by omega) (by omega)) (nI_clamp (by omega)) dd_MO_exchange_62 (fun H locs hP hS => ?_)
          obtain ⟨M25, eM25⟩ : ∃ z, z = hm_up M7 (P 3) (.inl (D.1 102, 16, .inl (upd (A 3) k sx))) := ⟨_, rfl⟩
          rw [← eM25] at hP
          have f26 : M25 (P 0) = some (.inr (6, [.int (nI 0), .ref (P 1), .int (I 2), .ref (P 3), .ref (P 4), .ref (P 5), .int (I 6), .ref (P 7), .ref (P 8), .ref (P 9), .ref (P 10), .ref (P 11), .int (I 12), .int (I 13), .ref (P 14), .ref (P 15), .ref (P 16), .ref (P 17), .int (I 18), .ref (P 19), .ref (P 20), .ref (P 21)])) := by rw [eM25]; exact hm_up_o (hm_neO (po 0 (by decide)) (po 3 (by decide)) (by decide)) f24
          have f27 : M25 (P 1) = some (.inl (D.1 102, 48, .inl (A 1))) := by rw [eM25]; exact hm_up_o (hm_neO (po 1 (by decide)) (po 3 (by decide)) (by decide)) f8
          have f28 : M25 (P 4) = some (.inl (D.1 102, 16, .inl (A 4))) := by rw [eM25]; exact hm_up_o (hm_neO (po 4 (by decide)) (po 3 (by decide)) (by decide)) f10
          have f29 : M25 (P 5) = some (.inl (D.1 101, 16, .inl (A 5))) := by rw [eM25]; exact hm_up_o (hm_neO (po 5 (by decide)) (po 3 (by decide)) (by decide)) f11
          have f30 : M25 (P 7) = some (.inl (D.1 102, 120, .inl (A 7))) := by rw [eM25]; exact hm_up_o (hm_neO (po 7 (by decide)) (po 3 (by decide)) (by decide)) f12
          have f31 : M25 (P 8) = some (.inl (D.1 102, 120, .inl (A 8))) := by rw [eM25]; exact hm_up_o (hm_neO (po 8 (by decide)) (po 3 (by decide)) (by decide)) f13
          have f32 : M25 (P 9) = some (.inl (D.1 102, 120, .inl (A 9))) := by rw [eM25]; exact hm_up_o (hm_neO (po 9 (by decide)) (po 3 (by decide)) (by decide)) f14
          have f33 : M25 (P 10) = some (.inl (D.1 102, 5760, .inl (A 10))) := by rw [eM25]; exact hm_up_o (hm_neO (po 10 (by decide)) (po 3 (by decide)) (by decide)) f15
          have f34 : M25 (P 11) = some (.inl (D.1 102, 48, .inl (A 11))) := by rw [eM25]; exact hm_up_o (hm_neO (po 11 (by decide)) (po 3 (by decide)) (by decide)) f16
          have f35 : M25 (P 14) = some (.inl (D.1 103, 6, .inr (.inl (L 14)))) := by rw [eM25]; exact hm_up_o (hm_neO (po 14 (by decide)) (po 3 (by decide)) (by decide)) f17
          have f36 : M25 (P 15) = some (.inl (D.1 103, 6, .inr (.inl (L 15)))) := by rw [eM25]; exact hm_up_o (hm_neO (po 15 (by decide)) (po 3 (by decide)) (by decide)) f18
          have f37 : M25 (P 16) = some (.inl (D.1 101, 16, .inl (A 16))) := by rw [eM25]; exact hm_up_o (hm_neO (po 16 (by decide)) (po 3 (by decide)) (by decide)) f19
          have f38 : M25 (P 17) = some (.inl (D.1 101, 16, .inl (A 17))) := by rw [eM25]; exact hm_up_o (hm_neO (po 17 (by decide)) (po 3 (by decide)) (by decide)) f20
          have f39 : M25 (P 19) = some (.inl (D.1 101, 2601, .inl (A 19))) := by rw [eM25]; exact hm_up_o (hm_neO (po 19 (by decide)) (po 3 (by decide)) (by decide)) f21
          have f40 : M25 (P 20) = some (.inl (D.1 102, 52, .inl (A 20))) := by rw [eM25]; exact hm_up_o (hm_neO (po 20 (by decide)) (po 3 (by decide)) (by decide)) f22
          have f41 : M25 (P 21) = some (.inl (D.1 102, 52, .inl (A 21))) := by rw [eM25]; exact hm_up_o (hm_neO (po 21 (by decide)) (po 3 (by decide)) (by decide)) f23
          have f42 : M25 (P 3) = some (.inl (D.1 102, 16, .inl (upd (A 3) k sx))) := by rw [eM25]; exact hm_up_s
          refine lv_aload_n hx hb dd_MO_exchange_63 rfl (lv_at hl 0 rfl) ?_
          refine hm_get (ci := 6) (C := rn_MO) (T := ft_MO) (N := 22) hx hb hts fi_MO hown hE.K hP f26 rfl 4 (by decide) (hts _ tw_990) (fun _ h9 => h9) rfl dd_MO_exchange_64 ?_
          refine lv_iload_n hx hb dd_MO_exchange_67 rfl (lv_at hl 2 rfl) ?_
          refine lv_iconst (v := (-1)) hx hb dd_MO_exchange_68 (by decide +kernel) ?_
          refine hm_iast (j := k) hx hb hE.K hP hS (pb 4 (by decide)) 2 f28 rfl (vp_in_nI (by omega) (by omega)) (nI_clamp (by omega)) dd_MO_exchange_69 (fun H locs hP hS => ?_)
          obtain ⟨M43, eM43⟩ : ∃ z, z = hm_up M25 (P 4) (.inl (D.1 102, 16, .inl (upd (A 4) k (-1)))) := ⟨_, rfl⟩
          rw [← eM43] at hP
          have f44 : M43 (P 0) = some (.inr (6, [.int (nI 0), .ref (P 1), .int (I 2), .ref (P 3), .ref (P 4), .ref (P 5), .int (I 6), .ref (P 7), .ref (P 8), .ref (P 9), .ref (P 10), .ref (P 11), .int (I 12), .int (I 13), .ref (P 14), .ref (P 15), .ref (P 16), .ref (P 17), .int (I 18), .ref (P 19), .ref (P 20), .ref (P 21)])) := by rw [eM43]; exact hm_up_o (hm_neO (po 0 (by decide)) (po 4 (by decide)) (by decide)) f26
          have f45 : M43 (P 1) = some (.inl (D.1 102, 48, .inl (A 1))) := by rw [eM43]; exact hm_up_o (hm_neO (po 1 (by decide)) (po 4 (by decide)) (by decide)) f27
          have f46 : M43 (P 3) = some (.inl (D.1 102, 16, .inl (upd (A 3) k sx))) := by rw [eM43]; exact hm_up_o (hm_neO (po 3 (by decide)) (po 4 (by decide)) (by decide)) f42
          have f47 : M43 (P 5) = some (.inl (D.1 101, 16, .inl (A 5))) := by rw [eM43]; exact hm_up_o (hm_neO (po 5 (by decide)) (po 4 (by decide)) (by decide)) f29
          have f48 : M43 (P 7) = some (.inl (D.1 102, 120, .inl (A 7))) := by rw [eM43]; exact hm_up_o (hm_neO (po 7 (by decide)) (po 4 (by decide)) (by decide)) f30
          have f49 : M43 (P 8) = some (.inl (D.1 102, 120, .inl (A 8))) := by rw [eM43]; exact hm_up_o (hm_neO (po 8 (by decide)) (po 4 (by decide)) (by decide)) f31
          have f50 : M43 (P 9) = some (.inl (D.1 102, 120, .inl (A 9))) := by rw [eM43]; exact hm_up_o (hm_neO (po 9 (by decide)) (po 4 (by decide)) (by decide)) f32
          have f51 : M43 (P 10) = some (.inl (D.1 102, 5760, .inl (A 10))) := by rw [eM43]; exact hm_up_o (hm_neO (po 10 (by decide)) (po 4 (by decide)) (by decide)) f33
          have f52 : M43 (P 11) = some (.inl (D.1 102, 48, .inl (A 11))) := by rw [eM43]; exact hm_up_o (hm_neO (po 11 (by decide)) (po 4 (by decide)) (by decide)) f34
          have f53 : M43 (P 14) = some (.inl (D.1 103, 6, .inr (.inl (L 14)))) := by rw [eM43]; exact hm_up_o (hm_neO (po 14 (by decide)) (po 4 (by decide)) (by decide)) f35
          have f54 : M43 (P 15) = some (.inl (D.1 103, 6, .inr (.inl (L 15)))) := by rw [eM43]; exact hm_up_o (hm_neO (po 15 (by decide)) (po 4 (by decide)) (by decide)) f36
          have f55 : M43 (P 16) = some (.inl (D.1 101, 16, .inl (A 16))) := by rw [eM43]; exact hm_up_o (hm_neO (po 16 (by decide)) (po 4 (by decide)) (by decide)) f37
          have f56 : M43 (P 17) = some (.inl (D.1 101, 16, .inl (A 17))) := by rw [eM43]; exact hm_up_o (hm_neO (po 17 (by decide)) (po 4 (by decide)) (by decide)) f38
          have f57 : M43 (P 19) = some (.inl (D.1 101, 2601, .inl (A 19))) := by rw [eM43]; exact hm_up_o (hm_neO (po 19 (by decide)) (po 4 (by decide)) (by decide)) f39
          have f58 : M43 (P 20) = some (.inl (D.1 102, 52, .inl (A 20))) := by rw [eM43]; exact hm_up_o (hm_neO (po 20 (by decide)) (po 4 (by decide)) (by decide)) f40
          have f59 : M43 (P 21) = some (.inl (D.1 102, 52, .inl (A 21))) := by rw [eM43]; exact hm_up_o (hm_neO (po 21 (by decide)) (po 4 (by decide)) (by decide)) f41
          have f60 : M43 (P 4) = some (.inl (D.1 102, 16, .inl (upd (A 4) k (-1)))) := by rw [eM43]; exact hm_up_s
          refine lv_iload_n hx hb dd_MO_exchange_70 rfl (lv_at hl 2 rfl) ?_
          have kk61 : hm_k Mu17 Mu17 [(P 0), (P 3), (P 4)] := hm_krf
          have kk62 : hm_k Mu17 M7 [(P 0), (P 3), (P 4)] := hm_ku kk61 (Or.inr (by simp)) eM7
          have kk63 : hm_k Mu17 M25 [(P 0), (P 3), (P 4)] := hm_ku kk62 (Or.inr (by simp)) eM25
          have kk64 : hm_k Mu17 M43 [(P 0), (P 3), (P 4)] := hm_ku kk63 (Or.inr (by simp)) eM43
          exact hm_Ei (v := nI k) hx hb hr rfl hS hP (⟨rfl, (va_up I 0 (nI 0)), (va_up (va_up A 3 (upd (A 3) k sx)) 4 (upd (A 4) k (-1))), L, ⟨f44, f45, f46, f60, f47, f48, f49, f50, f51, f52, f53, f54, f55, f56, f57, f58, f59, po, pb⟩, rfl, ⟨hT, exS_new hX hs9, hQ, hB, hK, hH, hFo, hPs⟩, (hF17).trans (cz_F.k0 kk64 (hm_a3 ⟨by rw [po 0 (by decide)]; unfold pm; omega, _, f44⟩ ⟨by rw [po 3 (by decide)]; unfold pm; omega, _, f46⟩ ⟨by rw [po 4 (by decide)]; unfold pm; omega, _, f60⟩))⟩) hlocks (by omega) (by omega) dd_MO_exchange_71
        · have hxk : ex k ≠ none := fun h8 => by
            rcases hX k (by omega) with h9 | ⟨s9, o9, g1, g2, g3, g4, g5⟩
            · exact c5 (by rw [h9.2])
            · rw [h8] at g1; cases g1
          refine lv_iinc (v := nI (k + 1)) (lv' := [(2, .int (nI (k + 1))), (0, .ref (P 0)), (1, .int sx)]) hx hb dd_MO_exchange_33 hl (k := 2) rfl (nI_1 k) (by decide) rfl (fun ls hl => ?_)
          refine lv_goto (tgt := 17) hx hb dd_MO_exchange_36 (by decide) ?_
          exact ih17 (k + 1) Mu17 (by omega) (fun j hj => by
              by_cases h9 : j = k
              · subst h9; exact hxk
              · exact hbe j (by omega)) (⟨g3_0, g3_1, g3_3, g3_4, g3_5, g3_7, g3_8, g3_9, g3_10, g3_11, g3_14, g3_15, g3_16, g3_17, g3_19, g3_20, g3_21, po, pb⟩) (hF17) (by omega) _ _ _ hP hS (lv_sub hl [1, 2, 0] rfl)
  exact lp17 _ 0 M (Nat.zero_le _) (fun j hj => absurd hj (Nat.not_lt_zero _)) (⟨p0, p1, p3, p4, p5, p7, p8, p9, p10, p11, p14, p15, p16, p17, p19, p20, p21, po, pb⟩) (cz_F.rf) (Nat.lt_succ_self _) _ _ _ hP hS (lv_sub hl [1, 2, 0] rfl)
set_option maxHeartbeats 4000000 in
set_option maxRecDepth 100000 in
theorem kc_MO_queue1 (l : Launch) (B : Nat) (D : va_G) (G : Nat → Nat) (M : hm_M) (P O : Nat → Nat) (I : Nat → Int32) (A : Nat → Nat → Int32) (L : Nat → Nat → Int64) (hD : mo_D B D P O M I A L) (t : List Nat) (ex : Nat → Option (Int32 × Int32)) (qs : Nat → Bool) (bs : List bd_T) (key : List Nat) (hs : List (List Nat × List Nat)) (fo ps : Nat → Bool) (hZ : mo_S I A L t ex qs bs key hs fo ps) (hfull : ∀ k, k < 16 → qs k = true) : Met l yy_MO_queue ws_MO_queue ({ frames := 1, cells := 0, slots := 0, locals := 21 }) (hm_Pc B D G M [.ref (P 0)]) (hm_Ni B D (fun r M1 => r = nI 0 ∧ ∃ I1 A1 L1, mo_D B D P O M1 I1 A1 L1 ∧ I1 0 = nI 1 ∧ mo_S I1 A1 L1 t ex qs bs key hs fo ps ∧ cz_F O M O M1 pm)) (0) (0) (hm_A B) := by
  refine Met.ofW (cc := cd_MO_queue) (maxL := 2) (ret := ((some FieldType.int))) (by decide) rfl ?_
  intro p e s m args below meth c s₁ B0 hml hv
  obtain ⟨rfl, hE, hP⟩ := hv
  have hx := B0.exec
  have hb := B0.bytes
  have hr := B0.returns
  have hts : ∀ w ∈ tb_G, w.before _ s = true := fun w h => atoms_spec (ws := ws_MO_queue) B0.pre w (List.mem_cons_of_mem _ h)
  have hown : s.vm.findClass "RouteDeskModel" = some m.cls := findClass_of_methodNamed B0.named
  have hlocks := B0.notSynchronized
  have hRf : (headSpec ws_MO_queue { frames := 1, cells := 0, slots := 0, locals := 21 }).room.frames = 1 := rfl
  have hRl : (headSpec ws_MO_queue { frames := 1, cells := 0, slots := 0, locals := 21 }).room.locals = 21 := rfl
  have hRc : (headSpec ws_MO_queue { frames := 1, cells := 0, slots := 0, locals := 21 }).room.cells = 0 := rfl
  have hRs : (headSpec ws_MO_queue { frames := 1, cells := 0, slots := 0, locals := 21 }).room.slots = 0 := rfl
  generalize (headSpec ws_MO_queue { frames := 1, cells := 0, slots := 0, locals := 21 }).room = R at hRf hRl hRc hRs ⊢
  have hS : va_S (hm_A B) s.heap s.heap [] := va_S.rf
  have hl := lv_entry ([.ref (P 0)]) (n := 2) (Nat.le_of_ble_eq_true rfl)
  rw [lg_entry_eq]
  generalize (lg_sl ([.ref (P 0)]) ++ List.replicate (2 - (lg_sl ([.ref (P 0)])).length) Slot.unset).toArray = ls at hl ⊢
  have hl : lv_has ls 2 [(0, .ref (P 0))] := hl
  have t16 : (nI 16).toInt = 16 := by decide
  have tm1 : (-1 : Int32).toInt = -1 := by decide
  have t0 : (nI 0).toInt = 0 := by decide
  have t2 : (nI 2).toInt = 2 := by decide
  have t3 : (nI 3).toInt = 3 := by decide
  have t1 : (nI 1).toInt = 1 := by decide
  have t4 : (nI 4).toInt = 4 := by decide
  obtain ⟨p0, p1, p3, p4, p5, p7, p8, p9, p10, p11, p14, p15, p16, p17, p19, p20, p21, po, pb⟩ := id hD
  obtain ⟨hT, hX, hQ, hB, hK, hH, hFo, hPs⟩ := id hZ
  obtain ⟨ti1, ti2, ti3, ti4⟩ := id hT
  obtain ⟨bi1, bi2, bi3⟩ := id hB
  obtain ⟨ki1, ki2, ki3, ki4⟩ := id hK
  obtain ⟨hi1, hi2, hi3⟩ := id hH
  refine lv_iconst (v := nI 0) hx hb dd_MO_queue_0 (by decide +kernel) ?_
  refine lv_istore_n (lv' := [(1, .int (nI 0)), (0, .ref (P 0))]) hx hb dd_MO_queue_1 rfl hl (by decide) rfl (fun ls hl => ?_)
  have lp2 : ∀ (n9 : Nat) (k : Nat) (Mu2 : hm_M), (k ≤ 16) → (∀ j, j < k → qs j = true) → (mo_D B D P O Mu2 I A L) → (cz_F O M O Mu2 pm) → 16 - k < n9 → ∀ (H : Heap) (locs : List Loc) (ls : Array Slot), hm_P D cl_W Mu2 H → va_S (hm_A B) s.heap H locs → lv_has ls 2 [(0, .ref (P 0)), (1, .int (nI k))] → W p l e R s m ([.ref (P 0)] : List Value).toArray below meth c H locs (0) (0) (MQ below (hm_Ni B D (fun r M1 => r = nI 0 ∧ ∃ I1 A1 L1, mo_D B D P O M1 I1 A1 L1 ∧ I1 0 = nI 1 ∧ mo_S I1 A1 L1 t ex qs bs key hs fo ps ∧ cz_F O M O M1 pm)) ([.ref (P 0)] : List Value).toArray s (0) (0) (hm_A B)) (F0 m 2 ls []) := by
    intro n9
    induction n9 with
    | zero => intro k Mu2 hk hbe hd2 hF2 hm; exact absurd hm (Nat.not_lt_zero _)
    | succ n9 ih2 =>
      intro k Mu2 hk hbe hd2 hF2 hm H locs ls hP hS hl
      obtain ⟨g1_0, g1_1, g1_3, g1_4, g1_5, g1_7, g1_8, g1_9, g1_10, g1_11, g1_14, g1_15, g1_16, g1_17, g1_19, g1_20, g1_21, -, -⟩ := id hd2
      refine lv_iload_n hx hb dd_MO_queue_2 rfl (lv_at hl 1 rfl) ?_
      refine lv_bipush (v := nI 16) hx hb dd_MO_queue_3 (by decide +kernel) ?_
      refine hn_icmp_ge (tgt := 23) hx hb (by omega) (by omega) dd_MO_queue_5 (by decide) (fun c2 => ?_) (fun c2 => ?_)
      · refine lv_iload_n hx hb dd_MO_queue_23 rfl (lv_at hl 1 rfl) ?_
        refine lv_bipush (v := nI 16) hx hb dd_MO_queue_24 (by decide +kernel) ?_
        refine hn_icmp_ne (tgt := 35) hx hb (by omega) (by omega) dd_MO_queue_26 (by decide) (fun c3 => absurd c3 (by omega)) (fun c3 => ?_)
        refine lv_aload_n hx hb dd_MO_queue_29 rfl (lv_at hl 0 rfl) ?_
        refine lv_iconst (v := nI 1) hx hb dd_MO_queue_30 (by decide +kernel) ?_
        have hF5 : cz_F O M O Mu2 pm := hF2
        have hd4 : mo_D B D P O Mu2 I A L := ⟨g1_0, g1_1, g1_3, g1_4, g1_5, g1_7, g1_8, g1_9, g1_10, g1_11, g1_14, g1_15, g1_16, g1_17, g1_19, g1_20, g1_21, po, pb⟩
        refine hm_ci hS (hm_rV 1 (As := [.int (nI 1)]) (rest := []) ⟨hx, hb, hml, hown, hts⟩ hE hS hP (kc_MO_raise l B D G Mu2 P O I A L hd4 (nI 1)) rfl g1_0 tw_1070 tw_1067 tw_1069 tw_17 tw_46 (by decide +kernel) rfl rfl ⟨by show 0 + 1 ≤ R.frames; omega, by show 8 + (2 + 11) + 0 ≤ R.locals; omega⟩ rfl hl.1 rfl (Nat.le_of_ble_eq_true rfl) dd_MO_queue_31 ⟨by omega, by omega⟩) (fun r6 M7 H locs hw8 hP hS => ?_)
        refine W.widen (k := 0) (n := 0) (by omega) (by omega) ?_
        obtain ⟨rfl, hd9, hF10⟩ := hw8
        have hF10 := hF5.trans hF10
        obtain ⟨g11_0, g11_1, g11_3, g11_4, g11_5, g11_7, g11_8, g11_9, g11_10, g11_11, g11_14, g11_15, g11_16, g11_17, g11_19, g11_20, g11_21, -, -⟩ := id hd9
        have g11_0 : M7 (P 0) = some (.inr (6, [.int (nI 1), .ref (P 1), .int (I 2), .ref (P 3), .ref (P 4), .ref (P 5), .int (I 6), .ref (P 7), .ref (P 8), .ref (P 9), .ref (P 10), .ref (P 11), .int (I 12), .int (I 13), .ref (P 14), .ref (P 15), .ref (P 16), .ref (P 17), .int (I 18), .ref (P 19), .ref (P 20), .ref (P 21)])) := g11_0
        exact hm_Ei (v := nI 0) hx hb hr rfl hS hP (⟨rfl, (va_up I 0 (nI 1)), A, L, ⟨g11_0, g11_1, g11_3, g11_4, g11_5, g11_7, g11_8, g11_9, g11_10, g11_11, g11_14, g11_15, g11_16, g11_17, g11_19, g11_20, g11_21, po, pb⟩, rfl, ⟨hT, hX, hQ, hB, hK, hH, hFo, hPs⟩, hF10⟩) hlocks (by omega) (by omega) dd_MO_queue_34
      · refine lv_aload_n hx hb dd_MO_queue_8 rfl (lv_at hl 0 rfl) ?_
        refine hm_get (ci := 6) (C := rn_MO) (T := ft_MO) (N := 22) hx hb hts fi_MO hown hE.K hP g1_0 rfl 5 (by decide) (hts _ tw_991) (fun _ h9 => h9) rfl dd_MO_queue_9 ?_
        refine lv_iload_n hx hb dd_MO_queue_12 rfl (lv_at hl 1 rfl) ?_
        refine hm_zald (j := k) hx hb hE.K hP 1 g1_5 rfl (vp_in_nI (by omega) (by omega)) (nI_clamp (by omega)) dd_MO_queue_13 ?_
        refine W.eq (g2 := F0 m 14 ls [.int (nI (bz (qs k)))]) (by rw [hQ]) ?_
        refine hn_if_eq (tgt := 23) hx hb (bz_b _) dd_MO_queue_14 (by decide) (fun c12 => ?_) (fun c12 => ?_)
        · have hqk := bz_f c12
          have h9 := hfull k (by omega)
          rw [hqk] at h9; cases h9
        · have hqk := bz_t c12
          refine lv_iinc (v := nI (k + 1)) (lv' := [(1, .int (nI (k + 1))), (0, .ref (P 0))]) hx hb dd_MO_queue_17 hl (k := 1) rfl (nI_1 k) (by decide) rfl (fun ls hl => ?_)
          refine lv_goto (tgt := 2) hx hb dd_MO_queue_20 (by decide) ?_
          exact ih2 (k + 1) Mu2 (by omega) (fun j hj => by
              by_cases h9 : j = k
              · subst h9; exact hqk
              · exact hbe j (by omega)) (⟨g1_0, g1_1, g1_3, g1_4, g1_5, g1_7, g1_8, g1_9, g1_10, g1_11, g1_14, g1_15, g1_16, g1_17, g1_19, g1_20, g1_21, po, pb⟩) (hF2) (by omega) _ _ _ hP hS (lv_sub hl [1, 0] rfl)
  exact lp2 _ 0 M (Nat.zero_le _) (fun j hj => absurd hj (Nat.not_lt_zero _)) (⟨p0, p1, p3, p4, p5, p7, p8, p9, p10, p11, p14, p15, p16, p17, p19, p20, p21, po, pb⟩) (cz_F.rf) (Nat.lt_succ_self _) _ _ _ hP hS (lv_sub hl [1, 0] rfl)
set_option maxHeartbeats 4000000 in
set_option maxRecDepth 100000 in
theorem kc_MO_queue (l : Launch) (B : Nat) (D : va_G) (G : Nat → Nat) (M : hm_M) (P O : Nat → Nat) (I : Nat → Int32) (A : Nat → Nat → Int32) (L : Nat → Nat → Int64) (hD : mo_D B D P O M I A L) (t : List Nat) (ex : Nat → Option (Int32 × Int32)) (qs : Nat → Bool) (bs : List bd_T) (key : List Nat) (hs : List (List Nat × List Nat)) (fo ps : Nat → Bool) (hZ : mo_S I A L t ex qs bs key hs fo ps) (j9 : Nat) (hj9 : j9 < 16) (hfree : qs j9 = false) (hbef : ∀ k, k < j9 → qs k = true) : Met l yy_MO_queue ws_MO_queue ({ frames := 0, cells := 0, slots := 0, locals := 0 }) (hm_Pc B D G M [.ref (P 0)]) (hm_Ni B D (fun r M1 => r = nI j9 ∧ ∃ I1 A1 L1, mo_D B D P O M1 I1 A1 L1 ∧ I1 0 = nI 0 ∧ mo_S I1 A1 L1 t ex (va_up qs j9 true) bs key hs fo ps ∧ cz_F O M O M1 pm)) (0) (0) (hm_A B) := by
  refine Met.ofW (cc := cd_MO_queue) (maxL := 2) (ret := ((some FieldType.int))) (by decide) rfl ?_
  intro p e s m args below meth c s₁ B0 hml hv
  obtain ⟨rfl, hE, hP⟩ := hv
  have hx := B0.exec
  have hb := B0.bytes
  have hr := B0.returns
  have hts : ∀ w ∈ tb_G, w.before _ s = true := fun w h => atoms_spec (ws := ws_MO_queue) B0.pre w (List.mem_cons_of_mem _ h)
  have hown : s.vm.findClass "RouteDeskModel" = some m.cls := findClass_of_methodNamed B0.named
  have hlocks := B0.notSynchronized
  have hRf : (headSpec ws_MO_queue { frames := 0, cells := 0, slots := 0, locals := 0 }).room.frames = 0 := rfl
  have hRl : (headSpec ws_MO_queue { frames := 0, cells := 0, slots := 0, locals := 0 }).room.locals = 0 := rfl
  have hRc : (headSpec ws_MO_queue { frames := 0, cells := 0, slots := 0, locals := 0 }).room.cells = 0 := rfl
  have hRs : (headSpec ws_MO_queue { frames := 0, cells := 0, slots := 0, locals := 0 }).room.slots = 0 := rfl
  generalize (headSpec ws_MO_queue { frames := 0, cells := 0, slots := 0, locals := 0 }).room = R at hRf hRl hRc hRs ⊢
  have hS : va_S (hm_A B) s.heap s.heap [] := va_S.rf
  have hl := lv_entry ([.ref (P 0)]) (n := 2) (Nat.le_of_ble_eq_true rfl)
  rw [lg_entry_eq]
  generalize (lg_sl ([.ref (P 0)]) ++ List.replicate (2 - (lg_sl ([.ref (P 0)])).length) Slot.unset).toArray = ls at hl ⊢
  have hl : lv_has ls 2 [(0, .ref (P 0))] := hl
  have t16 : (nI 16).toInt = 16 := by decide
  have tm1 : (-1 : Int32).toInt = -1 := by decide
  have t0 : (nI 0).toInt = 0 := by decide
  have t2 : (nI 2).toInt = 2 := by decide
  have t3 : (nI 3).toInt = 3 := by decide
  have t1 : (nI 1).toInt = 1 := by decide
  have t4 : (nI 4).toInt = 4 := by decide
  obtain ⟨p0, p1, p3, p4, p5, p7, p8, p9, p10, p11, p14, p15, p16, p17, p19, p20, p21, po, pb⟩ := id hD
  obtain ⟨hT, hX, hQ, hB, hK, hH, hFo, hPs⟩ := id hZ
  obtain ⟨ti1, ti2, ti3, ti4⟩ := id hT
  obtain ⟨bi1, bi2, bi3⟩ := id hB
  obtain ⟨ki1, ki2, ki3, ki4⟩ := id hK
  obtain ⟨hi1, hi2, hi3⟩ := id hH
  refine lv_iconst (v := nI 0) hx hb dd_MO_queue_0 (by decide +kernel) ?_
  refine lv_istore_n (lv' := [(1, .int (nI 0)), (0, .ref (P 0))]) hx hb dd_MO_queue_1 rfl hl (by decide) rfl (fun ls hl => ?_)
  have lp2 : ∀ (n9 : Nat) (k : Nat) (Mu2 : hm_M), (k ≤ 16) → (∀ j, j < k → qs j = true) → (mo_D B D P O Mu2 I A L) → (cz_F O M O Mu2 pm) → 16 - k < n9 → ∀ (H : Heap) (locs : List Loc) (ls : Array Slot), hm_P D cl_W Mu2 H → va_S (hm_A B) s.heap H locs → lv_has ls 2 [(0, .ref (P 0)), (1, .int (nI k))] → W p l e R s m ([.ref (P 0)] : List Value).toArray below meth c H locs (0) (0) (MQ below (hm_Ni B D (fun r M1 => r = nI j9 ∧ ∃ I1 A1 L1, mo_D B D P O M1 I1 A1 L1 ∧ I1 0 = nI 0 ∧ mo_S I1 A1 L1 t ex (va_up qs j9 true) bs key hs fo ps ∧ cz_F O M O M1 pm)) ([.ref (P 0)] : List Value).toArray s (0) (0) (hm_A B)) (F0 m 2 ls []) := by
    intro n9
    induction n9 with
    | zero => intro k Mu2 hk hbe hd2 hF2 hm; exact absurd hm (Nat.not_lt_zero _)
    | succ n9 ih2 =>
      intro k Mu2 hk hbe hd2 hF2 hm H locs ls hP hS hl
      obtain ⟨g1_0, g1_1, g1_3, g1_4, g1_5, g1_7, g1_8, g1_9, g1_10, g1_11, g1_14, g1_15, g1_16, g1_17, g1_19, g1_20, g1_21, -, -⟩ := id hd2
      refine lv_iload_n hx hb dd_MO_queue_2 rfl (lv_at hl 1 rfl) ?_
      refine lv_bipush (v := nI 16) hx hb dd_MO_queue_3 (by decide +kernel) ?_
      refine hn_icmp_ge (tgt := 23) hx hb (by omega) (by omega) dd_MO_queue_5 (by decide) (fun c2 => ?_) (fun c2 => ?_)
      · have h9 := hbe j9 (by omega)
        rw [hfree] at h9; cases h9
      · refine lv_aload_n hx hb dd_MO_queue_8 rfl (lv_at hl 0 rfl) ?_
        refine hm_get (ci := 6) (C := rn_MO) (T := ft_MO) (N := 22) hx hb hts fi_MO hown hE.K hP g1_0 rfl 5 (by decide) (hts _ tw_991) (fun _ h9 => h9) rfl dd_MO_queue_9 ?_
        refine lv_iload_n hx hb dd_MO_queue_12 rfl (lv_at hl 1 rfl) ?_
        refine hm_zald (j := k) hx hb hE.K hP 1 g1_5 rfl (vp_in_nI (by omega) (by omega)) (nI_clamp (by omega)) dd_MO_queue_13 ?_
        refine W.eq (g2 := F0 m 14 ls [.int (nI (bz (qs k)))]) (by rw [hQ]) ?_
        refine hn_if_eq (tgt := 23) hx hb (bz_b _) dd_MO_queue_14 (by decide) (fun c3 => ?_) (fun c3 => ?_)
        · have hqk := bz_f c3
          refine lv_iload_n hx hb dd_MO_queue_23 rfl (lv_at hl 1 rfl) ?_
          refine lv_bipush (v := nI 16) hx hb dd_MO_queue_24 (by decide +kernel) ?_
          refine hn_icmp_ne (tgt := 35) hx hb (by omega) (by omega) dd_MO_queue_26 (by decide) (fun c4 => ?_) (fun c4 => absurd c4 (by omega))
          obtain rfl : k = j9 := by
            rcases Nat.lt_trichotomy k j9 with h9 | h9 | h9
            · have h8 := hbef k h9
              rw [hqk] at h8; cases h8
            · exact h9
            · have h8 := hbe j9 h9
              rw [hfree] at h8; cases h8
          refine lv_aload_n hx hb dd_MO_queue_35 rfl (lv_at hl 0 rfl) ?_
          refine lv_iconst (v := nI 0) hx hb dd_MO_queue_36 (by decide +kernel) ?_
          refine hm_put (ci := 6) (v := .int (nI 0)) (ty := .int) (C := rn_MO) (T := ft_MO) (N := 22) hx hb hts fi_MO fy_MO fo_MO fn_MO hown hE.K hP hS (pb 0 (by decide)) g1_0 rfl 0 (by decide) (hts _ tw_986) (fun _ h9 => h9) rfl (by decide +kernel) rfl rfl (Nat.le_of_ble_eq_true rfl) dd_MO_queue_37 (fun H locs hP hS => ?_)
          have hP : hm_P D cl_W (hm_up Mu2 (P 0) (.inr (6, [.int (nI 0), .ref (P 1), .int (I 2), .ref (P 3), .ref (P 4), .ref (P 5), .int (I 6), .ref (P 7), .ref (P 8), .ref (P 9), .ref (P 10), .ref (P 11), .int (I 12), .int (I 13), .ref (P 14), .ref (P 15), .ref (P 16), .ref (P 17), .int (I 18), .ref (P 19), .ref (P 20), .ref (P 21)]))) H := hP
          obtain ⟨M5, eM5⟩ : ∃ z, z = hm_up Mu2 (P 0) (.inr (6, [.int (nI 0), .ref (P 1), .int (I 2), .ref (P 3), .ref (P 4), .ref (P 5), .int (I 6), .ref (P 7), .ref (P 8), .ref (P 9), .ref (P 10), .ref (P 11), .int (I 12), .int (I 13), .ref (P 14), .ref (P 15), .ref (P 16), .ref (P 17), .int (I 18), .ref (P 19), .ref (P 20), .ref (P 21)])) := ⟨_, rfl⟩
          rw [← eM5] at hP
          have f6 : M5 (P 1) = some (.inl (D.1 102, 48, .inl (A 1))) := by rw [eM5]; exact hm_up_o (hm_neO (po 1 (by decide)) (po 0 (by decide)) (by decide)) g1_1
          have f7 : M5 (P 3) = some (.inl (D.1 102, 16, .inl (A 3))) := by rw [eM5]; exact hm_up_o (hm_neO (po 3 (by decide)) (po 0 (by decide)) (by decide)) g1_3
          have f8 : M5 (P 4) = some (.inl (D.1 102, 16, .inl (A 4))) := by rw [eM5]; exact hm_up_o (hm_neO (po 4 (by decide)) (po 0 (by decide)) (by decide)) g1_4
          have f9 : M5 (P 5) = some (.inl (D.1 101, 16, .inl (A 5))) := by rw [eM5]; exact hm_up_o (hm_neO (po 5 (by decide)) (po 0 (by decide)) (by decide)) g1_5
          have f10 : M5 (P 7) = some (.inl (D.1 102, 120, .inl (A 7))) := by rw [eM5]; exact hm_up_o (hm_neO (po 7 (by decide)) (po 0 (by decide)) (by decide)) g1_7
          have f11 : M5 (P 8) = some (.inl (D.1 102, 120, .inl (A 8))) := by rw [eM5]; exact hm_up_o (hm_neO (po 8 (by decide)) (po 0 (by decide)) (by decide)) g1_8
          have f12 : M5 (P 9) = some (.inl (D.1 102, 120, .inl (A 9))) := by rw [eM5]; exact hm_up_o (hm_neO (po 9 (by decide)) (po 0 (by decide)) (by decide)) g1_9
          have f13 : M5 (P 10) = some (.inl (D.1 102, 5760, .inl (A 10))) := by rw [eM5]; exact hm_up_o (hm_neO (po 10 (by decide)) (po 0 (by decide)) (by decide)) g1_10
          have f14 : M5 (P 11) = some (.inl (D.1 102, 48, .inl (A 11))) := by rw [eM5]; exact hm_up_o (hm_neO (po 11 (by decide)) (po 0 (by decide)) (by decide)) g1_11
          have f15 : M5 (P 14) = some (.inl (D.1 103, 6, .inr (.inl (L 14)))) := by rw [eM5]; exact hm_up_o (hm_neO (po 14 (by decide)) (po 0 (by decide)) (by decide)) g1_14
          have f16 : M5 (P 15) = some (.inl (D.1 103, 6, .inr (.inl (L 15)))) := by rw [eM5]; exact hm_up_o (hm_neO (po 15 (by decide)) (po 0 (by decide)) (by decide)) g1_15
          have f17 : M5 (P 16) = some (.inl (D.1 101, 16, .inl (A 16))) := by rw [eM5]; exact hm_up_o (hm_neO (po 16 (by decide)) (po 0 (by decide)) (by decide)) g1_16
          have f18 : M5 (P 17) = some (.inl (D.1 101, 16, .inl (A 17))) := by rw [eM5]; exact hm_up_o (hm_neO (po 17 (by decide)) (po 0 (by decide)) (by decide)) g1_17
          have f19 : M5 (P 19) = some (.inl (D.1 101, 2601, .inl (A 19))) := by rw [eM5]; exact hm_up_o (hm_neO (po 19 (by decide)) (po 0 (by decide)) (by decide)) g1_19
          have f20 : M5 (P 20) = some (.inl (D.1 102, 52, .inl (A 20))) := by rw [eM5]; exact hm_up_o (hm_neO (po 20 (by decide)) (po 0 (by decide)) (by decide)) g1_20
          have f21 : M5 (P 21) = some (.inl (D.1 102, 52, .inl (A 21))) := by rw [eM5]; exact hm_up_o (hm_neO (po 21 (by decide)) (po 0 (by decide)) (by decide)) g1_21
          have f22 : M5 (P 0) = some (.inr (6, [.int (nI 0), .ref (P 1), .int (I 2), .ref (P 3), .ref (P 4), .ref (P 5), .int (I 6), .ref (P 7), .ref (P 8), .ref (P 9), .ref (P 10), .ref (P 11), .int (I 12), .int (I 13), .ref (P 14), .ref (P 15), .ref (P 16), .ref (P 17), .int (I 18), .ref (P 19), .ref (P 20), .ref (P 21)])) := by rw [eM5]; exact hm_up_s
          refine lv_aload_n hx hb dd_MO_queue_40 rfl (lv_at hl 0 rfl) ?_
          refine hm_get (ci := 6) (C := rn_MO) (T := ft_MO) (N := 22) hx hb hts fi_MO hown hE.K hP f22 rfl 5 (by decide) (hts _ tw_991) (fun _ h9 => h9) rfl dd_MO_queue_41 ?_
          refine lv_iload_n hx hb dd_MO_queue_44 rfl (lv_at hl 1 rfl) ?_
          refine lv_iconst (v := nI 1) hx hb dd_MO_queue_45 (by decide +kernel) ?_
          refine hm_zast (y := nI (bz true)) (j := k) hx hb hE.K hP hS (pb 5 (by decide)) 1 f9 rfl (vp_in_nI (by omega) (by omega)) (nI_clamp (by omega)) rfl dd_MO_queue_46 (fun H locs hP hS => ?_)
          obtain ⟨M23, eM23⟩ : ∃ z, z = hm_up M5 (P 5) (.inl (D.1 101, 16, .inl (upd (A 5) k (nI (bz true))))) := ⟨_, rfl⟩
          rw [← eM23] at hP
          have f24 : M23 (P 0) = some (.inr (6, [.int (nI 0), .ref (P 1), .int (I 2), .ref (P 3), .ref (P 4), .ref (P 5), .int (I 6), .ref (P 7), .ref (P 8), .ref (P 9), .ref (P 10), .ref (P 11), .int (I 12), .int (I 13), .ref (P 14), .ref (P 15), .ref (P 16), .ref (P 17), .int (I 18), .ref (P 19), .ref (P 20), .ref (P 21)])) := by rw [eM23]; exact hm_up_o (hm_neO (po 0 (by decide)) (po 5 (by decide)) (by decide)) f22
          have f25 : M23 (P 1) = some (.inl (D.1 102, 48, .inl (A 1))) := by rw [eM23]; exact hm_up_o (hm_neO (po 1 (by decide)) (po 5 (by decide)) (by decide)) f6
          have f26 : M23 (P 3) = some (.inl (D.1 102, 16, .inl (A 3))) := by rw [eM23]; exact hm_up_o (hm_neO (po 3 (by decide)) (po 5 (by decide)) (by decide)) f7
          have f27 : M23 (P 4) = some (.inl (D.1 102, 16, .inl (A 4))) := by rw [eM23]; exact hm_up_o (hm_neO (po 4 (by decide)) (po 5 (by decide)) (by decide)) f8
          have f28 : M23 (P 7) = some (.inl (D.1 102, 120, .inl (A 7))) := by rw [eM23]; exact hm_up_o (hm_neO (po 7 (by decide)) (po 5 (by decide)) (by decide)) f10
          have f29 : M23 (P 8) = some (.inl (D.1 102, 120, .inl (A 8))) := by rw [eM23]; exact hm_up_o (hm_neO (po 8 (by decide)) (po 5 (by decide)) (by decide)) f11
          have f30 : M23 (P 9) = some (.inl (D.1 102, 120, .inl (A 9))) := by rw [eM23]; exact hm_up_o (hm_neO (po 9 (by decide)) (po 5 (by decide)) (by decide)) f12
          have f31 : M23 (P 10) = some (.inl (D.1 102, 5760, .inl (A 10))) := by rw [eM23]; exact hm_up_o (hm_neO (po 10 (by decide)) (po 5 (by decide)) (by decide)) f13
          have f32 : M23 (P 11) = some (.inl (D.1 102, 48, .inl (A 11))) := by rw [eM23]; exact hm_up_o (hm_neO (po 11 (by decide)) (po 5 (by decide)) (by decide)) f14
          have f33 : M23 (P 14) = some (.inl (D.1 103, 6, .inr (.inl (L 14)))) := by rw [eM23]; exact hm_up_o (hm_neO (po 14 (by decide)) (po 5 (by decide)) (by decide)) f15
          have f34 : M23 (P 15) = some (.inl (D.1 103, 6, .inr (.inl (L 15)))) := by rw [eM23]; exact hm_up_o (hm_neO (po 15 (by decide)) (po 5 (by decide)) (by decide)) f16
          have f35 : M23 (P 16) = some (.inl (D.1 101, 16, .inl (A 16))) := by rw [eM23]; exact hm_up_o (hm_neO (po 16 (by decide)) (po 5 (by decide)) (by decide)) f17
          have f36 : M23 (P 17) = some (.inl (D.1 101, 16, .inl (A 17))) := by rw [eM23]; exact hm_up_o (hm_neO (po 17 (by decide)) (po 5 (by decide)) (by decide)) f18
          have f37 : M23 (P 19) = some (.inl (D.1 101, 2601, .inl (A 19))) := by rw [eM23]; exact hm_up_o (hm_neO (po 19 (by decide)) (po 5 (by decide)) (by decide)) f19
          have f38 : M23 (P 20) = some (.inl (D.1 102, 52, .inl (A 20))) := by rw [eM23]; exact hm_up_o (hm_neO (po 20 (by decide)) (po 5 (by decide)) (by decide)) f20
          have f39 : M23 (P 21) = some (.inl (D.1 102, 52, .inl (A 21))) := by rw [eM23]; exact hm_up_o (hm_neO (po 21 (by decide)) (po 5 (by decide)) (by decide)) f21
          have f40 : M23 (P 5) = some (.inl (D.1 101, 16, .inl (upd (A 5) k (nI (bz true))))) := by rw [eM23]; exact hm_up_s
          refine lv_iload_n hx hb dd_MO_queue_47 rfl (lv_at hl 1 rfl) ?_
          have kk41 : hm_k Mu2 Mu2 [(P 0), (P 5)] := hm_krf
          have kk42 : hm_k Mu2 M5 [(P 0), (P 5)] := hm_ku kk41 (Or.inr (by simp)) eM5
          have kk43 : hm_k Mu2 M23 [(P 0), (P 5)] := hm_ku kk42 (Or.inr (by simp)) eM23
          exact hm_Ei (v := nI k) hx hb hr rfl hS hP (⟨rfl, (va_up I 0 (nI 0)), (va_up A 5 (upd (A 5) k (nI (bz true)))), L, ⟨f24, f25, f26, f27, f40, f28, f29, f30, f31, f32, f33, f34, f35, f36, f37, f38, f39, po, pb⟩, rfl, ⟨hT, hX, by show upd (A 5) k (nI (bz true)) = _; rw [hQ]; exact bz_up qs k true, hB, hK, hH, hFo, hPs⟩, (hF2).trans (cz_F.k0 kk43 (hm_a2 ⟨by rw [po 0 (by decide)]; unfold pm; omega, _, f24⟩ ⟨by rw [po 5 (by decide)]; unfold pm; omega, _, f40⟩))⟩) hlocks (by omega) (by omega) dd_MO_queue_48
        · have hqk := bz_t c3
          refine lv_iinc (v := nI (k + 1)) (lv' := [(1, .int (nI (k + 1))), (0, .ref (P 0))]) hx hb dd_MO_queue_17 hl (k := 1) rfl (nI_1 k) (by decide) rfl (fun ls hl => ?_)
          refine lv_goto (tgt := 2) hx hb dd_MO_queue_20 (by decide) ?_
          exact ih2 (k + 1) Mu2 (by omega) (fun j hj => by
              by_cases h9 : j = k
              · subst h9; exact hqk
              · exact hbe j (by omega)) (⟨g1_0, g1_1, g1_3, g1_4, g1_5, g1_7, g1_8, g1_9, g1_10, g1_11, g1_14, g1_15, g1_16, g1_17, g1_19, g1_20, g1_21, po, pb⟩) (hF2) (by omega) _ _ _ hP hS (lv_sub hl [1, 0] rfl)
  exact lp2 _ 0 M (Nat.zero_le _) (fun j hj => absurd hj (Nat.not_lt_zero _)) (⟨p0, p1, p3, p4, p5, p7, p8, p9, p10, p11, p14, p15, p16, p17, p19, p20, p21, po, pb⟩) (cz_F.rf) (Nat.lt_succ_self _) _ _ _ hP hS (lv_sub hl [1, 0] rfl)
theorem fo_none {fo : Nat → Bool} {i : Int32} (h : i.toInt < 0 ∨ ((fo_l fo).length : Int) ≤ i.toInt) : fo_r fo i = -1 := by
  rw [fo_r]
  split
  · rw [List.getElem?_eq_none (by omega)]
  · rfl
theorem fo_some {fo : Nat → Bool} {i : Int32} {k : Nat} (hk : k < 16) (hf : fo k = true) (hi : 0 ≤ i.toInt) (h : i.toInt = (((List.range k).filter fo).length : Nat)) : fo_r fo i = nI k := by
  rw [fo_r, if_pos hi, h, Int.toNat_natCast, fo_at hk hf]

set_option maxHeartbeats 4000000 in
set_option maxRecDepth 100000 in
theorem kc_MO_found (l : Launch) (B : Nat) (D : va_G) (G : Nat → Nat) (M : hm_M) (P O : Nat → Nat) (I : Nat → Int32) (A : Nat → Nat → Int32) (L : Nat → Nat → Int64) (hD : mo_D B D P O M I A L) (t : List Nat) (ex : Nat → Option (Int32 × Int32)) (qs : Nat → Bool) (bs : List bd_T) (key : List Nat) (hs : List (List Nat × List Nat)) (fo ps : Nat → Bool) (hZ : mo_S I A L t ex qs bs key hs fo ps) (i : Int32) (hne : ¬ fo_r fo i = -1) : Met l yy_MO_found ws_MO_found ({ frames := 0, cells := 0, slots := 0, locals := 0 }) (hm_Pc B D G M [.ref (P 0), .int i]) (hm_Ni B D (fun r M1 => r = fo_r fo i ∧ ∃ I1 A1 L1, mo_D B D P O M1 I1 A1 L1 ∧ I1 0 = nI 0 ∧ mo_S I1 A1 L1 t ex qs bs key hs fo ps ∧ cz_F O M O M1 pm)) (0) (0) (hm_A B) := by
  refine Met.ofW (cc := cd_MO_found) (maxL := 4) (ret := ((some FieldType.int))) (by decide) rfl ?_
  intro p e s m args below meth c s₁ B0 hml hv
  obtain ⟨rfl, hE, hP⟩ := hv
  have hx := B0.exec
  have hb := B0.bytes
  have hr := B0.returns
  have hts : ∀ w ∈ tb_G, w.before _ s = true := fun w h => atoms_spec (ws := ws_MO_found) B0.pre w (List.mem_cons_of_mem _ h)
  have hown : s.vm.findClass "RouteDeskModel" = some m.cls := findClass_of_methodNamed B0.named
  have hlocks := B0.notSynchronized
  have hRf : (headSpec ws_MO_found { frames := 0, cells := 0, slots := 0, locals := 0 }).room.frames = 0 := rfl
  have hRl : (headSpec ws_MO_found { frames := 0, cells := 0, slots := 0, locals := 0 }).room.locals = 0 := rfl
  have hRc : (headSpec ws_MO_found { frames := 0, cells := 0, slots := 0, locals := 0 }).room.cells = 0 := rfl
  have hRs : (headSpec ws_MO_found { frames := 0, cells := 0, slots := 0, locals := 0 }).room.slots = 0 := rfl
  generalize (headSpec ws_MO_found { frames := 0, cells := 0, slots := 0, locals := 0 }).room = R at hRf hRl hRc hRs ⊢
  have hS : va_S (hm_A B) s.heap s.heap [] := va_S.rf
  have hl := lv_entry ([.ref (P 0), .int i]) (n := 4) (Nat.le_of_ble_eq_true rfl)
  rw [lg_entry_eq]
  generalize (lg_sl ([.ref (P 0), .int i]) ++ List.replicate (4 - (lg_sl ([.ref (P 0), .int i])).length) Slot.unset).toArray = ls at hl ⊢
  have hl : lv_has ls 4 [(0, .ref (P 0)), (1, .int i)] := hl
  have t16 : (nI 16).toInt = 16 := by decide
  have tm1 : (-1 : Int32).toInt = -1 := by decide
  have t0 : (nI 0).toInt = 0 := by decide
  have t2 : (nI 2).toInt = 2 := by decide
  have t3 : (nI 3).toInt = 3 := by decide
  have t1 : (nI 1).toInt = 1 := by decide
  have t4 : (nI 4).toInt = 4 := by decide
  obtain ⟨p0, p1, p3, p4, p5, p7, p8, p9, p10, p11, p14, p15, p16, p17, p19, p20, p21, po, pb⟩ := id hD
  obtain ⟨hT, hX, hQ, hB, hK, hH, hFo, hPs⟩ := id hZ
  obtain ⟨ti1, ti2, ti3, ti4⟩ := id hT
  obtain ⟨bi1, bi2, bi3⟩ := id hB
  obtain ⟨ki1, ki2, ki3, ki4⟩ := id hK
  obtain ⟨hi1, hi2, hi3⟩ := id hH
  refine lv_iload_n hx hb dd_MO_found_0 rfl (lv_at hl 1 rfl) ?_
  refine lv_istore_n (lv' := [(2, .int i), (0, .ref (P 0)), (1, .int i)]) hx hb dd_MO_found_1 rfl hl (by decide) rfl (fun ls hl => ?_)
  refine lv_iconst (v := nI 0) hx hb dd_MO_found_2 (by decide +kernel) ?_
  refine lv_istore_n (lv' := [(3, .int (nI 0)), (2, .int i), (0, .ref (P 0)), (1, .int i)]) hx hb dd_MO_found_3 rfl hl (by decide) rfl (fun ls hl => ?_)
  have lp4 : ∀ (n9 : Nat) (k : Nat) (x9 : Int32) (Mu4 : hm_M), (k ≤ 16) → (0 ≤ i.toInt → x9.toInt = i.toInt - (((List.range k).filter fo).length : Nat) ∧ 0 ≤ x9.toInt) → (mo_D B D P O Mu4 I A L) → (cz_F O M O Mu4 pm) → 16 - k < n9 → ∀ (H : Heap) (locs : List Loc) (ls : Array Slot), hm_P D cl_W Mu4 H → va_S (hm_A B) s.heap H locs → lv_has ls 4 [(0, .ref (P 0)), (1, .int i), (2, .int x9), (3, .int (nI k))] → W p l e R s m ([.ref (P 0), .int i] : List Value).toArray below meth c H locs (0) (0) (MQ below (hm_Ni B D (fun r M1 => r = fo_r fo i ∧ ∃ I1 A1 L1, mo_D B D P O M1 I1 A1 L1 ∧ I1 0 = nI 0 ∧ mo_S I1 A1 L1 t ex qs bs key hs fo ps ∧ cz_F O M O M1 pm)) ([.ref (P 0), .int i] : List Value).toArray s (0) (0) (hm_A B)) (F0 m 4 ls []) := by
    intro n9
    induction n9 with
    | zero => intro k x9 Mu4 hk hlf hd4 hF4 hm; exact absurd hm (Nat.not_lt_zero _)
    | succ n9 ih4 =>
      intro k x9 Mu4 hk hlf hd4 hF4 hm H locs ls hP hS hl
      obtain ⟨g1_0, g1_1, g1_3, g1_4, g1_5, g1_7, g1_8, g1_9, g1_10, g1_11, g1_14, g1_15, g1_16, g1_17, g1_19, g1_20, g1_21, -, -⟩ := id hd4
      refine lv_iload_n hx hb dd_MO_found_4 rfl (lv_at hl 3 rfl) ?_
      refine lv_bipush (v := nI 16) hx hb dd_MO_found_5 (by decide +kernel) ?_
      refine hn_icmp_ge (tgt := 46) hx hb (by omega) (by omega) dd_MO_found_7 (by decide) (fun c2 => ?_) (fun c2 => ?_)
      · have hfr : fo_r fo i = -1 := by
          by_cases h9 : i.toInt < 0
          · exact fo_none (Or.inl h9)
          · refine fo_none (Or.inr ?_)
            have hk16 : k = 16 := by omega
            subst hk16
            have := hlf (by omega)
            show ((((List.range 16).filter fo).length : Nat) : Int) ≤ _
            omega
        exact absurd hfr hne
      · refine lv_iload_n hx hb dd_MO_found_10 rfl (lv_at hl 1 rfl) ?_
        refine hi_if_lt (tgt := 46) hx hb dd_MO_found_11 (by decide) (fun c3 => ?_) (fun c3 => ?_)
        · have hfr : fo_r fo i = -1 := by
            by_cases h9 : i.toInt < 0
            · exact fo_none (Or.inl h9)
            · refine fo_none (Or.inr ?_)
              have hk16 : k = 16 := by omega
              subst hk16
              have := hlf (by omega)
              show ((((List.range 16).filter fo).length : Nat) : Int) ≤ _
              omega
          exact absurd hfr hne
        · refine lv_aload_n hx hb dd_MO_found_14 rfl (lv_at hl 0 rfl) ?_
          refine hm_get (ci := 6) (C := rn_MO) (T := ft_MO) (N := 22) hx hb hts fi_MO hown hE.K hP g1_0 rfl 16 (by decide) (hts _ tw_1002) (fun _ h9 => h9) rfl dd_MO_found_15 ?_
          refine lv_iload_n hx hb dd_MO_found_18 rfl (lv_at hl 3 rfl) ?_
          refine hm_zald (j := k) hx hb hE.K hP 1 g1_16 rfl (vp_in_nI (by omega) (by omega)) (nI_clamp (by omega)) dd_MO_found_19 ?_
          refine W.eq (g2 := F0 m 20 ls [.int (nI (bz (fo k)))]) (by rw [hFo]) ?_
          refine hn_if_ne (tgt := 26) hx hb (bz_b _) dd_MO_found_20 (by decide) (fun c4 => ?_) (fun c4 => ?_)
          · have hfk := bz_t c4
            refine lv_iload_n hx hb dd_MO_found_26 rfl (lv_at hl 2 rfl) ?_
            refine hi_if_ne (tgt := 37) hx hb dd_MO_found_27 (by decide) (fun c5 => ?_) (fun c5 => ?_)
            · obtain ⟨x6, ex6⟩ : ∃ y : Int32, y = x9 + (-1) := ⟨_, rfl⟩
              refine lv_iinc (v := x6) (lv' := [(2, .int x6), (0, .ref (P 0)), (1, .int i), (3, .int (nI k))]) hx hb dd_MO_found_37 hl (k := 2) rfl (by rw [ex6]; rfl) (by decide) rfl (fun ls hl => ?_)
              refine lv_iinc (v := nI (k + 1)) (lv' := [(3, .int (nI (k + 1))), (2, .int x6), (0, .ref (P 0)), (1, .int i)]) hx hb dd_MO_found_40 hl (k := 3) rfl (nI_1 k) (by decide) rfl (fun ls hl => ?_)
              refine lv_goto (tgt := 4) hx hb dd_MO_found_43 (by decide) ?_
              exact ih4 (k + 1) x6 Mu4 (by omega) (fun h9 => by
                  have h8 := hlf h9
                  have h7 := fo_st (fo := fo) (k := k)
                  rw [hfk] at h7
                  have h6 : bz true = 1 := rfl
                  have h4 := hi_rng x9
                  have h5 : (x6).toInt = x9.toInt - 1 := by
                    rw [ex6, hi_add (by rw [tm1]; omega) (by rw [tm1]; omega), tm1]; omega
                  omega) (⟨g1_0, g1_1, g1_3, g1_4, g1_5, g1_7, g1_8, g1_9, g1_10, g1_11, g1_14, g1_15, g1_16, g1_17, g1_19, g1_20, g1_21, po, pb⟩) (hF4) (by omega) _ _ _ hP hS (lv_sub hl [2, 3, 1, 0] rfl)
            · have hfr : fo_r fo i = nI k := fo_some (by omega) hfk (by omega) (by have := (hlf (by omega)).1; omega)
              have hnk : ¬ nI k = -1 := fun h9 => by
                have h8 := congrArg Int32.toInt h9
                rw [nI_toInt (by omega), tm1] at h8; omega
              refine lv_aload_n hx hb dd_MO_found_30 rfl (lv_at hl 0 rfl) ?_
              refine lv_iconst (v := nI 0) hx hb dd_MO_found_31 (by decide +kernel) ?_
              refine hm_put (ci := 6) (v := .int (nI 0)) (ty := .int) (C := rn_MO) (T := ft_MO) (N := 22) hx hb hts fi_MO fy_MO fo_MO fn_MO hown hE.K hP hS (pb 0 (by decide)) g1_0 rfl 0 (by decide) (hts _ tw_986) (fun _ h9 => h9) rfl (by decide +kernel) rfl rfl (Nat.le_of_ble_eq_true rfl) dd_MO_found_32 (fun H locs hP hS => ?_)
              have hP : hm_P D cl_W (hm_up Mu4 (P 0) (.inr (6, [.int (nI 0), .ref (P 1), .int (I 2), .ref (P 3), .ref (P 4), .ref (P 5), .int (I 6), .ref (P 7), .ref (P 8), .ref (P 9), .ref (P 10), .ref (P 11), .int (I 12), .int (I 13), .ref (P 14), .ref (P 15), .ref (P 16), .ref (P 17), .int (I 18), .ref (P 19), .ref (P 20), .ref (P 21)]))) H := hP
              obtain ⟨M7, eM7⟩ : ∃ z, z = hm_up Mu4 (P 0) (.inr (6, [.int (nI 0), .ref (P 1), .int (I 2), .ref (P 3), .ref (P 4), .ref (P 5), .int (I 6), .ref (P 7), .ref (P 8), .ref (P 9), .ref (P 10), .ref (P 11), .int (I 12), .int (I 13), .ref (P 14), .ref (P 15), .ref (P 16), .ref (P 17), .int (I 18), .ref (P 19), .ref (P 20), .ref (P 21)])) := ⟨_, rfl⟩
              rw [← eM7] at hP
              have f8 : M7 (P 1) = some (.inl (D.1 102, 48, .inl (A 1))) := by rw [eM7]; exact hm_up_o (hm_neO (po 1 (by decide)) (po 0 (by decide)) (by decide)) g1_1
              have f9 : M7 (P 3) = some (.inl (D.1 102, 16, .inl (A 3))) := by rw [eM7]; exact hm_up_o (hm_neO (po 3 (by decide)) (po 0 (by decide)) (by decide)) g1_3
              have f10 : M7 (P 4) = some (.inl (D.1 102, 16, .inl (A 4))) := by rw [eM7]; exact hm_up_o (hm_neO (po 4 (by decide)) (po 0 (by decide)) (by decide)) g1_4
              have f11 : M7 (P 5) = some (.inl (D.1 101, 16, .inl (A 5))) := by rw [eM7]; exact hm_up_o (hm_neO (po 5 (by decide)) (po 0 (by decide)) (by decide)) g1_5
              have f12 : M7 (P 7) = some (.inl (D.1 102, 120, .inl (A 7))) := by rw [eM7]; exact hm_up_o (hm_neO (po 7 (by decide)) (po 0 (by decide)) (by decide)) g1_7
              have f13 : M7 (P 8) = some (.inl (D.1 102, 120, .inl (A 8))) := by rw [eM7]; exact hm_up_o (hm_neO (po 8 (by decide)) (po 0 (by decide)) (by decide)) g1_8
              have f14 : M7 (P 9) = some (.inl (D.1 102, 120, .inl (A 9))) := by rw [eM7]; exact hm_up_o (hm_neO (po 9 (by decide)) (po 0 (by decide)) (by decide)) g1_9
              have f15 : M7 (P 10) = some (.inl (D.1 102, 5760, .inl (A 10))) := by rw [eM7]; exact hm_up_o (hm_neO (po 10 (by decide)) (po 0 (by decide)) (by decide)) g1_10
              have f16 : M7 (P 11) = some (.inl (D.1 102, 48, .inl (A 11))) := by rw [eM7]; exact hm_up_o (hm_neO (po 11 (by decide)) (po 0 (by decide)) (by decide)) g1_11
              have f17 : M7 (P 14) = some (.inl (D.1 103, 6, .inr (.inl (L 14)))) := by rw [eM7]; exact hm_up_o (hm_neO (po 14 (by decide)) (po 0 (by decide)) (by decide)) g1_14
              have f18 : M7 (P 15) = some (.inl (D.1 103, 6, .inr (.inl (L 15)))) := by rw [eM7]; exact hm_up_o (hm_neO (po 15 (by decide)) (po 0 (by decide)) (by decide)) g1_15
              have f19 : M7 (P 16) = some (.inl (D.1 101, 16, .inl (A 16))) := by rw [eM7]; exact hm_up_o (hm_neO (po 16 (by decide)) (po 0 (by decide)) (by decide)) g1_16
              have f20 : M7 (P 17) = some (.inl (D.1 101, 16, .inl (A 17))) := by rw [eM7]; exact hm_up_o (hm_neO (po 17 (by decide)) (po 0 (by decide)) (by decide)) g1_17
              have f21 : M7 (P 19) = some (.inl (D.1 101, 2601, .inl (A 19))) := by rw [eM7]; exact hm_up_o (hm_neO (po 19 (by decide)) (po 0 (by decide)) (by decide)) g1_19
              have f22 : M7 (P 20) = some (.inl (D.1 102, 52, .inl (A 20))) := by rw [eM7]; exact hm_up_o (hm_neO (po 20 (by decide)) (po 0 (by decide)) (by decide)) g1_20
              have f23 : M7 (P 21) = some (.inl (D.1 102, 52, .inl (A 21))) := by rw [eM7]; exact hm_up_o (hm_neO (po 21 (by decide)) (po 0 (by decide)) (by decide)) g1_21
              have f24 : M7 (P 0) = some (.inr (6, [.int (nI 0), .ref (P 1), .int (I 2), .ref (P 3), .ref (P 4), .ref (P 5), .int (I 6), .ref (P 7), .ref (P 8), .ref (P 9), .ref (P 10), .ref (P 11), .int (I 12), .int (I 13), .ref (P 14), .ref (P 15), .ref (P 16), .ref (P 17), .int (I 18), .ref (P 19), .ref (P 20), .ref (P 21)])) := by rw [eM7]; exact hm_up_s
              refine lv_iload_n hx hb dd_MO_found_35 rfl (lv_at hl 3 rfl) ?_
              have kk25 : hm_k Mu4 Mu4 [(P 0)] := hm_krf
              have kk26 : hm_k Mu4 M7 [(P 0)] := hm_ku kk25 (Or.inr (by simp)) eM7
              exact hm_Ei (v := nI k) hx hb hr rfl hS hP (⟨hfr.symm, (va_up I 0 (nI 0)), A, L, ⟨f24, f8, f9, f10, f11, f12, f13, f14, f15, f16, f17, f18, f19, f20, f21, f22, f23, po, pb⟩, rfl, ⟨hT, hX, hQ, hB, hK, hH, hFo, hPs⟩, (hF4).trans (cz_F.k0 kk26 (hm_a1 ⟨by rw [po 0 (by decide)]; unfold pm; omega, _, f24⟩))⟩) hlocks (by omega) (by omega) dd_MO_found_36
          · have hfk := bz_f c4
            refine lv_goto (tgt := 40) hx hb dd_MO_found_23 (by decide) ?_
            refine lv_iinc (v := nI (k + 1)) (lv' := [(3, .int (nI (k + 1))), (0, .ref (P 0)), (1, .int i), (2, .int x9)]) hx hb dd_MO_found_40 hl (k := 3) rfl (nI_1 k) (by decide) rfl (fun ls hl => ?_)
            refine lv_goto (tgt := 4) hx hb dd_MO_found_43 (by decide) ?_
            exact ih4 (k + 1) x9 Mu4 (by omega) (fun h9 => by
                have h8 := hlf h9
                have h7 := fo_st (fo := fo) (k := k)
                rw [hfk] at h7
                have h6 : bz false = 0 := rfl
                omega) (⟨g1_0, g1_1, g1_3, g1_4, g1_5, g1_7, g1_8, g1_9, g1_10, g1_11, g1_14, g1_15, g1_16, g1_17, g1_19, g1_20, g1_21, po, pb⟩) (hF4) (by omega) _ _ _ hP hS (lv_sub hl [1, 2, 3, 0] rfl)
  exact lp4 _ 0 i M (Nat.zero_le _) (fun h9 => ⟨by simp, h9⟩) (⟨p0, p1, p3, p4, p5, p7, p8, p9, p10, p11, p14, p15, p16, p17, p19, p20, p21, po, pb⟩) (cz_F.rf) (Nat.lt_succ_self _) _ _ _ hP hS (lv_sub hl [2, 3, 1, 0] rfl)
set_option maxHeartbeats 4000000 in
set_option maxRecDepth 100000 in
theorem kc_MO_found1 (l : Launch) (B : Nat) (D : va_G) (G : Nat → Nat) (M : hm_M) (P O : Nat → Nat) (I : Nat → Int32) (A : Nat → Nat → Int32) (L : Nat → Nat → Int64) (hD : mo_D B D P O M I A L) (t : List Nat) (ex : Nat → Option (Int32 × Int32)) (qs : Nat → Bool) (bs : List bd_T) (key : List Nat) (hs : List (List Nat × List Nat)) (fo ps : Nat → Bool) (hZ : mo_S I A L t ex qs bs key hs fo ps) (i : Int32) (hne : fo_r fo i = -1) : Met l yy_MO_found ws_MO_found ({ frames := 1, cells := 0, slots := 0, locals := 21 }) (hm_Pc B D G M [.ref (P 0), .int i]) (hm_Ni B D (fun r M1 => r = nI 0 ∧ ∃ I1 A1 L1, mo_D B D P O M1 I1 A1 L1 ∧ I1 0 = nI 1 ∧ mo_S I1 A1 L1 t ex qs bs key hs fo ps ∧ cz_F O M O M1 pm)) (0) (0) (hm_A B) := by
  refine Met.ofW (cc := cd_MO_found) (maxL := 4) (ret := ((some FieldType.int))) (by decide) rfl ?_
  intro p e s m args below meth c s₁ B0 hml hv
  obtain ⟨rfl, hE, hP⟩ := hv
  have hx := B0.exec
  have hb := B0.bytes
  have hr := B0.returns
  have hts : ∀ w ∈ tb_G, w.before _ s = true := fun w h => atoms_spec (ws := ws_MO_found) B0.pre w (List.mem_cons_of_mem _ h)
  have hown : s.vm.findClass "RouteDeskModel" = some m.cls := findClass_of_methodNamed B0.named
  have hlocks := B0.notSynchronized
  have hRf : (headSpec ws_MO_found { frames := 1, cells := 0, slots := 0, locals := 21 }).room.frames = 1 := rfl
  have hRl : (headSpec ws_MO_found { frames := 1, cells := 0, slots := 0, locals := 21 }).room.locals = 21 := rfl
  have hRc : (headSpec ws_MO_found { frames := 1, cells := 0, slots := 0, locals := 21 }).room.cells = 0 := rfl
  have hRs : (headSpec ws_MO_found { frames := 1, cells := 0, slots := 0, locals := 21 }).room.slots = 0 := rfl
  generalize (headSpec ws_MO_found { frames := 1, cells := 0, slots := 0, locals := 21 }).room = R at hRf hRl hRc hRs ⊢
  have hS : va_S (hm_A B) s.heap s.heap [] := va_S.rf
  have hl := lv_entry ([.ref (P 0), .int i]) (n := 4) (Nat.le_of_ble_eq_true rfl)
  rw [lg_entry_eq]
  generalize (lg_sl ([.ref (P 0), .int i]) ++ List.replicate (4 - (lg_sl ([.ref (P 0), .int i])).length) Slot.unset).toArray = ls at hl ⊢
  have hl : lv_has ls 4 [(0, .ref (P 0)), (1, .int i)] := hl
  have t16 : (nI 16).toInt = 16 := by decide
  have tm1 : (-1 : Int32).toInt = -1 := by decide
  have t0 : (nI 0).toInt = 0 := by decide
  have t2 : (nI 2).toInt = 2 := by decide
  have t3 : (nI 3).toInt = 3 := by decide
  have t1 : (nI 1).toInt = 1 := by decide
  have t4 : (nI 4).toInt = 4 := by decide
  obtain ⟨p0, p1, p3, p4, p5, p7, p8, p9, p10, p11, p14, p15, p16, p17, p19, p20, p21, po, pb⟩ := id hD
  obtain ⟨hT, hX, hQ, hB, hK, hH, hFo, hPs⟩ := id hZ
  obtain ⟨ti1, ti2, ti3, ti4⟩ := id hT
  obtain ⟨bi1, bi2, bi3⟩ := id hB
  obtain ⟨ki1, ki2, ki3, ki4⟩ := id hK
  obtain ⟨hi1, hi2, hi3⟩ := id hH
  refine lv_iload_n hx hb dd_MO_found_0 rfl (lv_at hl 1 rfl) ?_
  refine lv_istore_n (lv' := [(2, .int i), (0, .ref (P 0)), (1, .int i)]) hx hb dd_MO_found_1 rfl hl (by decide) rfl (fun ls hl => ?_)
  refine lv_iconst (v := nI 0) hx hb dd_MO_found_2 (by decide +kernel) ?_
  refine lv_istore_n (lv' := [(3, .int (nI 0)), (2, .int i), (0, .ref (P 0)), (1, .int i)]) hx hb dd_MO_found_3 rfl hl (by decide) rfl (fun ls hl => ?_)
  have lp4 : ∀ (n9 : Nat) (k : Nat) (x9 : Int32) (Mu4 : hm_M), (k ≤ 16) → (0 ≤ i.toInt → x9.toInt = i.toInt - (((List.range k).filter fo).length : Nat) ∧ 0 ≤ x9.toInt) → (mo_D B D P O Mu4 I A L) → (cz_F O M O Mu4 pm) → 16 - k < n9 → ∀ (H : Heap) (locs : List Loc) (ls : Array Slot), hm_P D cl_W Mu4 H → va_S (hm_A B) s.heap H locs → lv_has ls 4 [(0, .ref (P 0)), (1, .int i), (2, .int x9), (3, .int (nI k))] → W p l e R s m ([.ref (P 0), .int i] : List Value).toArray below meth c H locs (0) (0) (MQ below (hm_Ni B D (fun r M1 => r = nI 0 ∧ ∃ I1 A1 L1, mo_D B D P O M1 I1 A1 L1 ∧ I1 0 = nI 1 ∧ mo_S I1 A1 L1 t ex qs bs key hs fo ps ∧ cz_F O M O M1 pm)) ([.ref (P 0), .int i] : List Value).toArray s (0) (0) (hm_A B)) (F0 m 4 ls []) := by
    intro n9
    induction n9 with
    | zero => intro k x9 Mu4 hk hlf hd4 hF4 hm; exact absurd hm (Nat.not_lt_zero _)
    | succ n9 ih4 =>
      intro k x9 Mu4 hk hlf hd4 hF4 hm H locs ls hP hS hl
      obtain ⟨g1_0, g1_1, g1_3, g1_4, g1_5, g1_7, g1_8, g1_9, g1_10, g1_11, g1_14, g1_15, g1_16, g1_17, g1_19, g1_20, g1_21, -, -⟩ := id hd4
      refine lv_iload_n hx hb dd_MO_found_4 rfl (lv_at hl 3 rfl) ?_
      refine lv_bipush (v := nI 16) hx hb dd_MO_found_5 (by decide +kernel) ?_
      refine hn_icmp_ge (tgt := 46) hx hb (by omega) (by omega) dd_MO_found_7 (by decide) (fun c2 => ?_) (fun c2 => ?_)
      · refine lv_aload_n hx hb dd_MO_found_46 rfl (lv_at hl 0 rfl) ?_
        refine lv_iconst (v := nI 1) hx hb dd_MO_found_47 (by decide +kernel) ?_
        have hF4 : cz_F O M O Mu4 pm := hF4
        have hd3 : mo_D B D P O Mu4 I A L := ⟨g1_0, g1_1, g1_3, g1_4, g1_5, g1_7, g1_8, g1_9, g1_10, g1_11, g1_14, g1_15, g1_16, g1_17, g1_19, g1_20, g1_21, po, pb⟩
        refine hm_ci hS (hm_rV 1 (As := [.int (nI 1)]) (rest := []) ⟨hx, hb, hml, hown, hts⟩ hE hS hP (kc_MO_raise l B D G Mu4 P O I A L hd3 (nI 1)) rfl g1_0 tw_1070 tw_1067 tw_1069 tw_17 tw_46 (by decide +kernel) rfl rfl ⟨by show 0 + 1 ≤ R.frames; omega, by show 8 + (2 + 11) + 0 ≤ R.locals; omega⟩ rfl hl.1 rfl (Nat.le_of_ble_eq_true rfl) dd_MO_found_48 ⟨by omega, by omega⟩) (fun r5 M6 H locs hw7 hP hS => ?_)
        refine W.widen (k := 0) (n := 0) (by omega) (by omega) ?_
        obtain ⟨rfl, hd8, hF9⟩ := hw7
        have hF9 := hF4.trans hF9
        obtain ⟨g10_0, g10_1, g10_3, g10_4, g10_5, g10_7, g10_8, g10_9, g10_10, g10_11, g10_14, g10_15, g10_16, g10_17, g10_19, g10_20, g10_21, -, -⟩ := id hd8
        have g10_0 : M6 (P 0) = some (.inr (6, [.int (nI 1), .ref (P 1), .int (I 2), .ref (P 3), .ref (P 4), .ref (P 5), .int (I 6), .ref (P 7), .ref (P 8), .ref (P 9), .ref (P 10), .ref (P 11), .int (I 12), .int (I 13), .ref (P 14), .ref (P 15), .ref (P 16), .ref (P 17), .int (I 18), .ref (P 19), .ref (P 20), .ref (P 21)])) := g10_0
        exact hm_Ei (v := nI 0) hx hb hr rfl hS hP (⟨rfl, (va_up I 0 (nI 1)), A, L, ⟨g10_0, g10_1, g10_3, g10_4, g10_5, g10_7, g10_8, g10_9, g10_10, g10_11, g10_14, g10_15, g10_16, g10_17, g10_19, g10_20, g10_21, po, pb⟩, rfl, ⟨hT, hX, hQ, hB, hK, hH, hFo, hPs⟩, hF9⟩) hlocks (by omega) (by omega) dd_MO_found_51
      · refine lv_iload_n hx hb dd_MO_found_10 rfl (lv_at hl 1 rfl) ?_
        refine hi_if_lt (tgt := 46) hx hb dd_MO_found_11 (by decide) (fun c11 => ?_) (fun c11 => ?_)
        · refine lv_aload_n hx hb dd_MO_found_46 rfl (lv_at hl 0 rfl) ?_
          refine lv_iconst (v := nI 1) hx hb dd_MO_found_47 (by decide +kernel) ?_
          have hF13 : cz_F O M O Mu4 pm := hF4
          have hd12 : mo_D B D P O Mu4 I A L := ⟨g1_0, g1_1, g1_3, g1_4, g1_5, g1_7, g1_8, g1_9, g1_10, g1_11, g1_14, g1_15, g1_16, g1_17, g1_19, g1_20, g1_21, po, pb⟩
          refine hm_ci hS (hm_rV 1 (As := [.int (nI 1)]) (rest := []) ⟨hx, hb, hml, hown, hts⟩ hE hS hP (kc_MO_raise l B D G Mu4 P O I A L hd12 (nI 1)) rfl g1_0 tw_1070 tw_1067 tw_1069 tw_17 tw_46 (by decide +kernel) rfl rfl ⟨by show 0 + 1 ≤ R.frames; omega, by show 8 + (2 + 11) + 0 ≤ R.locals; omega⟩ rfl hl.1 rfl (Nat.le_of_ble_eq_true rfl) dd_MO_found_48 ⟨by omega, by omega⟩) (fun r14 M15 H locs hw16 hP hS => ?_)
          refine W.widen (k := 0) (n := 0) (by omega) (by omega) ?_
          obtain ⟨rfl, hd17, hF18⟩ := hw16
          have hF18 := hF13.trans hF18
          obtain ⟨g19_0, g19_1, g19_3, g19_4, g19_5, g19_7, g19_8, g19_9, g19_10, g19_11, g19_14, g19_15, g19_16, g19_17, g19_19, g19_20, g19_21, -, -⟩ := id hd17
          have g19_0 : M15 (P 0) = some (.inr (6, [.int (nI 1), .ref (P 1), .int (I 2), .ref (P 3), .ref (P 4), .ref (P 5), .int (I 6), .ref (P 7), .ref (P 8), .ref (P 9), .ref (P 10), .ref (P 11), .int (I 12), .int (I 13), .ref (P 14), .ref (P 15), .ref (P 16), .ref (P 17), .int (I 18), .ref (P 19), .ref (P 20), .ref (P 21)])) := g19_0
          exact hm_Ei (v := nI 0) hx hb hr rfl hS hP (⟨rfl, (va_up I 0 (nI 1)), A, L, ⟨g19_0, g19_1, g19_3, g19_4, g19_5, g19_7, g19_8, g19_9, g19_10, g19_11, g19_14, g19_15, g19_16, g19_17, g19_19, g19_20, g19_21, po, pb⟩, rfl, ⟨hT, hX, hQ, hB, hK, hH, hFo, hPs⟩, hF18⟩) hlocks (by omega) (by omega) dd_MO_found_51
        · refine lv_aload_n hx hb dd_MO_found_14 rfl (lv_at hl 0 rfl) ?_
          refine hm_get (ci := 6) (C := rn_MO) (T := ft_MO) (N := 22) hx hb hts fi_MO hown hE.K hP g1_0 rfl 16 (by decide) (hts _ tw_1002) (fun _ h9 => h9) rfl dd_MO_found_15 ?_
          refine lv_iload_n hx hb dd_MO_found_18 rfl (lv_at hl 3 rfl) ?_
          refine hm_zald (j := k) hx hb hE.K hP 1 g1_16 rfl (vp_in_nI (by omega) (by omega)) (nI_clamp (by omega)) dd_MO_found_19 ?_
          refine W.eq (g2 := F0 m 20 ls [.int (nI (bz (fo k)))]) (by rw [hFo]) ?_
          refine hn_if_ne (tgt := 26) hx hb (bz_b _) dd_MO_found_20 (by decide) (fun c20 => ?_) (fun c20 => ?_)
          · have hfk := bz_t c20
            refine lv_iload_n hx hb dd_MO_found_26 rfl (lv_at hl 2 rfl) ?_
            refine hi_if_ne (tgt := 37) hx hb dd_MO_found_27 (by decide) (fun c21 => ?_) (fun c21 => ?_)
            · obtain ⟨x22, ex22⟩ : ∃ y : Int32, y = x9 + (-1) := ⟨_, rfl⟩
              refine lv_iinc (v := x22) (lv' := [(2, .int x22), (0, .ref (P 0)), (1, .int i), (3, .int (nI k))]) hx hb dd_MO_found_37 hl (k := 2) rfl (by rw [ex22]; rfl) (by decide) rfl (fun ls hl => ?_)
              refine lv_iinc (v := nI (k + 1)) (lv' := [(3, .int (nI (k + 1))), (2, .int x22), (0, .ref (P 0)), (1, .int i)]) hx hb dd_MO_found_40 hl (k := 3) rfl (nI_1 k) (by decide) rfl (fun ls hl => ?_)
              refine lv_goto (tgt := 4) hx hb dd_MO_found_43 (by decide) ?_
              exact ih4 (k + 1) x22 Mu4 (by omega) (fun h9 => by
                  have h8 := hlf h9
                  have h7 := fo_st (fo := fo) (k := k)
                  rw [hfk] at h7
                  have h6 : bz true = 1 := rfl
                  have h4 := hi_rng x9
                  have h5 : (x22).toInt = x9.toInt - 1 := by
                    rw [ex22, hi_add (by rw [tm1]; omega) (by rw [tm1]; omega), tm1]; omega
                  omega) (⟨g1_0, g1_1, g1_3, g1_4, g1_5, g1_7, g1_8, g1_9, g1_10, g1_11, g1_14, g1_15, g1_16, g1_17, g1_19, g1_20, g1_21, po, pb⟩) (hF4) (by omega) _ _ _ hP hS (lv_sub hl [2, 3, 1, 0] rfl)
            · have hfr : fo_r fo i = nI k := fo_some (by omega) hfk (by omega) (by have := (hlf (by omega)).1; omega)
              have hnk : ¬ nI k = -1 := fun h9 => by
                have h8 := congrArg Int32.toInt h9
                rw [nI_toInt (by omega), tm1] at h8; omega
              rw [hfr] at hne; exact absurd hne hnk
          · have hfk := bz_f c20
            refine lv_goto (tgt := 40) hx hb dd_MO_found_23 (by decide) ?_
            refine lv_iinc (v := nI (k + 1)) (lv' := [(3, .int (nI (k + 1))), (0, .ref (P 0)), (1, .int i), (2, .int x9)]) hx hb dd_MO_found_40 hl (k := 3) rfl (nI_1 k) (by decide) rfl (fun ls hl => ?_)
            refine lv_goto (tgt := 4) hx hb dd_MO_found_43 (by decide) ?_
            exact ih4 (k + 1) x9 Mu4 (by omega) (fun h9 => by
                have h8 := hlf h9
                have h7 := fo_st (fo := fo) (k := k)
                rw [hfk] at h7
                have h6 : bz false = 0 := rfl
                omega) (⟨g1_0, g1_1, g1_3, g1_4, g1_5, g1_7, g1_8, g1_9, g1_10, g1_11, g1_14, g1_15, g1_16, g1_17, g1_19, g1_20, g1_21, po, pb⟩) (hF4) (by omega) _ _ _ hP hS (lv_sub hl [1, 2, 3, 0] rfl)
  exact lp4 _ 0 i M (Nat.zero_le _) (fun h9 => ⟨by simp, h9⟩) (⟨p0, p1, p3, p4, p5, p7, p8, p9, p10, p11, p14, p15, p16, p17, p19, p20, p21, po, pb⟩) (cz_F.rf) (Nat.lt_succ_self _) _ _ _ hP hS (lv_sub hl [2, 3, 1, 0] rfl)
theorem cp_get {t : List Nat} {f g : Nat → Int32} {k : Nat} (h : ∀ j, j < k → f j = nI (t.getD j 0)) (hg : g k = nI (t.getD k 0)) : ∀ j, j < k + 1 → upd f k (g k) j = nI (t.getD j 0) := fun j hj => by
  unfold upd
  by_cases e : j = k
  · rw [if_pos e, e, hg]
  · rw [if_neg e]; exact h j (by omega)

set_option maxHeartbeats 4000000 in
set_option maxRecDepth 100000 in
theorem kc_MO_message (l : Launch) (B : Nat) (D : va_G) (G : Nat → Nat) (M : hm_M) (P O : Nat → Nat) (I : Nat → Int32) (A : Nat → Nat → Int32) (L : Nat → Nat → Int64) (hD : mo_D B D P O M I A L) (t : List Nat) (ex : Nat → Option (Int32 × Int32)) (qs : Nat → Bool) (bs : List bd_T) (key : List Nat) (hs : List (List Nat × List Nat)) (fo ps : Nat → Bool) (hZ : mo_S I A L t ex qs bs key hs fo ps) : Met l yy_MO_message ws_MO_message ({ frames := 0, cells := 0, slots := 0, locals := 0 }) (hm_Pc B D G M [.ref (P 0)]) (hm_Nv B D (fun M1 => ∃ I1 A1 L1, mo_D B D P O M1 I1 A1 L1 ∧ I1 0 = nI 0 ∧ mo_S I1 A1 L1 ([]) ex qs bs t ([]) fo ps ∧ cz_F O M O M1 pm)) (0) (0) (hm_A B) := by
  refine Met.ofW (cc := cd_MO_message) (maxL := 2) (ret := none) (by decide) rfl ?_
  intro p e s m args below meth c s₁ B0 hml hv
  obtain ⟨rfl, hE, hP⟩ := hv
  have hx := B0.exec
  have hb := B0.bytes
  have hr := B0.returns
  have hts : ∀ w ∈ tb_G, w.before _ s = true := fun w h => atoms_spec (ws := ws_MO_message) B0.pre w (List.mem_cons_of_mem _ h)
  have hown : s.vm.findClass "RouteDeskModel" = some m.cls := findClass_of_methodNamed B0.named
  have hlocks := B0.notSynchronized
  have hRf : (headSpec ws_MO_message { frames := 0, cells := 0, slots := 0, locals := 0 }).room.frames = 0 := rfl
  have hRl : (headSpec ws_MO_message { frames := 0, cells := 0, slots := 0, locals := 0 }).room.locals = 0 := rfl
  have hRc : (headSpec ws_MO_message { frames := 0, cells := 0, slots := 0, locals := 0 }).room.cells = 0 := rfl
  have hRs : (headSpec ws_MO_message { frames := 0, cells := 0, slots := 0, locals := 0 }).room.slots = 0 := rfl
  generalize (headSpec ws_MO_message { frames := 0, cells := 0, slots := 0, locals := 0 }).room = R at hRf hRl hRc hRs ⊢
  have hS : va_S (hm_A B) s.heap s.heap [] := va_S.rf
  have hl := lv_entry ([.ref (P 0)]) (n := 2) (Nat.le_of_ble_eq_true rfl)
  rw [lg_entry_eq]
  generalize (lg_sl ([.ref (P 0)]) ++ List.replicate (2 - (lg_sl ([.ref (P 0)])).length) Slot.unset).toArray = ls at hl ⊢
  have hl : lv_has ls 2 [(0, .ref (P 0))] := hl
  have t16 : (nI 16).toInt = 16 := by decide
  have tm1 : (-1 : Int32).toInt = -1 := by decide
  have t0 : (nI 0).toInt = 0 := by decide
  have t2 : (nI 2).toInt = 2 := by decide
  have t3 : (nI 3).toInt = 3 := by decide
  have t1 : (nI 1).toInt = 1 := by decide
  have t4 : (nI 4).toInt = 4 := by decide
  obtain ⟨p0, p1, p3, p4, p5, p7, p8, p9, p10, p11, p14, p15, p16, p17, p19, p20, p21, po, pb⟩ := id hD
  obtain ⟨hT, hX, hQ, hB, hK, hH, hFo, hPs⟩ := id hZ
  obtain ⟨ti1, ti2, ti3, ti4⟩ := id hT
  obtain ⟨bi1, bi2, bi3⟩ := id hB
  obtain ⟨ki1, ki2, ki3, ki4⟩ := id hK
  obtain ⟨hi1, hi2, hi3⟩ := id hH
  refine lv_aload_n hx hb dd_MO_message_0 rfl (lv_at hl 0 rfl) ?_
  refine lv_iconst (v := nI 0) hx hb dd_MO_message_1 (by decide +kernel) ?_
  refine hm_put (ci := 6) (v := .int (nI 0)) (ty := .int) (C := rn_MO) (T := ft_MO) (N := 22) hx hb hts fi_MO fy_MO fo_MO fn_MO hown hE.K hP hS (pb 0 (by decide)) p0 rfl 0 (by decide) (hts _ tw_986) (fun _ h9 => h9) rfl (by decide +kernel) rfl rfl (Nat.le_of_ble_eq_true rfl) dd_MO_message_2 (fun H locs hP hS => ?_)
  have hP : hm_P D cl_W (hm_up M (P 0) (.inr (6, [.int (nI 0), .ref (P 1), .int (I 2), .ref (P 3), .ref (P 4), .ref (P 5), .int (I 6), .ref (P 7), .ref (P 8), .ref (P 9), .ref (P 10), .ref (P 11), .int (I 12), .int (I 13), .ref (P 14), .ref (P 15), .ref (P 16), .ref (P 17), .int (I 18), .ref (P 19), .ref (P 20), .ref (P 21)]))) H := hP
  obtain ⟨M1, eM1⟩ : ∃ z, z = hm_up M (P 0) (.inr (6, [.int (nI 0), .ref (P 1), .int (I 2), .ref (P 3), .ref (P 4), .ref (P 5), .int (I 6), .ref (P 7), .ref (P 8), .ref (P 9), .ref (P 10), .ref (P 11), .int (I 12), .int (I 13), .ref (P 14), .ref (P 15), .ref (P 16), .ref (P 17), .int (I 18), .ref (P 19), .ref (P 20), .ref (P 21)])) := ⟨_, rfl⟩
  rw [← eM1] at hP
  have f2 : M1 (P 1) = some (.inl (D.1 102, 48, .inl (A 1))) := by rw [eM1]; exact hm_up_o (hm_neO (po 1 (by decide)) (po 0 (by decide)) (by decide)) p1
  have f3 : M1 (P 3) = some (.inl (D.1 102, 16, .inl (A 3))) := by rw [eM1]; exact hm_up_o (hm_neO (po 3 (by decide)) (po 0 (by decide)) (by decide)) p3
  have f4 : M1 (P 4) = some (.inl (D.1 102, 16, .inl (A 4))) := by rw [eM1]; exact hm_up_o (hm_neO (po 4 (by decide)) (po 0 (by decide)) (by decide)) p4
  have f5 : M1 (P 5) = some (.inl (D.1 101, 16, .inl (A 5))) := by rw [eM1]; exact hm_up_o (hm_neO (po 5 (by decide)) (po 0 (by decide)) (by decide)) p5
  have f6 : M1 (P 7) = some (.inl (D.1 102, 120, .inl (A 7))) := by rw [eM1]; exact hm_up_o (hm_neO (po 7 (by decide)) (po 0 (by decide)) (by decide)) p7
  have f7 : M1 (P 8) = some (.inl (D.1 102, 120, .inl (A 8))) := by rw [eM1]; exact hm_up_o (hm_neO (po 8 (by decide)) (po 0 (by decide)) (by decide)) p8
  have f8 : M1 (P 9) = some (.inl (D.1 102, 120, .inl (A 9))) := by rw [eM1]; exact hm_up_o (hm_neO (po 9 (by decide)) (po 0 (by decide)) (by decide)) p9
  have f9 : M1 (P 10) = some (.inl (D.1 102, 5760, .inl (A 10))) := by rw [eM1]; exact hm_up_o (hm_neO (po 10 (by decide)) (po 0 (by decide)) (by decide)) p10
  have f10 : M1 (P 11) = some (.inl (D.1 102, 48, .inl (A 11))) := by rw [eM1]; exact hm_up_o (hm_neO (po 11 (by decide)) (po 0 (by decide)) (by decide)) p11
  have f11 : M1 (P 14) = some (.inl (D.1 103, 6, .inr (.inl (L 14)))) := by rw [eM1]; exact hm_up_o (hm_neO (po 14 (by decide)) (po 0 (by decide)) (by decide)) p14
  have f12 : M1 (P 15) = some (.inl (D.1 103, 6, .inr (.inl (L 15)))) := by rw [eM1]; exact hm_up_o (hm_neO (po 15 (by decide)) (po 0 (by decide)) (by decide)) p15
  have f13 : M1 (P 16) = some (.inl (D.1 101, 16, .inl (A 16))) := by rw [eM1]; exact hm_up_o (hm_neO (po 16 (by decide)) (po 0 (by decide)) (by decide)) p16
  have f14 : M1 (P 17) = some (.inl (D.1 101, 16, .inl (A 17))) := by rw [eM1]; exact hm_up_o (hm_neO (po 17 (by decide)) (po 0 (by decide)) (by decide)) p17
  have f15 : M1 (P 19) = some (.inl (D.1 101, 2601, .inl (A 19))) := by rw [eM1]; exact hm_up_o (hm_neO (po 19 (by decide)) (po 0 (by decide)) (by decide)) p19
  have f16 : M1 (P 20) = some (.inl (D.1 102, 52, .inl (A 20))) := by rw [eM1]; exact hm_up_o (hm_neO (po 20 (by decide)) (po 0 (by decide)) (by decide)) p20
  have f17 : M1 (P 21) = some (.inl (D.1 102, 52, .inl (A 21))) := by rw [eM1]; exact hm_up_o (hm_neO (po 21 (by decide)) (po 0 (by decide)) (by decide)) p21
  have f18 : M1 (P 0) = some (.inr (6, [.int (nI 0), .ref (P 1), .int (I 2), .ref (P 3), .ref (P 4), .ref (P 5), .int (I 6), .ref (P 7), .ref (P 8), .ref (P 9), .ref (P 10), .ref (P 11), .int (I 12), .int (I 13), .ref (P 14), .ref (P 15), .ref (P 16), .ref (P 17), .int (I 18), .ref (P 19), .ref (P 20), .ref (P 21)])) := by rw [eM1]; exact hm_up_s
  refine lv_iconst (v := nI 0) hx hb dd_MO_message_5 (by decide +kernel) ?_
  refine lv_istore_n (lv' := [(1, .int (nI 0)), (0, .ref (P 0))]) hx hb dd_MO_message_6 rfl hl (by decide) rfl (fun ls hl => ?_)
  have lp7 : ∀ (n9 : Nat) (k : Nat) (fk : Nat → Int32) (Mu7 : hm_M), (k ≤ t.length) → (∀ j, j < k → fk j = nI (t.getD j 0)) → (mo_D B D P O Mu7 (va_up I 0 (nI 0)) (va_up A 11 fk) L) → (cz_F O M O Mu7 pm) → t.length - k < n9 → ∀ (H : Heap) (locs : List Loc) (ls : Array Slot), hm_P D cl_W Mu7 H → va_S (hm_A B) s.heap H locs → lv_has ls 2 [(0, .ref (P 0)), (1, .int (nI k))] → W p l e R s m ([.ref (P 0)] : List Value).toArray below meth c H locs (0) (0) (MQ below (hm_Nv B D (fun M1 => ∃ I1 A1 L1, mo_D B D P O M1 I1 A1 L1 ∧ I1 0 = nI 0 ∧ mo_S I1 A1 L1 ([]) ex qs bs t ([]) fo ps ∧ cz_F O M O M1 pm)) ([.ref (P 0)] : List Value).toArray s (0) (0) (hm_A B)) (F0 m 7 ls []) := by
    intro n9
    induction n9 with
    | zero => intro k fk Mu7 hk hfk hd7 hF7 hm; exact absurd hm (Nat.not_lt_zero _)
    | succ n9 ih7 =>
      intro k fk Mu7 hk hfk hd7 hF7 hm H locs ls hP hS hl
      obtain ⟨g19_0, g19_1, g19_3, g19_4, g19_5, g19_7, g19_8, g19_9, g19_10, g19_11, g19_14, g19_15, g19_16, g19_17, g19_19, g19_20, g19_21, -, -⟩ := id hd7
      have g19_0 : Mu7 (P 0) = some (.inr (6, [.int (nI 0), .ref (P 1), .int (I 2), .ref (P 3), .ref (P 4), .ref (P 5), .int (I 6), .ref (P 7), .ref (P 8), .ref (P 9), .ref (P 10), .ref (P 11), .int (I 12), .int (I 13), .ref (P 14), .ref (P 15), .ref (P 16), .ref (P 17), .int (I 18), .ref (P 19), .ref (P 20), .ref (P 21)])) := g19_0
      have g19_1 : Mu7 (P 1) = some (.inl (D.1 102, 48, .inl (A 1))) := g19_1
      have g19_3 : Mu7 (P 3) = some (.inl (D.1 102, 16, .inl (A 3))) := g19_3
      have g19_4 : Mu7 (P 4) = some (.inl (D.1 102, 16, .inl (A 4))) := g19_4
      have g19_5 : Mu7 (P 5) = some (.inl (D.1 101, 16, .inl (A 5))) := g19_5
      have g19_7 : Mu7 (P 7) = some (.inl (D.1 102, 120, .inl (A 7))) := g19_7
      have g19_8 : Mu7 (P 8) = some (.inl (D.1 102, 120, .inl (A 8))) := g19_8
      have g19_9 : Mu7 (P 9) = some (.inl (D.1 102, 120, .inl (A 9))) := g19_9
      have g19_10 : Mu7 (P 10) = some (.inl (D.1 102, 5760, .inl (A 10))) := g19_10
      have g19_11 : Mu7 (P 11) = some (.inl (D.1 102, 48, .inl fk)) := g19_11
      have g19_16 : Mu7 (P 16) = some (.inl (D.1 101, 16, .inl (A 16))) := g19_16
      have g19_17 : Mu7 (P 17) = some (.inl (D.1 101, 16, .inl (A 17))) := g19_17
      have g19_19 : Mu7 (P 19) = some (.inl (D.1 101, 2601, .inl (A 19))) := g19_19
      have g19_20 : Mu7 (P 20) = some (.inl (D.1 102, 52, .inl (A 20))) := g19_20
      have g19_21 : Mu7 (P 21) = some (.inl (D.1 102, 52, .inl (A 21))) := g19_21
      refine lv_iload_n hx hb dd_MO_message_7 rfl (lv_at hl 1 rfl) ?_
      refine lv_aload_n hx hb dd_MO_message_8 rfl (lv_at hl 0 rfl) ?_
      refine hm_get (ci := 6) (C := rn_MO) (T := ft_MO) (N := 22) hx hb hts fi_MO hown hE.K hP g19_0 rfl 2 (by decide) (hts _ tw_988) (fun _ h9 => h9) rfl dd_MO_message_9 ?_
      refine W.eq (g2 := F0 m 12 ls [.int (nI t.length), .int (nI k)]) (by rw [ti1]) ?_
      refine hn_icmp_ge (tgt := 33) hx hb (by omega) (by omega) dd_MO_message_12 (by decide) (fun c20 => ?_) (fun c20 => ?_)
      · refine lv_aload_n hx hb dd_MO_message_33 rfl (lv_at hl 0 rfl) ?_
        refine lv_aload_n hx hb dd_MO_message_34 rfl (lv_at hl 0 rfl) ?_
        refine hm_get (ci := 6) (C := rn_MO) (T := ft_MO) (N := 22) hx hb hts fi_MO hown hE.K hP g19_0 rfl 2 (by decide) (hts _ tw_988) (fun _ h9 => h9) rfl dd_MO_message_35 ?_
        refine W.eq (g2 := F0 m 38 ls [.int (nI t.length), .ref (P 0)]) (by rw [ti1]) ?_
        refine hm_put (ci := 6) (v := .int (nI t.length)) (ty := .int) (C := rn_MO) (T := ft_MO) (N := 22) hx hb hts fi_MO fy_MO fo_MO fn_MO hown hE.K hP hS (pb 0 (by decide)) g19_0 rfl 12 (by decide) (hts _ tw_998) (fun _ h9 => h9) rfl (by decide +kernel) rfl rfl (Nat.le_of_ble_eq_true rfl) dd_MO_message_38 (fun H locs hP hS => ?_)
        have hP : hm_P D cl_W (hm_up Mu7 (P 0) (.inr (6, [.int (nI 0), .ref (P 1), .int (I 2), .ref (P 3), .ref (P 4), .ref (P 5), .int (I 6), .ref (P 7), .ref (P 8), .ref (P 9), .ref (P 10), .ref (P 11), .int (nI t.length), .int (I 13), .ref (P 14), .ref (P 15), .ref (P 16), .ref (P 17), .int (I 18), .ref (P 19), .ref (P 20), .ref (P 21)]))) H := hP
        obtain ⟨M21, eM21⟩ : ∃ z, z = hm_up Mu7 (P 0) (.inr (6, [.int (nI 0), .ref (P 1), .int (I 2), .ref (P 3), .ref (P 4), .ref (P 5), .int (I 6), .ref (P 7), .ref (P 8), .ref (P 9), .ref (P 10), .ref (P 11), .int (nI t.length), .int (I 13), .ref (P 14), .ref (P 15), .ref (P 16), .ref (P 17), .int (I 18), .ref (P 19), .ref (P 20), .ref (P 21)])) := ⟨_, rfl⟩
        rw [← eM21] at hP
        have f22 : M21 (P 1) = some (.inl (D.1 102, 48, .inl (A 1))) := by rw [eM21]; exact hm_up_o (hm_neO (po 1 (by decide)) (po 0 (by decide)) (by decide)) g19_1
        have f23 : M21 (P 3) = some (.inl (D.1 102, 16, .inl (A 3))) := by rw [eM21]; exact hm_up_o (hm_neO (po 3 (by decide)) (po 0 (by decide)) (by decide)) g19_3
        have f24 : M21 (P 4) = some (.inl (D.1 102, 16, .inl (A 4))) := by rw [eM21]; exact hm_up_o (hm_neO (po 4 (by decide)) (po 0 (by decide)) (by decide)) g19_4
        have f25 : M21 (P 5) = some (.inl (D.1 101, 16, .inl (A 5))) := by rw [eM21]; exact hm_up_o (hm_neO (po 5 (by decide)) (po 0 (by decide)) (by decide)) g19_5
        have f26 : M21 (P 7) = some (.inl (D.1 102, 120, .inl (A 7))) := by rw [eM21]; exact hm_up_o (hm_neO (po 7 (by decide)) (po 0 (by decide)) (by decide)) g19_7
        have f27 : M21 (P 8) = some (.inl (D.1 102, 120, .inl (A 8))) := by rw [eM21]; exact hm_up_o (hm_neO (po 8 (by decide)) (po 0 (by decide)) (by decide)) g19_8
        have f28 : M21 (P 9) = some (.inl (D.1 102, 120, .inl (A 9))) := by rw [eM21]; exact hm_up_o (hm_neO (po 9 (by decide)) (po 0 (by decide)) (by decide)) g19_9
        have f29 : M21 (P 10) = some (.inl (D.1 102, 5760, .inl (A 10))) := by rw [eM21]; exact hm_up_o (hm_neO (po 10 (by decide)) (po 0 (by decide)) (by decide)) g19_10
        have f30 : M21 (P 11) = some (.inl (D.1 102, 48, .inl fk)) := by rw [eM21]; exact hm_up_o (hm_neO (po 11 (by decide)) (po 0 (by decide)) (by decide)) g19_11
        have f31 : M21 (P 14) = some (.inl (D.1 103, 6, .inr (.inl (L 14)))) := by rw [eM21]; exact hm_up_o (hm_neO (po 14 (by decide)) (po 0 (by decide)) (by decide)) g19_14
        have f32 : M21 (P 15) = some (.inl (D.1 103, 6, .inr (.inl (L 15)))) := by rw [eM21]; exact hm_up_o (hm_neO (po 15 (by decide)) (po 0 (by decide)) (by decide)) g19_15
        have f33 : M21 (P 16) = some (.inl (D.1 101, 16, .inl (A 16))) := by rw [eM21]; exact hm_up_o (hm_neO (po 16 (by decide)) (po 0 (by decide)) (by decide)) g19_16
        have f34 : M21 (P 17) = some (.inl (D.1 101, 16, .inl (A 17))) := by rw [eM21]; exact hm_up_o (hm_neO (po 17 (by decide)) (po 0 (by decide)) (by decide)) g19_17
        have f35 : M21 (P 19) = some (.inl (D.1 101, 2601, .inl (A 19))) := by rw [eM21]; exact hm_up_o (hm_neO (po 19 (by decide)) (po 0 (by decide)) (by decide)) g19_19
        have f36 : M21 (P 20) = some (.inl (D.1 102, 52, .inl (A 20))) := by rw [eM21]; exact hm_up_o (hm_neO (po 20 (by decide)) (po 0 (by decide)) (by decide)) g19_20
        have f37 : M21 (P 21) = some (.inl (D.1 102, 52, .inl (A 21))) := by rw [eM21]; exact hm_up_o (hm_neO (po 21 (by decide)) (po 0 (by decide)) (by decide)) g19_21
        have f38 : M21 (P 0) = some (.inr (6, [.int (nI 0), .ref (P 1), .int (I 2), .ref (P 3), .ref (P 4), .ref (P 5), .int (I 6), .ref (P 7), .ref (P 8), .ref (P 9), .ref (P 10), .ref (P 11), .int (nI t.length), .int (I 13), .ref (P 14), .ref (P 15), .ref (P 16), .ref (P 17), .int (I 18), .ref (P 19), .ref (P 20), .ref (P 21)])) := by rw [eM21]; exact hm_up_s
        refine lv_aload_n hx hb dd_MO_message_41 rfl (lv_at hl 0 rfl) ?_
        refine lv_iconst (v := nI 0) hx hb dd_MO_message_42 (by decide +kernel) ?_
        refine hm_put (ci := 6) (v := .int (nI 0)) (ty := .int) (C := rn_MO) (T := ft_MO) (N := 22) hx hb hts fi_MO fy_MO fo_MO fn_MO hown hE.K hP hS (pb 0 (by decide)) f38 rfl 2 (by decide) (hts _ tw_988) (fun _ h9 => h9) rfl (by decide +kernel) rfl rfl (Nat.le_of_ble_eq_true rfl) dd_MO_message_43 (fun H locs hP hS => ?_)
        have hP : hm_P D cl_W (hm_up M21 (P 0) (.inr (6, [.int (nI 0), .ref (P 1), .int (nI 0), .ref (P 3), .ref (P 4), .ref (P 5), .int (I 6), .ref (P 7), .ref (P 8), .ref (P 9), .ref (P 10), .ref (P 11), .int (nI t.length), .int (I 13), .ref (P 14), .ref (P 15), .ref (P 16), .ref (P 17), .int (I 18), .ref (P 19), .ref (P 20), .ref (P 21)]))) H := hP
        obtain ⟨M39, eM39⟩ : ∃ z, z = hm_up M21 (P 0) (.inr (6, [.int (nI 0), .ref (P 1), .int (nI 0), .ref (P 3), .ref (P 4), .ref (P 5), .int (I 6), .ref (P 7), .ref (P 8), .ref (P 9), .ref (P 10), .ref (P 11), .int (nI t.length), .int (I 13), .ref (P 14), .ref (P 15), .ref (P 16), .ref (P 17), .int (I 18), .ref (P 19), .ref (P 20), .ref (P 21)])) := ⟨_, rfl⟩
        rw [← eM39] at hP
        have f40 : M39 (P 1) = some (.inl (D.1 102, 48, .inl (A 1))) := by rw [eM39]; exact hm_up_o (hm_neO (po 1 (by decide)) (po 0 (by decide)) (by decide)) f22
        have f41 : M39 (P 3) = some (.inl (D.1 102, 16, .inl (A 3))) := by rw [eM39]; exact hm_up_o (hm_neO (po 3 (by decide)) (po 0 (by decide)) (by decide)) f23
        have f42 : M39 (P 4) = some (.inl (D.1 102, 16, .inl (A 4))) := by rw [eM39]; exact hm_up_o (hm_neO (po 4 (by decide)) (po 0 (by decide)) (by decide)) f24
        have f43 : M39 (P 5) = some (.inl (D.1 101, 16, .inl (A 5))) := by rw [eM39]; exact hm_up_o (hm_neO (po 5 (by decide)) (po 0 (by decide)) (by decide)) f25
        have f44 : M39 (P 7) = some (.inl (D.1 102, 120, .inl (A 7))) := by rw [eM39]; exact hm_up_o (hm_neO (po 7 (by decide)) (po 0 (by decide)) (by decide)) f26
        have f45 : M39 (P 8) = some (.inl (D.1 102, 120, .inl (A 8))) := by rw [eM39]; exact hm_up_o (hm_neO (po 8 (by decide)) (po 0 (by decide)) (by decide)) f27
        have f46 : M39 (P 9) = some (.inl (D.1 102, 120, .inl (A 9))) := by rw [eM39]; exact hm_up_o (hm_neO (po 9 (by decide)) (po 0 (by decide)) (by decide)) f28
        have f47 : M39 (P 10) = some (.inl (D.1 102, 5760, .inl (A 10))) := by rw [eM39]; exact hm_up_o (hm_neO (po 10 (by decide)) (po 0 (by decide)) (by decide)) f29
        have f48 : M39 (P 11) = some (.inl (D.1 102, 48, .inl fk)) := by rw [eM39]; exact hm_up_o (hm_neO (po 11 (by decide)) (po 0 (by decide)) (by decide)) f30
        have f49 : M39 (P 14) = some (.inl (D.1 103, 6, .inr (.inl (L 14)))) := by rw [eM39]; exact hm_up_o (hm_neO (po 14 (by decide)) (po 0 (by decide)) (by decide)) f31
        have f50 : M39 (P 15) = some (.inl (D.1 103, 6, .inr (.inl (L 15)))) := by rw [eM39]; exact hm_up_o (hm_neO (po 15 (by decide)) (po 0 (by decide)) (by decide)) f32
        have f51 : M39 (P 16) = some (.inl (D.1 101, 16, .inl (A 16))) := by rw [eM39]; exact hm_up_o (hm_neO (po 16 (by decide)) (po 0 (by decide)) (by decide)) f33
        have f52 : M39 (P 17) = some (.inl (D.1 101, 16, .inl (A 17))) := by rw [eM39]; exact hm_up_o (hm_neO (po 17 (by decide)) (po 0 (by decide)) (by decide)) f34
        have f53 : M39 (P 19) = some (.inl (D.1 101, 2601, .inl (A 19))) := by rw [eM39]; exact hm_up_o (hm_neO (po 19 (by decide)) (po 0 (by decide)) (by decide)) f35
        have f54 : M39 (P 20) = some (.inl (D.1 102, 52, .inl (A 20))) := by rw [eM39]; exact hm_up_o (hm_neO (po 20 (by decide)) (po 0 (by decide)) (by decide)) f36
        have f55 : M39 (P 21) = some (.inl (D.1 102, 52, .inl (A 21))) := by rw [eM39]; exact hm_up_o (hm_neO (po 21 (by decide)) (po 0 (by decide)) (by decide)) f37
        have f56 : M39 (P 0) = some (.inr (6, [.int (nI 0), .ref (P 1), .int (nI 0), .ref (P 3), .ref (P 4), .ref (P 5), .int (I 6), .ref (P 7), .ref (P 8), .ref (P 9), .ref (P 10), .ref (P 11), .int (nI t.length), .int (I 13), .ref (P 14), .ref (P 15), .ref (P 16), .ref (P 17), .int (I 18), .ref (P 19), .ref (P 20), .ref (P 21)])) := by rw [eM39]; exact hm_up_s
        refine lv_aload_n hx hb dd_MO_message_46 rfl (lv_at hl 0 rfl) ?_
        refine lv_iconst (v := nI 0) hx hb dd_MO_message_47 (by decide +kernel) ?_
        refine hm_put (ci := 6) (v := .int (nI 0)) (ty := .int) (C := rn_MO) (T := ft_MO) (N := 22) hx hb hts fi_MO fy_MO fo_MO fn_MO hown hE.K hP hS (pb 0 (by decide)) f56 rfl 13 (by decide) (hts _ tw_999) (fun _ h9 => h9) rfl (by decide +kernel) rfl rfl (Nat.le_of_ble_eq_true rfl) dd_MO_message_48 (fun H locs hP hS => ?_)
        have hP : hm_P D cl_W (hm_up M39 (P 0) (.inr (6, [.int (nI 0), .ref (P 1), .int (nI 0), .ref (P 3), .ref (P 4), .ref (P 5), .int (I 6), .ref (P 7), .ref (P 8), .ref (P 9), .ref (P 10), .ref (P 11), .int (nI t.length), .int (nI 0), .ref (P 14), .ref (P 15), .ref (P 16), .ref (P 17), .int (I 18), .ref (P 19), .ref (P 20), .ref (P 21)]))) H := hP
        obtain ⟨M57, eM57⟩ : ∃ z, z = hm_up M39 (P 0) (.inr (6, [.int (nI 0), .ref (P 1), .int (nI 0), .ref (P 3), .ref (P 4), .ref (P 5), .int (I 6), .ref (P 7), .ref (P 8), .ref (P 9), .ref (P 10), .ref (P 11), .int (nI t.length), .int (nI 0), .ref (P 14), .ref (P 15), .ref (P 16), .ref (P 17), .int (I 18), .ref (P 19), .ref (P 20), .ref (P 21)])) := ⟨_, rfl⟩
        rw [← eM57] at hP
        have f58 : M57 (P 1) = some (.inl (D.1 102, 48, .inl (A 1))) := by rw [eM57]; exact hm_up_o (hm_neO (po 1 (by decide)) (po 0 (by decide)) (by decide)) f40
        have f59 : M57 (P 3) = some (.inl (D.1 102, 16, .inl (A 3))) := by rw [eM57]; exact hm_up_o (hm_neO (po 3 (by decide)) (po 0 (by decide)) (by decide)) f41
        have f60 : M57 (P 4) = some (.inl (D.1 102, 16, .inl (A 4))) := by rw [eM57]; exact hm_up_o (hm_neO (po 4 (by decide)) (po 0 (by decide)) (by decide)) f42
        have f61 : M57 (P 5) = some (.inl (D.1 101, 16, .inl (A 5))) := by rw [eM57]; exact hm_up_o (hm_neO (po 5 (by decide)) (po 0 (by decide)) (by decide)) f43
        have f62 : M57 (P 7) = some (.inl (D.1 102, 120, .inl (A 7))) := by rw [eM57]; exact hm_up_o (hm_neO (po 7 (by decide)) (po 0 (by decide)) (by decide)) f44
        have f63 : M57 (P 8) = some (.inl (D.1 102, 120, .inl (A 8))) := by rw [eM57]; exact hm_up_o (hm_neO (po 8 (by decide)) (po 0 (by decide)) (by decide)) f45
        have f64 : M57 (P 9) = some (.inl (D.1 102, 120, .inl (A 9))) := by rw [eM57]; exact hm_up_o (hm_neO (po 9 (by decide)) (po 0 (by decide)) (by decide)) f46
        have f65 : M57 (P 10) = some (.inl (D.1 102, 5760, .inl (A 10))) := by rw [eM57]; exact hm_up_o (hm_neO (po 10 (by decide)) (po 0 (by decide)) (by decide)) f47
        have f66 : M57 (P 11) = some (.inl (D.1 102, 48, .inl fk)) := by rw [eM57]; exact hm_up_o (hm_neO (po 11 (by decide)) (po 0 (by decide)) (by decide)) f48
        have f67 : M57 (P 14) = some (.inl (D.1 103, 6, .inr (.inl (L 14)))) := by rw [eM57]; exact hm_up_o (hm_neO (po 14 (by decide)) (po 0 (by decide)) (by decide)) f49
        have f68 : M57 (P 15) = some (.inl (D.1 103, 6, .inr (.inl (L 15)))) := by rw [eM57]; exact hm_up_o (hm_neO (po 15 (by decide)) (po 0 (by decide)) (by decide)) f50
        have f69 : M57 (P 16) = some (.inl (D.1 101, 16, .inl (A 16))) := by rw [eM57]; exact hm_up_o (hm_neO (po 16 (by decide)) (po 0 (by decide)) (by decide)) f51
        have f70 : M57 (P 17) = some (.inl (D.1 101, 16, .inl (A 17))) := by rw [eM57]; exact hm_up_o (hm_neO (po 17 (by decide)) (po 0 (by decide)) (by decide)) f52
        have f71 : M57 (P 19) = some (.inl (D.1 101, 2601, .inl (A 19))) := by rw [eM57]; exact hm_up_o (hm_neO (po 19 (by decide)) (po 0 (by decide)) (by decide)) f53
        have f72 : M57 (P 20) = some (.inl (D.1 102, 52, .inl (A 20))) := by rw [eM57]; exact hm_up_o (hm_neO (po 20 (by decide)) (po 0 (by decide)) (by decide)) f54
        have f73 : M57 (P 21) = some (.inl (D.1 102, 52, .inl (A 21))) := by rw [eM57]; exact hm_up_o (hm_neO (po 21 (by decide)) (po 0 (by decide)) (by decide)) f55
        have f74 : M57 (P 0) = some (.inr (6, [.int (nI 0), .ref (P 1), .int (nI 0), .ref (P 3), .ref (P 4), .ref (P 5), .int (I 6), .ref (P 7), .ref (P 8), .ref (P 9), .ref (P 10), .ref (P 11), .int (nI t.length), .int (nI 0), .ref (P 14), .ref (P 15), .ref (P 16), .ref (P 17), .int (I 18), .ref (P 19), .ref (P 20), .ref (P 21)])) := by rw [eM57]; exact hm_up_s
        have hkt : k = t.length := by omega
        subst hkt
        have kk75 : hm_k Mu7 Mu7 [(P 0)] := hm_krf
        have kk76 : hm_k Mu7 M21 [(P 0)] := hm_ku kk75 (Or.inr (by simp)) eM21
        have kk77 : hm_k Mu7 M39 [(P 0)] := hm_ku kk76 (Or.inr (by simp)) eM39
        have kk78 : hm_k Mu7 M57 [(P 0)] := hm_ku kk77 (Or.inr (by simp)) eM57
        exact hm_Ev hx hb hr hS hP (⟨(va_up (va_up (va_up (va_up I 0 (nI 0)) 2 (nI 0)) 12 (nI t.length)) 13 (nI 0)), (va_up A 11 fk), L, ⟨f74, f58, f59, f60, f61, f62, f63, f64, f65, f66, f67, f68, f69, f70, f71, f72, f73, po, pb⟩, rfl, ⟨tpS_0, hX, hQ, hB, ⟨rfl, hfk, ti3, ti4⟩, ⟨rfl, Nat.zero_le _, fun j h9 h8 => by cases h8⟩, hFo, hPs⟩, (hF7).trans (cz_F.k0 kk78 (hm_a1 ⟨by rw [po 0 (by decide)]; unfold pm; omega, _, f74⟩))⟩) hlocks (by omega) (by omega) dd_MO_message_51
      · refine lv_aload_n hx hb dd_MO_message_15 rfl (lv_at hl 0 rfl) ?_
        refine hm_get (ci := 6) (C := rn_MO) (T := ft_MO) (N := 22) hx hb hts fi_MO hown hE.K hP g19_0 rfl 11 (by decide) (hts _ tw_997) (fun _ h9 => h9) rfl dd_MO_message_16 ?_
        refine lv_iload_n hx hb dd_MO_message_19 rfl (lv_at hl 1 rfl) ?_
        refine lv_aload_n hx hb dd_MO_message_20 rfl (lv_at hl 0 rfl) ?_
        refine hm_get (ci := 6) (C := rn_MO) (T := ft_MO) (N := 22) hx hb hts fi_MO hown hE.K hP g19_0 rfl 1 (by decide) (hts _ tw_987) (fun _ h9 => h9) rfl dd_MO_message_21 ?_
        refine lv_iload_n hx hb dd_MO_message_24 rfl (lv_at hl 1 rfl) ?_
        refine hm_iald (j := k) hx hb hE.K hP 2 g19_1 rfl (vp_in_nI (by omega) (by omega)) (nI_clamp (by omega)) dd_MO_message_25 ?_
        refine hm_iast (j := k) hx hb hE.K hP hS (pb 11 (by decide)) 2 g19_11 rfl (vp_in_nI (by omega) (by omega)) (nI_clamp (by omega)) dd_MO_message_26 (fun H locs hP hS => ?_)
        obtain ⟨M79, eM79⟩ : ∃ z, z = hm_up Mu7 (P 11) (.inl (D.1 102, 48, .inl (upd fk k ((A 1) k)))) := ⟨_, rfl⟩
        rw [← eM79] at hP
        have f80 : M79 (P 0) = some (.inr (6, [.int (nI 0), .ref (P 1), .int (I 2), .ref (P 3), .ref (P 4), .ref (P 5), .int (I 6), .ref (P 7), .ref (P 8), .ref (P 9), .ref (P 10), .ref (P 11), .int (I 12), .int (I 13), .ref (P 14), .ref (P 15), .ref (P 16), .ref (P 17), .int (I 18), .ref (P 19), .ref (P 20), .ref (P 21)])) := by rw [eM79]; exact hm_up_o (hm_neO (po 0 (by decide)) (po 11 (by decide)) (by decide)) g19_0
        have f81 : M79 (P 1) = some (.inl (D.1 102, 48, .inl (A 1))) := by rw [eM79]; exact hm_up_o (hm_neO (po 1 (by decide)) (po 11 (by decide)) (by decide)) g19_1
        have f82 : M79 (P 3) = some (.inl (D.1 102, 16, .inl (A 3))) := by rw [eM79]; exact hm_up_o (hm_neO (po 3 (by decide)) (po 11 (by decide)) (by decide)) g19_3
        have f83 : M79 (P 4) = some (.inl (D.1 102, 16, .inl (A 4))) := by rw [eM79]; exact hm_up_o (hm_neO (po 4 (by decide)) (po 11 (by decide)) (by decide)) g19_4
        have f84 : M79 (P 5) = some (.inl (D.1 101, 16, .inl (A 5))) := by rw [eM79]; exact hm_up_o (hm_neO (po 5 (by decide)) (po 11 (by decide)) (by decide)) g19_5
        have f85 : M79 (P 7) = some (.inl (D.1 102, 120, .inl (A 7))) := by rw [eM79]; exact hm_up_o (hm_neO (po 7 (by decide)) (po 11 (by decide)) (by decide)) g19_7
        have f86 : M79 (P 8) = some (.inl (D.1 102, 120, .inl (A 8))) := by rw [eM79]; exact hm_up_o (hm_neO (po 8 (by decide)) (po 11 (by decide)) (by decide)) g19_8
        have f87 : M79 (P 9) = some (.inl (D.1 102, 120, .inl (A 9))) := by rw [eM79]; exact hm_up_o (hm_neO (po 9 (by decide)) (po 11 (by decide)) (by decide)) g19_9
        have f88 : M79 (P 10) = some (.inl (D.1 102, 5760, .inl (A 10))) := by rw [eM79]; exact hm_up_o (hm_neO (po 10 (by decide)) (po 11 (by decide)) (by decide)) g19_10
        have f89 : M79 (P 14) = some (.inl (D.1 103, 6, .inr (.inl (L 14)))) := by rw [eM79]; exact hm_up_o (hm_neO (po 14 (by decide)) (po 11 (by decide)) (by decide)) g19_14
        have f90 : M79 (P 15) = some (.inl (D.1 103, 6, .inr (.inl (L 15)))) := by rw [eM79]; exact hm_up_o (hm_neO (po 15 (by decide)) (po 11 (by decide)) (by decide)) g19_15
        have f91 : M79 (P 16) = some (.inl (D.1 101, 16, .inl (A 16))) := by rw [eM79]; exact hm_up_o (hm_neO (po 16 (by decide)) (po 11 (by decide)) (by decide)) g19_16
        have f92 : M79 (P 17) = some (.inl (D.1 101, 16, .inl (A 17))) := by rw [eM79]; exact hm_up_o (hm_neO (po 17 (by decide)) (po 11 (by decide)) (by decide)) g19_17
        have f93 : M79 (P 19) = some (.inl (D.1 101, 2601, .inl (A 19))) := by rw [eM79]; exact hm_up_o (hm_neO (po 19 (by decide)) (po 11 (by decide)) (by decide)) g19_19
        have f94 : M79 (P 20) = some (.inl (D.1 102, 52, .inl (A 20))) := by rw [eM79]; exact hm_up_o (hm_neO (po 20 (by decide)) (po 11 (by decide)) (by decide)) g19_20
        have f95 : M79 (P 21) = some (.inl (D.1 102, 52, .inl (A 21))) := by rw [eM79]; exact hm_up_o (hm_neO (po 21 (by decide)) (po 11 (by decide)) (by decide)) g19_21
        have f96 : M79 (P 11) = some (.inl (D.1 102, 48, .inl (upd fk k ((A 1) k)))) := by rw [eM79]; exact hm_up_s
        refine lv_iinc (v := nI (k + 1)) (lv' := [(1, .int (nI (k + 1))), (0, .ref (P 0))]) hx hb dd_MO_message_27 hl (k := 1) rfl (nI_1 k) (by decide) rfl (fun ls hl => ?_)
        refine lv_goto (tgt := 7) hx hb dd_MO_message_30 (by decide) ?_
        have kk97 : hm_k Mu7 Mu7 [(P 11)] := hm_krf
        have kk98 : hm_k Mu7 M79 [(P 11)] := hm_ku kk97 (Or.inr (by simp)) eM79
        exact ih7 (k + 1) (upd fk k ((A 1) k)) M79 (by omega) (cp_get hfk (ti2 k (by omega))) (⟨f80, f81, f82, f83, f84, f85, f86, f87, f88, f96, f89, f90, f91, f92, f93, f94, f95, po, pb⟩) ((hF7).trans (cz_F.k0 kk98 (hm_a1 ⟨by rw [po 11 (by decide)]; unfold pm; omega, _, f96⟩))) (by omega) _ _ _ hP hS (lv_sub hl [1, 0] rfl)
  have kk99 : hm_k M M [(P 0)] := hm_krf
  have kk100 : hm_k M M1 [(P 0)] := hm_ku kk99 (Or.inr (by simp)) eM1
  exact lp7 _ 0 (A 11) M1 (Nat.zero_le _) (fun j hj => absurd hj (Nat.not_lt_zero _)) (⟨f18, f2, f3, f4, f5, f6, f7, f8, f9, f10, f11, f12, f13, f14, f15, f16, f17, po, pb⟩) (cz_F.k0 kk100 (hm_a1 ⟨by rw [po 0 (by decide)]; unfold pm; omega, _, f18⟩)) (Nat.lt_succ_self _) _ _ _ hP hS (lv_sub hl [1, 0] rfl)
