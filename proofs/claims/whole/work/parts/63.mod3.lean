/-! the model's bindings -/
theorem bdS1_mv {f g z x f1 g1 z1 x1 : Nat → Int32} {j k : Nat} {d : bd_T} (h : bdS1 f g z x j d) (hf : f1 k = f j) (hg : g1 k = g j) (hz : z1 k = z j) (hx : ∀ i, i < 48 → x1 (48 * k + i) = x (48 * j + i)) : bdS1 f1 g1 z1 x1 k d := by
  obtain ⟨h1, h2, ⟨h3, h4, h5, h6⟩, h7⟩ := h
  exact ⟨hf.trans h1, hg.trans h2, ⟨hz.trans h3, fun i hi => (hx i (by omega)).trans (h4 i hi), h5, h6⟩, h7⟩
theorem up_s {f : Nat → Int32} {k : Nat} {v : Int32} : upd f k v k = v := if_pos rfl
theorem up_o {f : Nat → Int32} {k j : Nat} {v : Int32} (h : ¬ j = k) : upd f k v j = f j := if_neg h
theorem dr_x {xa xb : Nat → Int32} {k i : Nat} (hi : i < 48) (h : ∀ m, xb m = if 48 * k ≤ m ∧ m < 48 * k + i then xa (m + 48) else xa m) : ∀ m, upd xb ((48 * k) + i) (xb (((48 * k) + 48) + i)) m = if 48 * k ≤ m ∧ m < 48 * k + (i + 1) then xa (m + 48) else xa m := fun m => by
  by_cases e : m = 48 * k + i
  · rw [e, up_s, h, if_neg (by omega), if_pos (by omega)]
    congr 1; omega
  · rw [up_o e, h]
    by_cases e2 : 48 * k ≤ m ∧ m < 48 * k + i
    · rw [if_pos e2, if_pos (by omega)]
    · rw [if_neg e2, if_neg (by omega)]
theorem dr_st {fa ga za xa xb : Nat → Int32} {bs : List bd_T} {b k : Nat} (hb : b ≤ k) (hx : ∀ m, xb m = if 48 * k ≤ m ∧ m < 48 * k + 48 then xa (m + 48) else xa m) (h1 : ∀ j d, (bs.eraseIdx b)[j]? = some d → j < k → bdS1 fa ga za xa j d) (h2 : ∀ j d, bs[j]? = some d → k ≤ j → bdS1 fa ga za xa j d) :
    (∀ j d, (bs.eraseIdx b)[j]? = some d → j < k + 1 → bdS1 (upd fa k (fa (k + 1))) (upd ga k (ga (k + 1))) (upd za k (za (k + 1))) xb j d) ∧ (∀ j d, bs[j]? = some d → k + 1 ≤ j → bdS1 (upd fa k (fa (k + 1))) (upd ga k (ga (k + 1))) (upd za k (za (k + 1))) xb j d) := by
  constructor
  · intro j d hj hk
    by_cases e : j = k
    · subst e
      rw [List.getElem?_eraseIdx, if_neg (by omega)] at hj
      refine bdS1_mv (h2 (j + 1) d hj (by omega)) up_s up_s up_s (fun i hi => ?_)
      rw [hx, if_pos (by omega)]
      congr 1; omega
    · refine bdS1_mv (h1 j d hj (by omega)) (up_o e) (up_o e) (up_o e) (fun i hi => ?_)
      rw [hx, if_neg (by omega)]
  · intro j d hj hk
    refine bdS1_mv (h2 j d hj (by omega)) (up_o (by omega)) (up_o (by omega)) (up_o (by omega)) (fun i hi => ?_)
    rw [hx, if_neg (by omega)]

set_option maxHeartbeats 4000000 in
set_option maxRecDepth 100000 in
theorem kc_MO_drop (l : Launch) (B : Nat) (D : va_G) (G : Nat → Nat) (M : hm_M) (P O : Nat → Nat) (I : Nat → Int32) (A : Nat → Nat → Int32) (L : Nat → Nat → Int64) (hD : mo_D B D P O M I A L) (bs : List bd_T) (hB : bdS (I 6) (A 7) (A 8) (A 9) (A 10) bs) (b9 : Nat) (hb9 : b9 < bs.length) : Met l yy_MO_drop ws_MO_drop ({ frames := 0, cells := 0, slots := 0, locals := 0 }) (hm_Pc B D G M [.ref (P 0), .int (nI b9)]) (hm_Nv B D (fun M1 => ∃ fa ga za xa, bdS (nI (bs.length - 1)) fa ga za xa (bs.eraseIdx b9) ∧ mo_D B D P O M1 (va_up I 6 (nI (bs.length - 1))) (va_up (va_up (va_up (va_up A 7 fa) 8 ga) 9 za) 10 xa) L ∧ cz_F O M O M1 pm)) (0) (0) (hm_A B) := by
  refine Met.ofW (cc := cd_MO_drop) (maxL := 4) (ret := none) (by decide) rfl ?_
  intro p e s m args below meth c s₁ B0 hml hv
  obtain ⟨rfl, hE, hP⟩ := hv
  have hx := B0.exec
  have hb := B0.bytes
  have hr := B0.returns
  have hts : ∀ w ∈ tb_G, w.before _ s = true := fun w h => atoms_spec (ws := ws_MO_drop) B0.pre w (List.mem_cons_of_mem _ h)
  have hown : s.vm.findClass "RouteDeskModel" = some m.cls := findClass_of_methodNamed B0.named
  have hlocks := B0.notSynchronized
  have hRf : (headSpec ws_MO_drop { frames := 0, cells := 0, slots := 0, locals := 0 }).room.frames = 0 := rfl
  have hRl : (headSpec ws_MO_drop { frames := 0, cells := 0, slots := 0, locals := 0 }).room.locals = 0 := rfl
  have hRc : (headSpec ws_MO_drop { frames := 0, cells := 0, slots := 0, locals := 0 }).room.cells = 0 := rfl
  have hRs : (headSpec ws_MO_drop { frames := 0, cells := 0, slots := 0, locals := 0 }).room.slots = 0 := rfl
  generalize (headSpec ws_MO_drop { frames := 0, cells := 0, slots := 0, locals := 0 }).room = R at hRf hRl hRc hRs ⊢
  have hS : va_S (hm_A B) s.heap s.heap [] := va_S.rf
  have hl := lv_entry ([.ref (P 0), .int (nI b9)]) (n := 4) (Nat.le_of_ble_eq_true rfl)
  rw [lg_entry_eq]
  generalize (lg_sl ([.ref (P 0), .int (nI b9)]) ++ List.replicate (4 - (lg_sl ([.ref (P 0), .int (nI b9)])).length) Slot.unset).toArray = ls at hl ⊢
  have hl : lv_has ls 4 [(0, .ref (P 0)), (1, .int (nI b9))] := hl
  have t16 : (nI 16).toInt = 16 := by decide
  have tm1 : (-1 : Int32).toInt = -1 := by decide
  have t0 : (nI 0).toInt = 0 := by decide
  have t2 : (nI 2).toInt = 2 := by decide
  have t3 : (nI 3).toInt = 3 := by decide
  have t1 : (nI 1).toInt = 1 := by decide
  have t4 : (nI 4).toInt = 4 := by decide
  obtain ⟨p0, p1, p3, p4, p5, p7, p8, p9, p10, p11, p14, p15, p16, p17, p19, p20, p21, po, pb⟩ := id hD
  obtain ⟨bi1, bi2, bi3⟩ := id hB
  have hel : (bs.eraseIdx b9).length = bs.length - 1 := List.length_eraseIdx_of_lt hb9
  refine lv_aload_n hx hb dd_MO_drop_0 rfl (lv_at hl 0 rfl) ?_
  refine lv_dup hx hb dd_MO_drop_1 rfl ?_
  refine hm_get (ci := 6) (C := rn_MO) (T := ft_MO) (N := 22) hx hb hts fi_MO hown hE.K hP p0 rfl 6 (by decide) (hts _ tw_992) (fun _ h9 => h9) rfl dd_MO_drop_2 ?_
  refine W.eq (g2 := F0 m 5 ls [.int (nI bs.length), .ref (P 0)]) (by rw [bi1]) ?_
  refine lv_iconst (v := nI 1) hx hb dd_MO_drop_5 (by decide +kernel) ?_
  refine hn_isub hx hb (by omega) dd_MO_drop_6 ?_
  refine hm_put (ci := 6) (v := .int (nI (bs.length - 1))) (ty := .int) (C := rn_MO) (T := ft_MO) (N := 22) hx hb hts fi_MO fy_MO fo_MO fn_MO hown hE.K hP hS (pb 0 (by decide)) p0 rfl 6 (by decide) (hts _ tw_992) (fun _ h9 => h9) rfl (by decide +kernel) rfl rfl (Nat.le_of_ble_eq_true rfl) dd_MO_drop_7 (fun H locs hP hS => ?_)
  have hP : hm_P D cl_W (hm_up M (P 0) (.inr (6, [.int (I 0), .ref (P 1), .int (I 2), .ref (P 3), .ref (P 4), .ref (P 5), .int (nI (bs.length - 1)), .ref (P 7), .ref (P 8), .ref (P 9), .ref (P 10), .ref (P 11), .int (I 12), .int (I 13), .ref (P 14), .ref (P 15), .ref (P 16), .ref (P 17), .int (I 18), .ref (P 19), .ref (P 20), .ref (P 21)]))) H := hP
  obtain ⟨M1, eM1⟩ : ∃ z, z = hm_up M (P 0) (.inr (6, [.int (I 0), .ref (P 1), .int (I 2), .ref (P 3), .ref (P 4), .ref (P 5), .int (nI (bs.length - 1)), .ref (P 7), .ref (P 8), .ref (P 9), .ref (P 10), .ref (P 11), .int (I 12), .int (I 13), .ref (P 14), .ref (P 15), .ref (P 16), .ref (P 17), .int (I 18), .ref (P 19), .ref (P 20), .ref (P 21)])) := ⟨_, rfl⟩
  rw [← eM1] at hP
  have f2 : M1 (P 1) = some (.inl (D.1 102, 48, .inl (A 1))) := by rw [eM1]; exact hm_up_o (hm_neO (po 1 (by decide)) (po 0 (by decide)) (by decide)) p1
  have f3 : M1 (P 3) = some (.inl (D.1 102, 16, .inl (A 3))) := by rw [eM1]; exact hm_up_o (hm_neO (po 3 (by decide)) (po 0 (by decide)) (by decide)) p3
  have f4 : M1 (P 4) = some (.inl (D.1 102, 16, .inl (A 4))) := by rw [eM1]; exact hm_up_o (hm_neO (po 4 (by decide)) (po 0 (by decide)) (by decide)) p4
  have f5 : M1 (P 5) = some (.inl (D.1 101, 16, .inl (A 5))) := by rw [eM1]; exact hm_up_o (hm_neO (po 5 (by decide)) (po 0 (by decide)) (by decide)) p5
  have f6 : M1 (P 7) = some (.inl (D.1 102, 120, .inl (A 7))) := by rw [eM1]; exact hm_up_o (hm_neO (po 7 (by decide)) (po 0 (by decide)) (by decide)) p7
  have f7 : M1 (P 8) = some (.inl (D.1 102, 120, .inl (A 8))) := by rw [eM1]; exact hm_up_o (hm_neO (po 8 (by decide)) (po 0 (by decide)) (by decide)) p8
  have f8 : M1 (P 9) = some (.inl (D.1 102, 120, .inl (A 9))) := by rw [eM1]; exact hm_up_o (hm_neO (po 9 (by decide)) (po 0 (by decide)) (by decide)) p9
  have f9 : M1 (P 10) = some (.inl (D.1 102, 5760, .inl (A 10))) := by rw [eM1]; exact hm_up_o (hm_neO (po 10 (by decide)) (po 0 (by decide)) (by decide)) p10
  have f10 : M1 (P 11) = some (.inl (D.1 102, 48, .inl (A 11))) := by rw [eM1]; exact hm_up_o (hm_neO (po 11 (by decide)) (po 0 (by decide)) (by decide)) p11
  have f11 : M1 (P 14) = some (.inl (D.1 103, 6, .inr (.inl (L 14)))) := by rw [eM1]; exact hm_up_o (hm_neO (po 14 (by decide)) (po 0 (by decide)) (by decide)) p14
  have f12 : M1 (P 15) = some (.inl (D.1 103, 6, .inr (.inl (L 15)))) := by rw [eM1]; exact hm_up_o (hm_neO (po 15 (by decide)) (po 0 (by decide)) (by decide)) p15
  have f13 : M1 (P 16) = some (.inl (D.1 101, 16, .inl (A 16))) := by rw [eM1]; exact hm_up_o (hm_neO (po 16 (by decide)) (po 0 (by decide)) (by decide)) p16
  have f14 : M1 (P 17) = some (.inl (D.1 101, 16, .inl (A 17))) := by rw [eM1]; exact hm_up_o (hm_neO (po 17 (by decide)) (po 0 (by decide)) (by decide)) p17
  have f15 : M1 (P 19) = some (.inl (D.1 101, 2601, .inl (A 19))) := by rw [eM1]; exact hm_up_o (hm_neO (po 19 (by decide)) (po 0 (by decide)) (by decide)) p19
  have f16 : M1 (P 20) = some (.inl (D.1 102, 52, .inl (A 20))) := by rw [eM1]; exact hm_up_o (hm_neO (po 20 (by decide)) (po 0 (by decide)) (by decide)) p20
  have f17 : M1 (P 21) = some (.inl (D.1 102, 52, .inl (A 21))) := by rw [eM1]; exact hm_up_o (hm_neO (po 21 (by decide)) (po 0 (by decide)) (by decide)) p21
  have f18 : M1 (P 0) = some (.inr (6, [.int (I 0), .ref (P 1), .int (I 2), .ref (P 3), .ref (P 4), .ref (P 5), .int (nI (bs.length - 1)), .ref (P 7), .ref (P 8), .ref (P 9), .ref (P 10), .ref (P 11), .int (I 12), .int (I 13), .ref (P 14), .ref (P 15), .ref (P 16), .ref (P 17), .int (I 18), .ref (P 19), .ref (P 20), .ref (P 21)])) := by rw [eM1]; exact hm_up_s
  refine lv_iload_n hx hb dd_MO_drop_10 rfl (lv_at hl 1 rfl) ?_
  refine lv_istore_n (lv' := [(2, .int (nI b9)), (0, .ref (P 0)), (1, .int (nI b9))]) hx hb dd_MO_drop_11 rfl hl (by decide) rfl (fun ls hl => ?_)
  have lp12 : ∀ (n9 : Nat) (k : Nat) (fa : Nat → Int32) (ga : Nat → Int32) (za : Nat → Int32) (xa : Nat → Int32) (Mu12 : hm_M), (b9 ≤ k) → (k ≤ bs.length - 1) → (∀ j d, (bs.eraseIdx b9)[j]? = some d → j < k → bdS1 fa ga za xa j d) → (∀ j d, bs[j]? = some d → k ≤ j → bdS1 fa ga za xa j d) → (mo_D B D P O Mu12 (va_up I 6 (nI (bs.length - 1))) (va_up (va_up (va_up (va_up A 7 fa) 8 ga) 9 za) 10 xa) L) → (cz_F O M O Mu12 pm) → bs.length - 1 - k < n9 → ∀ (H : Heap) (locs : List Loc) (ls : Array Slot), hm_P D cl_W Mu12 H → va_S (hm_A B) s.heap H locs → lv_has ls 4 [(0, .ref (P 0)), (1, .int (nI b9)), (2, .int (nI k))] → W p l e R s m ([.ref (P 0), .int (nI b9)] : List Value).toArray below meth c H locs (0) (0) (MQ below (hm_Nv B D (fun M1 => ∃ fa ga za xa, bdS (nI (bs.length - 1)) fa ga za xa (bs.eraseIdx b9) ∧ mo_D B D P O M1 (va_up I 6 (nI (bs.length - 1))) (va_up (va_up (va_up (va_up A 7 fa) 8 ga) 9 za) 10 xa) L ∧ cz_F O M O M1 pm)) ([.ref (P 0), .int (nI b9)] : List Value).toArray s (0) (0) (hm_A B)) (F0 m 12 ls []) := by
    intro n9
    induction n9 with
    | zero => intro k fa ga za xa Mu12 hk1 hk h1 h2 hd12 hF12 hm; exact absurd hm (Nat.not_lt_zero _)
    | succ n9 ih12 =>
      intro k fa ga za xa Mu12 hk1 hk h1 h2 hd12 hF12 hm H locs ls hP hS hl
      obtain ⟨g19_0, g19_1, g19_3, g19_4, g19_5, g19_7, g19_8, g19_9, g19_10, g19_11, g19_14, g19_15, g19_16, g19_17, g19_19, g19_20, g19_21, -, -⟩ := id hd12
      have g19_0 : Mu12 (P 0) = some (.inr (6, [.int (I 0), .ref (P 1), .int (I 2), .ref (P 3), .ref (P 4), .ref (P 5), .int (nI (bs.length - 1)), .ref (P 7), .ref (P 8), .ref (P 9), .ref (P 10), .ref (P 11), .int (I 12), .int (I 13), .ref (P 14), .ref (P 15), .ref (P 16), .ref (P 17), .int (I 18), .ref (P 19), .ref (P 20), .ref (P 21)])) := g19_0
      have g19_1 : Mu12 (P 1) = some (.inl (D.1 102, 48, .inl (A 1))) := g19_1
      have g19_3 : Mu12 (P 3) = some (.inl (D.1 102, 16, .inl (A 3))) := g19_3
      have g19_4 : Mu12 (P 4) = some (.inl (D.1 102, 16, .inl (A 4))) := g19_4
      have g19_5 : Mu12 (P 5) = some (.inl (D.1 101, 16, .inl (A 5))) := g19_5
      have g19_7 : Mu12 (P 7) = some (.inl (D.1 102, 120, .inl fa)) := g19_7
      have g19_8 : Mu12 (P 8) = some (.inl (D.1 102, 120, .inl ga)) := g19_8
      have g19_9 : Mu12 (P 9) = some (.inl (D.1 102, 120, .inl za)) := g19_9
      have g19_10 : Mu12 (P 10) = some (.inl (D.1 102, 5760, .inl xa)) := g19_10
      have g19_11 : Mu12 (P 11) = some (.inl (D.1 102, 48, .inl (A 11))) := g19_11
      have g19_16 : Mu12 (P 16) = some (.inl (D.1 101, 16, .inl (A 16))) := g19_16
      have g19_17 : Mu12 (P 17) = some (.inl (D.1 101, 16, .inl (A 17))) := g19_17
      have g19_19 : Mu12 (P 19) = some (.inl (D.1 101, 2601, .inl (A 19))) := g19_19
      have g19_20 : Mu12 (P 20) = some (.inl (D.1 102, 52, .inl (A 20))) := g19_20
      have g19_21 : Mu12 (P 21) = some (.inl (D.1 102, 52, .inl (A 21))) := g19_21
      refine lv_iload_n hx hb dd_MO_drop_12 rfl (lv_at hl 2 rfl) ?_
      refine lv_aload_n hx hb dd_MO_drop_13 rfl (lv_at hl 0 rfl) ?_
      refine hm_get (ci := 6) (C := rn_MO) (T := ft_MO) (N := 22) hx hb hts fi_MO hown hE.K hP g19_0 rfl 6 (by decide) (hts _ tw_992) (fun _ h9 => h9) rfl dd_MO_drop_14 ?_
      refine hn_icmp_ge (tgt := 107) hx hb (by omega) (by omega) dd_MO_drop_17 (by decide) (fun c20 => ?_) (fun c20 => ?_)
      · exact hm_Ev hx hb hr hS hP (⟨fa, ga, za, xa, ⟨by rw [hel], by rw [hel]; omega, fun j d hj => h1 j d hj (by have := (List.getElem?_eq_some_iff.mp hj).1; rw [hel] at this; omega)⟩, ⟨g19_0, g19_1, g19_3, g19_4, g19_5, g19_7, g19_8, g19_9, g19_10, g19_11, g19_14, g19_15, g19_16, g19_17, g19_19, g19_20, g19_21, po, pb⟩, hF12⟩) hlocks (by omega) (by omega) dd_MO_drop_107
      · refine lv_aload_n hx hb dd_MO_drop_20 rfl (lv_at hl 0 rfl) ?_
        refine hm_get (ci := 6) (C := rn_MO) (T := ft_MO) (N := 22) hx hb hts fi_MO hown hE.K hP g19_0 rfl 7 (by decide) (hts _ tw_993) (fun _ h9 => h9) rfl dd_MO_drop_21 ?_
        refine lv_iload_n hx hb dd_MO_drop_24 rfl (lv_at hl 2 rfl) ?_
        refine lv_aload_n hx hb dd_MO_drop_25 rfl (lv_at hl 0 rfl) ?_
        refine hm_get (ci := 6) (C := rn_MO) (T := ft_MO) (N := 22) hx hb hts fi_MO hown hE.K hP g19_0 rfl 7 (by decide) (hts _ tw_993) (fun _ h9 => h9) rfl dd_MO_drop_26 ?_
        refine lv_iload_n hx hb dd_MO_drop_29 rfl (lv_at hl 2 rfl) ?_
        refine lv_iconst (v := nI 1) hx hb dd_MO_drop_30 (by decide +kernel) ?_
        refine hn_iadd hx hb dd_MO_drop_31 ?_
        refine hm_iald (j := k + 1) hx hb hE.K hP 2 g19_7 rfl (vp_in_nI (by omega) (by omega)) (nI_clamp (by omega)) dd_MO_drop_32 ?_
        refine hm_iast (j := k) hx hb hE.K hP hS (pb 7 (by decide)) 2 g19_7 rfl (vp_in_nI (by omega) (by omega)) (nI_clamp (by omega)) dd_MO_drop_33 (fun H locs hP hS => ?_)
        obtain ⟨M21, eM21⟩ : ∃ z, z = hm_up Mu12 (P 7) (.inl (D.1 102, 120, .inl (upd fa k (fa (k + 1))))) := ⟨_, rfl⟩
        rw [← eM21] at hP
        have f22 : M21 (P 0) = some (.inr (6, [.int (I 0), .ref (P 1), .int (I 2), .ref (P 3), .ref (P 4), .ref (P 5), .int (nI (bs.length - 1)), .ref (P 7), .ref (P 8), .ref (P 9), .ref (P 10), .ref (P 11), .int (I 12), .int (I 13), .ref (P 14), .ref (P 15), .ref (P 16), .ref (P 17), .int (I 18), .ref (P 19), .ref (P 20), .ref (P 21)])) := by rw [eM21]; exact hm_up_o (hm_neO (po 0 (by decide)) (po 7 (by decide)) (by decide)) g19_0
        have f23 : M21 (P 1) = some (.inl (D.1 102, 48, .inl (A 1))) := by rw [eM21]; exact hm_up_o (hm_neO (po 1 (by decide)) (po 7 (by decide)) (by decide)) g19_1
        have f24 : M21 (P 3) = some (.inl (D.1 102, 16, .inl (A 3))) := by rw [eM21]; exact hm_up_o (hm_neO (po 3 (by decide)) (po 7 (by decide)) (by decide)) g19_3
        have f25 : M21 (P 4) = some (.inl (D.1 102, 16, .inl (A 4))) := by rw [eM21]; exact hm_up_o (hm_neO (po 4 (by decide)) (po 7 (by decide)) (by decide)) g19_4
        have f26 : M21 (P 5) = some (.inl (D.1 101, 16, .inl (A 5))) := by rw [eM21]; exact hm_up_o (hm_neO (po 5 (by decide)) (po 7 (by decide)) (by decide)) g19_5
        have f27 : M21 (P 8) = some (.inl (D.1 102, 120, .inl ga)) := by rw [eM21]; exact hm_up_o (hm_neO (po 8 (by decide)) (po 7 (by decide)) (by decide)) g19_8
        have f28 : M21 (P 9) = some (.inl (D.1 102, 120, .inl za)) := by rw [eM21]; exact hm_up_o (hm_neO (po 9 (by decide)) (po 7 (by decide)) (by decide)) g19_9
        have f29 : M21 (P 10) = some (.inl (D.1 102, 5760, .inl xa)) := by rw [eM21]; exact hm_up_o (hm_neO (po 10 (by decide)) (po 7 (by decide)) (by decide)) g19_10
        have f30 : M21 (P 11) = some (.inl (D.1 102, 48, .inl (A 11))) := by rw [eM21]; exact hm_up_o (hm_neO (po 11 (by decide)) (po 7 (by decide)) (by decide)) g19_11
        have f31 : M21 (P 14) = some (.inl (D.1 103, 6, .inr (.inl (L 14)))) := by rw [eM21]; exact hm_up_o (hm_neO (po 14 (by decide)) (po 7 (by decide)) (by decide)) g19_14
        have f32 : M21 (P 15) = some (.inl (D.1 103, 6, .inr (.inl (L 15)))) := by rw [eM21]; exact hm_up_o (hm_neO (po 15 (by decide)) (po 7 (by decide)) (by decide)) g19_15
        have f33 : M21 (P 16) = some (.inl (D.1 101, 16, .inl (A 16))) := by rw [eM21]; exact hm_up_o (hm_neO (po 16 (by decide)) (po 7 (by decide)) (by decide)) g19_16
        have f34 : M21 (P 17) = some (.inl (D.1 101, 16, .inl (A 17))) := by rw [eM21]; exact hm_up_o (hm_neO (po 17 (by decide)) (po 7 (by decide)) (by decide)) g19_17
        have f35 : M21 (P 19) = some (.inl (D.1 101, 2601, .inl (A 19))) := by rw [eM21]; exact hm_up_o (hm_neO (po 19 (by decide)) (po 7 (by decide)) (by decide)) g19_19
        have f36 : M21 (P 20) = some (.inl (D.1 102, 52, .inl (A 20))) := by rw [eM21]; exact hm_up_o (hm_neO (po 20 (by decide)) (po 7 (by decide)) (by decide)) g19_20
        have f37 : M21 (P 21) = some (.inl (D.1 102, 52, .inl (A 21))) := by rw [eM21]; exact hm_up_o (hm_neO (po 21 (by decide)) (po 7 (by decide)) (by decide)) g19_21
        have f38 : M21 (P 7) = some (.inl (D.1 102, 120, .inl (upd fa k (fa (k + 1))))) := by rw [eM21]; exact hm_up_s
        refine lv_aload_n hx hb dd_MO_drop_34 rfl (lv_at hl 0 rfl) ?_
        refine hm_get (ci := 6) (C := rn_MO) (T := ft_MO) (N := 22) hx hb hts fi_MO hown hE.K hP f22 rfl 8 (by decide) (hts _ tw_994) (fun _ h9 => h9) rfl dd_MO_drop_35 ?_
        refine lv_iload_n hx hb dd_MO_drop_38 rfl (lv_at hl 2 rfl) ?_
        refine lv_aload_n hx hb dd_MO_drop_39 rfl (lv_at hl 0 rfl) ?_
        refine hm_get (ci := 6) (C := rn_MO) (T := ft_MO) (N := 22) hx hb hts fi_MO hown hE.K hP f22 rfl 8 (by decide) (hts _ tw_994) (fun _ h9 => h9) rfl dd_MO_drop_40 ?_
        refine lv_iload_n hx hb dd_MO_drop_43 rfl (lv_at hl 2 rfl) ?_
        refine lv_iconst (v := nI 1) hx hb dd_MO_drop_44 (by decide +kernel) ?_
        refine hn_iadd hx hb dd_MO_drop_45 ?_
        refine hm_iald (j := k + 1) hx hb hE.K hP 2 f27 rfl (vp_in_nI (by omega) (by omega)) (nI_clamp (by omega)) dd_MO_drop_46 ?_
        refine hm_iast (j := k) hx hb hE.K hP hS (pb 8 (by decide)) 2 f27 rfl (vp_in_nI (by omega) (by omega)) (nI_clamp (by omega)) dd_MO_drop_47 (fun H locs hP hS => ?_)
        obtain ⟨M39, eM39⟩ : ∃ z, z = hm_up M21 (P 8) (.inl (D.1 102, 120, .inl (upd ga k (ga (k + 1))))) := ⟨_, rfl⟩
        rw [← eM39] at hP
        have f40 : M39 (P 0) = some (.inr (6, [.int (I 0), .ref (P 1), .int (I 2), .ref (P 3), .ref (P 4), .ref (P 5), .int (nI (bs.length - 1)), .ref (P 7), .ref (P 8), .ref (P 9), .ref (P 10), .ref (P 11), .int (I 12), .int (I 13), .ref (P 14), .ref (P 15), .ref (P 16), .ref (P 17), .int (I 18), .ref (P 19), .ref (P 20), .ref (P 21)])) := by rw [eM39]; exact hm_up_o (hm_neO (po 0 (by decide)) (po 8 (by decide)) (by decide)) f22
        have f41 : M39 (P 1) = some (.inl (D.1 102, 48, .inl (A 1))) := by rw [eM39]; exact hm_up_o (hm_neO (po 1 (by decide)) (po 8 (by decide)) (by decide)) f23
        have f42 : M39 (P 3) = some (.inl (D.1 102, 16, .inl (A 3))) := by rw [eM39]; exact hm_up_o (hm_neO (po 3 (by decide)) (po 8 (by decide)) (by decide)) f24
        have f43 : M39 (P 4) = some (.inl (D.1 102, 16, .inl (A 4))) := by rw [eM39]; exact hm_up_o (hm_neO (po 4 (by decide)) (po 8 (by decide)) (by decide)) f25
        have f44 : M39 (P 5) = some (.inl (D.1 101, 16, .inl (A 5))) := by rw [eM39]; exact hm_up_o (hm_neO (po 5 (by decide)) (po 8 (by decide)) (by decide)) f26
        have f45 : M39 (P 7) = some (.inl (D.1 102, 120, .inl (upd fa k (fa (k + 1))))) := by rw [eM39]; exact hm_up_o (hm_neO (po 7 (by decide)) (po 8 (by decide)) (by decide)) f38
        have f46 : M39 (P 9) = some (.inl (D.1 102, 120, .inl za)) := by rw [eM39]; exact hm_up_o (hm_neO (po 9 (by decide)) (po 8 (by decide)) (by decide)) f28
        have f47 : M39 (P 10) = some (.inl (D.1 102, 5760, .inl xa)) := by rw [eM39]; exact hm_up_o (hm_neO (po 10 (by decide)) (po 8 (by decide)) (by decide)) f29
        have f48 : M39 (P 11) = some (.inl (D.1 102, 48, .inl (A 11))) := by rw [eM39]; exact hm_up_o (hm_neO (po 11 (by decide)) (po 8 (by decide)) (by decide)) f30
        have f49 : M39 (P 14) = some (.inl (D.1 103, 6, .inr (.inl (L 14)))) := by rw [eM39]; exact hm_up_o (hm_neO (po 14 (by decide)) (po 8 (by decide)) (by decide)) f31
        have f50 : M39 (P 15) = some (.inl (D.1 103, 6, .inr (.inl (L 15)))) := by rw [eM39]; exact hm_up_o (hm_neO (po 15 (by decide)) (po 8 (by decide)) (by decide)) f32
        have f51 : M39 (P 16) = some (.inl (D.1 101, 16, .inl (A 16))) := by rw [eM39]; exact hm_up_o (hm_neO (po 16 (by decide)) (po 8 (by decide)) (by decide)) f33
        have f52 : M39 (P 17) = some (.inl (D.1 101, 16, .inl (A 17))) := by rw [eM39]; exact hm_up_o (hm_neO (po 17 (by decide)) (po 8 (by decide)) (by decide)) f34
        have f53 : M39 (P 19) = some (.inl (D.1 101, 2601, .inl (A 19))) := by rw [eM39]; exact hm_up_o (hm_neO (po 19 (by decide)) (po 8 (by decide)) (by decide)) f35
        have f54 : M39 (P 20) = some (.inl (D.1 102, 52, .inl (A 20))) := by rw [eM39]; exact hm_up_o (hm_neO (po 20 (by decide)) (po 8 (by decide)) (by decide)) f36
        have f55 : M39 (P 21) = some (.inl (D.1 102, 52, .inl (A 21))) := by rw [eM39]; exact hm_up_o (hm_neO (po 21 (by decide)) (po 8 (by decide)) (by decide)) f37
        have f56 : M39 (P 8) = some (.inl (D.1 102, 120, .inl (upd ga k (ga (k + 1))))) := by rw [eM39]; exact hm_up_s
        refine lv_aload_n hx hb dd_MO_drop_48 rfl (lv_at hl 0 rfl) ?_
        refine hm_get (ci := 6) (C := rn_MO) (T := ft_MO) (N := 22) hx hb hts fi_MO hown hE.K hP f40 rfl 9 (by decide) (hts _ tw_995) (fun _ h9 => h9) rfl dd_MO_drop_49 ?_
        refine lv_iload_n hx hb dd_MO_drop_52 rfl (lv_at hl 2 rfl) ?_
        refine lv_aload_n hx hb dd_MO_drop_53 rfl (lv_at hl 0 rfl) ?_
        refine hm_get (ci := 6) (C := rn_MO) (T := ft_MO) (N := 22) hx hb hts fi_MO hown hE.K hP f40 rfl 9 (by decide) (hts _ tw_995) (fun _ h9 => h9) rfl dd_MO_drop_54 ?_
        refine lv_iload_n hx hb dd_MO_drop_57 rfl (lv_at hl 2 rfl) ?_
        refine lv_iconst (v := nI 1) hx hb dd_MO_drop_58 (by decide +kernel) ?_
        refine hn_iadd hx hb dd_MO_drop_59 ?_
        refine hm_iald (j := k + 1) hx hb hE.K hP 2 f46 rfl (vp_in_nI (by omega) (by omega)) (nI_clamp (by omega)) dd_MO_drop_60 ?_
        refine hm_iast (j := k) hx hb hE.K hP hS (pb 9 (by decide)) 2 f46 rfl (vp_in_nI (by omega) (by omega)) (nI_clamp (by omega)) dd_MO_drop_61 (fun H locs hP hS => ?_)
        obtain ⟨M57, eM57⟩ : ∃ z, z = hm_up M39 (P 9) (.inl (D.1 102, 120, .inl (upd za k (za (k + 1))))) := ⟨_, rfl⟩
        rw [← eM57] at hP
        have f58 : M57 (P 0) = some (.inr (6, [.int (I 0), .ref (P 1), .int (I 2), .ref (P 3), .ref (P 4), .ref (P 5), .int (nI (bs.length - 1)), .ref (P 7), .ref (P 8), .ref (P 9), .ref (P 10), .ref (P 11), .int (I 12), .int (I 13), .ref (P 14), .ref (P 15), .ref (P 16), .ref (P 17), .int (I 18), .ref (P 19), .ref (P 20), .ref (P 21)])) := by rw [eM57]; exact hm_up_o (hm_neO (po 0 (by decide)) (po 9 (by decide)) (by decide)) f40
        have f59 : M57 (P 1) = some (.inl (D.1 102, 48, .inl (A 1))) := by rw [eM57]; exact hm_up_o (hm_neO (po 1 (by decide)) (po 9 (by decide)) (by decide)) f41
        have f60 : M57 (P 3) = some (.inl (D.1 102, 16, .inl (A 3))) := by rw [eM57]; exact hm_up_o (hm_neO (po 3 (by decide)) (po 9 (by decide)) (by decide)) f42
        have f61 : M57 (P 4) = some (.inl (D.1 102, 16, .inl (A 4))) := by rw [eM57]; exact hm_up_o (hm_neO (po 4 (by decide)) (po 9 (by decide)) (by decide)) f43
        have f62 : M57 (P 5) = some (.inl (D.1 101, 16, .inl (A 5))) := by rw [eM57]; exact hm_up_o (hm_neO (po 5 (by decide)) (po 9 (by decide)) (by decide)) f44
        have f63 : M57 (P 7) = some (.inl (D.1 102, 120, .inl (upd fa k (fa (k + 1))))) := by rw [eM57]; exact hm_up_o (hm_neO (po 7 (by decide)) (po 9 (by decide)) (by decide)) f45
        have f64 : M57 (P 8) = some (.inl (D.1 102, 120, .inl (upd ga k (ga (k + 1))))) := by rw [eM57]; exact hm_up_o (hm_neO (po 8 (by decide)) (po 9 (by decide)) (by decide)) f56
        have f65 : M57 (P 10) = some (.inl (D.1 102, 5760, .inl xa)) := by rw [eM57]; exact hm_up_o (hm_neO (po 10 (by decide)) (po 9 (by decide)) (by decide)) f47
        have f66 : M57 (P 11) = some (.inl (D.1 102, 48, .inl (A 11))) := by rw [eM57]; exact hm_up_o (hm_neO (po 11 (by decide)) (po 9 (by decide)) (by decide)) f48
        have f67 : M57 (P 14) = some (.inl (D.1 103, 6, .inr (.inl (L 14)))) := by rw [eM57]; exact hm_up_o (hm_neO (po 14 (by decide)) (po 9 (by decide)) (by decide)) f49
        have f68 : M57 (P 15) = some (.inl (D.1 103, 6, .inr (.inl (L 15)))) := by rw [eM57]; exact hm_up_o (hm_neO (po 15 (by decide)) (po 9 (by decide)) (by decide)) f50
        have f69 : M57 (P 16) = some (.inl (D.1 101, 16, .inl (A 16))) := by rw [eM57]; exact hm_up_o (hm_neO (po 16 (by decide)) (po 9 (by decide)) (by decide)) f51
        have f70 : M57 (P 17) = some (.inl (D.1 101, 16, .inl (A 17))) := by rw [eM57]; exact hm_up_o (hm_neO (po 17 (by decide)) (po 9 (by decide)) (by decide)) f52
        have f71 : M57 (P 19) = some (.inl (D.1 101, 2601, .inl (A 19))) := by rw [eM57]; exact hm_up_o (hm_neO (po 19 (by decide)) (po 9 (by decide)) (by decide)) f53
        have f72 : M57 (P 20) = some (.inl (D.1 102, 52, .inl (A 20))) := by rw [eM57]; exact hm_up_o (hm_neO (po 20 (by decide)) (po 9 (by decide)) (by decide)) f54
        have f73 : M57 (P 21) = some (.inl (D.1 102, 52, .inl (A 21))) := by rw [eM57]; exact hm_up_o (hm_neO (po 21 (by decide)) (po 9 (by decide)) (by decide)) f55
        have f74 : M57 (P 9) = some (.inl (D.1 102, 120, .inl (upd za k (za (k + 1))))) := by rw [eM57]; exact hm_up_s
        refine lv_iconst (v := nI 0) hx hb dd_MO_drop_62 (by decide +kernel) ?_
        refine lv_istore_n (lv' := [(3, .int (nI 0)), (0, .ref (P 0)), (1, .int (nI b9)), (2, .int (nI k))]) hx hb dd_MO_drop_63 rfl hl (by decide) rfl (fun ls hl => ?_)
        have lp64 : ∀ (n9 : Nat) (i : Nat) (xb : Nat → Int32) (Mu64 : hm_M), (i ≤ 48) → (∀ m, xb m = if 48 * k ≤ m ∧ m < 48 * k + i then xa (m + 48) else xa m) → (mo_D B D P O Mu64 (va_up I 6 (nI (bs.length - 1))) (va_up (va_up (va_up (va_up A 7 (upd fa k (fa (k + 1)))) 8 (upd ga k (ga (k + 1)))) 9 (upd za k (za (k + 1)))) 10 xb) L) → (cz_F O M O Mu64 pm) → 48 - i < n9 → ∀ (H : Heap) (locs : List Loc) (ls : Array Slot), hm_P D cl_W Mu64 H → va_S (hm_A B) s.heap H locs → lv_has ls 4 [(0, .ref (P 0)), (1, .int (nI b9)), (2, .int (nI k)), (3, .int (nI i))] → W p l e R s m ([.ref (P 0), .int (nI b9)] : List Value).toArray below meth c H locs (0) (0) (MQ below (hm_Nv B D (fun M1 => ∃ fa ga za xa, bdS (nI (bs.length - 1)) fa ga za xa (bs.eraseIdx b9) ∧ mo_D B D P O M1 (va_up I 6 (nI (bs.length - 1))) (va_up (va_up (va_up (va_up A 7 fa) 8 ga) 9 za) 10 xa) L ∧ cz_F O M O M1 pm)) ([.ref (P 0), .int (nI b9)] : List Value).toArray s (0) (0) (hm_A B)) (F0 m 64 ls []) := by
          intro n9
          induction n9 with
          | zero => intro i xb Mu64 hi hxb hd64 hF64 hm; exact absurd hm (Nat.not_lt_zero _)
          | succ n9 ih64 =>
            intro i xb Mu64 hi hxb hd64 hF64 hm H locs ls hP hS hl
            obtain ⟨g75_0, g75_1, g75_3, g75_4, g75_5, g75_7, g75_8, g75_9, g75_10, g75_11, g75_14, g75_15, g75_16, g75_17, g75_19, g75_20, g75_21, -, -⟩ := id hd64
            have g75_0 : Mu64 (P 0) = some (.inr (6, [.int (I 0), .ref (P 1), .int (I 2), .ref (P 3), .ref (P 4), .ref (P 5), .int (nI (bs.length - 1)), .ref (P 7), .ref (P 8), .ref (P 9), .ref (P 10), .ref (P 11), .int (I 12), .int (I 13), .ref (P 14), .ref (P 15), .ref (P 16), .ref (P 17), .int (I 18), .ref (P 19), .ref (P 20), .ref (P 21)])) := g75_0
            have g75_1 : Mu64 (P 1) = some (.inl (D.1 102, 48, .inl (A 1))) := g75_1
            have g75_3 : Mu64 (P 3) = some (.inl (D.1 102, 16, .inl (A 3))) := g75_3
            have g75_4 : Mu64 (P 4) = some (.inl (D.1 102, 16, .inl (A 4))) := g75_4
            have g75_5 : Mu64 (P 5) = some (.inl (D.1 101, 16, .inl (A 5))) := g75_5
            have g75_7 : Mu64 (P 7) = some (.inl (D.1 102, 120, .inl (upd fa k (fa (k + 1))))) := g75_7
            have g75_8 : Mu64 (P 8) = some (.inl (D.1 102, 120, .inl (upd ga k (ga (k + 1))))) := g75_8
            have g75_9 : Mu64 (P 9) = some (.inl (D.1 102, 120, .inl (upd za k (za (k + 1))))) := g75_9
            have g75_10 : Mu64 (P 10) = some (.inl (D.1 102, 5760, .inl xb)) := g75_10
            have g75_11 : Mu64 (P 11) = some (.inl (D.1 102, 48, .inl (A 11))) := g75_11
            have g75_16 : Mu64 (P 16) = some (.inl (D.1 101, 16, .inl (A 16))) := g75_16
            have g75_17 : Mu64 (P 17) = some (.inl (D.1 101, 16, .inl (A 17))) := g75_17
            have g75_19 : Mu64 (P 19) = some (.inl (D.1 101, 2601, .inl (A 19))) := g75_19
            have g75_20 : Mu64 (P 20) = some (.inl (D.1 102, 52, .inl (A 20))) := g75_20
            have g75_21 : Mu64 (P 21) = some (.inl (D.1 102, 52, .inl (A 21))) := g75_21
            refine lv_iload_n hx hb dd_MO_drop_64 rfl (lv_at hl 3 rfl) ?_
            refine lv_bipush (v := nI 48) hx hb dd_MO_drop_65 (by decide +kernel) ?_
            refine hn_icmp_ge (tgt := 101) hx hb (by omega) (by omega) dd_MO_drop_67 (by decide) (fun c76 => ?_) (fun c76 => ?_)
            · have h48 : i = 48 := by omega
              rw [h48] at hxb
              have hds := dr_st hk1 hxb h1 h2
              refine lv_iinc (v := nI (k + 1)) (lv' := [(2, .int (nI (k + 1))), (0, .ref (P 0)), (1, .int (nI b9)), (3, .int (nI i))]) hx hb dd_MO_drop_101 hl (k := 2) rfl (nI_1 k) (by decide) rfl (fun ls hl => ?_)
              refine lv_goto (tgt := 12) hx hb dd_MO_drop_104 (by decide) ?_
              exact ih12 (k + 1) (upd fa k (fa (k + 1))) (upd ga k (ga (k + 1))) (upd za k (za (k + 1))) xb Mu64 (by omega) (by omega) (hds.1) (hds.2) (⟨g75_0, g75_1, g75_3, g75_4, g75_5, g75_7, g75_8, g75_9, g75_10, g75_11, g75_14, g75_15, g75_16, g75_17, g75_19, g75_20, g75_21, po, pb⟩) (hF64) (by omega) _ _ _ hP hS (lv_sub hl [1, 2, 0] rfl)
            · refine lv_aload_n hx hb dd_MO_drop_70 rfl (lv_at hl 0 rfl) ?_
              refine hm_get (ci := 6) (C := rn_MO) (T := ft_MO) (N := 22) hx hb hts fi_MO hown hE.K hP g75_0 rfl 10 (by decide) (hts _ tw_996) (fun _ h9 => h9) rfl dd_MO_drop_71 ?_
              refine lv_bipush (v := nI 48) hx hb dd_MO_drop_74 (by decide +kernel) ?_
              refine lv_iload_n hx hb dd_MO_drop_76 rfl (lv_at hl 2 rfl) ?_
              refine hn_imul hx hb dd_MO_drop_77 ?_
              refine lv_iload_n hx hb dd_MO_drop_78 rfl (lv_at hl 3 rfl) ?_
              refine hn_iadd hx hb dd_MO_drop_79 ?_
              refine lv_aload_n hx hb dd_MO_drop_80 rfl (lv_at hl 0 rfl) ?_
              refine hm_get (ci := 6) (C := rn_MO) (T := ft_MO) (N := 22) hx hb hts fi_MO hown hE.K hP g75_0 rfl 10 (by decide) (hts _ tw_996) (fun _ h9 => h9) rfl dd_MO_drop_81 ?_
              refine lv_bipush (v := nI 48) hx hb dd_MO_drop_84 (by decide +kernel) ?_
              refine lv_iload_n hx hb dd_MO_drop_86 rfl (lv_at hl 2 rfl) ?_
              refine hn_imul hx hb dd_MO_drop_87 ?_
              refine lv_bipush (v := nI 48) hx hb dd_MO_drop_88 (by decide +kernel) ?_
              refine hn_iadd hx hb dd_MO_drop_90 ?_
              refine lv_iload_n hx hb dd_MO_drop_91 rfl (lv_at hl 3 rfl) ?_
              refine hn_iadd hx hb dd_MO_drop_92 ?_
              refine hm_iald (j := ((48 * k) + 48) + i) hx hb hE.K hP 2 g75_10 rfl (vp_in_nI (by omega) (by omega)) (nI_clamp (by omega)) dd_MO_drop_93 ?_
              refine hm_iast (j := (48 * k) + i) hx hb hE.K hP hS (pb 10 (by decide)) 2 g75_10 rfl (vp_in_nI (by omega) (by omega)) (nI_clamp (by omega)) dd_MO_drop_94 (fun H locs hP hS => ?_)
              obtain ⟨M77, eM77⟩ : ∃ z, z = hm_up Mu64 (P 10) (.inl (D.1 102, 5760, .inl (upd xb ((48 * k) + i) (xb (((48 * k) + 48) + i))))) := ⟨_, rfl⟩
              rw [← eM77] at hP
              have f78 : M77 (P 0) = some (.inr (6, [.int (I 0), .ref (P 1), .int (I 2), .ref (P 3), .ref (P 4), .ref (P 5), .int (nI (bs.length - 1)), .ref (P 7), .ref (P 8), .ref (P 9), .ref (P 10), .ref (P 11), .int (I 12), .int (I 13), .ref (P 14), .ref (P 15), .ref (P 16), .ref (P 17), .int (I 18), .ref (P 19), .ref (P 20), .ref (P 21)])) := by rw [eM77]; exact hm_up_o (hm_neO (po 0 (by decide)) (po 10 (by decide)) (by decide)) g75_0
              have f79 : M77 (P 1) = some (.inl (D.1 102, 48, .inl (A 1))) := by rw [eM77]; exact hm_up_o (hm_neO (po 1 (by decide)) (po 10 (by decide)) (by decide)) g75_1
              have f80 : M77 (P 3) = some (.inl (D.1 102, 16, .inl (A 3))) := by rw [eM77]; exact hm_up_o (hm_neO (po 3 (by decide)) (po 10 (by decide)) (by decide)) g75_3
              have f81 : M77 (P 4) = some (.inl (D.1 102, 16, .inl (A 4))) := by rw [eM77]; exact hm_up_o (hm_neO (po 4 (by decide)) (po 10 (by decide)) (by decide)) g75_4
              have f82 : M77 (P 5) = some (.inl (D.1 101, 16, .inl (A 5))) := by rw [eM77]; exact hm_up_o (hm_neO (po 5 (by decide)) (po 10 (by decide)) (by decide)) g75_5
              have f83 : M77 (P 7) = some (.inl (D.1 102, 120, .inl (upd fa k (fa (k + 1))))) := by rw [eM77]; exact hm_up_o (hm_neO (po 7 (by decide)) (po 10 (by decide)) (by decide)) g75_7
              have f84 : M77 (P 8) = some (.inl (D.1 102, 120, .inl (upd ga k (ga (k + 1))))) := by rw [eM77]; exact hm_up_o (hm_neO (po 8 (by decide)) (po 10 (by decide)) (by decide)) g75_8
              have f85 : M77 (P 9) = some (.inl (D.1 102, 120, .inl (upd za k (za (k + 1))))) := by rw [eM77]; exact hm_up_o (hm_neO (po 9 (by decide)) (po 10 (by decide)) (by decide)) g75_9
              have f86 : M77 (P 11) = some (.inl (D.1 102, 48, .inl (A 11))) := by rw [eM77]; exact hm_up_o (hm_neO (po 11 (by decide)) (po 10 (by decide)) (by decide)) g75_11
              have f87 : M77 (P 14) = some (.inl (D.1 103, 6, .inr (.inl (L 14)))) := by rw [eM77]; exact hm_up_o (hm_neO (po 14 (by decide)) (po 10 (by decide)) (by decide)) g75_14
              have f88 : M77 (P 15) = some (.inl (D.1 103, 6, .inr (.inl (L 15)))) := by rw [eM77]; exact hm_up_o (hm_neO (po 15 (by decide)) (po 10 (by decide)) (by decide)) g75_15
              have f89 : M77 (P 16) = some (.inl (D.1 101, 16, .inl (A 16))) := by rw [eM77]; exact hm_up_o (hm_neO (po 16 (by decide)) (po 10 (by decide)) (by decide)) g75_16
              have f90 : M77 (P 17) = some (.inl (D.1 101, 16, .inl (A 17))) := by rw [eM77]; exact hm_up_o (hm_neO (po 17 (by decide)) (po 10 (by decide)) (by decide)) g75_17
              have f91 : M77 (P 19) = some (.inl (D.1 101, 2601, .inl (A 19))) := by rw [eM77]; exact hm_up_o (hm_neO (po 19 (by decide)) (po 10 (by decide)) (by decide)) g75_19
              have f92 : M77 (P 20) = some (.inl (D.1 102, 52, .inl (A 20))) := by rw [eM77]; exact hm_up_o (hm_neO (po 20 (by decide)) (po 10 (by decide)) (by decide)) g75_20
              have f93 : M77 (P 21) = some (.inl (D.1 102, 52, .inl (A 21))) := by rw [eM77]; exact hm_up_o (hm_neO (po 21 (by decide)) (po 10 (by decide)) (by decide)) g75_21
              have f94 : M77 (P 10) = some (.inl (D.1 102, 5760, .inl (upd xb ((48 * k) + i) (xb (((48 * k) + 48) + i))))) := by rw [eM77]; exact hm_up_s
              refine lv_iinc (v := nI (i + 1)) (lv' := [(3, .int (nI (i + 1))), (0, .ref (P 0)), (1, .int (nI b9)), (2, .int (nI k))]) hx hb dd_MO_drop_95 hl (k := 3) rfl (nI_1 i) (by decide) rfl (fun ls hl => ?_)
              refine lv_goto (tgt := 64) hx hb dd_MO_drop_98 (by decide) ?_
              have kk95 : hm_k Mu64 Mu64 [(P 10)] := hm_krf
              have kk96 : hm_k Mu64 M77 [(P 10)] := hm_ku kk95 (Or.inr (by simp)) eM77
              exact ih64 (i + 1) (upd xb ((48 * k) + i) (xb (((48 * k) + 48) + i))) M77 (by omega) (dr_x (by omega) hxb) (⟨f78, f79, f80, f81, f82, f83, f84, f85, f94, f86, f87, f88, f89, f90, f91, f92, f93, po, pb⟩) ((hF64).trans (cz_F.k0 kk96 (hm_a1 ⟨by rw [po 10 (by decide)]; unfold pm; omega, _, f94⟩))) (by omega) _ _ _ hP hS (lv_sub hl [1, 2, 3, 0] rfl)
        have kk97 : hm_k Mu12 Mu12 [(P 7), (P 8), (P 9)] := hm_krf
        have kk98 : hm_k Mu12 M21 [(P 7), (P 8), (P 9)] := hm_ku kk97 (Or.inr (by simp)) eM21
        have kk99 : hm_k Mu12 M39 [(P 7), (P 8), (P 9)] := hm_ku kk98 (Or.inr (by simp)) eM39
        have kk100 : hm_k Mu12 M57 [(P 7), (P 8), (P 9)] := hm_ku kk99 (Or.inr (by simp)) eM57
        exact lp64 _ 0 xa M57 (Nat.zero_le _) (fun m => by rw [if_neg (by omega)]) (⟨f58, f59, f60, f61, f62, f63, f64, f74, f65, f66, f67, f68, f69, f70, f71, f72, f73, po, pb⟩) ((hF12).trans (cz_F.k0 kk100 (hm_a3 ⟨by rw [po 7 (by decide)]; unfold pm; omega, _, f63⟩ ⟨by rw [po 8 (by decide)]; unfold pm; omega, _, f64⟩ ⟨by rw [po 9 (by decide)]; unfold pm; omega, _, f74⟩))) (Nat.lt_succ_self _) _ _ _ hP hS (lv_sub hl [1, 2, 3, 0] rfl)
  have kk101 : hm_k M M [(P 0)] := hm_krf
  have kk102 : hm_k M M1 [(P 0)] := hm_ku kk101 (Or.inr (by simp)) eM1
  exact lp12 _ b9 (A 7) (A 8) (A 9) (A 10) M1 (Nat.le_refl _) (by omega) (fun j d hj hk => by
      rw [List.getElem?_eraseIdx, if_pos hk] at hj
      exact bi3 j d hj) (fun j d hj _ => bi3 j d hj) (⟨f18, f2, f3, f4, f5, f6, f7, f8, f9, f10, f11, f12, f13, f14, f15, f16, f17, po, pb⟩) (cz_F.k0 kk102 (hm_a1 ⟨by rw [po 0 (by decide)]; unfold pm; omega, _, f18⟩)) (Nat.lt_succ_self _) _ _ _ hP hS (lv_sub hl [1, 2, 0] rfl)
set_option maxHeartbeats 4000000 in
set_option maxRecDepth 100000 in
theorem kc_MO_find (l : Launch) (B : Nat) (D : va_G) (G : Nat → Nat) (M : hm_M) (P O : Nat → Nat) (I : Nat → Int32) (A : Nat → Nat → Int32) (L : Nat → Nat → Int64) (hD : mo_D B D P O M I A L) (t : List Nat) (hT : tpS (I 2) (A 1) t) (bs : List bd_T) (hB : bdS (I 6) (A 7) (A 8) (A 9) (A 10) bs) (x y : Int32) (q : Bool) (hy : in16 y) : Met l yy_MO_find ws_MO_find ({ frames := 0, cells := 0, slots := 0, locals := 0 }) (hm_Pc B D G M [.ref (P 0), .int x, .int (to_I y q)]) (hm_Ni B D (fun r M1 => pl_R (bd_is x y q t) bs r ∧ M1 = M)) (0) (0) (hm_A B) := by
  refine Met.ofW (cc := cd_MO_find) (maxL := 6) (ret := ((some FieldType.int))) (by decide) rfl ?_
  intro p e s m args below meth c s₁ B0 hml hv
  obtain ⟨rfl, hE, hP⟩ := hv
  have hx := B0.exec
  have hb := B0.bytes
  have hr := B0.returns
  have hts : ∀ w ∈ tb_G, w.before _ s = true := fun w h => atoms_spec (ws := ws_MO_find) B0.pre w (List.mem_cons_of_mem _ h)
  have hown : s.vm.findClass "RouteDeskModel" = some m.cls := findClass_of_methodNamed B0.named
  have hlocks := B0.notSynchronized
  have hRf : (headSpec ws_MO_find { frames := 0, cells := 0, slots := 0, locals := 0 }).room.frames = 0 := rfl
  have hRl : (headSpec ws_MO_find { frames := 0, cells := 0, slots := 0, locals := 0 }).room.locals = 0 := rfl
  have hRc : (headSpec ws_MO_find { frames := 0, cells := 0, slots := 0, locals := 0 }).room.cells = 0 := rfl
  have hRs : (headSpec ws_MO_find { frames := 0, cells := 0, slots := 0, locals := 0 }).room.slots = 0 := rfl
  generalize (headSpec ws_MO_find { frames := 0, cells := 0, slots := 0, locals := 0 }).room = R at hRf hRl hRc hRs ⊢
  have hS : va_S (hm_A B) s.heap s.heap [] := va_S.rf
  have hl := lv_entry ([.ref (P 0), .int x, .int (to_I y q)]) (n := 6) (Nat.le_of_ble_eq_true rfl)
  rw [lg_entry_eq]
  generalize (lg_sl ([.ref (P 0), .int x, .int (to_I y q)]) ++ List.replicate (6 - (lg_sl ([.ref (P 0), .int x, .int (to_I y q)])).length) Slot.unset).toArray = ls at hl ⊢
  have hl : lv_has ls 6 [(0, .ref (P 0)), (1, .int x), (2, .int (to_I y q))] := hl
  have t16 : (nI 16).toInt = 16 := by decide
  have tm1 : (-1 : Int32).toInt = -1 := by decide
  have t0 : (nI 0).toInt = 0 := by decide
  have t2 : (nI 2).toInt = 2 := by decide
  have t3 : (nI 3).toInt = 3 := by decide
  have t1 : (nI 1).toInt = 1 := by decide
  have t4 : (nI 4).toInt = 4 := by decide
  obtain ⟨p0, p1, p3, p4, p5, p7, p8, p9, p10, p11, p14, p15, p16, p17, p19, p20, p21, po, pb⟩ := id hD
  obtain ⟨ti1, ti2, ti3, ti4⟩ := id hT
  obtain ⟨bi1, bi2, bi3⟩ := id hB
  refine lv_iconst (v := nI 0) hx hb dd_MO_find_0 (by decide +kernel) ?_
  refine lv_istore_n (lv' := [(3, .int (nI 0)), (0, .ref (P 0)), (1, .int x), (2, .int (to_I y q))]) hx hb dd_MO_find_1 rfl hl (by decide) rfl (fun ls hl => ?_)
  have lp2 : ∀ (n9 : Nat) (k : Nat), (k ≤ bs.length) → (∀ j, j < k → ∀ b2, bs[j]? = some b2 → bd_is x y q t b2 = false) → bs.length - k < n9 → ∀ (H : Heap) (locs : List Loc) (ls : Array Slot), hm_P D cl_W M H → va_S (hm_A B) s.heap H locs → lv_has ls 6 [(0, .ref (P 0)), (1, .int x), (2, .int (to_I y q)), (3, .int (nI k))] → W p l e R s m ([.ref (P 0), .int x, .int (to_I y q)] : List Value).toArray below meth c H locs (0) (0) (MQ below (hm_Ni B D (fun r M1 => pl_R (bd_is x y q t) bs r ∧ M1 = M)) ([.ref (P 0), .int x, .int (to_I y q)] : List Value).toArray s (0) (0) (hm_A B)) (F0 m 2 ls []) := by
    intro n9
    induction n9 with
    | zero => intro k hk hno hm; exact absurd hm (Nat.not_lt_zero _)
    | succ n9 ih2 =>
      intro k hk hno hm H locs ls hP hS hl
      refine lv_iload_n hx hb dd_MO_find_2 rfl (lv_at hl 3 rfl) ?_
      refine lv_aload_n hx hb dd_MO_find_3 rfl (lv_at hl 0 rfl) ?_
      refine hm_get (ci := 6) (C := rn_MO) (T := ft_MO) (N := 22) hx hb hts fi_MO hown hE.K hP p0 rfl 6 (by decide) (hts _ tw_992) (fun _ h9 => h9) rfl dd_MO_find_4 ?_
      refine W.eq (g2 := F0 m 7 ls [.int (nI bs.length), .int (nI k)]) (by rw [bi1]) ?_
      refine hn_icmp_ge (tgt := 115) hx hb (by omega) (by omega) dd_MO_find_7 (by decide) (fun c1 => ?_) (fun c1 => ?_)
      · refine lv_iconst (v := (-1)) hx hb dd_MO_find_115 (by decide +kernel) ?_
        exact hm_Ei (v := (-1)) hx hb hr rfl hS hP (⟨Or.inr ⟨rfl, fun b hb => by
            obtain ⟨j, hj⟩ := List.getElem?_of_mem hb
            exact hno j (by have := (List.getElem?_eq_some_iff.mp hj).1; omega) b hj⟩, rfl⟩) hlocks (by omega) (by omega) dd_MO_find_116
      · obtain ⟨b, hb1⟩ : ∃ b, bs[k]? = some b := ⟨_, List.getElem?_eq_getElem (by omega)⟩
        obtain ⟨bf1, bf2, ⟨bt1, bt2, bt3, bt4⟩, bf4, bf5⟩ := bi3 k b hb1
        refine lv_aload_n hx hb dd_MO_find_10 rfl (lv_at hl 0 rfl) ?_
        refine hm_get (ci := 6) (C := rn_MO) (T := ft_MO) (N := 22) hx hb hts fi_MO hown hE.K hP p0 rfl 7 (by decide) (hts _ tw_993) (fun _ h9 => h9) rfl dd_MO_find_11 ?_
        refine lv_iload_n hx hb dd_MO_find_14 rfl (lv_at hl 3 rfl) ?_
        refine hm_iald (j := k) hx hb hE.K hP 2 p7 rfl (vp_in_nI (by omega) (by omega)) (nI_clamp (by omega)) dd_MO_find_15 ?_
        refine W.eq (g2 := F0 m 16 ls [.int b.1]) (by rw [bf1]) ?_
        refine lv_iload_n hx hb dd_MO_find_16 rfl (lv_at hl 1 rfl) ?_
        refine hi_icmp_ne (tgt := 47) hx hb dd_MO_find_17 (by decide) (fun c2 => ?_) (fun c2 => ?_)
        · have hc0 : bd_is x y q t b = false := by rw [bd_is, bd_fr, decide_eq_false (fun h9 => c2 (by rw [h9]))]; rfl
          refine lv_iconst (v := nI 0) hx hb dd_MO_find_47 (by decide +kernel) ?_
          refine lv_istore (lv' := [(4, .int (nI 0)), (0, .ref (P 0)), (1, .int x), (2, .int (to_I y q)), (3, .int (nI k))]) hx hb dd_MO_find_48 hl (by decide) rfl (fun ls hl => ?_)
          refine lv_iconst (v := nI 0) hx hb dd_MO_find_50 (by decide +kernel) ?_
          refine lv_istore (lv' := [(5, .int (nI 0)), (4, .int (nI 0)), (0, .ref (P 0)), (1, .int x), (2, .int (to_I y q)), (3, .int (nI k))]) hx hb dd_MO_find_51 hl (by decide) rfl (fun ls hl => ?_)
          have lp53 : ∀ (n9 : Nat) (i : Nat) (u : Bool), (i ≤ t.length) → (u = true → bd_fr x b = true ∧ bd_to y q b = true ∧ b.2.2.2.length = t.length ∧ ∀ j, j < i → b.2.2.2.getD j 0 = t.getD j 0) → (u = false → bd_is x y q t b = false) → t.length - i < n9 → ∀ (H : Heap) (locs : List Loc) (ls : Array Slot), hm_P D cl_W M H → va_S (hm_A B) s.heap H locs → lv_has ls 6 [(0, .ref (P 0)), (1, .int x), (2, .int (to_I y q)), (3, .int (nI k)), (4, .int (nI (bz u))), (5, .int (nI i))] → W p l e R s m ([.ref (P 0), .int x, .int (to_I y q)] : List Value).toArray below meth c H locs (0) (0) (MQ below (hm_Ni B D (fun r M1 => pl_R (bd_is x y q t) bs r ∧ M1 = M)) ([.ref (P 0), .int x, .int (to_I y q)] : List Value).toArray s (0) (0) (hm_A B)) (F0 m 53 ls []) := by
            intro n9
            induction n9 with
            | zero => intro i u hi hu hu2 hm; exact absurd hm (Nat.not_lt_zero _)
            | succ n9 ih53 =>
              intro i u hi hu hu2 hm H locs ls hP hS hl
              refine lv_iload hx hb dd_MO_find_53 (lv_at hl 4 rfl) ?_
              refine hn_if_eq (tgt := 102) hx hb (bz_b _) dd_MO_find_55 (by decide) (fun c3 => ?_) (fun c3 => ?_)
              · have hu0 := bz_f c3
                have hl : lv_has ls 6 [(0, .ref (P 0)), (1, .int x), (2, .int (to_I y q)), (3, .int (nI k)), (4, .int (nI 0)), (5, .int (nI i))] := by rw [hu0] at hl; exact hl
                refine lv_iload hx hb dd_MO_find_102 (lv_at hl 4 rfl) ?_
                refine hn_if_eq (tgt := 109) hx hb (by omega) dd_MO_find_104 (by decide) (fun c4 => ?_) (fun c4 => absurd c4 (by omega))
                refine lv_iinc (v := nI (k + 1)) (lv' := [(3, .int (nI (k + 1))), (0, .ref (P 0)), (1, .int x), (2, .int (to_I y q)), (4, .int (nI 0)), (5, .int (nI i))]) hx hb dd_MO_find_109 hl (k := 3) rfl (nI_1 k) (by decide) rfl (fun ls hl => ?_)
                refine lv_goto (tgt := 2) hx hb dd_MO_find_112 (by decide) ?_
                exact ih2 (k + 1) (by omega) (fun j hj z2 hz2 => by
                    by_cases h9 : j = k
                    · subst h9; rw [hb1] at hz2; cases hz2; exact hu2 hu0
                    · exact hno j (by omega) z2 hz2) (by omega) _ _ _ hP hS (lv_sub hl [1, 2, 3, 0] rfl)
              · have hu1 := bz_t c3
                obtain ⟨hv1, hv2, hv3, hv4⟩ := hu hu1
                refine lv_iload hx hb dd_MO_find_58 (lv_at hl 5 rfl) ?_
                refine lv_aload_n hx hb dd_MO_find_60 rfl (lv_at hl 0 rfl) ?_
                refine hm_get (ci := 6) (C := rn_MO) (T := ft_MO) (N := 22) hx hb hts fi_MO hown hE.K hP p0 rfl 2 (by decide) (hts _ tw_988) (fun _ h9 => h9) rfl dd_MO_find_61 ?_
                refine W.eq (g2 := F0 m 64 ls [.int (nI t.length), .int (nI i)]) (by rw [ti1]) ?_
                refine hn_icmp_ge (tgt := 102) hx hb (by omega) (by omega) dd_MO_find_64 (by decide) (fun c5 => ?_) (fun c5 => ?_)
                · have hl : lv_has ls 6 [(0, .ref (P 0)), (1, .int x), (2, .int (to_I y q)), (3, .int (nI k)), (4, .int (nI 1)), (5, .int (nI i))] := by rw [hu1] at hl; exact hl
                  refine lv_iload hx hb dd_MO_find_102 (lv_at hl 4 rfl) ?_
                  refine hn_if_eq (tgt := 109) hx hb (by omega) dd_MO_find_104 (by decide) (fun c6 => absurd c6 (by omega)) (fun c6 => ?_)
                  refine lv_iload_n hx hb dd_MO_find_107 rfl (lv_at hl 3 rfl) ?_
                  exact hm_Ei (v := nI k) hx hb hr rfl hS hP (⟨Or.inl ⟨k, b, rfl, by omega, hb1, by rw [bd_is, hv1, hv2, decide_eq_true (tx_ext hv3 (fun j hj => hv4 j (by omega)))]; rfl, hno⟩, rfl⟩) hlocks (by omega) (by omega) dd_MO_find_108
                · have hbl1 := tx_lt bt4 i
                  have hbl2 := tx_lt ti4 i
                  refine lv_aload_n hx hb dd_MO_find_67 rfl (lv_at hl 0 rfl) ?_
                  refine hm_get (ci := 6) (C := rn_MO) (T := ft_MO) (N := 22) hx hb hts fi_MO hown hE.K hP p0 rfl 10 (by decide) (hts _ tw_996) (fun _ h9 => h9) rfl dd_MO_find_68 ?_
                  refine lv_bipush (v := nI 48) hx hb dd_MO_find_71 (by decide +kernel) ?_
                  refine lv_iload_n hx hb dd_MO_find_73 rfl (lv_at hl 3 rfl) ?_
                  refine hn_imul hx hb dd_MO_find_74 ?_
                  refine lv_iload hx hb dd_MO_find_75 (lv_at hl 5 rfl) ?_
                  refine hn_iadd hx hb dd_MO_find_77 ?_
                  refine hm_iald (j := (48 * k) + i) hx hb hE.K hP 2 p10 rfl (vp_in_nI (by omega) (by omega)) (nI_clamp (by omega)) dd_MO_find_78 ?_
                  refine W.eq (g2 := F0 m 79 ls [.int (nI (b.2.2.2.getD i 0))]) (by rw [show A 10 ((48 * k) + i) = _ from bt2 i (by omega)]) ?_
                  refine lv_aload_n hx hb dd_MO_find_79 rfl (lv_at hl 0 rfl) ?_
                  refine hm_get (ci := 6) (C := rn_MO) (T := ft_MO) (N := 22) hx hb hts fi_MO hown hE.K hP p0 rfl 1 (by decide) (hts _ tw_987) (fun _ h9 => h9) rfl dd_MO_find_80 ?_
                  refine lv_iload hx hb dd_MO_find_83 (lv_at hl 5 rfl) ?_
                  refine hm_iald (j := i) hx hb hE.K hP 2 p1 rfl (vp_in_nI (by omega) (by omega)) (nI_clamp (by omega)) dd_MO_find_85 ?_
                  refine W.eq (g2 := F0 m 86 ls [.int (nI (t.getD i 0)), .int (nI (b.2.2.2.getD i 0))]) (by rw [ti2 i (by omega)]) ?_
                  refine hn_icmp_ne (tgt := 93) hx hb (by omega) (by omega) dd_MO_find_86 (by decide) (fun c7 => ?_) (fun c7 => ?_)
                  · have he := c7
                    refine lv_iconst (v := nI 0) hx hb dd_MO_find_93 (by decide +kernel) ?_
                    refine lv_istore (lv' := [(4, .int (nI 0)), (0, .ref (P 0)), (1, .int x), (2, .int (to_I y q)), (3, .int (nI k)), (5, .int (nI i))]) hx hb dd_MO_find_94 hl (by decide) rfl (fun ls hl => ?_)
                    refine lv_iinc (v := nI (i + 1)) (lv' := [(5, .int (nI (i + 1))), (4, .int (nI 0)), (0, .ref (P 0)), (1, .int x), (2, .int (to_I y q)), (3, .int (nI k))]) hx hb dd_MO_find_96 hl (k := 5) rfl (nI_1 i) (by decide) rfl (fun ls hl => ?_)
                    refine lv_goto (tgt := 53) hx hb dd_MO_find_99 (by decide) ?_
                    exact ih53 (i + 1) false (by omega) (fun h9 => by cases h9) (fun _ => by rw [bd_is, decide_eq_false (fun h9 => he (by rw [h9])), Bool.and_false, Bool.and_false]) (by omega) _ _ _ hP hS (lv_sub hl [2, 3, 4, 5, 1, 0] rfl)
                  · have he := c7
                    refine lv_iconst (v := nI 1) hx hb dd_MO_find_89 (by decide +kernel) ?_
                    refine lv_goto (tgt := 94) hx hb dd_MO_find_90 (by decide) ?_
                    refine lv_istore (lv' := [(4, .int (nI 1)), (0, .ref (P 0)), (1, .int x), (2, .int (to_I y q)), (3, .int (nI k)), (5, .int (nI i))]) hx hb dd_MO_find_94 hl (by decide) rfl (fun ls hl => ?_)
                    refine lv_iinc (v := nI (i + 1)) (lv' := [(5, .int (nI (i + 1))), (4, .int (nI 1)), (0, .ref (P 0)), (1, .int x), (2, .int (to_I y q)), (3, .int (nI k))]) hx hb dd_MO_find_96 hl (k := 5) rfl (nI_1 i) (by decide) rfl (fun ls hl => ?_)
                    refine lv_goto (tgt := 53) hx hb dd_MO_find_99 (by decide) ?_
                    exact ih53 (i + 1) true (by omega) (fun _ => ⟨hv1, hv2, hv3, fun j hj => by
                        by_cases h9 : j = i
                        · subst h9; exact he
                        · exact hv4 j (by omega)⟩) (fun h9 => by cases h9) (by omega) _ _ _ hP hS (lv_sub hl [2, 3, 4, 5, 1, 0] rfl)
          exact lp53 _ 0 false (Nat.zero_le _) (fun h9 => by cases h9) (fun _ => hc0) (Nat.lt_succ_self _) _ _ _ hP hS (lv_sub hl [2, 3, 4, 5, 1, 0] rfl)
        · have hc1 : bd_fr x b = true := decide_eq_true (hi_eq c2)
          refine lv_aload_n hx hb dd_MO_find_20 rfl (lv_at hl 0 rfl) ?_
          refine hm_get (ci := 6) (C := rn_MO) (T := ft_MO) (N := 22) hx hb hts fi_MO hown hE.K hP p0 rfl 8 (by decide) (hts _ tw_994) (fun _ h9 => h9) rfl dd_MO_find_21 ?_
          refine lv_iload_n hx hb dd_MO_find_24 rfl (lv_at hl 3 rfl) ?_
          refine hm_iald (j := k) hx hb hE.K hP 2 p8 rfl (vp_in_nI (by omega) (by omega)) (nI_clamp (by omega)) dd_MO_find_25 ?_
          refine W.eq (g2 := F0 m 26 ls [.int (to_I b.2.1 b.2.2.1)]) (by rw [bf2]) ?_
          refine lv_iload_n hx hb dd_MO_find_26 rfl (lv_at hl 2 rfl) ?_
          refine hi_icmp_ne (tgt := 47) hx hb dd_MO_find_27 (by decide) (fun c8 => ?_) (fun c8 => ?_)
          · have hc0 : bd_is x y q t b = false := by rw [bd_is, to_bd q hy bf5, decide_eq_false c8, Bool.false_and, Bool.and_false]
            refine lv_iconst (v := nI 0) hx hb dd_MO_find_47 (by decide +kernel) ?_
            refine lv_istore (lv' := [(4, .int (nI 0)), (0, .ref (P 0)), (1, .int x), (2, .int (to_I y q)), (3, .int (nI k))]) hx hb dd_MO_find_48 hl (by decide) rfl (fun ls hl => ?_)
            refine lv_iconst (v := nI 0) hx hb dd_MO_find_50 (by decide +kernel) ?_
            refine lv_istore (lv' := [(5, .int (nI 0)), (4, .int (nI 0)), (0, .ref (P 0)), (1, .int x), (2, .int (to_I y q)), (3, .int (nI k))]) hx hb dd_MO_find_51 hl (by decide) rfl (fun ls hl => ?_)
            have lp53 : ∀ (n9 : Nat) (i : Nat) (u : Bool), (i ≤ t.length) → (u = true → bd_fr x b = true ∧ bd_to y q b = true ∧ b.2.2.2.length = t.length ∧ ∀ j, j < i → b.2.2.2.getD j 0 = t.getD j 0) → (u = false → bd_is x y q t b = false) → t.length - i < n9 → ∀ (H : Heap) (locs : List Loc) (ls : Array Slot), hm_P D cl_W M H → va_S (hm_A B) s.heap H locs → lv_has ls 6 [(0, .ref (P 0)), (1, .int x), (2, .int (to_I y q)), (3, .int (nI k)), (4, .int (nI (bz u))), (5, .int (nI i))] → W p l e R s m ([.ref (P 0), .int x, .int (to_I y q)] : List Value).toArray below meth c H locs (0) (0) (MQ below (hm_Ni B D (fun r M1 => pl_R (bd_is x y q t) bs r ∧ M1 = M)) ([.ref (P 0), .int x, .int (to_I y q)] : List Value).toArray s (0) (0) (hm_A B)) (F0 m 53 ls []) := by
              intro n9
              induction n9 with
              | zero => intro i u hi hu hu2 hm; exact absurd hm (Nat.not_lt_zero _)
              | succ n9 ih53 =>
                intro i u hi hu hu2 hm H locs ls hP hS hl
                refine lv_iload hx hb dd_MO_find_53 (lv_at hl 4 rfl) ?_
                refine hn_if_eq (tgt := 102) hx hb (bz_b _) dd_MO_find_55 (by decide) (fun c9 => ?_) (fun c9 => ?_)
                · have hu0 := bz_f c9
                  have hl : lv_has ls 6 [(0, .ref (P 0)), (1, .int x), (2, .int (to_I y q)), (3, .int (nI k)), (4, .int (nI 0)), (5, .int (nI i))] := by rw [hu0] at hl; exact hl
                  refine lv_iload hx hb dd_MO_find_102 (lv_at hl 4 rfl) ?_
                  refine hn_if_eq (tgt := 109) hx hb (by omega) dd_MO_find_104 (by decide) (fun c10 => ?_) (fun c10 => absurd c10 (by omega))
                  refine lv_iinc (v := nI (k + 1)) (lv' := [(3, .int (nI (k + 1))), (0, .ref (P 0)), (1, .int x), (2, .int (to_I y q)), (4, .int (nI 0)), (5, .int (nI i))]) hx hb dd_MO_find_109 hl (k := 3) rfl (nI_1 k) (by decide) rfl (fun ls hl => ?_)
                  refine lv_goto (tgt := 2) hx hb dd_MO_find_112 (by decide) ?_
                  exact ih2 (k + 1) (by omega) (fun j hj z2 hz2 => by
                      by_cases h9 : j = k
                      · subst h9; rw [hb1] at hz2; cases hz2; exact hu2 hu0
                      · exact hno j (by omega) z2 hz2) (by omega) _ _ _ hP hS (lv_sub hl [1, 2, 3, 0] rfl)
                · have hu1 := bz_t c9
                  obtain ⟨hv1, hv2, hv3, hv4⟩ := hu hu1
                  refine lv_iload hx hb dd_MO_find_58 (lv_at hl 5 rfl) ?_
                  refine lv_aload_n hx hb dd_MO_find_60 rfl (lv_at hl 0 rfl) ?_
                  refine hm_get (ci := 6) (C := rn_MO) (T := ft_MO) (N := 22) hx hb hts fi_MO hown hE.K hP p0 rfl 2 (by decide) (hts _ tw_988) (fun _ h9 => h9) rfl dd_MO_find_61 ?_
                  refine W.eq (g2 := F0 m 64 ls [.int (nI t.length), .int (nI i)]) (by rw [ti1]) ?_
                  refine hn_icmp_ge (tgt := 102) hx hb (by omega) (by omega) dd_MO_find_64 (by decide) (fun c11 => ?_) (fun c11 => ?_)
                  · have hl : lv_has ls 6 [(0, .ref (P 0)), (1, .int x), (2, .int (to_I y q)), (3, .int (nI k)), (4, .int (nI 1)), (5, .int (nI i))] := by rw [hu1] at hl; exact hl
                    refine lv_iload hx hb dd_MO_find_102 (lv_at hl 4 rfl) ?_
                    refine hn_if_eq (tgt := 109) hx hb (by omega) dd_MO_find_104 (by decide) (fun c12 => absurd c12 (by omega)) (fun c12 => ?_)
                    refine lv_iload_n hx hb dd_MO_find_107 rfl (lv_at hl 3 rfl) ?_
                    exact hm_Ei (v := nI k) hx hb hr rfl hS hP (⟨Or.inl ⟨k, b, rfl, by omega, hb1, by rw [bd_is, hv1, hv2, decide_eq_true (tx_ext hv3 (fun j hj => hv4 j (by omega)))]; rfl, hno⟩, rfl⟩) hlocks (by omega) (by omega) dd_MO_find_108
                  · have hbl1 := tx_lt bt4 i
                    have hbl2 := tx_lt ti4 i
                    refine lv_aload_n hx hb dd_MO_find_67 rfl (lv_at hl 0 rfl) ?_
                    refine hm_get (ci := 6) (C := rn_MO) (T := ft_MO) (N := 22) hx hb hts fi_MO hown hE.K hP p0 rfl 10 (by decide) (hts _ tw_996) (fun _ h9 => h9) rfl dd_MO_find_68 ?_
                    refine lv_bipush (v := nI 48) hx hb dd_MO_find_71 (by decide +kernel) ?_
                    refine lv_iload_n hx hb dd_MO_find_73 rfl (lv_at hl 3 rfl) ?_
                    refine hn_imul hx hb dd_MO_find_74 ?_
                    refine lv_iload hx hb dd_MO_find_75 (lv_at hl 5 rfl) ?_
                    refine hn_iadd hx hb dd_MO_find_77 ?_
                    refine hm_iald (j := (48 * k) + i) hx hb hE.K hP 2 p10 rfl (vp_in_nI (by omega) (by omega)) (nI_clamp (by omega)) dd_MO_find_78 ?_
                    refine W.eq (g2 := F0 m 79 ls [.int (nI (b.2.2.2.getD i 0))]) (by rw [show A 10 ((48 * k) + i) = _ from bt2 i (by omega)]) ?_
                    refine lv_aload_n hx hb dd_MO_find_79 rfl (lv_at hl 0 rfl) ?_
                    refine hm_get (ci := 6) (C := rn_MO) (T := ft_MO) (N := 22) hx hb hts fi_MO hown hE.K hP p0 rfl 1 (by decide) (hts _ tw_987) (fun _ h9 => h9) rfl dd_MO_find_80 ?_
                    refine lv_iload hx hb dd_MO_find_83 (lv_at hl 5 rfl) ?_
                    refine hm_iald (j := i) hx hb hE.K hP 2 p1 rfl (vp_in_nI (by omega) (by omega)) (nI_clamp (by omega)) dd_MO_find_85 ?_
                    refine W.eq (g2 := F0 m 86 ls [.int (nI (t.getD i 0)), .int (nI (b.2.2.2.getD i 0))]) (by rw [ti2 i (by omega)]) ?_
                    refine hn_icmp_ne (tgt := 93) hx hb (by omega) (by omega) dd_MO_find_86 (by decide) (fun c13 => ?_) (fun c13 => ?_)
                    · have he := c13
                      refine lv_iconst (v := nI 0) hx hb dd_MO_find_93 (by decide +kernel) ?_
                      refine lv_istore (lv' := [(4, .int (nI 0)), (0, .ref (P 0)), (1, .int x), (2, .int (to_I y q)), (3, .int (nI k)), (5, .int (nI i))]) hx hb dd_MO_find_94 hl (by decide) rfl (fun ls hl => ?_)
                      refine lv_iinc (v := nI (i + 1)) (lv' := [(5, .int (nI (i + 1))), (4, .int (nI 0)), (0, .ref (P 0)), (1, .int x), (2, .int (to_I y q)), (3, .int (nI k))]) hx hb dd_MO_find_96 hl (k := 5) rfl (nI_1 i) (by decide) rfl (fun ls hl => ?_)
                      refine lv_goto (tgt := 53) hx hb dd_MO_find_99 (by decide) ?_
                      exact ih53 (i + 1) false (by omega) (fun h9 => by cases h9) (fun _ => by rw [bd_is, decide_eq_false (fun h9 => he (by rw [h9])), Bool.and_false, Bool.and_false]) (by omega) _ _ _ hP hS (lv_sub hl [2, 3, 4, 5, 1, 0] rfl)
                    · have he := c13
                      refine lv_iconst (v := nI 1) hx hb dd_MO_find_89 (by decide +kernel) ?_
                      refine lv_goto (tgt := 94) hx hb dd_MO_find_90 (by decide) ?_
                      refine lv_istore (lv' := [(4, .int (nI 1)), (0, .ref (P 0)), (1, .int x), (2, .int (to_I y q)), (3, .int (nI k)), (5, .int (nI i))]) hx hb dd_MO_find_94 hl (by decide) rfl (fun ls hl => ?_)
                      refine lv_iinc (v := nI (i + 1)) (lv' := [(5, .int (nI (i + 1))), (4, .int (nI 1)), (0, .ref (P 0)), (1, .int x), (2, .int (to_I y q)), (3, .int (nI k))]) hx hb dd_MO_find_96 hl (k := 5) rfl (nI_1 i) (by decide) rfl (fun ls hl => ?_)
                      refine lv_goto (tgt := 53) hx hb dd_MO_find_99 (by decide) ?_
                      exact ih53 (i + 1) true (by omega) (fun _ => ⟨hv1, hv2, hv3, fun j hj => by
                          by_cases h9 : j = i
                          · subst h9; exact he
                          · exact hv4 j (by omega)⟩) (fun h9 => by cases h9) (by omega) _ _ _ hP hS (lv_sub hl [2, 3, 4, 5, 1, 0] rfl)
            exact lp53 _ 0 false (Nat.zero_le _) (fun h9 => by cases h9) (fun _ => hc0) (Nat.lt_succ_self _) _ _ _ hP hS (lv_sub hl [2, 3, 4, 5, 1, 0] rfl)
          · have hc2 : bd_to y q b = true := by rw [to_bd q hy bf5]; exact decide_eq_true c8
            refine lv_aload_n hx hb dd_MO_find_30 rfl (lv_at hl 0 rfl) ?_
            refine hm_get (ci := 6) (C := rn_MO) (T := ft_MO) (N := 22) hx hb hts fi_MO hown hE.K hP p0 rfl 9 (by decide) (hts _ tw_995) (fun _ h9 => h9) rfl dd_MO_find_31 ?_
            refine lv_iload_n hx hb dd_MO_find_34 rfl (lv_at hl 3 rfl) ?_
            refine hm_iald (j := k) hx hb hE.K hP 2 p9 rfl (vp_in_nI (by omega) (by omega)) (nI_clamp (by omega)) dd_MO_find_35 ?_
            refine W.eq (g2 := F0 m 36 ls [.int (nI b.2.2.2.length)]) (by rw [bt1]) ?_
            refine lv_aload_n hx hb dd_MO_find_36 rfl (lv_at hl 0 rfl) ?_
            refine hm_get (ci := 6) (C := rn_MO) (T := ft_MO) (N := 22) hx hb hts fi_MO hown hE.K hP p0 rfl 2 (by decide) (hts _ tw_988) (fun _ h9 => h9) rfl dd_MO_find_37 ?_
            refine W.eq (g2 := F0 m 40 ls [.int (nI t.length), .int (nI b.2.2.2.length)]) (by rw [ti1]) ?_
            refine hn_icmp_ne (tgt := 47) hx hb (by omega) (by omega) dd_MO_find_40 (by decide) (fun c14 => ?_) (fun c14 => ?_)
            · have hc0 : bd_is x y q t b = false := by rw [bd_is, decide_eq_false (fun h9 => c14 (by rw [h9])), Bool.and_false, Bool.and_false]
              refine lv_iconst (v := nI 0) hx hb dd_MO_find_47 (by decide +kernel) ?_
              refine lv_istore (lv' := [(4, .int (nI 0)), (0, .ref (P 0)), (1, .int x), (2, .int (to_I y q)), (3, .int (nI k))]) hx hb dd_MO_find_48 hl (by decide) rfl (fun ls hl => ?_)
              refine lv_iconst (v := nI 0) hx hb dd_MO_find_50 (by decide +kernel) ?_
              refine lv_istore (lv' := [(5, .int (nI 0)), (4, .int (nI 0)), (0, .ref (P 0)), (1, .int x), (2, .int (to_I y q)), (3, .int (nI k))]) hx hb dd_MO_find_51 hl (by decide) rfl (fun ls hl => ?_)
              have lp53 : ∀ (n9 : Nat) (i : Nat) (u : Bool), (i ≤ t.length) → (u = true → bd_fr x b = true ∧ bd_to y q b = true ∧ b.2.2.2.length = t.length ∧ ∀ j, j < i → b.2.2.2.getD j 0 = t.getD j 0) → (u = false → bd_is x y q t b = false) → t.length - i < n9 → ∀ (H : Heap) (locs : List Loc) (ls : Array Slot), hm_P D cl_W M H → va_S (hm_A B) s.heap H locs → lv_has ls 6 [(0, .ref (P 0)), (1, .int x), (2, .int (to_I y q)), (3, .int (nI k)), (4, .int (nI (bz u))), (5, .int (nI i))] → W p l e R s m ([.ref (P 0), .int x, .int (to_I y q)] : List Value).toArray below meth c H locs (0) (0) (MQ below (hm_Ni B D (fun r M1 => pl_R (bd_is x y q t) bs r ∧ M1 = M)) ([.ref (P 0), .int x, .int (to_I y q)] : List Value).toArray s (0) (0) (hm_A B)) (F0 m 53 ls []) := by
                intro n9
                induction n9 with
                | zero => intro i u hi hu hu2 hm; exact absurd hm (Nat.not_lt_zero _)
                | succ n9 ih53 =>
                  intro i u hi hu hu2 hm H locs ls hP hS hl
                  refine lv_iload hx hb dd_MO_find_53 (lv_at hl 4 rfl) ?_
                  refine hn_if_eq (tgt := 102) hx hb (bz_b _) dd_MO_find_55 (by decide) (fun c15 => ?_) (fun c15 => ?_)
                  · have hu0 := bz_f c15
                    have hl : lv_has ls 6 [(0, .ref (P 0)), (1, .int x), (2, .int (to_I y q)), (3, .int (nI k)), (4, .int (nI 0)), (5, .int (nI i))] := by rw [hu0] at hl; exact hl
                    refine lv_iload hx hb dd_MO_find_102 (lv_at hl 4 rfl) ?_
                    refine hn_if_eq (tgt := 109) hx hb (by omega) dd_MO_find_104 (by decide) (fun c16 => ?_) (fun c16 => absurd c16 (by omega))
                    refine lv_iinc (v := nI (k + 1)) (lv' := [(3, .int (nI (k + 1))), (0, .ref (P 0)), (1, .int x), (2, .int (to_I y q)), (4, .int (nI 0)), (5, .int (nI i))]) hx hb dd_MO_find_109 hl (k := 3) rfl (nI_1 k) (by decide) rfl (fun ls hl => ?_)
                    refine lv_goto (tgt := 2) hx hb dd_MO_find_112 (by decide) ?_
                    exact ih2 (k + 1) (by omega) (fun j hj z2 hz2 => by
                        by_cases h9 : j = k
                        · subst h9; rw [hb1] at hz2; cases hz2; exact hu2 hu0
                        · exact hno j (by omega) z2 hz2) (by omega) _ _ _ hP hS (lv_sub hl [1, 2, 3, 0] rfl)
                  · have hu1 := bz_t c15
                    obtain ⟨hv1, hv2, hv3, hv4⟩ := hu hu1
                    refine lv_iload hx hb dd_MO_find_58 (lv_at hl 5 rfl) ?_
                    refine lv_aload_n hx hb dd_MO_find_60 rfl (lv_at hl 0 rfl) ?_
                    refine hm_get (ci := 6) (C := rn_MO) (T := ft_MO) (N := 22) hx hb hts fi_MO hown hE.K hP p0 rfl 2 (by decide) (hts _ tw_988) (fun _ h9 => h9) rfl dd_MO_find_61 ?_
                    refine W.eq (g2 := F0 m 64 ls [.int (nI t.length), .int (nI i)]) (by rw [ti1]) ?_
                    refine hn_icmp_ge (tgt := 102) hx hb (by omega) (by omega) dd_MO_find_64 (by decide) (fun c17 => ?_) (fun c17 => ?_)
                    · have hl : lv_has ls 6 [(0, .ref (P 0)), (1, .int x), (2, .int (to_I y q)), (3, .int (nI k)), (4, .int (nI 1)), (5, .int (nI i))] := by rw [hu1] at hl; exact hl
                      refine lv_iload hx hb dd_MO_find_102 (lv_at hl 4 rfl) ?_
                      refine hn_if_eq (tgt := 109) hx hb (by omega) dd_MO_find_104 (by decide) (fun c18 => absurd c18 (by omega)) (fun c18 => ?_)
                      refine lv_iload_n hx hb dd_MO_find_107 rfl (lv_at hl 3 rfl) ?_
                      exact hm_Ei (v := nI k) hx hb hr rfl hS hP (⟨Or.inl ⟨k, b, rfl, by omega, hb1, by rw [bd_is, hv1, hv2, decide_eq_true (tx_ext hv3 (fun j hj => hv4 j (by omega)))]; rfl, hno⟩, rfl⟩) hlocks (by omega) (by omega) dd_MO_find_108
                    · have hbl1 := tx_lt bt4 i
                      have hbl2 := tx_lt ti4 i
                      refine lv_aload_n hx hb dd_MO_find_67 rfl (lv_at hl 0 rfl) ?_
                      refine hm_get (ci := 6) (C := rn_MO) (T := ft_MO) (N := 22) hx hb hts fi_MO hown hE.K hP p0 rfl 10 (by decide) (hts _ tw_996) (fun _ h9 => h9) rfl dd_MO_find_68 ?_
                      refine lv_bipush (v := nI 48) hx hb dd_MO_find_71 (by decide +kernel) ?_
                      refine lv_iload_n hx hb dd_MO_find_73 rfl (lv_at hl 3 rfl) ?_
                      refine hn_imul hx hb dd_MO_find_74 ?_
                      refine lv_iload hx hb dd_MO_find_75 (lv_at hl 5 rfl) ?_
                      refine hn_iadd hx hb dd_MO_find_77 ?_
                      refine hm_iald (j := (48 * k) + i) hx hb hE.K hP 2 p10 rfl (vp_in_nI (by omega) (by omega)) (nI_clamp (by omega)) dd_MO_find_78 ?_
                      refine W.eq (g2 := F0 m 79 ls [.int (nI (b.2.2.2.getD i 0))]) (by rw [show A 10 ((48 * k) + i) = _ from bt2 i (by omega)]) ?_
                      refine lv_aload_n hx hb dd_MO_find_79 rfl (lv_at hl 0 rfl) ?_
                      refine hm_get (ci := 6) (C := rn_MO) (T := ft_MO) (N := 22) hx hb hts fi_MO hown hE.K hP p0 rfl 1 (by decide) (hts _ tw_987) (fun _ h9 => h9) rfl dd_MO_find_80 ?_
                      refine lv_iload hx hb dd_MO_find_83 (lv_at hl 5 rfl) ?_
                      refine hm_iald (j := i) hx hb hE.K hP 2 p1 rfl (vp_in_nI (by omega) (by omega)) (nI_clamp (by omega)) dd_MO_find_85 ?_
                      refine W.eq (g2 := F0 m 86 ls [.int (nI (t.getD i 0)), .int (nI (b.2.2.2.getD i 0))]) (by rw [ti2 i (by omega)]) ?_
                      refine hn_icmp_ne (tgt := 93) hx hb (by omega) (by omega) dd_MO_find_86 (by decide) (fun c19 => ?_) (fun c19 => ?_)
                      · have he := c19
                        refine lv_iconst (v := nI 0) hx hb dd_MO_find_93 (by decide +kernel) ?_
                        refine lv_istore (lv' := [(4, .int (nI 0)), (0, .ref (P 0)), (1, .int x), (2, .int (to_I y q)), (3, .int (nI k)), (5, .int (nI i))]) hx hb dd_MO_find_94 hl (by decide) rfl (fun ls hl => ?_)
                        refine lv_iinc (v := nI (i + 1)) (lv' := [(5, .int (nI (i + 1))), (4, .int (nI 0)), (0, .ref (P 0)), (1, .int x), (2, .int (to_I y q)), (3, .int (nI k))]) hx hb dd_MO_find_96 hl (k := 5) rfl (nI_1 i) (by decide) rfl (fun ls hl => ?_)
                        refine lv_goto (tgt := 53) hx hb dd_MO_find_99 (by decide) ?_
                        exact ih53 (i + 1) false (by omega) (fun h9 => by cases h9) (fun _ => by rw [bd_is, decide_eq_false (fun h9 => he (by rw [h9])), Bool.and_false, Bool.and_false]) (by omega) _ _ _ hP hS (lv_sub hl [2, 3, 4, 5, 1, 0] rfl)
                      · have he := c19
                        refine lv_iconst (v := nI 1) hx hb dd_MO_find_89 (by decide +kernel) ?_
                        refine lv_goto (tgt := 94) hx hb dd_MO_find_90 (by decide) ?_
                        refine lv_istore (lv' := [(4, .int (nI 1)), (0, .ref (P 0)), (1, .int x), (2, .int (to_I y q)), (3, .int (nI k)), (5, .int (nI i))]) hx hb dd_MO_find_94 hl (by decide) rfl (fun ls hl => ?_)
                        refine lv_iinc (v := nI (i + 1)) (lv' := [(5, .int (nI (i + 1))), (4, .int (nI 1)), (0, .ref (P 0)), (1, .int x), (2, .int (to_I y q)), (3, .int (nI k))]) hx hb dd_MO_find_96 hl (k := 5) rfl (nI_1 i) (by decide) rfl (fun ls hl => ?_)
                        refine lv_goto (tgt := 53) hx hb dd_MO_find_99 (by decide) ?_
                        exact ih53 (i + 1) true (by omega) (fun _ => ⟨hv1, hv2, hv3, fun j hj => by
                            by_cases h9 : j = i
                            · subst h9; exact he
                            · exact hv4 j (by omega)⟩) (fun h9 => by cases h9) (by omega) _ _ _ hP hS (lv_sub hl [2, 3, 4, 5, 1, 0] rfl)
              exact lp53 _ 0 false (Nat.zero_le _) (fun h9 => by cases h9) (fun _ => hc0) (Nat.lt_succ_self _) _ _ _ hP hS (lv_sub hl [2, 3, 4, 5, 1, 0] rfl)
            · refine lv_iconst (v := nI 1) hx hb dd_MO_find_43 (by decide +kernel) ?_
              refine lv_goto (tgt := 48) hx hb dd_MO_find_44 (by decide) ?_
              refine lv_istore (lv' := [(4, .int (nI 1)), (0, .ref (P 0)), (1, .int x), (2, .int (to_I y q)), (3, .int (nI k))]) hx hb dd_MO_find_48 hl (by decide) rfl (fun ls hl => ?_)
              refine lv_iconst (v := nI 0) hx hb dd_MO_find_50 (by decide +kernel) ?_
              refine lv_istore (lv' := [(5, .int (nI 0)), (4, .int (nI 1)), (0, .ref (P 0)), (1, .int x), (2, .int (to_I y q)), (3, .int (nI k))]) hx hb dd_MO_find_51 hl (by decide) rfl (fun ls hl => ?_)
              have lp53 : ∀ (n9 : Nat) (i : Nat) (u : Bool), (i ≤ t.length) → (u = true → bd_fr x b = true ∧ bd_to y q b = true ∧ b.2.2.2.length = t.length ∧ ∀ j, j < i → b.2.2.2.getD j 0 = t.getD j 0) → (u = false → bd_is x y q t b = false) → t.length - i < n9 → ∀ (H : Heap) (locs : List Loc) (ls : Array Slot), hm_P D cl_W M H → va_S (hm_A B) s.heap H locs → lv_has ls 6 [(0, .ref (P 0)), (1, .int x), (2, .int (to_I y q)), (3, .int (nI k)), (4, .int (nI (bz u))), (5, .int (nI i))] → W p l e R s m ([.ref (P 0), .int x, .int (to_I y q)] : List Value).toArray below meth c H locs (0) (0) (MQ below (hm_Ni B D (fun r M1 => pl_R (bd_is x y q t) bs r ∧ M1 = M)) ([.ref (P 0), .int x, .int (to_I y q)] : List Value).toArray s (0) (0) (hm_A B)) (F0 m 53 ls []) := by
                intro n9
                induction n9 with
                | zero => intro i u hi hu hu2 hm; exact absurd hm (Nat.not_lt_zero _)
                | succ n9 ih53 =>
                  intro i u hi hu hu2 hm H locs ls hP hS hl
                  refine lv_iload hx hb dd_MO_find_53 (lv_at hl 4 rfl) ?_
                  refine hn_if_eq (tgt := 102) hx hb (bz_b _) dd_MO_find_55 (by decide) (fun c20 => ?_) (fun c20 => ?_)
                  · have hu0 := bz_f c20
                    have hl : lv_has ls 6 [(0, .ref (P 0)), (1, .int x), (2, .int (to_I y q)), (3, .int (nI k)), (4, .int (nI 0)), (5, .int (nI i))] := by rw [hu0] at hl; exact hl
                    refine lv_iload hx hb dd_MO_find_102 (lv_at hl 4 rfl) ?_
                    refine hn_if_eq (tgt := 109) hx hb (by omega) dd_MO_find_104 (by decide) (fun c21 => ?_) (fun c21 => absurd c21 (by omega))
                    refine lv_iinc (v := nI (k + 1)) (lv' := [(3, .int (nI (k + 1))), (0, .ref (P 0)), (1, .int x), (2, .int (to_I y q)), (4, .int (nI 0)), (5, .int (nI i))]) hx hb dd_MO_find_109 hl (k := 3) rfl (nI_1 k) (by decide) rfl (fun ls hl => ?_)
                    refine lv_goto (tgt := 2) hx hb dd_MO_find_112 (by decide) ?_
                    exact ih2 (k + 1) (by omega) (fun j hj z2 hz2 => by
                        by_cases h9 : j = k
                        · subst h9; rw [hb1] at hz2; cases hz2; exact hu2 hu0
                        · exact hno j (by omega) z2 hz2) (by omega) _ _ _ hP hS (lv_sub hl [1, 2, 3, 0] rfl)
                  · have hu1 := bz_t c20
                    obtain ⟨hv1, hv2, hv3, hv4⟩ := hu hu1
                    refine lv_iload hx hb dd_MO_find_58 (lv_at hl 5 rfl) ?_
                    refine lv_aload_n hx hb dd_MO_find_60 rfl (lv_at hl 0 rfl) ?_
                    refine hm_get (ci := 6) (C := rn_MO) (T := ft_MO) (N := 22) hx hb hts fi_MO hown hE.K hP p0 rfl 2 (by decide) (hts _ tw_988) (fun _ h9 => h9) rfl dd_MO_find_61 ?_
                    refine W.eq (g2 := F0 m 64 ls [.int (nI t.length), .int (nI i)]) (by rw [ti1]) ?_
                    refine hn_icmp_ge (tgt := 102) hx hb (by omega) (by omega) dd_MO_find_64 (by decide) (fun c22 => ?_) (fun c22 => ?_)
                    · have hl : lv_has ls 6 [(0, .ref (P 0)), (1, .int x), (2, .int (to_I y q)), (3, .int (nI k)), (4, .int (nI 1)), (5, .int (nI i))] := by rw [hu1] at hl; exact hl
                      refine lv_iload hx hb dd_MO_find_102 (lv_at hl 4 rfl) ?_
                      refine hn_if_eq (tgt := 109) hx hb (by omega) dd_MO_find_104 (by decide) (fun c23 => absurd c23 (by omega)) (fun c23 => ?_)
                      refine lv_iload_n hx hb dd_MO_find_107 rfl (lv_at hl 3 rfl) ?_
                      exact hm_Ei (v := nI k) hx hb hr rfl hS hP (⟨Or.inl ⟨k, b, rfl, by omega, hb1, by rw [bd_is, hv1, hv2, decide_eq_true (tx_ext hv3 (fun j hj => hv4 j (by omega)))]; rfl, hno⟩, rfl⟩) hlocks (by omega) (by omega) dd_MO_find_108
                    · have hbl1 := tx_lt bt4 i
                      have hbl2 := tx_lt ti4 i
                      refine lv_aload_n hx hb dd_MO_find_67 rfl (lv_at hl 0 rfl) ?_
                      refine hm_get (ci := 6) (C := rn_MO) (T := ft_MO) (N := 22) hx hb hts fi_MO hown hE.K hP p0 rfl 10 (by decide) (hts _ tw_996) (fun _ h9 => h9) rfl dd_MO_find_68 ?_
                      refine lv_bipush (v := nI 48) hx hb dd_MO_find_71 (by decide +kernel) ?_
                      refine lv_iload_n hx hb dd_MO_find_73 rfl (lv_at hl 3 rfl) ?_
                      refine hn_imul hx hb dd_MO_find_74 ?_
                      refine lv_iload hx hb dd_MO_find_75 (lv_at hl 5 rfl) ?_
                      refine hn_iadd hx hb dd_MO_find_77 ?_
                      refine hm_iald (j := (48 * k) + i) hx hb hE.K hP 2 p10 rfl (vp_in_nI (by omega) (by omega)) (nI_clamp (by omega)) dd_MO_find_78 ?_
                      refine W.eq (g2 := F0 m 79 ls [.int (nI (b.2.2.2.getD i 0))]) (by rw [show A 10 ((48 * k) + i) = _ from bt2 i (by omega)]) ?_
                      refine lv_aload_n hx hb dd_MO_find_79 rfl (lv_at hl 0 rfl) ?_
                      refine hm_get (ci := 6) (C := rn_MO) (T := ft_MO) (N := 22) hx hb hts fi_MO hown hE.K hP p0 rfl 1 (by decide) (hts _ tw_987) (fun _ h9 => h9) rfl dd_MO_find_80 ?_
                      refine lv_iload hx hb dd_MO_find_83 (lv_at hl 5 rfl) ?_
                      refine hm_iald (j := i) hx hb hE.K hP 2 p1 rfl (vp_in_nI (by omega) (by omega)) (nI_clamp (by omega)) dd_MO_find_85 ?_
                      refine W.eq (g2 := F0 m 86 ls [.int (nI (t.getD i 0)), .int (nI (b.2.2.2.getD i 0))]) (by rw [ti2 i (by omega)]) ?_
                      refine hn_icmp_ne (tgt := 93) hx hb (by omega) (by omega) dd_MO_find_86 (by decide) (fun c24 => ?_) (fun c24 => ?_)
                      · have he := c24
                        refine lv_iconst (v := nI 0) hx hb dd_MO_find_93 (by decide +kernel) ?_
                        refine lv_istore (lv' := [(4, .int (nI 0)), (0, .ref (P 0)), (1, .int x), (2, .int (to_I y q)), (3, .int (nI k)), (5, .int (nI i))]) hx hb dd_MO_find_94 hl (by decide) rfl (fun ls hl => ?_)
                        refine lv_iinc (v := nI (i + 1)) (lv' := [(5, .int (nI (i + 1))), (4, .int (nI 0)), (0, .ref (P 0)), (1, .int x), (2, .int (to_I y q)), (3, .int (nI k))]) hx hb dd_MO_find_96 hl (k := 5) rfl (nI_1 i) (by decide) rfl (fun ls hl => ?_)
                        refine lv_goto (tgt := 53) hx hb dd_MO_find_99 (by decide) ?_
                        exact ih53 (i + 1) false (by omega) (fun h9 => by cases h9) (fun _ => by rw [bd_is, decide_eq_false (fun h9 => he (by rw [h9])), Bool.and_false, Bool.and_false]) (by omega) _ _ _ hP hS (lv_sub hl [2, 3, 4, 5, 1, 0] rfl)
                      · have he := c24
                        refine lv_iconst (v := nI 1) hx hb dd_MO_find_89 (by decide +kernel) ?_
                        refine lv_goto (tgt := 94) hx hb dd_MO_find_90 (by decide) ?_
                        refine lv_istore (lv' := [(4, .int (nI 1)), (0, .ref (P 0)), (1, .int x), (2, .int (to_I y q)), (3, .int (nI k)), (5, .int (nI i))]) hx hb dd_MO_find_94 hl (by decide) rfl (fun ls hl => ?_)
                        refine lv_iinc (v := nI (i + 1)) (lv' := [(5, .int (nI (i + 1))), (4, .int (nI 1)), (0, .ref (P 0)), (1, .int x), (2, .int (to_I y q)), (3, .int (nI k))]) hx hb dd_MO_find_96 hl (k := 5) rfl (nI_1 i) (by decide) rfl (fun ls hl => ?_)
                        refine lv_goto (tgt := 53) hx hb dd_MO_find_99 (by decide) ?_
                        exact ih53 (i + 1) true (by omega) (fun _ => ⟨hv1, hv2, hv3, fun j hj => by
                            by_cases h9 : j = i
                            · subst h9; exact he
                            · exact hv4 j (by omega)⟩) (fun h9 => by cases h9) (by omega) _ _ _ hP hS (lv_sub hl [2, 3, 4, 5, 1, 0] rfl)
              exact lp53 _ 0 true (Nat.zero_le _) (fun _ => ⟨hc1, hc2, by omega, fun j hj => absurd hj (Nat.not_lt_zero _)⟩) (fun h9 => by cases h9) (Nat.lt_succ_self _) _ _ _ hP hS (lv_sub hl [2, 3, 4, 5, 1, 0] rfl)
  exact lp2 _ 0 (Nat.zero_le _) (fun j hj => absurd hj (Nat.not_lt_zero _)) (Nat.lt_succ_self _) _ _ _ hP hS (lv_sub hl [1, 2, 3, 0] rfl)
theorem bdS.n {n : Int32} {f g z x : Nat → Int32} {bs : List bd_T} (h : bdS n f g z x bs) : bdS n f g z x bs := h
theorem th_false {ex : Nat → Option (Int32 × Int32)} {qs : Nat → Bool} {x : Int32} {q : Bool} (h : nI (bz (th_at ex qs x q)) = nI 0) : th_at ex qs x q = false := by
  cases h9 : th_at ex qs x q
  · rfl
  · rw [h9] at h; exact absurd h (by decide)
set_option maxHeartbeats 4000000 in
set_option maxRecDepth 100000 in
theorem kc_MO_unbind (l : Launch) (B : Nat) (D : va_G) (G : Nat → Nat) (M : hm_M) (P O : Nat → Nat) (I : Nat → Int32) (A : Nat → Nat → Int32) (L : Nat → Nat → Int64) (hD : mo_D B D P O M I A L) (t : List Nat) (ex : Nat → Option (Int32 × Int32)) (qs : Nat → Bool) (bs : List bd_T) (key : List Nat) (hs : List (List Nat × List Nat)) (fo ps : Nat → Bool) (hZ : mo_S I A L t ex qs bs key hs fo ps) (hW : ∀ d ∈ bs, th_at ex qs d.2.1 d.2.2.1 = true ∧ (ex_at ex d.1).isSome = true) (x y : Int32) (q : Bool) : Met l yy_MO_unbind ws_MO_unbind ({ frames := 2, cells := 0, slots := 0, locals := 43 }) (hm_Pc B D G M [.ref (P 0), .int x, .int y, .int (nI (bz q))]) (hm_Ni B D (fun r M1 => r = nI (bz (bs.any (bd_is x y q t))) ∧ ∃ I1 A1 L1, mo_D B D P O M1 I1 A1 L1 ∧ I1 0 = nI 0 ∧ mo_S I1 A1 L1 ([]) ex qs (bs.eraseP (bd_is x y q t)) key hs fo ps ∧ cz_F O M O M1 pm)) (0) (0) (hm_A B) := by
  refine Met.ofW (cc := cd_MO_unbind) (maxL := 5) (ret := ((some FieldType.boolean))) (by decide) rfl ?_
  intro p e s m args below meth c s₁ B0 hml hv
  obtain ⟨rfl, hE, hP⟩ := hv
  have hx := B0.exec
  have hb := B0.bytes
  have hr := B0.returns
  have hts : ∀ w ∈ tb_G, w.before _ s = true := fun w h => atoms_spec (ws := ws_MO_unbind) B0.pre w (List.mem_cons_of_mem _ h)
  have hown : s.vm.findClass "RouteDeskModel" = some m.cls := findClass_of_methodNamed B0.named
  have hlocks := B0.notSynchronized
  have hRf : (headSpec ws_MO_unbind { frames := 2, cells := 0, slots := 0, locals := 43 }).room.frames = 2 := rfl
  have hRl : (headSpec ws_MO_unbind { frames := 2, cells := 0, slots := 0, locals := 43 }).room.locals = 43 := rfl
  have hRc : (headSpec ws_MO_unbind { frames := 2, cells := 0, slots := 0, locals := 43 }).room.cells = 0 := rfl
  have hRs : (headSpec ws_MO_unbind { frames := 2, cells := 0, slots := 0, locals := 43 }).room.slots = 0 := rfl
  generalize (headSpec ws_MO_unbind { frames := 2, cells := 0, slots := 0, locals := 43 }).room = R at hRf hRl hRc hRs ⊢
  have hS : va_S (hm_A B) s.heap s.heap [] := va_S.rf
  have hl := lv_entry ([.ref (P 0), .int x, .int y, .int (nI (bz q))]) (n := 5) (Nat.le_of_ble_eq_true rfl)
  rw [lg_entry_eq]
  generalize (lg_sl ([.ref (P 0), .int x, .int y, .int (nI (bz q))]) ++ List.replicate (5 - (lg_sl ([.ref (P 0), .int x, .int y, .int (nI (bz q))])).length) Slot.unset).toArray = ls at hl ⊢
  have hl : lv_has ls 5 [(0, .ref (P 0)), (1, .int x), (2, .int y), (3, .int (nI (bz q)))] := hl
  have t16 : (nI 16).toInt = 16 := by decide
  have tm1 : (-1 : Int32).toInt = -1 := by decide
  have t0 : (nI 0).toInt = 0 := by decide
  have t2 : (nI 2).toInt = 2 := by decide
  have t3 : (nI 3).toInt = 3 := by decide
  have t1 : (nI 1).toInt = 1 := by decide
  have t4 : (nI 4).toInt = 4 := by decide
  obtain ⟨p0, p1, p3, p4, p5, p7, p8, p9, p10, p11, p14, p15, p16, p17, p19, p20, p21, po, pb⟩ := id hD
  obtain ⟨hT, hX, hQ, hB, hK, hH, hFo, hPs⟩ := id hZ
  obtain ⟨ti1, ti2, ti3, ti4⟩ := id hT
  obtain ⟨bi1, bi2, bi3⟩ := id hB
  obtain ⟨ki1, ki2, ki3, ki4⟩ := id hK
  obtain ⟨hi1, hi2, hi3⟩ := id hH
  refine lv_aload_n hx hb dd_MO_unbind_0 rfl (lv_at hl 0 rfl) ?_
  refine lv_iconst (v := nI 0) hx hb dd_MO_unbind_1 (by decide +kernel) ?_
  refine hm_put (ci := 6) (v := .int (nI 0)) (ty := .int) (C := rn_MO) (T := ft_MO) (N := 22) hx hb hts fi_MO fy_MO fo_MO fn_MO hown hE.K hP hS (pb 0 (by decide)) p0 rfl 0 (by decide) (hts _ tw_986) (fun _ h9 => h9) rfl (by decide +kernel) rfl rfl (Nat.le_of_ble_eq_true rfl) dd_MO_unbind_2 (fun H locs hP hS => ?_)
  have hP : hm_P D cl_W (hm_up M (P 0) (.inr (6, [.int (nI 0), .ref (P 1), .int (I 2), .ref (P 3), .ref (P 4), .ref (P 5), .int (I 6), .ref (P 7), .ref (P 8), .ref (P 9), .ref (P 10), .ref (P 11), .int (I 12), .int (I 13), .ref (P 14), .ref (P 15), .ref (P 16), .ref (P 17), .int (I 18), .ref (P 19), .ref (P 20), .ref (P 21)]))) H := hP
  obtain ⟨M1, eM1⟩ : ∃ z, z = hm_up M (P 0) (.inr (6, [.int (nI 0), .ref (P 1), .int (I 2), .ref (P 3), .ref (P 4), .ref (P 5), .int (I 6), .ref (P 7), .ref (P 8), .ref (P 9), .ref (P 10), .ref (P 11), .int (I 12), .int (I 13), .ref (P 14), .ref (P 15), .ref (P 16), .ref (P 17), .int (I 18), .ref (P 19), .ref (P 20), .ref (P 21)])) := ⟨_, rfl⟩
  rw [← eM1] at hP
  have f2 : M1 (P 1) = some (.inl (D.1 102, 48, .inl (A 1))) := by rw [eM1]; exact hm_up_o (hm_neO (po 1 (by decide)) (po 0 (by decide)) (by decide)) p1
  have f3 : M1 (P 3) = some (.inl (D.1 102, 16, .inl (A 3))) := by rw [eM1]; exact hm_up_o (hm_neO (po 3 (by decide)) (po 0 (by decide)) (by decide)) p3
  have f4 : M1 (P 4) = some (.inl (D.1 102, 16, .inl (A 4))) := by rw [eM1]; exact hm_up_o (hm_neO (po 4 (by decide)) (po 0 (by decide)) (by decide)) p4
  have f5 : M1 (P 5) = some (.inl (D.1 101, 16, .inl (A 5))) := by rw [eM1]; exact hm_up_o (hm_neO (po 5 (by decide)) (po 0 (by decide)) (by decide)) p5
  have f6 : M1 (P 7) = some (.inl (D.1 102, 120, .inl (A 7))) := by rw [eM1]; exact hm_up_o (hm_neO (po 7 (by decide)) (po 0 (by decide)) (by decide)) p7
  have f7 : M1 (P 8) = some (.inl (D.1 102, 120, .inl (A 8))) := by rw [eM1]; exact hm_up_o (hm_neO (po 8 (by decide)) (po 0 (by decide)) (by decide)) p8
  have f8 : M1 (P 9) = some (.inl (D.1 102, 120, .inl (A 9))) := by rw [eM1]; exact hm_up_o (hm_neO (po 9 (by decide)) (po 0 (by decide)) (by decide)) p9
  have f9 : M1 (P 10) = some (.inl (D.1 102, 5760, .inl (A 10))) := by rw [eM1]; exact hm_up_o (hm_neO (po 10 (by decide)) (po 0 (by decide)) (by decide)) p10
  have f10 : M1 (P 11) = some (.inl (D.1 102, 48, .inl (A 11))) := by rw [eM1]; exact hm_up_o (hm_neO (po 11 (by decide)) (po 0 (by decide)) (by decide)) p11
  have f11 : M1 (P 14) = some (.inl (D.1 103, 6, .inr (.inl (L 14)))) := by rw [eM1]; exact hm_up_o (hm_neO (po 14 (by decide)) (po 0 (by decide)) (by decide)) p14
  have f12 : M1 (P 15) = some (.inl (D.1 103, 6, .inr (.inl (L 15)))) := by rw [eM1]; exact hm_up_o (hm_neO (po 15 (by decide)) (po 0 (by decide)) (by decide)) p15
  have f13 : M1 (P 16) = some (.inl (D.1 101, 16, .inl (A 16))) := by rw [eM1]; exact hm_up_o (hm_neO (po 16 (by decide)) (po 0 (by decide)) (by decide)) p16
  have f14 : M1 (P 17) = some (.inl (D.1 101, 16, .inl (A 17))) := by rw [eM1]; exact hm_up_o (hm_neO (po 17 (by decide)) (po 0 (by decide)) (by decide)) p17
  have f15 : M1 (P 19) = some (.inl (D.1 101, 2601, .inl (A 19))) := by rw [eM1]; exact hm_up_o (hm_neO (po 19 (by decide)) (po 0 (by decide)) (by decide)) p19
  have f16 : M1 (P 20) = some (.inl (D.1 102, 52, .inl (A 20))) := by rw [eM1]; exact hm_up_o (hm_neO (po 20 (by decide)) (po 0 (by decide)) (by decide)) p20
  have f17 : M1 (P 21) = some (.inl (D.1 102, 52, .inl (A 21))) := by rw [eM1]; exact hm_up_o (hm_neO (po 21 (by decide)) (po 0 (by decide)) (by decide)) p21
  have f18 : M1 (P 0) = some (.inr (6, [.int (nI 0), .ref (P 1), .int (I 2), .ref (P 3), .ref (P 4), .ref (P 5), .int (I 6), .ref (P 7), .ref (P 8), .ref (P 9), .ref (P 10), .ref (P 11), .int (I 12), .int (I 13), .ref (P 14), .ref (P 15), .ref (P 16), .ref (P 17), .int (I 18), .ref (P 19), .ref (P 20), .ref (P 21)])) := by rw [eM1]; exact hm_up_s
  refine lv_aload_n hx hb dd_MO_unbind_5 rfl (lv_at hl 0 rfl) ?_
  refine lv_iload_n hx hb dd_MO_unbind_6 rfl (lv_at hl 1 rfl) ?_
  have hd19 : mo_D B D P O M1 (va_up I 0 (nI 0)) A L := ⟨f18, f2, f3, f4, f5, f6, f7, f8, f9, f10, f11, f12, f13, f14, f15, f16, f17, po, pb⟩
  refine hm_ci hS (hm_rV 1 (As := [.int x]) (rest := []) ⟨hx, hb, hml, hown, hts⟩ hE hS hP (kc_MO_isExchange l B D G M1 P O (va_up I 0 (nI 0)) A L hd19 x) rfl f18 tw_1078 tw_1075 tw_1077 tw_18 tw_46 (by decide +kernel) rfl rfl ⟨by show 0 + 1 ≤ R.frames; omega, by show 8 + (2 + 11) + 0 ≤ R.locals; omega⟩ rfl hl.1 rfl (Nat.le_of_ble_eq_true rfl) dd_MO_unbind_7 ⟨by omega, by omega⟩) (fun r20 M21 H locs hw22 hP hS => ?_)
  refine W.widen (k := 0) (n := 0) (by omega) (by omega) ?_
  obtain ⟨hrM21, eM21⟩ := hw22
  rw [eM21] at hP
  have hrM21 := hrM21.trans (by rw [exS_x (A := A) hX])
  obtain rfl : r20 = nI (bz (ex_at ex x).isSome) := hrM21
  refine hn_if_eq (tgt := 42) hx hb (bz_b _) dd_MO_unbind_10 (by decide) (fun c23 => ?_) (fun c23 => ?_)
  · have hxs := bz_f c23
    have hpa : bs.any (bd_is x y q t) = false := by
      rw [List.any_eq_false]
      intro d hd h9
      rw [bd_is, Bool.and_eq_true, Bool.and_eq_true] at h9
      have h8 := hW d hd
      rw [of_decide_eq_true h9.1, hxs] at h8
      exact absurd h8.2 (by decide)
    have hpe : bs.eraseP (bd_is x y q t) = bs := List.eraseP_of_forall_not (fun d hd h9 => by rw [List.any_eq_false] at hpa; exact hpa d hd h9)
    refine lv_iconst (v := (-1)) hx hb dd_MO_unbind_42 (by decide +kernel) ?_
    refine lv_istore (lv' := [(4, .int (-1)), (0, .ref (P 0)), (1, .int x), (2, .int y), (3, .int (nI (bz q)))]) hx hb dd_MO_unbind_43 hl (by decide) rfl (fun ls hl => ?_)
    refine lv_aload_n hx hb dd_MO_unbind_45 rfl (lv_at hl 1 rfl) ?_
    refine lv_iconst (v := nI 0) hx hb dd_MO_unbind_46 (by decide +kernel) ?_
    refine hm_put (ci := 6) (v := .int (nI 0)) (ty := .int) (C := rn_MO) (T := ft_MO) (N := 22) hx hb hts fi_MO fy_MO fo_MO fn_MO hown hE.K hP hS (pb 0 (by decide)) f18 rfl 2 (by decide) (hts _ tw_988) (fun _ h9 => h9) rfl (by decide +kernel) rfl rfl (Nat.le_of_ble_eq_true rfl) dd_MO_unbind_47 (fun H locs hP hS => ?_)
    have hP : hm_P D cl_W (hm_up M1 (P 0) (.inr (6, [.int (nI 0), .ref (P 1), .int (nI 0), .ref (P 3), .ref (P 4), .ref (P 5), .int (I 6), .ref (P 7), .ref (P 8), .ref (P 9), .ref (P 10), .ref (P 11), .int (I 12), .int (I 13), .ref (P 14), .ref (P 15), .ref (P 16), .ref (P 17), .int (I 18), .ref (P 19), .ref (P 20), .ref (P 21)]))) H := hP
    obtain ⟨M24, eM24⟩ : ∃ z, z = hm_up M1 (P 0) (.inr (6, [.int (nI 0), .ref (P 1), .int (nI 0), .ref (P 3), .ref (P 4), .ref (P 5), .int (I 6), .ref (P 7), .ref (P 8), .ref (P 9), .ref (P 10), .ref (P 11), .int (I 12), .int (I 13), .ref (P 14), .ref (P 15), .ref (P 16), .ref (P 17), .int (I 18), .ref (P 19), .ref (P 20), .ref (P 21)])) := ⟨_, rfl⟩
    rw [← eM24] at hP
    have f25 : M24 (P 1) = some (.inl (D.1 102, 48, .inl (A 1))) := by rw [eM24]; exact hm_up_o (hm_neO (po 1 (by decide)) (po 0 (by decide)) (by decide)) f2
    have f26 : M24 (P 3) = some (.inl (D.1 102, 16, .inl (A 3))) := by rw [eM24]; exact hm_up_o (hm_neO (po 3 (by decide)) (po 0 (by decide)) (by decide)) f3
    have f27 : M24 (P 4) = some (.inl (D.1 102, 16, .inl (A 4))) := by rw [eM24]; exact hm_up_o (hm_neO (po 4 (by decide)) (po 0 (by decide)) (by decide)) f4
    have f28 : M24 (P 5) = some (.inl (D.1 101, 16, .inl (A 5))) := by rw [eM24]; exact hm_up_o (hm_neO (po 5 (by decide)) (po 0 (by decide)) (by decide)) f5
    have f29 : M24 (P 7) = some (.inl (D.1 102, 120, .inl (A 7))) := by rw [eM24]; exact hm_up_o (hm_neO (po 7 (by decide)) (po 0 (by decide)) (by decide)) f6
    have f30 : M24 (P 8) = some (.inl (D.1 102, 120, .inl (A 8))) := by rw [eM24]; exact hm_up_o (hm_neO (po 8 (by decide)) (po 0 (by decide)) (by decide)) f7
    have f31 : M24 (P 9) = some (.inl (D.1 102, 120, .inl (A 9))) := by rw [eM24]; exact hm_up_o (hm_neO (po 9 (by decide)) (po 0 (by decide)) (by decide)) f8
    have f32 : M24 (P 10) = some (.inl (D.1 102, 5760, .inl (A 10))) := by rw [eM24]; exact hm_up_o (hm_neO (po 10 (by decide)) (po 0 (by decide)) (by decide)) f9
    have f33 : M24 (P 11) = some (.inl (D.1 102, 48, .inl (A 11))) := by rw [eM24]; exact hm_up_o (hm_neO (po 11 (by decide)) (po 0 (by decide)) (by decide)) f10
    have f34 : M24 (P 14) = some (.inl (D.1 103, 6, .inr (.inl (L 14)))) := by rw [eM24]; exact hm_up_o (hm_neO (po 14 (by decide)) (po 0 (by decide)) (by decide)) f11
    have f35 : M24 (P 15) = some (.inl (D.1 103, 6, .inr (.inl (L 15)))) := by rw [eM24]; exact hm_up_o (hm_neO (po 15 (by decide)) (po 0 (by decide)) (by decide)) f12
    have f36 : M24 (P 16) = some (.inl (D.1 101, 16, .inl (A 16))) := by rw [eM24]; exact hm_up_o (hm_neO (po 16 (by decide)) (po 0 (by decide)) (by decide)) f13
    have f37 : M24 (P 17) = some (.inl (D.1 101, 16, .inl (A 17))) := by rw [eM24]; exact hm_up_o (hm_neO (po 17 (by decide)) (po 0 (by decide)) (by decide)) f14
    have f38 : M24 (P 19) = some (.inl (D.1 101, 2601, .inl (A 19))) := by rw [eM24]; exact hm_up_o (hm_neO (po 19 (by decide)) (po 0 (by decide)) (by decide)) f15
    have f39 : M24 (P 20) = some (.inl (D.1 102, 52, .inl (A 20))) := by rw [eM24]; exact hm_up_o (hm_neO (po 20 (by decide)) (po 0 (by decide)) (by decide)) f16
    have f40 : M24 (P 21) = some (.inl (D.1 102, 52, .inl (A 21))) := by rw [eM24]; exact hm_up_o (hm_neO (po 21 (by decide)) (po 0 (by decide)) (by decide)) f17
    have f41 : M24 (P 0) = some (.inr (6, [.int (nI 0), .ref (P 1), .int (nI 0), .ref (P 3), .ref (P 4), .ref (P 5), .int (I 6), .ref (P 7), .ref (P 8), .ref (P 9), .ref (P 10), .ref (P 11), .int (I 12), .int (I 13), .ref (P 14), .ref (P 15), .ref (P 16), .ref (P 17), .int (I 18), .ref (P 19), .ref (P 20), .ref (P 21)])) := by rw [eM24]; exact hm_up_s
    refine lv_iload hx hb dd_MO_unbind_50 (lv_at hl 0 rfl) ?_
    refine lv_iconst (v := (-1)) hx hb dd_MO_unbind_52 (by decide +kernel) ?_
    refine hi_icmp_ne (tgt := 58) hx hb dd_MO_unbind_53 (by decide) (fun c42 => absurd c42 (by decide)) (fun c42 => ?_)
    have c53 := c42
    refine lv_iconst (v := nI 0) hx hb dd_MO_unbind_56 (by decide +kernel) ?_
    have kk43 : hm_k M M [(P 0)] := hm_krf
    have kk44 : hm_k M M1 [(P 0)] := hm_ku kk43 (Or.inr (by simp)) eM1
    have kk45 : hm_k M M24 [(P 0)] := hm_ku kk44 (Or.inr (by simp)) eM24
    exact hm_Ei (v := nI 0) hx hb hr rfl hS hP (⟨bz_0 hpa, (va_up (va_up I 0 (nI 0)) 2 (nI 0)), A, L, ⟨f41, f25, f26, f27, f28, f29, f30, f31, f32, f33, f34, f35, f36, f37, f38, f39, f40, po, pb⟩, rfl, ⟨tpS_0, hX, hQ, by rw [hpe]; exact hB, hK, hH, hFo, hPs⟩, cz_F.k0 kk45 (hm_a1 ⟨by rw [po 0 (by decide)]; unfold pm; omega, _, f41⟩)⟩) hlocks (by omega) (by omega) dd_MO_unbind_57
  · have hxs := bz_t c23
    refine lv_aload_n hx hb dd_MO_unbind_13 rfl (lv_at hl 0 rfl) ?_
    refine lv_iload_n hx hb dd_MO_unbind_14 rfl (lv_at hl 2 rfl) ?_
    refine lv_iload_n hx hb dd_MO_unbind_15 rfl (lv_at hl 3 rfl) ?_
    have hd46 : mo_D B D P O M1 (va_up I 0 (nI 0)) A L := ⟨f18, f2, f3, f4, f5, f6, f7, f8, f9, f10, f11, f12, f13, f14, f15, f16, f17, po, pb⟩
    refine hm_ci hS (hm_rV 2 (As := [.int y, .int (nI (bz q))]) (rest := []) ⟨hx, hb, hml, hown, hts⟩ hE hS hP (kc_MO_isGoal l B D G M1 P O (va_up I 0 (nI 0)) A L hd46 qs hQ y q) rfl f18 tw_1102 tw_1099 tw_1101 tw_21 tw_46 (by decide +kernel) rfl rfl ⟨by show 1 + 1 ≤ R.frames; omega, by show 8 + (3 + 11) + 21 ≤ R.locals; omega⟩ rfl hl.1 rfl (Nat.le_of_ble_eq_true rfl) dd_MO_unbind_16 ⟨by omega, by omega⟩) (fun r47 M48 H locs hw49 hP hS => ?_)
    refine W.widen (k := 0) (n := 0) (by omega) (by omega) ?_
    obtain ⟨hrM48, eM48⟩ := hw49
    rw [eM48] at hP
    have hrM48 := hrM48.trans ((by rw [th_at, exS_b (A := A) hX] : nI (bz (if q = true then qu_at qs y else me_x A y)) = nI (bz (th_at ex qs y q))))
    obtain rfl : r47 = nI (bz (th_at ex qs y q)) := hrM48
    refine hn_if_eq (tgt := 42) hx hb (bz_b _) dd_MO_unbind_19 (by decide) (fun c50 => ?_) (fun c50 => ?_)
    · have hys := bz_f c50
      have hpa : bs.any (bd_is x y q t) = false := by
        rw [List.any_eq_false]
        intro d hd h9
        rw [bd_is, Bool.and_eq_true, Bool.and_eq_true] at h9
        have h8 := hW d hd
        have h7 := Bool.and_eq_true_iff.mp h9.2.1
        rw [of_decide_eq_true h7.1, eq_of_beq h7.2, hys] at h8
        exact absurd h8.1 (by decide)
      have hpe : bs.eraseP (bd_is x y q t) = bs := List.eraseP_of_forall_not (fun d hd h9 => by rw [List.any_eq_false] at hpa; exact hpa d hd h9)
      refine lv_iconst (v := (-1)) hx hb dd_MO_unbind_42 (by decide +kernel) ?_
      refine lv_istore (lv' := [(4, .int (-1)), (0, .ref (P 0)), (1, .int x), (2, .int y), (3, .int (nI (bz q)))]) hx hb dd_MO_unbind_43 hl (by decide) rfl (fun ls hl => ?_)
      refine lv_aload_n hx hb dd_MO_unbind_45 rfl (lv_at hl 1 rfl) ?_
      refine lv_iconst (v := nI 0) hx hb dd_MO_unbind_46 (by decide +kernel) ?_
      refine hm_put (ci := 6) (v := .int (nI 0)) (ty := .int) (C := rn_MO) (T := ft_MO) (N := 22) hx hb hts fi_MO fy_MO fo_MO fn_MO hown hE.K hP hS (pb 0 (by decide)) f18 rfl 2 (by decide) (hts _ tw_988) (fun _ h9 => h9) rfl (by decide +kernel) rfl rfl (Nat.le_of_ble_eq_true rfl) dd_MO_unbind_47 (fun H locs hP hS => ?_)
      have hP : hm_P D cl_W (hm_up M1 (P 0) (.inr (6, [.int (nI 0), .ref (P 1), .int (nI 0), .ref (P 3), .ref (P 4), .ref (P 5), .int (I 6), .ref (P 7), .ref (P 8), .ref (P 9), .ref (P 10), .ref (P 11), .int (I 12), .int (I 13), .ref (P 14), .ref (P 15), .ref (P 16), .ref (P 17), .int (I 18), .ref (P 19), .ref (P 20), .ref (P 21)]))) H := hP
      obtain ⟨M51, eM51⟩ : ∃ z, z = hm_up M1 (P 0) (.inr (6, [.int (nI 0), .ref (P 1), .int (nI 0), .ref (P 3), .ref (P 4), .ref (P 5), .int (I 6), .ref (P 7), .ref (P 8), .ref (P 9), .ref (P 10), .ref (P 11), .int (I 12), .int (I 13), .ref (P 14), .ref (P 15), .ref (P 16), .ref (P 17), .int (I 18), .ref (P 19), .ref (P 20), .ref (P 21)])) := ⟨_, rfl⟩
      rw [← eM51] at hP
      have f52 : M51 (P 1) = some (.inl (D.1 102, 48, .inl (A 1))) := by rw [eM51]; exact hm_up_o (hm_neO (po 1 (by decide)) (po 0 (by decide)) (by decide)) f2
      have f53 : M51 (P 3) = some (.inl (D.1 102, 16, .inl (A 3))) := by rw [eM51]; exact hm_up_o (hm_neO (po 3 (by decide)) (po 0 (by decide)) (by decide)) f3
      have f54 : M51 (P 4) = some (.inl (D.1 102, 16, .inl (A 4))) := by rw [eM51]; exact hm_up_o (hm_neO (po 4 (by decide)) (po 0 (by decide)) (by decide)) f4
      have f55 : M51 (P 5) = some (.inl (D.1 101, 16, .inl (A 5))) := by rw [eM51]; exact hm_up_o (hm_neO (po 5 (by decide)) (po 0 (by decide)) (by decide)) f5
      have f56 : M51 (P 7) = some (.inl (D.1 102, 120, .inl (A 7))) := by rw [eM51]; exact hm_up_o (hm_neO (po 7 (by decide)) (po 0 (by decide)) (by decide)) f6
      have f57 : M51 (P 8) = some (.inl (D.1 102, 120, .inl (A 8))) := by rw [eM51]; exact hm_up_o (hm_neO (po 8 (by decide)) (po 0 (by decide)) (by decide)) f7
      have f58 : M51 (P 9) = some (.inl (D.1 102, 120, .inl (A 9))) := by rw [eM51]; exact hm_up_o (hm_neO (po 9 (by decide)) (po 0 (by decide)) (by decide)) f8
      have f59 : M51 (P 10) = some (.inl (D.1 102, 5760, .inl (A 10))) := by rw [eM51]; exact hm_up_o (hm_neO (po 10 (by decide)) (po 0 (by decide)) (by decide)) f9
      have f60 : M51 (P 11) = some (.inl (D.1 102, 48, .inl (A 11))) := by rw [eM51]; exact hm_up_o (hm_neO (po 11 (by decide)) (po 0 (by decide)) (by decide)) f10
      have f61 : M51 (P 14) = some (.inl (D.1 103, 6, .inr (.inl (L 14)))) := by rw [eM51]; exact hm_up_o (hm_neO (po 14 (by decide)) (po 0 (by decide)) (by decide)) f11
      have f62 : M51 (P 15) = some (.inl (D.1 103, 6, .inr (.inl (L 15)))) := by rw [eM51]; exact hm_up_o (hm_neO (po 15 (by decide)) (po 0 (by decide)) (by decide)) f12
      have f63 : M51 (P 16) = some (.inl (D.1 101, 16, .inl (A 16))) := by rw [eM51]; exact hm_up_o (hm_neO (po 16 (by decide)) (po 0 (by decide)) (by decide)) f13
      have f64 : M51 (P 17) = some (.inl (D.1 101, 16, .inl (A 17))) := by rw [eM51]; exact hm_up_o (hm_neO (po 17 (by decide)) (po 0 (by decide)) (by decide)) f14
      have f65 : M51 (P 19) = some (.inl (D.1 101, 2601, .inl (A 19))) := by rw [eM51]; exact hm_up_o (hm_neO (po 19 (by decide)) (po 0 (by decide)) (by decide)) f15
      have f66 : M51 (P 20) = some (.inl (D.1 102, 52, .inl (A 20))) := by rw [eM51]; exact hm_up_o (hm_neO (po 20 (by decide)) (po 0 (by decide)) (by decide)) f16
      have f67 : M51 (P 21) = some (.inl (D.1 102, 52, .inl (A 21))) := by rw [eM51]; exact hm_up_o (hm_neO (po 21 (by decide)) (po 0 (by decide)) (by decide)) f17
      have f68 : M51 (P 0) = some (.inr (6, [.int (nI 0), .ref (P 1), .int (nI 0), .ref (P 3), .ref (P 4), .ref (P 5), .int (I 6), .ref (P 7), .ref (P 8), .ref (P 9), .ref (P 10), .ref (P 11), .int (I 12), .int (I 13), .ref (P 14), .ref (P 15), .ref (P 16), .ref (P 17), .int (I 18), .ref (P 19), .ref (P 20), .ref (P 21)])) := by rw [eM51]; exact hm_up_s
      refine lv_iload hx hb dd_MO_unbind_50 (lv_at hl 0 rfl) ?_
      refine lv_iconst (v := (-1)) hx hb dd_MO_unbind_52 (by decide +kernel) ?_
      refine hi_icmp_ne (tgt := 58) hx hb dd_MO_unbind_53 (by decide) (fun c69 => absurd c69 (by decide)) (fun c69 => ?_)
      have c53 := c69
      refine lv_iconst (v := nI 0) hx hb dd_MO_unbind_56 (by decide +kernel) ?_
      have kk70 : hm_k M M [(P 0)] := hm_krf
      have kk71 : hm_k M M1 [(P 0)] := hm_ku kk70 (Or.inr (by simp)) eM1
      have kk72 : hm_k M M51 [(P 0)] := hm_ku kk71 (Or.inr (by simp)) eM51
      exact hm_Ei (v := nI 0) hx hb hr rfl hS hP (⟨bz_0 hpa, (va_up (va_up I 0 (nI 0)) 2 (nI 0)), A, L, ⟨f68, f52, f53, f54, f55, f56, f57, f58, f59, f60, f61, f62, f63, f64, f65, f66, f67, po, pb⟩, rfl, ⟨tpS_0, hX, hQ, by rw [hpe]; exact hB, hK, hH, hFo, hPs⟩, cz_F.k0 kk72 (hm_a1 ⟨by rw [po 0 (by decide)]; unfold pm; omega, _, f68⟩)⟩) hlocks (by omega) (by omega) dd_MO_unbind_57
    · have hys := bz_t c50
      have hiny := th_in hys
      refine lv_aload_n hx hb dd_MO_unbind_22 rfl (lv_at hl 0 rfl) ?_
      refine lv_iload_n hx hb dd_MO_unbind_23 rfl (lv_at hl 1 rfl) ?_
      refine lv_iload_n hx hb dd_MO_unbind_24 rfl (lv_at hl 3 rfl) ?_
      refine hn_if_eq (tgt := 35) hx hb (bz_b _) dd_MO_unbind_25 (by decide) (fun c73 => ?_) (fun c73 => ?_)
      · have hq := bz_f c73
        refine lv_iload_n hx hb dd_MO_unbind_35 rfl (lv_at hl 2 rfl) ?_
        refine W.eq (g2 := F0 m 36 ls [.int (to_I y q), .int x, .ref (P 0)]) (by rw [show to_I y q = y by rw [hq]; rfl]) ?_
        have hd74 : mo_D B D P O M1 (va_up I 0 (nI 0)) A L := ⟨f18, f2, f3, f4, f5, f6, f7, f8, f9, f10, f11, f12, f13, f14, f15, f16, f17, po, pb⟩
        refine hm_ci hS (hm_rV 2 (As := [.int x, .int (to_I y q)]) (rest := []) ⟨hx, hb, hml, hown, hts⟩ hE hS hP (kc_MO_find l B D G M1 P O (va_up I 0 (nI 0)) A L hd74 t hT bs hB x y q hiny) rfl f18 tw_1133 tw_1130 tw_1132 tw_27 tw_46 (by decide +kernel) rfl rfl ⟨by show 0 + 1 ≤ R.frames; omega, by show 8 + (6 + 11) + 0 ≤ R.locals; omega⟩ rfl hl.1 rfl (Nat.le_of_ble_eq_true rfl) dd_MO_unbind_36 ⟨by omega, by omega⟩) (fun r75 M76 H locs hw77 hP hS => ?_)
        refine W.widen (k := 0) (n := 0) (by omega) (by omega) ?_
        obtain ⟨hrM76, eM76⟩ := hw77
        rw [eM76] at hP
        rcases pl_er hrM76 with ⟨rfl, hpa, hpe⟩ | ⟨i9, rfl, hpi, hpi2, hpa, hpe⟩
        · refine lv_goto (tgt := 43) hx hb dd_MO_unbind_39 (by decide) ?_
          refine lv_istore (lv' := [(4, .int (-1)), (0, .ref (P 0)), (1, .int x), (2, .int y), (3, .int (nI (bz q)))]) hx hb dd_MO_unbind_43 hl (by decide) rfl (fun ls hl => ?_)
          refine lv_aload_n hx hb dd_MO_unbind_45 rfl (lv_at hl 1 rfl) ?_
          refine lv_iconst (v := nI 0) hx hb dd_MO_unbind_46 (by decide +kernel) ?_
          refine hm_put (ci := 6) (v := .int (nI 0)) (ty := .int) (C := rn_MO) (T := ft_MO) (N := 22) hx hb hts fi_MO fy_MO fo_MO fn_MO hown hE.K hP hS (pb 0 (by decide)) f18 rfl 2 (by decide) (hts _ tw_988) (fun _ h9 => h9) rfl (by decide +kernel) rfl rfl (Nat.le_of_ble_eq_true rfl) dd_MO_unbind_47 (fun H locs hP hS => ?_)
          have hP : hm_P D cl_W (hm_up M1 (P 0) (.inr (6, [.int (nI 0), .ref (P 1), .int (nI 0), .ref (P 3), .ref (P 4), .ref (P 5), .int (I 6), .ref (P 7), .ref (P 8), .ref (P 9), .ref (P 10), .ref (P 11), .int (I 12), .int (I 13), .ref (P 14), .ref (P 15), .ref (P 16), .ref (P 17), .int (I 18), .ref (P 19), .ref (P 20), .ref (P 21)]))) H := hP
          obtain ⟨M78, eM78⟩ : ∃ z, z = hm_up M1 (P 0) (.inr (6, [.int (nI 0), .ref (P 1), .int (nI 0), .ref (P 3), .ref (P 4), .ref (P 5), .int (I 6), .ref (P 7), .ref (P 8), .ref (P 9), .ref (P 10), .ref (P 11), .int (I 12), .int (I 13), .ref (P 14), .ref (P 15), .ref (P 16), .ref (P 17), .int (I 18), .ref (P 19), .ref (P 20), .ref (P 21)])) := ⟨_, rfl⟩
          rw [← eM78] at hP
          have f79 : M78 (P 1) = some (.inl (D.1 102, 48, .inl (A 1))) := by rw [eM78]; exact hm_up_o (hm_neO (po 1 (by decide)) (po 0 (by decide)) (by decide)) f2
          have f80 : M78 (P 3) = some (.inl (D.1 102, 16, .inl (A 3))) := by rw [eM78]; exact hm_up_o (hm_neO (po 3 (by decide)) (po 0 (by decide)) (by decide)) f3
          have f81 : M78 (P 4) = some (.inl (D.1 102, 16, .inl (A 4))) := by rw [eM78]; exact hm_up_o (hm_neO (po 4 (by decide)) (po 0 (by decide)) (by decide)) f4
          have f82 : M78 (P 5) = some (.inl (D.1 101, 16, .inl (A 5))) := by rw [eM78]; exact hm_up_o (hm_neO (po 5 (by decide)) (po 0 (by decide)) (by decide)) f5
          have f83 : M78 (P 7) = some (.inl (D.1 102, 120, .inl (A 7))) := by rw [eM78]; exact hm_up_o (hm_neO (po 7 (by decide)) (po 0 (by decide)) (by decide)) f6
          have f84 : M78 (P 8) = some (.inl (D.1 102, 120, .inl (A 8))) := by rw [eM78]; exact hm_up_o (hm_neO (po 8 (by decide)) (po 0 (by decide)) (by decide)) f7
          have f85 : M78 (P 9) = some (.inl (D.1 102, 120, .inl (A 9))) := by rw [eM78]; exact hm_up_o (hm_neO (po 9 (by decide)) (po 0 (by decide)) (by decide)) f8
          have f86 : M78 (P 10) = some (.inl (D.1 102, 5760, .inl (A 10))) := by rw [eM78]; exact hm_up_o (hm_neO (po 10 (by decide)) (po 0 (by decide)) (by decide)) f9
          have f87 : M78 (P 11) = some (.inl (D.1 102, 48, .inl (A 11))) := by rw [eM78]; exact hm_up_o (hm_neO (po 11 (by decide)) (po 0 (by decide)) (by decide)) f10
          have f88 : M78 (P 14) = some (.inl (D.1 103, 6, .inr (.inl (L 14)))) := by rw [eM78]; exact hm_up_o (hm_neO (po 14 (by decide)) (po 0 (by decide)) (by decide)) f11
          have f89 : M78 (P 15) = some (.inl (D.1 103, 6, .inr (.inl (L 15)))) := by rw [eM78]; exact hm_up_o (hm_neO (po 15 (by decide)) (po 0 (by decide)) (by decide)) f12
          have f90 : M78 (P 16) = some (.inl (D.1 101, 16, .inl (A 16))) := by rw [eM78]; exact hm_up_o (hm_neO (po 16 (by decide)) (po 0 (by decide)) (by decide)) f13
          have f91 : M78 (P 17) = some (.inl (D.1 101, 16, .inl (A 17))) := by rw [eM78]; exact hm_up_o (hm_neO (po 17 (by decide)) (po 0 (by decide)) (by decide)) f14
          have f92 : M78 (P 19) = some (.inl (D.1 101, 2601, .inl (A 19))) := by rw [eM78]; exact hm_up_o (hm_neO (po 19 (by decide)) (po 0 (by decide)) (by decide)) f15
          have f93 : M78 (P 20) = some (.inl (D.1 102, 52, .inl (A 20))) := by rw [eM78]; exact hm_up_o (hm_neO (po 20 (by decide)) (po 0 (by decide)) (by decide)) f16
          have f94 : M78 (P 21) = some (.inl (D.1 102, 52, .inl (A 21))) := by rw [eM78]; exact hm_up_o (hm_neO (po 21 (by decide)) (po 0 (by decide)) (by decide)) f17
          have f95 : M78 (P 0) = some (.inr (6, [.int (nI 0), .ref (P 1), .int (nI 0), .ref (P 3), .ref (P 4), .ref (P 5), .int (I 6), .ref (P 7), .ref (P 8), .ref (P 9), .ref (P 10), .ref (P 11), .int (I 12), .int (I 13), .ref (P 14), .ref (P 15), .ref (P 16), .ref (P 17), .int (I 18), .ref (P 19), .ref (P 20), .ref (P 21)])) := by rw [eM78]; exact hm_up_s
          refine lv_iload hx hb dd_MO_unbind_50 (lv_at hl 0 rfl) ?_
          refine lv_iconst (v := (-1)) hx hb dd_MO_unbind_52 (by decide +kernel) ?_
          refine hi_icmp_ne (tgt := 58) hx hb dd_MO_unbind_53 (by decide) (fun c96 => absurd c96 (by decide)) (fun c96 => ?_)
          have c53 := c96
          refine lv_iconst (v := nI 0) hx hb dd_MO_unbind_56 (by decide +kernel) ?_
          have kk97 : hm_k M M [(P 0)] := hm_krf
          have kk98 : hm_k M M1 [(P 0)] := hm_ku kk97 (Or.inr (by simp)) eM1
          have kk99 : hm_k M M78 [(P 0)] := hm_ku kk98 (Or.inr (by simp)) eM78
          exact hm_Ei (v := nI 0) hx hb hr rfl hS hP (⟨bz_0 hpa, (va_up (va_up I 0 (nI 0)) 2 (nI 0)), A, L, ⟨f95, f79, f80, f81, f82, f83, f84, f85, f86, f87, f88, f89, f90, f91, f92, f93, f94, po, pb⟩, rfl, ⟨tpS_0, hX, hQ, by rw [hpe]; exact hB, hK, hH, hFo, hPs⟩, cz_F.k0 kk99 (hm_a1 ⟨by rw [po 0 (by decide)]; unfold pm; omega, _, f95⟩)⟩) hlocks (by omega) (by omega) dd_MO_unbind_57
        · refine lv_goto (tgt := 43) hx hb dd_MO_unbind_39 (by decide) ?_
          refine lv_istore (lv' := [(4, .int (nI i9)), (0, .ref (P 0)), (1, .int x), (2, .int y), (3, .int (nI (bz q)))]) hx hb dd_MO_unbind_43 hl (by decide) rfl (fun ls hl => ?_)
          refine lv_aload_n hx hb dd_MO_unbind_45 rfl (lv_at hl 1 rfl) ?_
          refine lv_iconst (v := nI 0) hx hb dd_MO_unbind_46 (by decide +kernel) ?_
          refine hm_put (ci := 6) (v := .int (nI 0)) (ty := .int) (C := rn_MO) (T := ft_MO) (N := 22) hx hb hts fi_MO fy_MO fo_MO fn_MO hown hE.K hP hS (pb 0 (by decide)) f18 rfl 2 (by decide) (hts _ tw_988) (fun _ h9 => h9) rfl (by decide +kernel) rfl rfl (Nat.le_of_ble_eq_true rfl) dd_MO_unbind_47 (fun H locs hP hS => ?_)
          have hP : hm_P D cl_W (hm_up M1 (P 0) (.inr (6, [.int (nI 0), .ref (P 1), .int (nI 0), .ref (P 3), .ref (P 4), .ref (P 5), .int (I 6), .ref (P 7), .ref (P 8), .ref (P 9), .ref (P 10), .ref (P 11), .int (I 12), .int (I 13), .ref (P 14), .ref (P 15), .ref (P 16), .ref (P 17), .int (I 18), .ref (P 19), .ref (P 20), .ref (P 21)]))) H := hP
          obtain ⟨M100, eM100⟩ : ∃ z, z = hm_up M1 (P 0) (.inr (6, [.int (nI 0), .ref (P 1), .int (nI 0), .ref (P 3), .ref (P 4), .ref (P 5), .int (I 6), .ref (P 7), .ref (P 8), .ref (P 9), .ref (P 10), .ref (P 11), .int (I 12), .int (I 13), .ref (P 14), .ref (P 15), .ref (P 16), .ref (P 17), .int (I 18), .ref (P 19), .ref (P 20), .ref (P 21)])) := ⟨_, rfl⟩
          rw [← eM100] at hP
          have f101 : M100 (P 1) = some (.inl (D.1 102, 48, .inl (A 1))) := by rw [eM100]; exact hm_up_o (hm_neO (po 1 (by decide)) (po 0 (by decide)) (by decide)) f2
          have f102 : M100 (P 3) = some (.inl (D.1 102, 16, .inl (A 3))) := by rw [eM100]; exact hm_up_o (hm_neO (po 3 (by decide)) (po 0 (by decide)) (by decide)) f3
          have f103 : M100 (P 4) = some (.inl (D.1 102, 16, .inl (A 4))) := by rw [eM100]; exact hm_up_o (hm_neO (po 4 (by decide)) (po 0 (by decide)) (by decide)) f4
          have f104 : M100 (P 5) = some (.inl (D.1 101, 16, .inl (A 5))) := by rw [eM100]; exact hm_up_o (hm_neO (po 5 (by decide)) (po 0 (by decide)) (by decide)) f5
          have f105 : M100 (P 7) = some (.inl (D.1 102, 120, .inl (A 7))) := by rw [eM100]; exact hm_up_o (hm_neO (po 7 (by decide)) (po 0 (by decide)) (by decide)) f6
          have f106 : M100 (P 8) = some (.inl (D.1 102, 120, .inl (A 8))) := by rw [eM100]; exact hm_up_o (hm_neO (po 8 (by decide)) (po 0 (by decide)) (by decide)) f7
          have f107 : M100 (P 9) = some (.inl (D.1 102, 120, .inl (A 9))) := by rw [eM100]; exact hm_up_o (hm_neO (po 9 (by decide)) (po 0 (by decide)) (by decide)) f8
          have f108 : M100 (P 10) = some (.inl (D.1 102, 5760, .inl (A 10))) := by rw [eM100]; exact hm_up_o (hm_neO (po 10 (by decide)) (po 0 (by decide)) (by decide)) f9
          have f109 : M100 (P 11) = some (.inl (D.1 102, 48, .inl (A 11))) := by rw [eM100]; exact hm_up_o (hm_neO (po 11 (by decide)) (po 0 (by decide)) (by decide)) f10
          have f110 : M100 (P 14) = some (.inl (D.1 103, 6, .inr (.inl (L 14)))) := by rw [eM100]; exact hm_up_o (hm_neO (po 14 (by decide)) (po 0 (by decide)) (by decide)) f11
          have f111 : M100 (P 15) = some (.inl (D.1 103, 6, .inr (.inl (L 15)))) := by rw [eM100]; exact hm_up_o (hm_neO (po 15 (by decide)) (po 0 (by decide)) (by decide)) f12
          have f112 : M100 (P 16) = some (.inl (D.1 101, 16, .inl (A 16))) := by rw [eM100]; exact hm_up_o (hm_neO (po 16 (by decide)) (po 0 (by decide)) (by decide)) f13
          have f113 : M100 (P 17) = some (.inl (D.1 101, 16, .inl (A 17))) := by rw [eM100]; exact hm_up_o (hm_neO (po 17 (by decide)) (po 0 (by decide)) (by decide)) f14
          have f114 : M100 (P 19) = some (.inl (D.1 101, 2601, .inl (A 19))) := by rw [eM100]; exact hm_up_o (hm_neO (po 19 (by decide)) (po 0 (by decide)) (by decide)) f15
          have f115 : M100 (P 20) = some (.inl (D.1 102, 52, .inl (A 20))) := by rw [eM100]; exact hm_up_o (hm_neO (po 20 (by decide)) (po 0 (by decide)) (by decide)) f16
          have f116 : M100 (P 21) = some (.inl (D.1 102, 52, .inl (A 21))) := by rw [eM100]; exact hm_up_o (hm_neO (po 21 (by decide)) (po 0 (by decide)) (by decide)) f17
          have f117 : M100 (P 0) = some (.inr (6, [.int (nI 0), .ref (P 1), .int (nI 0), .ref (P 3), .ref (P 4), .ref (P 5), .int (I 6), .ref (P 7), .ref (P 8), .ref (P 9), .ref (P 10), .ref (P 11), .int (I 12), .int (I 13), .ref (P 14), .ref (P 15), .ref (P 16), .ref (P 17), .int (I 18), .ref (P 19), .ref (P 20), .ref (P 21)])) := by rw [eM100]; exact hm_up_s
          refine lv_iload hx hb dd_MO_unbind_50 (lv_at hl 0 rfl) ?_
          refine lv_iconst (v := (-1)) hx hb dd_MO_unbind_52 (by decide +kernel) ?_
          refine hi_icmp_ne (tgt := 58) hx hb dd_MO_unbind_53 (by decide) (fun c118 => ?_) (fun c118 => ?_)
          · refine lv_aload_n hx hb dd_MO_unbind_58 rfl (lv_at hl 1 rfl) ?_
            refine lv_iload hx hb dd_MO_unbind_59 (lv_at hl 0 rfl) ?_
            have kk120 : hm_k M M [(P 0)] := hm_krf
            have kk121 : hm_k M M1 [(P 0)] := hm_ku kk120 (Or.inr (by simp)) eM1
            have kk122 : hm_k M M100 [(P 0)] := hm_ku kk121 (Or.inr (by simp)) eM100
            have hF123 : cz_F O M O M100 pm := cz_F.k0 kk122 (hm_a1 ⟨by rw [po 0 (by decide)]; unfold pm; omega, _, f117⟩)
            have hd119 : mo_D B D P O M100 (va_up (va_up I 0 (nI 0)) 2 (nI 0)) A L := ⟨f117, f101, f102, f103, f104, f105, f106, f107, f108, f109, f110, f111, f112, f113, f114, f115, f116, po, pb⟩
            refine hm_cv hS (hm_rV 1 (As := [.int (nI i9)]) (rest := []) ⟨hx, hb, hml, hown, hts⟩ hE hS hP (kc_MO_drop l B D G M100 P O (va_up (va_up I 0 (nI 0)) 2 (nI 0)) A L hd119 bs hB i9 hpi) rfl f117 tw_1094 tw_1091 tw_1093 tw_20 tw_46 (by decide +kernel) rfl rfl ⟨by show 0 + 1 ≤ R.frames; omega, by show 8 + (4 + 11) + 0 ≤ R.locals; omega⟩ rfl hl.1 rfl (Nat.le_of_ble_eq_true rfl) dd_MO_unbind_61 ⟨by omega, by omega⟩) (fun M125 H locs hw126 hP hS => ?_)
            refine W.widen (k := 0) (n := 0) (by omega) (by omega) ?_
            obtain ⟨fb, gb, zb, xb, hbn, hd127, hF128⟩ := hw126
            have hF128 := hF123.trans hF128
            obtain ⟨g129_0, g129_1, g129_3, g129_4, g129_5, g129_7, g129_8, g129_9, g129_10, g129_11, g129_14, g129_15, g129_16, g129_17, g129_19, g129_20, g129_21, -, -⟩ := id hd127
            have g129_0 : M125 (P 0) = some (.inr (6, [.int (nI 0), .ref (P 1), .int (nI 0), .ref (P 3), .ref (P 4), .ref (P 5), .int (nI (bs.length - 1)), .ref (P 7), .ref (P 8), .ref (P 9), .ref (P 10), .ref (P 11), .int (I 12), .int (I 13), .ref (P 14), .ref (P 15), .ref (P 16), .ref (P 17), .int (I 18), .ref (P 19), .ref (P 20), .ref (P 21)])) := g129_0
            have g129_1 : M125 (P 1) = some (.inl (D.1 102, 48, .inl (A 1))) := g129_1
            have g129_3 : M125 (P 3) = some (.inl (D.1 102, 16, .inl (A 3))) := g129_3
            have g129_4 : M125 (P 4) = some (.inl (D.1 102, 16, .inl (A 4))) := g129_4
            have g129_5 : M125 (P 5) = some (.inl (D.1 101, 16, .inl (A 5))) := g129_5
            have g129_7 : M125 (P 7) = some (.inl (D.1 102, 120, .inl fb)) := g129_7
            have g129_8 : M125 (P 8) = some (.inl (D.1 102, 120, .inl gb)) := g129_8
            have g129_9 : M125 (P 9) = some (.inl (D.1 102, 120, .inl zb)) := g129_9
            have g129_10 : M125 (P 10) = some (.inl (D.1 102, 5760, .inl xb)) := g129_10
            have g129_11 : M125 (P 11) = some (.inl (D.1 102, 48, .inl (A 11))) := g129_11
            have g129_16 : M125 (P 16) = some (.inl (D.1 101, 16, .inl (A 16))) := g129_16
            have g129_17 : M125 (P 17) = some (.inl (D.1 101, 16, .inl (A 17))) := g129_17
            have g129_19 : M125 (P 19) = some (.inl (D.1 101, 2601, .inl (A 19))) := g129_19
            have g129_20 : M125 (P 20) = some (.inl (D.1 102, 52, .inl (A 20))) := g129_20
            have g129_21 : M125 (P 21) = some (.inl (D.1 102, 52, .inl (A 21))) := g129_21
            refine lv_iconst (v := nI 1) hx hb dd_MO_unbind_64 (by decide +kernel) ?_
            exact hm_Ei (v := nI 1) hx hb hr rfl hS hP (⟨bz_1 hpa, (va_up (va_up (va_up I 0 (nI 0)) 2 (nI 0)) 6 (nI (bs.length - 1))), (va_up (va_up (va_up (va_up A 7 fb) 8 gb) 9 zb) 10 xb), L, ⟨g129_0, g129_1, g129_3, g129_4, g129_5, g129_7, g129_8, g129_9, g129_10, g129_11, g129_14, g129_15, g129_16, g129_17, g129_19, g129_20, g129_21, po, pb⟩, rfl, ⟨tpS_0, hX, hQ, by rw [hpe]; exact hbn.n, hK, hH, hFo, hPs⟩, hF128⟩) hlocks (by omega) (by omega) dd_MO_unbind_65
          · have c53 := c118
            refine lv_iconst (v := nI 0) hx hb dd_MO_unbind_56 (by decide +kernel) ?_
            exact hm_Ei (v := nI 0) hx hb hr rfl hS hP (absurd c53 (by rw [nI_toInt (by omega), tm1]; omega)) hlocks (by omega) (by omega) dd_MO_unbind_57
      · have hq := bz_t c73
        refine lv_bipush (v := nI 16) hx hb dd_MO_unbind_28 (by decide +kernel) ?_
        refine lv_iload_n hx hb dd_MO_unbind_30 rfl (lv_at hl 2 rfl) ?_
        refine lv_iadd hx hb dd_MO_unbind_31 ?_
        refine lv_topi (fun x130 ex130 => ?_)
        refine lv_goto (tgt := 36) hx hb dd_MO_unbind_32 (by decide) ?_
        refine W.eq (g2 := F0 m 36 ls [.int (to_I y q), .int x, .ref (P 0)]) (by rw [show to_I y q = x130 by rw [hq, ex130]; rfl]) ?_
        have hd131 : mo_D B D P O M1 (va_up I 0 (nI 0)) A L := ⟨f18, f2, f3, f4, f5, f6, f7, f8, f9, f10, f11, f12, f13, f14, f15, f16, f17, po, pb⟩
        refine hm_ci hS (hm_rV 2 (As := [.int x, .int (to_I y q)]) (rest := []) ⟨hx, hb, hml, hown, hts⟩ hE hS hP (kc_MO_find l B D G M1 P O (va_up I 0 (nI 0)) A L hd131 t hT bs hB x y q hiny) rfl f18 tw_1133 tw_1130 tw_1132 tw_27 tw_46 (by decide +kernel) rfl rfl ⟨by show 0 + 1 ≤ R.frames; omega, by show 8 + (6 + 11) + 0 ≤ R.locals; omega⟩ rfl hl.1 rfl (Nat.le_of_ble_eq_true rfl) dd_MO_unbind_36 ⟨by omega, by omega⟩) (fun r132 M133 H locs hw134 hP hS => ?_)
        refine W.widen (k := 0) (n := 0) (by omega) (by omega) ?_
        obtain ⟨hrM133, eM133⟩ := hw134
        rw [eM133] at hP
        rcases pl_er hrM133 with ⟨rfl, hpa, hpe⟩ | ⟨i9, rfl, hpi, hpi2, hpa, hpe⟩
        · refine lv_goto (tgt := 43) hx hb dd_MO_unbind_39 (by decide) ?_
          refine lv_istore (lv' := [(4, .int (-1)), (0, .ref (P 0)), (1, .int x), (2, .int y), (3, .int (nI (bz q)))]) hx hb dd_MO_unbind_43 hl (by decide) rfl (fun ls hl => ?_)
          refine lv_aload_n hx hb dd_MO_unbind_45 rfl (lv_at hl 1 rfl) ?_
          refine lv_iconst (v := nI 0) hx hb dd_MO_unbind_46 (by decide +kernel) ?_
          refine hm_put (ci := 6) (v := .int (nI 0)) (ty := .int) (C := rn_MO) (T := ft_MO) (N := 22) hx hb hts fi_MO fy_MO fo_MO fn_MO hown hE.K hP hS (pb 0 (by decide)) f18 rfl 2 (by decide) (hts _ tw_988) (fun _ h9 => h9) rfl (by decide +kernel) rfl rfl (Nat.le_of_ble_eq_true rfl) dd_MO_unbind_47 (fun H locs hP hS => ?_)
          have hP : hm_P D cl_W (hm_up M1 (P 0) (.inr (6, [.int (nI 0), .ref (P 1), .int (nI 0), .ref (P 3), .ref (P 4), .ref (P 5), .int (I 6), .ref (P 7), .ref (P 8), .ref (P 9), .ref (P 10), .ref (P 11), .int (I 12), .int (I 13), .ref (P 14), .ref (P 15), .ref (P 16), .ref (P 17), .int (I 18), .ref (P 19), .ref (P 20), .ref (P 21)]))) H := hP
          obtain ⟨M135, eM135⟩ : ∃ z, z = hm_up M1 (P 0) (.inr (6, [.int (nI 0), .ref (P 1), .int (nI 0), .ref (P 3), .ref (P 4), .ref (P 5), .int (I 6), .ref (P 7), .ref (P 8), .ref (P 9), .ref (P 10), .ref (P 11), .int (I 12), .int (I 13), .ref (P 14), .ref (P 15), .ref (P 16), .ref (P 17), .int (I 18), .ref (P 19), .ref (P 20), .ref (P 21)])) := ⟨_, rfl⟩
          rw [← eM135] at hP
          have f136 : M135 (P 1) = some (.inl (D.1 102, 48, .inl (A 1))) := by rw [eM135]; exact hm_up_o (hm_neO (po 1 (by decide)) (po 0 (by decide)) (by decide)) f2
          have f137 : M135 (P 3) = some (.inl (D.1 102, 16, .inl (A 3))) := by rw [eM135]; exact hm_up_o (hm_neO (po 3 (by decide)) (po 0 (by decide)) (by decide)) f3
          have f138 : M135 (P 4) = some (.inl (D.1 102, 16, .inl (A 4))) := by rw [eM135]; exact hm_up_o (hm_neO (po 4 (by decide)) (po 0 (by decide)) (by decide)) f4
          have f139 : M135 (P 5) = some (.inl (D.1 101, 16, .inl (A 5))) := by rw [eM135]; exact hm_up_o (hm_neO (po 5 (by decide)) (po 0 (by decide)) (by decide)) f5
          have f140 : M135 (P 7) = some (.inl (D.1 102, 120, .inl (A 7))) := by rw [eM135]; exact hm_up_o (hm_neO (po 7 (by decide)) (po 0 (by decide)) (by decide)) f6
          have f141 : M135 (P 8) = some (.inl (D.1 102, 120, .inl (A 8))) := by rw [eM135]; exact hm_up_o (hm_neO (po 8 (by decide)) (po 0 (by decide)) (by decide)) f7
          have f142 : M135 (P 9) = some (.inl (D.1 102, 120, .inl (A 9))) := by rw [eM135]; exact hm_up_o (hm_neO (po 9 (by decide)) (po 0 (by decide)) (by decide)) f8
          have f143 : M135 (P 10) = some (.inl (D.1 102, 5760, .inl (A 10))) := by rw [eM135]; exact hm_up_o (hm_neO (po 10 (by decide)) (po 0 (by decide)) (by decide)) f9
          have f144 : M135 (P 11) = some (.inl (D.1 102, 48, .inl (A 11))) := by rw [eM135]; exact hm_up_o (hm_neO (po 11 (by decide)) (po 0 (by decide)) (by decide)) f10
          have f145 : M135 (P 14) = some (.inl (D.1 103, 6, .inr (.inl (L 14)))) := by rw [eM135]; exact hm_up_o (hm_neO (po 14 (by decide)) (po 0 (by decide)) (by decide)) f11
          have f146 : M135 (P 15) = some (.inl (D.1 103, 6, .inr (.inl (L 15)))) := by rw [eM135]; exact hm_up_o (hm_neO (po 15 (by decide)) (po 0 (by decide)) (by decide)) f12
          have f147 : M135 (P 16) = some (.inl (D.1 101, 16, .inl (A 16))) := by rw [eM135]; exact hm_up_o (hm_neO (po 16 (by decide)) (po 0 (by decide)) (by decide)) f13
          have f148 : M135 (P 17) = some (.inl (D.1 101, 16, .inl (A 17))) := by rw [eM135]; exact hm_up_o (hm_neO (po 17 (by decide)) (po 0 (by decide)) (by decide)) f14
          have f149 : M135 (P 19) = some (.inl (D.1 101, 2601, .inl (A 19))) := by rw [eM135]; exact hm_up_o (hm_neO (po 19 (by decide)) (po 0 (by decide)) (by decide)) f15
          have f150 : M135 (P 20) = some (.inl (D.1 102, 52, .inl (A 20))) := by rw [eM135]; exact hm_up_o (hm_neO (po 20 (by decide)) (po 0 (by decide)) (by decide)) f16
          have f151 : M135 (P 21) = some (.inl (D.1 102, 52, .inl (A 21))) := by rw [eM135]; exact hm_up_o (hm_neO (po 21 (by decide)) (po 0 (by decide)) (by decide)) f17
          have f152 : M135 (P 0) = some (.inr (6, [.int (nI 0), .ref (P 1), .int (nI 0), .ref (P 3), .ref (P 4), .ref (P 5), .int (I 6), .ref (P 7), .ref (P 8), .ref (P 9), .ref (P 10), .ref (P 11), .int (I 12), .int (I 13), .ref (P 14), .ref (P 15), .ref (P 16), .ref (P 17), .int (I 18), .ref (P 19), .ref (P 20), .ref (P 21)])) := by rw [eM135]; exact hm_up_s
          refine lv_iload hx hb dd_MO_unbind_50 (lv_at hl 0 rfl) ?_
          refine lv_iconst (v := (-1)) hx hb dd_MO_unbind_52 (by decide +kernel) ?_
          refine hi_icmp_ne (tgt := 58) hx hb dd_MO_unbind_53 (by decide) (fun c153 => absurd c153 (by decide)) (fun c153 => ?_)
          have c53 := c153
          refine lv_iconst (v := nI 0) hx hb dd_MO_unbind_56 (by decide +kernel) ?_
          have kk154 : hm_k M M [(P 0)] := hm_krf
          have kk155 : hm_k M M1 [(P 0)] := hm_ku kk154 (Or.inr (by simp)) eM1
          have kk156 : hm_k M M135 [(P 0)] := hm_ku kk155 (Or.inr (by simp)) eM135
          exact hm_Ei (v := nI 0) hx hb hr rfl hS hP (⟨bz_0 hpa, (va_up (va_up I 0 (nI 0)) 2 (nI 0)), A, L, ⟨f152, f136, f137, f138, f139, f140, f141, f142, f143, f144, f145, f146, f147, f148, f149, f150, f151, po, pb⟩, rfl, ⟨tpS_0, hX, hQ, by rw [hpe]; exact hB, hK, hH, hFo, hPs⟩, cz_F.k0 kk156 (hm_a1 ⟨by rw [po 0 (by decide)]; unfold pm; omega, _, f152⟩)⟩) hlocks (by omega) (by omega) dd_MO_unbind_57
        · refine lv_goto (tgt := 43) hx hb dd_MO_unbind_39 (by decide) ?_
          refine lv_istore (lv' := [(4, .int (nI i9)), (0, .ref (P 0)), (1, .int x), (2, .int y), (3, .int (nI (bz q)))]) hx hb dd_MO_unbind_43 hl (by decide) rfl (fun ls hl => ?_)
          refine lv_aload_n hx hb dd_MO_unbind_45 rfl (lv_at hl 1 rfl) ?_
          refine lv_iconst (v := nI 0) hx hb dd_MO_unbind_46 (by decide +kernel) ?_
          refine hm_put (ci := 6) (v := .int (nI 0)) (ty := .int) (C := rn_MO) (T := ft_MO) (N := 22) hx hb hts fi_MO fy_MO fo_MO fn_MO hown hE.K hP hS (pb 0 (by decide)) f18 rfl 2 (by decide) (hts _ tw_988) (fun _ h9 => h9) rfl (by decide +kernel) rfl rfl (Nat.le_of_ble_eq_true rfl) dd_MO_unbind_47 (fun H locs hP hS => ?_)
          have hP : hm_P D cl_W (hm_up M1 (P 0) (.inr (6, [.int (nI 0), .ref (P 1), .int (nI 0), .ref (P 3), .ref (P 4), .ref (P 5), .int (I 6), .ref (P 7), .ref (P 8), .ref (P 9), .ref (P 10), .ref (P 11), .int (I 12), .int (I 13), .ref (P 14), .ref (P 15), .ref (P 16), .ref (P 17), .int (I 18), .ref (P 19), .ref (P 20), .ref (P 21)]))) H := hP
          obtain ⟨M157, eM157⟩ : ∃ z, z = hm_up M1 (P 0) (.inr (6, [.int (nI 0), .ref (P 1), .int (nI 0), .ref (P 3), .ref (P 4), .ref (P 5), .int (I 6), .ref (P 7), .ref (P 8), .ref (P 9), .ref (P 10), .ref (P 11), .int (I 12), .int (I 13), .ref (P 14), .ref (P 15), .ref (P 16), .ref (P 17), .int (I 18), .ref (P 19), .ref (P 20), .ref (P 21)])) := ⟨_, rfl⟩
          rw [← eM157] at hP
          have f158 : M157 (P 1) = some (.inl (D.1 102, 48, .inl (A 1))) := by rw [eM157]; exact hm_up_o (hm_neO (po 1 (by decide)) (po 0 (by decide)) (by decide)) f2
          have f159 : M157 (P 3) = some (.inl (D.1 102, 16, .inl (A 3))) := by rw [eM157]; exact hm_up_o (hm_neO (po 3 (by decide)) (po 0 (by decide)) (by decide)) f3
          have f160 : M157 (P 4) = some (.inl (D.1 102, 16, .inl (A 4))) := by rw [eM157]; exact hm_up_o (hm_neO (po 4 (by decide)) (po 0 (by decide)) (by decide)) f4
          have f161 : M157 (P 5) = some (.inl (D.1 101, 16, .inl (A 5))) := by rw [eM157]; exact hm_up_o (hm_neO (po 5 (by decide)) (po 0 (by decide)) (by decide)) f5
          have f162 : M157 (P 7) = some (.inl (D.1 102, 120, .inl (A 7))) := by rw [eM157]; exact hm_up_o (hm_neO (po 7 (by decide)) (po 0 (by decide)) (by decide)) f6
          have f163 : M157 (P 8) = some (.inl (D.1 102, 120, .inl (A 8))) := by rw [eM157]; exact hm_up_o (hm_neO (po 8 (by decide)) (po 0 (by decide)) (by decide)) f7
          have f164 : M157 (P 9) = some (.inl (D.1 102, 120, .inl (A 9))) := by rw [eM157]; exact hm_up_o (hm_neO (po 9 (by decide)) (po 0 (by decide)) (by decide)) f8
          have f165 : M157 (P 10) = some (.inl (D.1 102, 5760, .inl (A 10))) := by rw [eM157]; exact hm_up_o (hm_neO (po 10 (by decide)) (po 0 (by decide)) (by decide)) f9
          have f166 : M157 (P 11) = some (.inl (D.1 102, 48, .inl (A 11))) := by rw [eM157]; exact hm_up_o (hm_neO (po 11 (by decide)) (po 0 (by decide)) (by decide)) f10
          have f167 : M157 (P 14) = some (.inl (D.1 103, 6, .inr (.inl (L 14)))) := by rw [eM157]; exact hm_up_o (hm_neO (po 14 (by decide)) (po 0 (by decide)) (by decide)) f11
          have f168 : M157 (P 15) = some (.inl (D.1 103, 6, .inr (.inl (L 15)))) := by rw [eM157]; exact hm_up_o (hm_neO (po 15 (by decide)) (po 0 (by decide)) (by decide)) f12
          have f169 : M157 (P 16) = some (.inl (D.1 101, 16, .inl (A 16))) := by rw [eM157]; exact hm_up_o (hm_neO (po 16 (by decide)) (po 0 (by decide)) (by decide)) f13
          have f170 : M157 (P 17) = some (.inl (D.1 101, 16, .inl (A 17))) := by rw [eM157]; exact hm_up_o (hm_neO (po 17 (by decide)) (po 0 (by decide)) (by decide)) f14
          have f171 : M157 (P 19) = some (.inl (D.1 101, 2601, .inl (A 19))) := by rw [eM157]; exact hm_up_o (hm_neO (po 19 (by decide)) (po 0 (by decide)) (by decide)) f15
          have f172 : M157 (P 20) = some (.inl (D.1 102, 52, .inl (A 20))) := by rw [eM157]; exact hm_up_o (hm_neO (po 20 (by decide)) (po 0 (by decide)) (by decide)) f16
          have f173 : M157 (P 21) = some (.inl (D.1 102, 52, .inl (A 21))) := by rw [eM157]; exact hm_up_o (hm_neO (po 21 (by decide)) (po 0 (by decide)) (by decide)) f17
          have f174 : M157 (P 0) = some (.inr (6, [.int (nI 0), .ref (P 1), .int (nI 0), .ref (P 3), .ref (P 4), .ref (P 5), .int (I 6), .ref (P 7), .ref (P 8), .ref (P 9), .ref (P 10), .ref (P 11), .int (I 12), .int (I 13), .ref (P 14), .ref (P 15), .ref (P 16), .ref (P 17), .int (I 18), .ref (P 19), .ref (P 20), .ref (P 21)])) := by rw [eM157]; exact hm_up_s
          refine lv_iload hx hb dd_MO_unbind_50 (lv_at hl 0 rfl) ?_
          refine lv_iconst (v := (-1)) hx hb dd_MO_unbind_52 (by decide +kernel) ?_
          refine hi_icmp_ne (tgt := 58) hx hb dd_MO_unbind_53 (by decide) (fun c175 => ?_) (fun c175 => ?_)
          · refine lv_aload_n hx hb dd_MO_unbind_58 rfl (lv_at hl 1 rfl) ?_
            refine lv_iload hx hb dd_MO_unbind_59 (lv_at hl 0 rfl) ?_
            have kk177 : hm_k M M [(P 0)] := hm_krf
            have kk178 : hm_k M M1 [(P 0)] := hm_ku kk177 (Or.inr (by simp)) eM1
            have kk179 : hm_k M M157 [(P 0)] := hm_ku kk178 (Or.inr (by simp)) eM157
            have hF180 : cz_F O M O M157 pm := cz_F.k0 kk179 (hm_a1 ⟨by rw [po 0 (by decide)]; unfold pm; omega, _, f174⟩)
            have hd176 : mo_D B D P O M157 (va_up (va_up I 0 (nI 0)) 2 (nI 0)) A L := ⟨f174, f158, f159, f160, f161, f162, f163, f164, f165, f166, f167, f168, f169, f170, f171, f172, f173, po, pb⟩
            refine hm_cv hS (hm_rV 1 (As := [.int (nI i9)]) (rest := []) ⟨hx, hb, hml, hown, hts⟩ hE hS hP (kc_MO_drop l B D G M157 P O (va_up (va_up I 0 (nI 0)) 2 (nI 0)) A L hd176 bs hB i9 hpi) rfl f174 tw_1094 tw_1091 tw_1093 tw_20 tw_46 (by decide +kernel) rfl rfl ⟨by show 0 + 1 ≤ R.frames; omega, by show 8 + (4 + 11) + 0 ≤ R.locals; omega⟩ rfl hl.1 rfl (Nat.le_of_ble_eq_true rfl) dd_MO_unbind_61 ⟨by omega, by omega⟩) (fun M182 H locs hw183 hP hS => ?_)
            refine W.widen (k := 0) (n := 0) (by omega) (by omega) ?_
            obtain ⟨fb, gb, zb, xb, hbn, hd184, hF185⟩ := hw183
            have hF185 := hF180.trans hF185
            obtain ⟨g186_0, g186_1, g186_3, g186_4, g186_5, g186_7, g186_8, g186_9, g186_10, g186_11, g186_14, g186_15, g186_16, g186_17, g186_19, g186_20, g186_21, -, -⟩ := id hd184
            have g186_0 : M182 (P 0) = some (.inr (6, [.int (nI 0), .ref (P 1), .int (nI 0), .ref (P 3), .ref (P 4), .ref (P 5), .int (nI (bs.length - 1)), .ref (P 7), .ref (P 8), .ref (P 9), .ref (P 10), .ref (P 11), .int (I 12), .int (I 13), .ref (P 14), .ref (P 15), .ref (P 16), .ref (P 17), .int (I 18), .ref (P 19), .ref (P 20), .ref (P 21)])) := g186_0
            have g186_1 : M182 (P 1) = some (.inl (D.1 102, 48, .inl (A 1))) := g186_1
            have g186_3 : M182 (P 3) = some (.inl (D.1 102, 16, .inl (A 3))) := g186_3
            have g186_4 : M182 (P 4) = some (.inl (D.1 102, 16, .inl (A 4))) := g186_4
            have g186_5 : M182 (P 5) = some (.inl (D.1 101, 16, .inl (A 5))) := g186_5
            have g186_7 : M182 (P 7) = some (.inl (D.1 102, 120, .inl fb)) := g186_7
            have g186_8 : M182 (P 8) = some (.inl (D.1 102, 120, .inl gb)) := g186_8
            have g186_9 : M182 (P 9) = some (.inl (D.1 102, 120, .inl zb)) := g186_9
            have g186_10 : M182 (P 10) = some (.inl (D.1 102, 5760, .inl xb)) := g186_10
            have g186_11 : M182 (P 11) = some (.inl (D.1 102, 48, .inl (A 11))) := g186_11
            have g186_16 : M182 (P 16) = some (.inl (D.1 101, 16, .inl (A 16))) := g186_16
            have g186_17 : M182 (P 17) = some (.inl (D.1 101, 16, .inl (A 17))) := g186_17
            have g186_19 : M182 (P 19) = some (.inl (D.1 101, 2601, .inl (A 19))) := g186_19
            have g186_20 : M182 (P 20) = some (.inl (D.1 102, 52, .inl (A 20))) := g186_20
            have g186_21 : M182 (P 21) = some (.inl (D.1 102, 52, .inl (A 21))) := g186_21
            refine lv_iconst (v := nI 1) hx hb dd_MO_unbind_64 (by decide +kernel) ?_
            exact hm_Ei (v := nI 1) hx hb hr rfl hS hP (⟨bz_1 hpa, (va_up (va_up (va_up I 0 (nI 0)) 2 (nI 0)) 6 (nI (bs.length - 1))), (va_up (va_up (va_up (va_up A 7 fb) 8 gb) 9 zb) 10 xb), L, ⟨g186_0, g186_1, g186_3, g186_4, g186_5, g186_7, g186_8, g186_9, g186_10, g186_11, g186_14, g186_15, g186_16, g186_17, g186_19, g186_20, g186_21, po, pb⟩, rfl, ⟨tpS_0, hX, hQ, by rw [hpe]; exact hbn.n, hK, hH, hFo, hPs⟩, hF185⟩) hlocks (by omega) (by omega) dd_MO_unbind_65
          · have c53 := c175
            refine lv_iconst (v := nI 0) hx hb dd_MO_unbind_56 (by decide +kernel) ?_
            exact hm_Ei (v := nI 0) hx hb hr rfl hS hP (absurd c53 (by rw [nI_toInt (by omega), tm1]; omega)) hlocks (by omega) (by omega) dd_MO_unbind_57
theorem exS_rm {f g : Nat → Int32} {ex : Nat → Option (Int32 × Int32)} {j : Nat} (h : exS f g ex) : exS (upd f j (-1)) g (va_up ex j none) := fun k hk => by
  unfold va_up upd
  by_cases e : k = j
  · rw [if_pos e, if_pos e]; exact Or.inl ⟨rfl, rfl⟩
  · rw [if_neg e, if_neg e]; exact h k hk

set_option maxHeartbeats 4000000 in
set_option maxRecDepth 100000 in
theorem kc_MO_remove (l : Launch) (B : Nat) (D : va_G) (G : Nat → Nat) (M : hm_M) (P O : Nat → Nat) (I : Nat → Int32) (A : Nat → Nat → Int32) (L : Nat → Nat → Int64) (hD : mo_D B D P O M I A L) (t : List Nat) (ex : Nat → Option (Int32 × Int32)) (qs : Nat → Bool) (bs : List bd_T) (key : List Nat) (hs : List (List Nat × List Nat)) (fo ps : Nat → Bool) (hZ : mo_S I A L t ex qs bs key hs fo ps) (x : Int32) (q : Bool) : Met l yy_MO_remove ws_MO_remove ({ frames := 1, cells := 0, slots := 0, locals := 23 }) (hm_Pc B D G M [.ref (P 0), .int x, .int (nI (bz q))]) (hm_Ni B D (fun r M1 => r = nI (bz (th_at ex qs x q)) ∧ ∃ I1 A1 L1, mo_D B D P O M1 I1 A1 L1 ∧ I1 0 = nI 0 ∧ mo_S I1 A1 L1 t (rm_e ex qs x q) (rm_q ex qs x q) (rm_b ex qs bs x q) key hs fo ps ∧ cz_F O M O M1 pm)) (0) (0) (hm_A B) := by
  refine Met.ofW (cc := cd_MO_remove) (maxL := 4) (ret := ((some FieldType.boolean))) (by decide) rfl ?_
  intro p e s m args below meth c s₁ B0 hml hv
  obtain ⟨rfl, hE, hP⟩ := hv
  have hx := B0.exec
  have hb := B0.bytes
  have hr := B0.returns
  have hts : ∀ w ∈ tb_G, w.before _ s = true := fun w h => atoms_spec (ws := ws_MO_remove) B0.pre w (List.mem_cons_of_mem _ h)
  have hown : s.vm.findClass "RouteDeskModel" = some m.cls := findClass_of_methodNamed B0.named
  have hlocks := B0.notSynchronized
  have hRf : (headSpec ws_MO_remove { frames := 1, cells := 0, slots := 0, locals := 23 }).room.frames = 1 := rfl
  have hRl : (headSpec ws_MO_remove { frames := 1, cells := 0, slots := 0, locals := 23 }).room.locals = 23 := rfl
  have hRc : (headSpec ws_MO_remove { frames := 1, cells := 0, slots := 0, locals := 23 }).room.cells = 0 := rfl
  have hRs : (headSpec ws_MO_remove { frames := 1, cells := 0, slots := 0, locals := 23 }).room.slots = 0 := rfl
  generalize (headSpec ws_MO_remove { frames := 1, cells := 0, slots := 0, locals := 23 }).room = R at hRf hRl hRc hRs ⊢
  have hS : va_S (hm_A B) s.heap s.heap [] := va_S.rf
  have hl := lv_entry ([.ref (P 0), .int x, .int (nI (bz q))]) (n := 4) (Nat.le_of_ble_eq_true rfl)
  rw [lg_entry_eq]
  generalize (lg_sl ([.ref (P 0), .int x, .int (nI (bz q))]) ++ List.replicate (4 - (lg_sl ([.ref (P 0), .int x, .int (nI (bz q))])).length) Slot.unset).toArray = ls at hl ⊢
  have hl : lv_has ls 4 [(0, .ref (P 0)), (1, .int x), (2, .int (nI (bz q)))] := hl
  have t16 : (nI 16).toInt = 16 := by decide
  have tm1 : (-1 : Int32).toInt = -1 := by decide
  have t0 : (nI 0).toInt = 0 := by decide
  have t2 : (nI 2).toInt = 2 := by decide
  have t3 : (nI 3).toInt = 3 := by decide
  have t1 : (nI 1).toInt = 1 := by decide
  have t4 : (nI 4).toInt = 4 := by decide
  obtain ⟨p0, p1, p3, p4, p5, p7, p8, p9, p10, p11, p14, p15, p16, p17, p19, p20, p21, po, pb⟩ := id hD
  obtain ⟨hT, hX, hQ, hB, hK, hH, hFo, hPs⟩ := id hZ
  obtain ⟨ti1, ti2, ti3, ti4⟩ := id hT
  obtain ⟨bi1, bi2, bi3⟩ := id hB
  obtain ⟨ki1, ki2, ki3, ki4⟩ := id hK
  obtain ⟨hi1, hi2, hi3⟩ := id hH
  refine lv_aload_n hx hb dd_MO_remove_0 rfl (lv_at hl 0 rfl) ?_
  refine lv_iconst (v := nI 0) hx hb dd_MO_remove_1 (by decide +kernel) ?_
  refine hm_put (ci := 6) (v := .int (nI 0)) (ty := .int) (C := rn_MO) (T := ft_MO) (N := 22) hx hb hts fi_MO fy_MO fo_MO fn_MO hown hE.K hP hS (pb 0 (by decide)) p0 rfl 0 (by decide) (hts _ tw_986) (fun _ h9 => h9) rfl (by decide +kernel) rfl rfl (Nat.le_of_ble_eq_true rfl) dd_MO_remove_2 (fun H locs hP hS => ?_)
  have hP : hm_P D cl_W (hm_up M (P 0) (.inr (6, [.int (nI 0), .ref (P 1), .int (I 2), .ref (P 3), .ref (P 4), .ref (P 5), .int (I 6), .ref (P 7), .ref (P 8), .ref (P 9), .ref (P 10), .ref (P 11), .int (I 12), .int (I 13), .ref (P 14), .ref (P 15), .ref (P 16), .ref (P 17), .int (I 18), .ref (P 19), .ref (P 20), .ref (P 21)]))) H := hP
  obtain ⟨M1, eM1⟩ : ∃ z, z = hm_up M (P 0) (.inr (6, [.int (nI 0), .ref (P 1), .int (I 2), .ref (P 3), .ref (P 4), .ref (P 5), .int (I 6), .ref (P 7), .ref (P 8), .ref (P 9), .ref (P 10), .ref (P 11), .int (I 12), .int (I 13), .ref (P 14), .ref (P 15), .ref (P 16), .ref (P 17), .int (I 18), .ref (P 19), .ref (P 20), .ref (P 21)])) := ⟨_, rfl⟩
  rw [← eM1] at hP
  have f2 : M1 (P 1) = some (.inl (D.1 102, 48, .inl (A 1))) := by rw [eM1]; exact hm_up_o (hm_neO (po 1 (by decide)) (po 0 (by decide)) (by decide)) p1
  have f3 : M1 (P 3) = some (.inl (D.1 102, 16, .inl (A 3))) := by rw [eM1]; exact hm_up_o (hm_neO (po 3 (by decide)) (po 0 (by decide)) (by decide)) p3
  have f4 : M1 (P 4) = some (.inl (D.1 102, 16, .inl (A 4))) := by rw [eM1]; exact hm_up_o (hm_neO (po 4 (by decide)) (po 0 (by decide)) (by decide)) p4
  have f5 : M1 (P 5) = some (.inl (D.1 101, 16, .inl (A 5))) := by rw [eM1]; exact hm_up_o (hm_neO (po 5 (by decide)) (po 0 (by decide)) (by decide)) p5
  have f6 : M1 (P 7) = some (.inl (D.1 102, 120, .inl (A 7))) := by rw [eM1]; exact hm_up_o (hm_neO (po 7 (by decide)) (po 0 (by decide)) (by decide)) p7
  have f7 : M1 (P 8) = some (.inl (D.1 102, 120, .inl (A 8))) := by rw [eM1]; exact hm_up_o (hm_neO (po 8 (by decide)) (po 0 (by decide)) (by decide)) p8
  have f8 : M1 (P 9) = some (.inl (D.1 102, 120, .inl (A 9))) := by rw [eM1]; exact hm_up_o (hm_neO (po 9 (by decide)) (po 0 (by decide)) (by decide)) p9
  have f9 : M1 (P 10) = some (.inl (D.1 102, 5760, .inl (A 10))) := by rw [eM1]; exact hm_up_o (hm_neO (po 10 (by decide)) (po 0 (by decide)) (by decide)) p10
  have f10 : M1 (P 11) = some (.inl (D.1 102, 48, .inl (A 11))) := by rw [eM1]; exact hm_up_o (hm_neO (po 11 (by decide)) (po 0 (by decide)) (by decide)) p11
  have f11 : M1 (P 14) = some (.inl (D.1 103, 6, .inr (.inl (L 14)))) := by rw [eM1]; exact hm_up_o (hm_neO (po 14 (by decide)) (po 0 (by decide)) (by decide)) p14
  have f12 : M1 (P 15) = some (.inl (D.1 103, 6, .inr (.inl (L 15)))) := by rw [eM1]; exact hm_up_o (hm_neO (po 15 (by decide)) (po 0 (by decide)) (by decide)) p15
  have f13 : M1 (P 16) = some (.inl (D.1 101, 16, .inl (A 16))) := by rw [eM1]; exact hm_up_o (hm_neO (po 16 (by decide)) (po 0 (by decide)) (by decide)) p16
  have f14 : M1 (P 17) = some (.inl (D.1 101, 16, .inl (A 17))) := by rw [eM1]; exact hm_up_o (hm_neO (po 17 (by decide)) (po 0 (by decide)) (by decide)) p17
  have f15 : M1 (P 19) = some (.inl (D.1 101, 2601, .inl (A 19))) := by rw [eM1]; exact hm_up_o (hm_neO (po 19 (by decide)) (po 0 (by decide)) (by decide)) p19
  have f16 : M1 (P 20) = some (.inl (D.1 102, 52, .inl (A 20))) := by rw [eM1]; exact hm_up_o (hm_neO (po 20 (by decide)) (po 0 (by decide)) (by decide)) p20
  have f17 : M1 (P 21) = some (.inl (D.1 102, 52, .inl (A 21))) := by rw [eM1]; exact hm_up_o (hm_neO (po 21 (by decide)) (po 0 (by decide)) (by decide)) p21
  have f18 : M1 (P 0) = some (.inr (6, [.int (nI 0), .ref (P 1), .int (I 2), .ref (P 3), .ref (P 4), .ref (P 5), .int (I 6), .ref (P 7), .ref (P 8), .ref (P 9), .ref (P 10), .ref (P 11), .int (I 12), .int (I 13), .ref (P 14), .ref (P 15), .ref (P 16), .ref (P 17), .int (I 18), .ref (P 19), .ref (P 20), .ref (P 21)])) := by rw [eM1]; exact hm_up_s
  refine lv_iload_n hx hb dd_MO_remove_5 rfl (lv_at hl 2 rfl) ?_
  refine hn_if_eq (tgt := 20) hx hb (bz_b _) dd_MO_remove_6 (by decide) (fun c19 => ?_) (fun c19 => ?_)
  · have hq := bz_f c19
    refine lv_aload_n hx hb dd_MO_remove_20 rfl (lv_at hl 0 rfl) ?_
    refine lv_iload_n hx hb dd_MO_remove_21 rfl (lv_at hl 1 rfl) ?_
    have hd20 : mo_D B D P O M1 (va_up I 0 (nI 0)) A L := ⟨f18, f2, f3, f4, f5, f6, f7, f8, f9, f10, f11, f12, f13, f14, f15, f16, f17, po, pb⟩
    refine hm_ci hS (hm_rV 1 (As := [.int x]) (rest := []) ⟨hx, hb, hml, hown, hts⟩ hE hS hP (kc_MO_isExchange l B D G M1 P O (va_up I 0 (nI 0)) A L hd20 x) rfl f18 tw_1078 tw_1075 tw_1077 tw_18 tw_46 (by decide +kernel) rfl rfl ⟨by show 0 + 1 ≤ R.frames; omega, by show 8 + (2 + 11) + 0 ≤ R.locals; omega⟩ rfl hl.1 rfl (Nat.le_of_ble_eq_true rfl) dd_MO_remove_22 ⟨by omega, by omega⟩) (fun r21 M22 H locs hw23 hP hS => ?_)
    refine W.widen (k := 0) (n := 0) (by omega) (by omega) ?_
    obtain ⟨hrM22, eM22⟩ := hw23
    rw [eM22] at hP
    have hrM22 := hrM22.trans (by rw [exS_x (A := A) hX])
    obtain rfl : r21 = nI (bz (ex_at ex x).isSome) := hrM22
    refine hn_if_ne (tgt := 30) hx hb (bz_b _) dd_MO_remove_25 (by decide) (fun c24 => ?_) (fun c24 => ?_)
    · have hth : th_at ex qs x q = true := by rw [th_at, hq]; exact bz_t c24
      have hin := th_in hth
      have hin1 := hin.1
      have hin2 := hin.2
      refine lv_aload_n hx hb dd_MO_remove_30 rfl (lv_at hl 0 rfl) ?_
      refine hm_get (ci := 6) (C := rn_MO) (T := ft_MO) (N := 22) hx hb hts fi_MO hown hE.K hP f18 rfl 6 (by decide) (hts _ tw_992) (fun _ h9 => h9) rfl dd_MO_remove_31 ?_
      refine W.eq (g2 := F0 m 34 ls [.int (nI bs.length)]) (by rw [bi1]) ?_
      refine lv_iconst (v := nI 1) hx hb dd_MO_remove_34 (by decide +kernel) ?_
      refine lv_isub hx hb dd_MO_remove_35 ?_
      refine lv_topi (fun x25 ex25 => ?_)
      refine lv_istore_n (lv' := [(3, .int x25), (0, .ref (P 0)), (1, .int x), (2, .int (nI (bz q)))]) hx hb dd_MO_remove_36 rfl hl (by decide) rfl (fun ls hl => ?_)
      have lp37 : ∀ (n9 : Nat) (kq : Nat) (y9 : Int32) (fa : Nat → Int32) (ga : Nat → Int32) (za : Nat → Int32) (xa : Nat → Int32) (Mu37 : hm_M), (kq ≤ bs.length) → (y9.toInt = (kq : Int) - 1) → (bdS (nI (bs.take kq ++ (bs.drop kq).filter (fun b => !rm_p x q b)).length) fa ga za xa (bs.take kq ++ (bs.drop kq).filter (fun b => !rm_p x q b))) → (mo_D B D P O Mu37 (va_up (va_up I 0 (nI 0)) 6 (nI ((bs.take kq ++ (bs.drop kq).filter (fun b => !rm_p x q b)).length))) (va_up (va_up (va_up (va_up A 7 fa) 8 ga) 9 za) 10 xa) L) → (cz_F O M O Mu37 pm) → kq < n9 → ∀ (H : Heap) (locs : List Loc) (ls : Array Slot), hm_P D cl_W Mu37 H → va_S (hm_A B) s.heap H locs → lv_has ls 4 [(0, .ref (P 0)), (1, .int x), (2, .int (nI (bz q))), (3, .int y9)] → W p l e R s m ([.ref (P 0), .int x, .int (nI (bz q))] : List Value).toArray below meth c H locs (0) (0) (MQ below (hm_Ni B D (fun r M1 => r = nI (bz (th_at ex qs x q)) ∧ ∃ I1 A1 L1, mo_D B D P O M1 I1 A1 L1 ∧ I1 0 = nI 0 ∧ mo_S I1 A1 L1 t (rm_e ex qs x q) (rm_q ex qs x q) (rm_b ex qs bs x q) key hs fo ps ∧ cz_F O M O M1 pm)) ([.ref (P 0), .int x, .int (nI (bz q))] : List Value).toArray s (0) (0) (hm_A B)) (F0 m 37 ls []) := by
        intro n9
        induction n9 with
        | zero => intro kq y9 fa ga za xa Mu37 hkq hy9 hbc hd37 hF37 hm; exact absurd hm (Nat.not_lt_zero _)
        | succ n9 ih37 =>
          intro kq y9 fa ga za xa Mu37 hkq hy9 hbc hd37 hF37 hm H locs ls hP hS hl
          obtain ⟨g26_0, g26_1, g26_3, g26_4, g26_5, g26_7, g26_8, g26_9, g26_10, g26_11, g26_14, g26_15, g26_16, g26_17, g26_19, g26_20, g26_21, -, -⟩ := id hd37
          have g26_0 : Mu37 (P 0) = some (.inr (6, [.int (nI 0), .ref (P 1), .int (I 2), .ref (P 3), .ref (P 4), .ref (P 5), .int (nI ((bs.take kq ++ (bs.drop kq).filter (fun b => !rm_p x q b)).length)), .ref (P 7), .ref (P 8), .ref (P 9), .ref (P 10), .ref (P 11), .int (I 12), .int (I 13), .ref (P 14), .ref (P 15), .ref (P 16), .ref (P 17), .int (I 18), .ref (P 19), .ref (P 20), .ref (P 21)])) := g26_0
          have g26_1 : Mu37 (P 1) = some (.inl (D.1 102, 48, .inl (A 1))) := g26_1
          have g26_3 : Mu37 (P 3) = some (.inl (D.1 102, 16, .inl (A 3))) := g26_3
          have g26_4 : Mu37 (P 4) = some (.inl (D.1 102, 16, .inl (A 4))) := g26_4
          have g26_5 : Mu37 (P 5) = some (.inl (D.1 101, 16, .inl (A 5))) := g26_5
          have g26_7 : Mu37 (P 7) = some (.inl (D.1 102, 120, .inl fa)) := g26_7
          have g26_8 : Mu37 (P 8) = some (.inl (D.1 102, 120, .inl ga)) := g26_8
          have g26_9 : Mu37 (P 9) = some (.inl (D.1 102, 120, .inl za)) := g26_9
          have g26_10 : Mu37 (P 10) = some (.inl (D.1 102, 5760, .inl xa)) := g26_10
          have g26_11 : Mu37 (P 11) = some (.inl (D.1 102, 48, .inl (A 11))) := g26_11
          have g26_16 : Mu37 (P 16) = some (.inl (D.1 101, 16, .inl (A 16))) := g26_16
          have g26_17 : Mu37 (P 17) = some (.inl (D.1 101, 16, .inl (A 17))) := g26_17
          have g26_19 : Mu37 (P 19) = some (.inl (D.1 101, 2601, .inl (A 19))) := g26_19
          have g26_20 : Mu37 (P 20) = some (.inl (D.1 102, 52, .inl (A 20))) := g26_20
          have g26_21 : Mu37 (P 21) = some (.inl (D.1 102, 52, .inl (A 21))) := g26_21
          refine lv_iload_n hx hb dd_MO_remove_37 rfl (lv_at hl 3 rfl) ?_
          refine hi_if_lt (tgt := 87) hx hb dd_MO_remove_38 (by decide) (fun c27 => ?_) (fun c27 => ?_)
          · have hl : lv_has ls 4 [(0, .ref (P 0)), (1, .int x), (2, .int (nI 0)), (3, .int y9)] := by rw [hq] at hl; exact hl
            refine lv_iload_n hx hb dd_MO_remove_87 rfl (lv_at hl 2 rfl) ?_
            refine hn_if_eq (tgt := 101) hx hb (by omega) dd_MO_remove_88 (by decide) (fun c28 => ?_) (fun c28 => absurd c28 (by omega))
            refine lv_aload_n hx hb dd_MO_remove_101 rfl (lv_at hl 0 rfl) ?_
            refine hm_get (ci := 6) (C := rn_MO) (T := ft_MO) (N := 22) hx hb hts fi_MO hown hE.K hP g26_0 rfl 3 (by decide) (hts _ tw_989) (fun _ h9 => h9) rfl dd_MO_remove_102 ?_
            refine lv_iload_n hx hb dd_MO_remove_105 rfl (lv_at hl 1 rfl) ?_
            refine lv_iconst (v := (-1)) hx hb dd_MO_remove_106 (by decide +kernel) ?_
            refine hm_iast (j := x.toInt.toNat) hx hb hE.K hP hS (pb 3 (by decide)) 2 g26_3 rfl (hi_in (by omega) (by omega)) hi_clamp dd_MO_remove_107 (fun H locs hP hS => ?_)
            obtain ⟨M29, eM29⟩ : ∃ z, z = hm_up Mu37 (P 3) (.inl (D.1 102, 16, .inl (upd (A 3) x.toInt.toNat (-1)))) := ⟨_, rfl⟩
            rw [← eM29] at hP
            have f30 : M29 (P 0) = some (.inr (6, [.int (nI 0), .ref (P 1), .int (I 2), .ref (P 3), .ref (P 4), .ref (P 5), .int (nI ((bs.take kq ++ (bs.drop kq).filter (fun b => !rm_p x q b)).length)), .ref (P 7), .ref (P 8), .ref (P 9), .ref (P 10), .ref (P 11), .int (I 12), .int (I 13), .ref (P 14), .ref (P 15), .ref (P 16), .ref (P 17), .int (I 18), .ref (P 19), .ref (P 20), .ref (P 21)])) := by rw [eM29]; exact hm_up_o (hm_neO (po 0 (by decide)) (po 3 (by decide)) (by decide)) g26_0
            have f31 : M29 (P 1) = some (.inl (D.1 102, 48, .inl (A 1))) := by rw [eM29]; exact hm_up_o (hm_neO (po 1 (by decide)) (po 3 (by decide)) (by decide)) g26_1
            have f32 : M29 (P 4) = some (.inl (D.1 102, 16, .inl (A 4))) := by rw [eM29]; exact hm_up_o (hm_neO (po 4 (by decide)) (po 3 (by decide)) (by decide)) g26_4
            have f33 : M29 (P 5) = some (.inl (D.1 101, 16, .inl (A 5))) := by rw [eM29]; exact hm_up_o (hm_neO (po 5 (by decide)) (po 3 (by decide)) (by decide)) g26_5
            have f34 : M29 (P 7) = some (.inl (D.1 102, 120, .inl fa)) := by rw [eM29]; exact hm_up_o (hm_neO (po 7 (by decide)) (po 3 (by decide)) (by decide)) g26_7
            have f35 : M29 (P 8) = some (.inl (D.1 102, 120, .inl ga)) := by rw [eM29]; exact hm_up_o (hm_neO (po 8 (by decide)) (po 3 (by decide)) (by decide)) g26_8
            have f36 : M29 (P 9) = some (.inl (D.1 102, 120, .inl za)) := by rw [eM29]; exact hm_up_o (hm_neO (po 9 (by decide)) (po 3 (by decide)) (by decide)) g26_9
            have f37 : M29 (P 10) = some (.inl (D.1 102, 5760, .inl xa)) := by rw [eM29]; exact hm_up_o (hm_neO (po 10 (by decide)) (po 3 (by decide)) (by decide)) g26_10
            have f38 : M29 (P 11) = some (.inl (D.1 102, 48, .inl (A 11))) := by rw [eM29]; exact hm_up_o (hm_neO (po 11 (by decide)) (po 3 (by decide)) (by decide)) g26_11
            have f39 : M29 (P 14) = some (.inl (D.1 103, 6, .inr (.inl (L 14)))) := by rw [eM29]; exact hm_up_o (hm_neO (po 14 (by decide)) (po 3 (by decide)) (by decide)) g26_14
            have f40 : M29 (P 15) = some (.inl (D.1 103, 6, .inr (.inl (L 15)))) := by rw [eM29]; exact hm_up_o (hm_neO (po 15 (by decide)) (po 3 (by decide)) (by decide)) g26_15
            have f41 : M29 (P 16) = some (.inl (D.1 101, 16, .inl (A 16))) := by rw [eM29]; exact hm_up_o (hm_neO (po 16 (by decide)) (po 3 (by decide)) (by decide)) g26_16
            have f42 : M29 (P 17) = some (.inl (D.1 101, 16, .inl (A 17))) := by rw [eM29]; exact hm_up_o (hm_neO (po 17 (by decide)) (po 3 (by decide)) (by decide)) g26_17
            have f43 : M29 (P 19) = some (.inl (D.1 101, 2601, .inl (A 19))) := by rw [eM29]; exact hm_up_o (hm_neO (po 19 (by decide)) (po 3 (by decide)) (by decide)) g26_19
            have f44 : M29 (P 20) = some (.inl (D.1 102, 52, .inl (A 20))) := by rw [eM29]; exact hm_up_o (hm_neO (po 20 (by decide)) (po 3 (by decide)) (by decide)) g26_20
            have f45 : M29 (P 21) = some (.inl (D.1 102, 52, .inl (A 21))) := by rw [eM29]; exact hm_up_o (hm_neO (po 21 (by decide)) (po 3 (by decide)) (by decide)) g26_21
            have f46 : M29 (P 3) = some (.inl (D.1 102, 16, .inl (upd (A 3) x.toInt.toNat (-1)))) := by rw [eM29]; exact hm_up_s
            refine lv_iconst (v := nI 1) hx hb dd_MO_remove_108 (by decide +kernel) ?_
            have hk0 : kq = 0 := by omega
            have hcf : bs.filter (fun b => !rm_p x q b) = (bs.take kq ++ (bs.drop kq).filter (fun b => !rm_p x q b)) := by rw [hk0, List.take_zero, List.nil_append, List.drop_zero]
            have kk47 : hm_k Mu37 Mu37 [(P 3)] := hm_krf
            have kk48 : hm_k Mu37 M29 [(P 3)] := hm_ku kk47 (Or.inr (by simp)) eM29
            exact hm_Ei (v := nI 1) hx hb hr rfl hS hP (⟨bz_1 hth, (va_up (va_up I 0 (nI 0)) 6 (nI ((bs.take kq ++ (bs.drop kq).filter (fun b => !rm_p x q b)).length))), (va_up (va_up (va_up (va_up (va_up A 3 (upd (A 3) x.toInt.toNat (-1))) 7 fa) 8 ga) 9 za) 10 xa), L, ⟨f30, f31, f46, f32, f33, f34, f35, f36, f37, f38, f39, f40, f41, f42, f43, f44, f45, po, pb⟩, rfl, ⟨hT, by rw [rm_e, if_pos ⟨hth, hq⟩]; exact exS_rm hX, by rw [rm_q, if_neg (by rw [hq]; simp)]; exact hQ, by rw [rm_b, if_pos hth, hcf]; exact hbc, hK, hH, hFo, hPs⟩, (hF37).trans (cz_F.k0 kk48 (hm_a1 ⟨by rw [po 3 (by decide)]; unfold pm; omega, _, f46⟩))⟩) hlocks (by omega) (by omega) dd_MO_remove_109
          · obtain rfl : y9 = nI (kq - 1) := by
              have h9 := hi_nI (x := y9) (by omega)
              rw [h9, show y9.toInt.toNat = kq - 1 by omega]
            obtain ⟨b, hb1⟩ : ∃ b, bs[kq - 1]? = some b := ⟨_, List.getElem?_eq_getElem (by omega)⟩
            have hbc1 : (bs.take kq ++ (bs.drop kq).filter (fun b => !rm_p x q b))[kq - 1]? = some b := by rw [List.getElem?_append_left (by rw [List.length_take]; omega), List.getElem?_take, if_pos (by omega)]; exact hb1
            have hkc := (List.getElem?_eq_some_iff.mp hbc1).1
            obtain ⟨bf1, bf2, ⟨bt1, bt2, bt3, bt4⟩, bf4, bf5⟩ := hbc.2.2 (kq - 1) b hbc1
            have hcl120 := hbc.2.1
            have hl : lv_has ls 4 [(0, .ref (P 0)), (1, .int x), (2, .int (nI 0)), (3, .int (nI (kq - 1)))] := by rw [hq] at hl; exact hl
            refine lv_aload_n hx hb dd_MO_remove_41 rfl (lv_at hl 0 rfl) ?_
            refine hm_get (ci := 6) (C := rn_MO) (T := ft_MO) (N := 22) hx hb hts fi_MO hown hE.K hP g26_0 rfl 8 (by decide) (hts _ tw_994) (fun _ h9 => h9) rfl dd_MO_remove_42 ?_
            refine lv_iload_n hx hb dd_MO_remove_45 rfl (lv_at hl 3 rfl) ?_
            refine hm_iald (j := kq - 1) hx hb hE.K hP 2 g26_8 rfl (vp_in_nI (by omega) (by omega)) (nI_clamp (by omega)) dd_MO_remove_46 ?_
            refine W.eq (g2 := F0 m 47 ls [.int (to_I b.2.1 b.2.2.1)]) (by rw [bf2]) ?_
            refine lv_iload_n hx hb dd_MO_remove_47 rfl (lv_at hl 2 rfl) ?_
            refine hn_if_eq (tgt := 58) hx hb (by omega) dd_MO_remove_48 (by decide) (fun c49 => ?_) (fun c49 => absurd c49 (by omega))
            refine lv_iload_n hx hb dd_MO_remove_58 rfl (lv_at hl 1 rfl) ?_
            refine W.eq (g2 := F0 m 59 ls [.int (to_I x q), .int (to_I b.2.1 b.2.2.1)]) (by rw [show to_I x q = x by rw [hq]; rfl]) ?_
            refine hi_icmp_eq (tgt := 76) hx hb dd_MO_remove_59 (by decide) (fun c50 => ?_) (fun c50 => ?_)
            · have hrm : rm_p x q b = true := by rw [rm_p, to_bd q hin bf5, decide_eq_true c50]; rfl
              refine lv_aload_n hx hb dd_MO_remove_76 rfl (lv_at hl 0 rfl) ?_
              refine lv_iload_n hx hb dd_MO_remove_77 rfl (lv_at hl 3 rfl) ?_
              have hF52 : cz_F O M O Mu37 pm := hF37
              have hd51 : mo_D B D P O Mu37 (va_up (va_up I 0 (nI 0)) 6 (nI ((bs.take kq ++ (bs.drop kq).filter (fun b => !rm_p x q b)).length))) (va_up (va_up (va_up (va_up A 7 fa) 8 ga) 9 za) 10 xa) L := ⟨g26_0, g26_1, g26_3, g26_4, g26_5, g26_7, g26_8, g26_9, g26_10, g26_11, g26_14, g26_15, g26_16, g26_17, g26_19, g26_20, g26_21, po, pb⟩
              refine hm_cv hS (hm_rV 1 (As := [.int (nI (kq - 1))]) (rest := []) ⟨hx, hb, hml, hown, hts⟩ hE hS hP (kc_MO_drop l B D G Mu37 P O (va_up (va_up I 0 (nI 0)) 6 (nI ((bs.take kq ++ (bs.drop kq).filter (fun b => !rm_p x q b)).length))) (va_up (va_up (va_up (va_up A 7 fa) 8 ga) 9 za) 10 xa) L hd51 (bs.take kq ++ (bs.drop kq).filter (fun b => !rm_p x q b)) hbc (kq - 1) hkc) rfl g26_0 tw_1094 tw_1091 tw_1093 tw_20 tw_46 (by decide +kernel) rfl rfl ⟨by show 0 + 1 ≤ R.frames; omega, by show 8 + (4 + 11) + 0 ≤ R.locals; omega⟩ rfl hl.1 rfl (Nat.le_of_ble_eq_true rfl) dd_MO_remove_78 ⟨by omega, by omega⟩) (fun M54 H locs hw55 hP hS => ?_)
              refine W.widen (k := 0) (n := 0) (by omega) (by omega) ?_
              obtain ⟨fb, gb, zb, xb, hbn, hd56, hF57⟩ := hw55
              have hF57 := hF52.trans hF57
              obtain ⟨g58_0, g58_1, g58_3, g58_4, g58_5, g58_7, g58_8, g58_9, g58_10, g58_11, g58_14, g58_15, g58_16, g58_17, g58_19, g58_20, g58_21, -, -⟩ := id hd56
              have g58_0 : M54 (P 0) = some (.inr (6, [.int (nI 0), .ref (P 1), .int (I 2), .ref (P 3), .ref (P 4), .ref (P 5), .int (nI ((bs.take kq ++ (bs.drop kq).filter (fun b => !rm_p x q b)).length - 1)), .ref (P 7), .ref (P 8), .ref (P 9), .ref (P 10), .ref (P 11), .int (I 12), .int (I 13), .ref (P 14), .ref (P 15), .ref (P 16), .ref (P 17), .int (I 18), .ref (P 19), .ref (P 20), .ref (P 21)])) := g58_0
              have g58_1 : M54 (P 1) = some (.inl (D.1 102, 48, .inl (A 1))) := g58_1
              have g58_3 : M54 (P 3) = some (.inl (D.1 102, 16, .inl (A 3))) := g58_3
              have g58_4 : M54 (P 4) = some (.inl (D.1 102, 16, .inl (A 4))) := g58_4
              have g58_5 : M54 (P 5) = some (.inl (D.1 101, 16, .inl (A 5))) := g58_5
              have g58_7 : M54 (P 7) = some (.inl (D.1 102, 120, .inl fb)) := g58_7
              have g58_8 : M54 (P 8) = some (.inl (D.1 102, 120, .inl gb)) := g58_8
              have g58_9 : M54 (P 9) = some (.inl (D.1 102, 120, .inl zb)) := g58_9
              have g58_10 : M54 (P 10) = some (.inl (D.1 102, 5760, .inl xb)) := g58_10
              have g58_11 : M54 (P 11) = some (.inl (D.1 102, 48, .inl (A 11))) := g58_11
              have g58_16 : M54 (P 16) = some (.inl (D.1 101, 16, .inl (A 16))) := g58_16
              have g58_17 : M54 (P 17) = some (.inl (D.1 101, 16, .inl (A 17))) := g58_17
              have g58_19 : M54 (P 19) = some (.inl (D.1 101, 2601, .inl (A 19))) := g58_19
              have g58_20 : M54 (P 20) = some (.inl (D.1 102, 52, .inl (A 20))) := g58_20
              have g58_21 : M54 (P 21) = some (.inl (D.1 102, 52, .inl (A 21))) := g58_21
              obtain ⟨x59, ex59⟩ : ∃ y : Int32, y = nI (kq - 1) + (-1) := ⟨_, rfl⟩
              refine lv_iinc (v := x59) (lv' := [(3, .int x59), (0, .ref (P 0)), (1, .int x), (2, .int (nI 0))]) hx hb dd_MO_remove_81 hl (k := 3) rfl (by rw [ex59]; rfl) (by decide) rfl (fun ls hl => ?_)
              refine lv_goto (tgt := 37) hx hb dd_MO_remove_84 (by decide) ?_
              have hl : lv_has ls 4 [(3, .int x59), (0, .ref (P 0)), (1, .int x), (2, .int (nI (bz q)))] := by rw [hq]; exact hl
              have hcn : (bs.take kq ++ (bs.drop kq).filter (fun b => !rm_p x q b)).eraseIdx (kq - 1) = (bs.take (kq - 1) ++ (bs.drop (kq - 1)).filter (fun b => !rm_p x q b)) := rm_drop (by omega) hb1 (by rw [hrm]; rfl)
              have hcl : (bs.take (kq - 1) ++ (bs.drop (kq - 1)).filter (fun b => !rm_p x q b)).length = (bs.take kq ++ (bs.drop kq).filter (fun b => !rm_p x q b)).length - 1 := by rw [← hcn]; exact List.length_eraseIdx_of_lt hkc
              have f60 : M54 (P 0) = some (.inr (6, [.int (nI 0), .ref (P 1), .int (I 2), .ref (P 3), .ref (P 4), .ref (P 5), .int (nI ((bs.take (kq - 1) ++ (bs.drop (kq - 1)).filter (fun b => !rm_p x q b)).length)), .ref (P 7), .ref (P 8), .ref (P 9), .ref (P 10), .ref (P 11), .int (I 12), .int (I 13), .ref (P 14), .ref (P 15), .ref (P 16), .ref (P 17), .int (I 18), .ref (P 19), .ref (P 20), .ref (P 21)])) := g58_0.trans (by rw [hcl])
              exact ih37 (kq - 1) x59 fb gb zb xb M54 (by omega) (by rw [ex59, hi_add (by rw [nI_toInt (by omega)]; show _ ≤ _ + (-1 : Int); omega) (by rw [nI_toInt (by omega)]; show _ + (-1 : Int) < _; omega), nI_toInt (by omega)]; show _ + (-1 : Int) = _; omega) (by rw [← hcn, List.length_eraseIdx_of_lt hkc]; exact hbn) (⟨f60, g58_1, g58_3, g58_4, g58_5, g58_7, g58_8, g58_9, g58_10, g58_11, g58_14, g58_15, g58_16, g58_17, g58_19, g58_20, g58_21, po, pb⟩) (hF57) (by omega) _ _ _ hP hS (lv_sub hl [1, 2, 3, 0] rfl)
            · have hto : bd_to x q b = false := by rw [to_bd q hin bf5]; exact decide_eq_false c50
              refine lv_iload_n hx hb dd_MO_remove_62 rfl (lv_at hl 2 rfl) ?_
              refine hn_if_ne (tgt := 81) hx hb (by omega) dd_MO_remove_63 (by decide) (fun c61 => absurd c61 (by omega)) (fun c61 => ?_)
              refine lv_aload_n hx hb dd_MO_remove_66 rfl (lv_at hl 0 rfl) ?_
              refine hm_get (ci := 6) (C := rn_MO) (T := ft_MO) (N := 22) hx hb hts fi_MO hown hE.K hP g26_0 rfl 7 (by decide) (hts _ tw_993) (fun _ h9 => h9) rfl dd_MO_remove_67 ?_
              refine lv_iload_n hx hb dd_MO_remove_70 rfl (lv_at hl 3 rfl) ?_
              refine hm_iald (j := kq - 1) hx hb hE.K hP 2 g26_7 rfl (vp_in_nI (by omega) (by omega)) (nI_clamp (by omega)) dd_MO_remove_71 ?_
              refine W.eq (g2 := F0 m 72 ls [.int b.1]) (by rw [bf1]) ?_
              refine lv_iload_n hx hb dd_MO_remove_72 rfl (lv_at hl 1 rfl) ?_
              refine hi_icmp_ne (tgt := 81) hx hb dd_MO_remove_73 (by decide) (fun c62 => ?_) (fun c62 => ?_)
              · have hrm : rm_p x q b = false := by rw [rm_p, hto, bd_fr, decide_eq_false (hi_ne c62)]; simp
                obtain ⟨x63, ex63⟩ : ∃ y : Int32, y = nI (kq - 1) + (-1) := ⟨_, rfl⟩
                refine lv_iinc (v := x63) (lv' := [(3, .int x63), (0, .ref (P 0)), (1, .int x), (2, .int (nI 0))]) hx hb dd_MO_remove_81 hl (k := 3) rfl (by rw [ex63]; rfl) (by decide) rfl (fun ls hl => ?_)
                refine lv_goto (tgt := 37) hx hb dd_MO_remove_84 (by decide) ?_
                have hl : lv_has ls 4 [(3, .int x63), (0, .ref (P 0)), (1, .int x), (2, .int (nI (bz q)))] := by rw [hq]; exact hl
                have hcn : (bs.take kq ++ (bs.drop kq).filter (fun b => !rm_p x q b)) = (bs.take (kq - 1) ++ (bs.drop (kq - 1)).filter (fun b => !rm_p x q b)) := rm_keep (by omega) hb1 (by rw [hrm]; rfl)
                have f64 : Mu37 (P 0) = some (.inr (6, [.int (nI 0), .ref (P 1), .int (I 2), .ref (P 3), .ref (P 4), .ref (P 5), .int (nI ((bs.take (kq - 1) ++ (bs.drop (kq - 1)).filter (fun b => !rm_p x q b)).length)), .ref (P 7), .ref (P 8), .ref (P 9), .ref (P 10), .ref (P 11), .int (I 12), .int (I 13), .ref (P 14), .ref (P 15), .ref (P 16), .ref (P 17), .int (I 18), .ref (P 19), .ref (P 20), .ref (P 21)])) := g26_0.trans (by rw [hcn])
                exact ih37 (kq - 1) x63 fa ga za xa Mu37 (by omega) (by rw [ex63, hi_add (by rw [nI_toInt (by omega)]; show _ ≤ _ + (-1 : Int); omega) (by rw [nI_toInt (by omega)]; show _ + (-1 : Int) < _; omega), nI_toInt (by omega)]; show _ + (-1 : Int) = _; omega) (by rw [← hcn]; exact hbc) (⟨f64, g26_1, g26_3, g26_4, g26_5, g26_7, g26_8, g26_9, g26_10, g26_11, g26_14, g26_15, g26_16, g26_17, g26_19, g26_20, g26_21, po, pb⟩) (hF37) (by omega) _ _ _ hP hS (lv_sub hl [1, 2, 3, 0] rfl)
              · have hrm : rm_p x q b = true := by rw [rm_p, hq, bd_fr, decide_eq_true (hi_eq c62)]; simp
                refine lv_aload_n hx hb dd_MO_remove_76 rfl (lv_at hl 0 rfl) ?_
                refine lv_iload_n hx hb dd_MO_remove_77 rfl (lv_at hl 3 rfl) ?_
                have hF66 : cz_F O M O Mu37 pm := hF37
                have hd65 : mo_D B D P O Mu37 (va_up (va_up I 0 (nI 0)) 6 (nI ((bs.take kq ++ (bs.drop kq).filter (fun b => !rm_p x q b)).length))) (va_up (va_up (va_up (va_up A 7 fa) 8 ga) 9 za) 10 xa) L := ⟨g26_0, g26_1, g26_3, g26_4, g26_5, g26_7, g26_8, g26_9, g26_10, g26_11, g26_14, g26_15, g26_16, g26_17, g26_19, g26_20, g26_21, po, pb⟩
                refine hm_cv hS (hm_rV 1 (As := [.int (nI (kq - 1))]) (rest := []) ⟨hx, hb, hml, hown, hts⟩ hE hS hP (kc_MO_drop l B D G Mu37 P O (va_up (va_up I 0 (nI 0)) 6 (nI ((bs.take kq ++ (bs.drop kq).filter (fun b => !rm_p x q b)).length))) (va_up (va_up (va_up (va_up A 7 fa) 8 ga) 9 za) 10 xa) L hd65 (bs.take kq ++ (bs.drop kq).filter (fun b => !rm_p x q b)) hbc (kq - 1) hkc) rfl g26_0 tw_1094 tw_1091 tw_1093 tw_20 tw_46 (by decide +kernel) rfl rfl ⟨by show 0 + 1 ≤ R.frames; omega, by show 8 + (4 + 11) + 0 ≤ R.locals; omega⟩ rfl hl.1 rfl (Nat.le_of_ble_eq_true rfl) dd_MO_remove_78 ⟨by omega, by omega⟩) (fun M68 H locs hw69 hP hS => ?_)
                refine W.widen (k := 0) (n := 0) (by omega) (by omega) ?_
                obtain ⟨fb, gb, zb, xb, hbn, hd70, hF71⟩ := hw69
                have hF71 := hF66.trans hF71
                obtain ⟨g72_0, g72_1, g72_3, g72_4, g72_5, g72_7, g72_8, g72_9, g72_10, g72_11, g72_14, g72_15, g72_16, g72_17, g72_19, g72_20, g72_21, -, -⟩ := id hd70
                have g72_0 : M68 (P 0) = some (.inr (6, [.int (nI 0), .ref (P 1), .int (I 2), .ref (P 3), .ref (P 4), .ref (P 5), .int (nI ((bs.take kq ++ (bs.drop kq).filter (fun b => !rm_p x q b)).length - 1)), .ref (P 7), .ref (P 8), .ref (P 9), .ref (P 10), .ref (P 11), .int (I 12), .int (I 13), .ref (P 14), .ref (P 15), .ref (P 16), .ref (P 17), .int (I 18), .ref (P 19), .ref (P 20), .ref (P 21)])) := g72_0
                have g72_1 : M68 (P 1) = some (.inl (D.1 102, 48, .inl (A 1))) := g72_1
                have g72_3 : M68 (P 3) = some (.inl (D.1 102, 16, .inl (A 3))) := g72_3
                have g72_4 : M68 (P 4) = some (.inl (D.1 102, 16, .inl (A 4))) := g72_4
                have g72_5 : M68 (P 5) = some (.inl (D.1 101, 16, .inl (A 5))) := g72_5
                have g72_7 : M68 (P 7) = some (.inl (D.1 102, 120, .inl fb)) := g72_7
                have g72_8 : M68 (P 8) = some (.inl (D.1 102, 120, .inl gb)) := g72_8
                have g72_9 : M68 (P 9) = some (.inl (D.1 102, 120, .inl zb)) := g72_9
                have g72_10 : M68 (P 10) = some (.inl (D.1 102, 5760, .inl xb)) := g72_10
                have g72_11 : M68 (P 11) = some (.inl (D.1 102, 48, .inl (A 11))) := g72_11
                have g72_16 : M68 (P 16) = some (.inl (D.1 101, 16, .inl (A 16))) := g72_16
                have g72_17 : M68 (P 17) = some (.inl (D.1 101, 16, .inl (A 17))) := g72_17
                have g72_19 : M68 (P 19) = some (.inl (D.1 101, 2601, .inl (A 19))) := g72_19
                have g72_20 : M68 (P 20) = some (.inl (D.1 102, 52, .inl (A 20))) := g72_20
                have g72_21 : M68 (P 21) = some (.inl (D.1 102, 52, .inl (A 21))) := g72_21
                obtain ⟨x73, ex73⟩ : ∃ y : Int32, y = nI (kq - 1) + (-1) := ⟨_, rfl⟩
                refine lv_iinc (v := x73) (lv' := [(3, .int x73), (0, .ref (P 0)), (1, .int x), (2, .int (nI 0))]) hx hb dd_MO_remove_81 hl (k := 3) rfl (by rw [ex73]; rfl) (by decide) rfl (fun ls hl => ?_)
                refine lv_goto (tgt := 37) hx hb dd_MO_remove_84 (by decide) ?_
                have hl : lv_has ls 4 [(3, .int x73), (0, .ref (P 0)), (1, .int x), (2, .int (nI (bz q)))] := by rw [hq]; exact hl
                have hcn : (bs.take kq ++ (bs.drop kq).filter (fun b => !rm_p x q b)).eraseIdx (kq - 1) = (bs.take (kq - 1) ++ (bs.drop (kq - 1)).filter (fun b => !rm_p x q b)) := rm_drop (by omega) hb1 (by rw [hrm]; rfl)
                have hcl : (bs.take (kq - 1) ++ (bs.drop (kq - 1)).filter (fun b => !rm_p x q b)).length = (bs.take kq ++ (bs.drop kq).filter (fun b => !rm_p x q b)).length - 1 := by rw [← hcn]; exact List.length_eraseIdx_of_lt hkc
                have f74 : M68 (P 0) = some (.inr (6, [.int (nI 0), .ref (P 1), .int (I 2), .ref (P 3), .ref (P 4), .ref (P 5), .int (nI ((bs.take (kq - 1) ++ (bs.drop (kq - 1)).filter (fun b => !rm_p x q b)).length)), .ref (P 7), .ref (P 8), .ref (P 9), .ref (P 10), .ref (P 11), .int (I 12), .int (I 13), .ref (P 14), .ref (P 15), .ref (P 16), .ref (P 17), .int (I 18), .ref (P 19), .ref (P 20), .ref (P 21)])) := g72_0.trans (by rw [hcl])
                exact ih37 (kq - 1) x73 fb gb zb xb M68 (by omega) (by rw [ex73, hi_add (by rw [nI_toInt (by omega)]; show _ ≤ _ + (-1 : Int); omega) (by rw [nI_toInt (by omega)]; show _ + (-1 : Int) < _; omega), nI_toInt (by omega)]; show _ + (-1 : Int) = _; omega) (by rw [← hcn, List.length_eraseIdx_of_lt hkc]; exact hbn) (⟨f74, g72_1, g72_3, g72_4, g72_5, g72_7, g72_8, g72_9, g72_10, g72_11, g72_14, g72_15, g72_16, g72_17, g72_19, g72_20, g72_21, po, pb⟩) (hF71) (by omega) _ _ _ hP hS (lv_sub hl [1, 2, 3, 0] rfl)
      have hcl0 : (bs.take bs.length ++ (bs.drop bs.length).filter (fun b => !rm_p x q b)) = bs := by rw [List.take_of_length_le (Nat.le_refl _), List.drop_of_length_le (Nat.le_refl _)]; exact List.append_nil _
      have f75 : M1 (P 0) = some (.inr (6, [.int (nI 0), .ref (P 1), .int (I 2), .ref (P 3), .ref (P 4), .ref (P 5), .int (nI ((bs.take bs.length ++ (bs.drop bs.length).filter (fun b => !rm_p x q b)).length)), .ref (P 7), .ref (P 8), .ref (P 9), .ref (P 10), .ref (P 11), .int (I 12), .int (I 13), .ref (P 14), .ref (P 15), .ref (P 16), .ref (P 17), .int (I 18), .ref (P 19), .ref (P 20), .ref (P 21)])) := f18.trans (by rw [bi1, hcl0])
      have kk76 : hm_k M M [(P 0)] := hm_krf
      have kk77 : hm_k M M1 [(P 0)] := hm_ku kk76 (Or.inr (by simp)) eM1
      exact lp37 _ bs.length x25 (A 7) (A 8) (A 9) (A 10) M1 (Nat.le_refl _) (by rw [ex25, hi_sub (by rw [nI_toInt (by omega), t1]; omega) (by rw [nI_toInt (by omega), t1]; omega), nI_toInt (by omega), t1]) (by rw [hcl0, ← bi1]; exact hB) (⟨f75, f2, f3, f4, f5, f6, f7, f8, f9, f10, f11, f12, f13, f14, f15, f16, f17, po, pb⟩) (cz_F.k0 kk77 (hm_a1 ⟨by rw [po 0 (by decide)]; unfold pm; omega, _, f75⟩)) (Nat.lt_succ_self _) _ _ _ hP hS (lv_sub hl [1, 2, 3, 0] rfl)
    · have hth : th_at ex qs x q = false := by rw [th_at, hq]; exact bz_f c24
      
      refine lv_iconst (v := nI 0) hx hb dd_MO_remove_28 (by decide +kernel) ?_
      have kk78 : hm_k M M [(P 0)] := hm_krf
      have kk79 : hm_k M M1 [(P 0)] := hm_ku kk78 (Or.inr (by simp)) eM1
      exact hm_Ei (v := nI 0) hx hb hr rfl hS hP (⟨bz_0 hth, (va_up I 0 (nI 0)), A, L, ⟨f18, f2, f3, f4, f5, f6, f7, f8, f9, f10, f11, f12, f13, f14, f15, f16, f17, po, pb⟩, rfl, ⟨hT, by rw [rm_e, if_neg (by rw [hth]; simp)]; exact hX, by rw [rm_q, if_neg (by rw [hth]; simp)]; exact hQ, by rw [rm_b, if_neg (by rw [hth]; decide)]; exact hB, hK, hH, hFo, hPs⟩, cz_F.k0 kk79 (hm_a1 ⟨by rw [po 0 (by decide)]; unfold pm; omega, _, f18⟩)⟩) hlocks (by omega) (by omega) dd_MO_remove_29
  · have hq := bz_t c19
    refine lv_aload_n hx hb dd_MO_remove_9 rfl (lv_at hl 0 rfl) ?_
    refine lv_iload_n hx hb dd_MO_remove_10 rfl (lv_at hl 1 rfl) ?_
    have hd80 : mo_D B D P O M1 (va_up I 0 (nI 0)) A L := ⟨f18, f2, f3, f4, f5, f6, f7, f8, f9, f10, f11, f12, f13, f14, f15, f16, f17, po, pb⟩
    refine hm_ci hS (hm_rV 1 (As := [.int x]) (rest := []) ⟨hx, hb, hml, hown, hts⟩ hE hS hP (kc_MO_isQueue l B D G M1 P O (va_up I 0 (nI 0)) A L hd80 qs hQ x) rfl f18 tw_1090 tw_1087 tw_1089 tw_19 tw_46 (by decide +kernel) rfl rfl ⟨by show 0 + 1 ≤ R.frames; omega, by show 8 + (2 + 11) + 0 ≤ R.locals; omega⟩ rfl hl.1 rfl (Nat.le_of_ble_eq_true rfl) dd_MO_remove_11 ⟨by omega, by omega⟩) (fun r81 M82 H locs hw83 hP hS => ?_)
    refine W.widen (k := 0) (n := 0) (by omega) (by omega) ?_
    obtain ⟨hrM82, eM82⟩ := hw83
    rw [eM82] at hP
    obtain rfl : r81 = nI (bz (qu_at qs x)) := hrM82
    refine hn_if_ne (tgt := 30) hx hb (bz_b _) dd_MO_remove_14 (by decide) (fun c84 => ?_) (fun c84 => ?_)
    · have hth : th_at ex qs x q = true := by rw [th_at, hq]; exact bz_t c84
      have hin := th_in hth
      have hin1 := hin.1
      have hin2 := hin.2
      refine lv_aload_n hx hb dd_MO_remove_30 rfl (lv_at hl 0 rfl) ?_
      refine hm_get (ci := 6) (C := rn_MO) (T := ft_MO) (N := 22) hx hb hts fi_MO hown hE.K hP f18 rfl 6 (by decide) (hts _ tw_992) (fun _ h9 => h9) rfl dd_MO_remove_31 ?_
      refine W.eq (g2 := F0 m 34 ls [.int (nI bs.length)]) (by rw [bi1]) ?_
      refine lv_iconst (v := nI 1) hx hb dd_MO_remove_34 (by decide +kernel) ?_
      refine lv_isub hx hb dd_MO_remove_35 ?_
      refine lv_topi (fun x85 ex85 => ?_)
      refine lv_istore_n (lv' := [(3, .int x85), (0, .ref (P 0)), (1, .int x), (2, .int (nI (bz q)))]) hx hb dd_MO_remove_36 rfl hl (by decide) rfl (fun ls hl => ?_)
      have lp37 : ∀ (n9 : Nat) (kq : Nat) (y9 : Int32) (fa : Nat → Int32) (ga : Nat → Int32) (za : Nat → Int32) (xa : Nat → Int32) (Mu37 : hm_M), (kq ≤ bs.length) → (y9.toInt = (kq : Int) - 1) → (bdS (nI (bs.take kq ++ (bs.drop kq).filter (fun b => !rm_p x q b)).length) fa ga za xa (bs.take kq ++ (bs.drop kq).filter (fun b => !rm_p x q b))) → (mo_D B D P O Mu37 (va_up (va_up I 0 (nI 0)) 6 (nI ((bs.take kq ++ (bs.drop kq).filter (fun b => !rm_p x q b)).length))) (va_up (va_up (va_up (va_up A 7 fa) 8 ga) 9 za) 10 xa) L) → (cz_F O M O Mu37 pm) → kq < n9 → ∀ (H : Heap) (locs : List Loc) (ls : Array Slot), hm_P D cl_W Mu37 H → va_S (hm_A B) s.heap H locs → lv_has ls 4 [(0, .ref (P 0)), (1, .int x), (2, .int (nI (bz q))), (3, .int y9)] → W p l e R s m ([.ref (P 0), .int x, .int (nI (bz q))] : List Value).toArray below meth c H locs (0) (0) (MQ below (hm_Ni B D (fun r M1 => r = nI (bz (th_at ex qs x q)) ∧ ∃ I1 A1 L1, mo_D B D P O M1 I1 A1 L1 ∧ I1 0 = nI 0 ∧ mo_S I1 A1 L1 t (rm_e ex qs x q) (rm_q ex qs x q) (rm_b ex qs bs x q) key hs fo ps ∧ cz_F O M O M1 pm)) ([.ref (P 0), .int x, .int (nI (bz q))] : List Value).toArray s (0) (0) (hm_A B)) (F0 m 37 ls []) := by
        intro n9
        induction n9 with
        | zero => intro kq y9 fa ga za xa Mu37 hkq hy9 hbc hd37 hF37 hm; exact absurd hm (Nat.not_lt_zero _)
        | succ n9 ih37 =>
          intro kq y9 fa ga za xa Mu37 hkq hy9 hbc hd37 hF37 hm H locs ls hP hS hl
          obtain ⟨g86_0, g86_1, g86_3, g86_4, g86_5, g86_7, g86_8, g86_9, g86_10, g86_11, g86_14, g86_15, g86_16, g86_17, g86_19, g86_20, g86_21, -, -⟩ := id hd37
          have g86_0 : Mu37 (P 0) = some (.inr (6, [.int (nI 0), .ref (P 1), .int (I 2), .ref (P 3), .ref (P 4), .ref (P 5), .int (nI ((bs.take kq ++ (bs.drop kq).filter (fun b => !rm_p x q b)).length)), .ref (P 7), .ref (P 8), .ref (P 9), .ref (P 10), .ref (P 11), .int (I 12), .int (I 13), .ref (P 14), .ref (P 15), .ref (P 16), .ref (P 17), .int (I 18), .ref (P 19), .ref (P 20), .ref (P 21)])) := g86_0
          have g86_1 : Mu37 (P 1) = some (.inl (D.1 102, 48, .inl (A 1))) := g86_1
          have g86_3 : Mu37 (P 3) = some (.inl (D.1 102, 16, .inl (A 3))) := g86_3
          have g86_4 : Mu37 (P 4) = some (.inl (D.1 102, 16, .inl (A 4))) := g86_4
          have g86_5 : Mu37 (P 5) = some (.inl (D.1 101, 16, .inl (A 5))) := g86_5
          have g86_7 : Mu37 (P 7) = some (.inl (D.1 102, 120, .inl fa)) := g86_7
          have g86_8 : Mu37 (P 8) = some (.inl (D.1 102, 120, .inl ga)) := g86_8
          have g86_9 : Mu37 (P 9) = some (.inl (D.1 102, 120, .inl za)) := g86_9
          have g86_10 : Mu37 (P 10) = some (.inl (D.1 102, 5760, .inl xa)) := g86_10
          have g86_11 : Mu37 (P 11) = some (.inl (D.1 102, 48, .inl (A 11))) := g86_11
          have g86_16 : Mu37 (P 16) = some (.inl (D.1 101, 16, .inl (A 16))) := g86_16
          have g86_17 : Mu37 (P 17) = some (.inl (D.1 101, 16, .inl (A 17))) := g86_17
          have g86_19 : Mu37 (P 19) = some (.inl (D.1 101, 2601, .inl (A 19))) := g86_19
          have g86_20 : Mu37 (P 20) = some (.inl (D.1 102, 52, .inl (A 20))) := g86_20
          have g86_21 : Mu37 (P 21) = some (.inl (D.1 102, 52, .inl (A 21))) := g86_21
          refine lv_iload_n hx hb dd_MO_remove_37 rfl (lv_at hl 3 rfl) ?_
          refine hi_if_lt (tgt := 87) hx hb dd_MO_remove_38 (by decide) (fun c87 => ?_) (fun c87 => ?_)
          · have hl : lv_has ls 4 [(0, .ref (P 0)), (1, .int x), (2, .int (nI 1)), (3, .int y9)] := by rw [hq] at hl; exact hl
            refine lv_iload_n hx hb dd_MO_remove_87 rfl (lv_at hl 2 rfl) ?_
            refine hn_if_eq (tgt := 101) hx hb (by omega) dd_MO_remove_88 (by decide) (fun c88 => absurd c88 (by omega)) (fun c88 => ?_)
            refine lv_aload_n hx hb dd_MO_remove_91 rfl (lv_at hl 0 rfl) ?_
            refine hm_get (ci := 6) (C := rn_MO) (T := ft_MO) (N := 22) hx hb hts fi_MO hown hE.K hP g86_0 rfl 5 (by decide) (hts _ tw_991) (fun _ h9 => h9) rfl dd_MO_remove_92 ?_
            refine lv_iload_n hx hb dd_MO_remove_95 rfl (lv_at hl 1 rfl) ?_
            refine lv_iconst (v := nI 0) hx hb dd_MO_remove_96 (by decide +kernel) ?_
            refine hm_zast (y := nI (bz false)) (j := x.toInt.toNat) hx hb hE.K hP hS (pb 5 (by decide)) 1 g86_5 rfl (hi_in (by omega) (by omega)) hi_clamp rfl dd_MO_remove_97 (fun H locs hP hS => ?_)
            obtain ⟨M89, eM89⟩ : ∃ z, z = hm_up Mu37 (P 5) (.inl (D.1 101, 16, .inl (upd (A 5) x.toInt.toNat (nI (bz false))))) := ⟨_, rfl⟩
            rw [← eM89] at hP
            have f90 : M89 (P 0) = some (.inr (6, [.int (nI 0), .ref (P 1), .int (I 2), .ref (P 3), .ref (P 4), .ref (P 5), .int (nI ((bs.take kq ++ (bs.drop kq).filter (fun b => !rm_p x q b)).length)), .ref (P 7), .ref (P 8), .ref (P 9), .ref (P 10), .ref (P 11), .int (I 12), .int (I 13), .ref (P 14), .ref (P 15), .ref (P 16), .ref (P 17), .int (I 18), .ref (P 19), .ref (P 20), .ref (P 21)])) := by rw [eM89]; exact hm_up_o (hm_neO (po 0 (by decide)) (po 5 (by decide)) (by decide)) g86_0
            have f91 : M89 (P 1) = some (.inl (D.1 102, 48, .inl (A 1))) := by rw [eM89]; exact hm_up_o (hm_neO (po 1 (by decide)) (po 5 (by decide)) (by decide)) g86_1
            have f92 : M89 (P 3) = some (.inl (D.1 102, 16, .inl (A 3))) := by rw [eM89]; exact hm_up_o (hm_neO (po 3 (by decide)) (po 5 (by decide)) (by decide)) g86_3
            have f93 : M89 (P 4) = some (.inl (D.1 102, 16, .inl (A 4))) := by rw [eM89]; exact hm_up_o (hm_neO (po 4 (by decide)) (po 5 (by decide)) (by decide)) g86_4
            have f94 : M89 (P 7) = some (.inl (D.1 102, 120, .inl fa)) := by rw [eM89]; exact hm_up_o (hm_neO (po 7 (by decide)) (po 5 (by decide)) (by decide)) g86_7
            have f95 : M89 (P 8) = some (.inl (D.1 102, 120, .inl ga)) := by rw [eM89]; exact hm_up_o (hm_neO (po 8 (by decide)) (po 5 (by decide)) (by decide)) g86_8
            have f96 : M89 (P 9) = some (.inl (D.1 102, 120, .inl za)) := by rw [eM89]; exact hm_up_o (hm_neO (po 9 (by decide)) (po 5 (by decide)) (by decide)) g86_9
            have f97 : M89 (P 10) = some (.inl (D.1 102, 5760, .inl xa)) := by rw [eM89]; exact hm_up_o (hm_neO (po 10 (by decide)) (po 5 (by decide)) (by decide)) g86_10
            have f98 : M89 (P 11) = some (.inl (D.1 102, 48, .inl (A 11))) := by rw [eM89]; exact hm_up_o (hm_neO (po 11 (by decide)) (po 5 (by decide)) (by decide)) g86_11
            have f99 : M89 (P 14) = some (.inl (D.1 103, 6, .inr (.inl (L 14)))) := by rw [eM89]; exact hm_up_o (hm_neO (po 14 (by decide)) (po 5 (by decide)) (by decide)) g86_14
            have f100 : M89 (P 15) = some (.inl (D.1 103, 6, .inr (.inl (L 15)))) := by rw [eM89]; exact hm_up_o (hm_neO (po 15 (by decide)) (po 5 (by decide)) (by decide)) g86_15
            have f101 : M89 (P 16) = some (.inl (D.1 101, 16, .inl (A 16))) := by rw [eM89]; exact hm_up_o (hm_neO (po 16 (by decide)) (po 5 (by decide)) (by decide)) g86_16
            have f102 : M89 (P 17) = some (.inl (D.1 101, 16, .inl (A 17))) := by rw [eM89]; exact hm_up_o (hm_neO (po 17 (by decide)) (po 5 (by decide)) (by decide)) g86_17
            have f103 : M89 (P 19) = some (.inl (D.1 101, 2601, .inl (A 19))) := by rw [eM89]; exact hm_up_o (hm_neO (po 19 (by decide)) (po 5 (by decide)) (by decide)) g86_19
            have f104 : M89 (P 20) = some (.inl (D.1 102, 52, .inl (A 20))) := by rw [eM89]; exact hm_up_o (hm_neO (po 20 (by decide)) (po 5 (by decide)) (by decide)) g86_20
            have f105 : M89 (P 21) = some (.inl (D.1 102, 52, .inl (A 21))) := by rw [eM89]; exact hm_up_o (hm_neO (po 21 (by decide)) (po 5 (by decide)) (by decide)) g86_21
            have f106 : M89 (P 5) = some (.inl (D.1 101, 16, .inl (upd (A 5) x.toInt.toNat (nI (bz false))))) := by rw [eM89]; exact hm_up_s
            refine lv_goto (tgt := 108) hx hb dd_MO_remove_98 (by decide) ?_
            refine lv_iconst (v := nI 1) hx hb dd_MO_remove_108 (by decide +kernel) ?_
            have hk0 : kq = 0 := by omega
            have hcf : bs.filter (fun b => !rm_p x q b) = (bs.take kq ++ (bs.drop kq).filter (fun b => !rm_p x q b)) := by rw [hk0, List.take_zero, List.nil_append, List.drop_zero]
            have kk107 : hm_k Mu37 Mu37 [(P 5)] := hm_krf
            have kk108 : hm_k Mu37 M89 [(P 5)] := hm_ku kk107 (Or.inr (by simp)) eM89
            exact hm_Ei (v := nI 1) hx hb hr rfl hS hP (⟨bz_1 hth, (va_up (va_up I 0 (nI 0)) 6 (nI ((bs.take kq ++ (bs.drop kq).filter (fun b => !rm_p x q b)).length))), (va_up (va_up (va_up (va_up (va_up A 5 (upd (A 5) x.toInt.toNat (nI (bz false)))) 7 fa) 8 ga) 9 za) 10 xa), L, ⟨f90, f91, f92, f93, f106, f94, f95, f96, f97, f98, f99, f100, f101, f102, f103, f104, f105, po, pb⟩, rfl, ⟨hT, by rw [rm_e, if_neg (by rw [hq]; simp)]; exact hX, by show upd (A 5) _ (nI (bz false)) = _; rw [rm_q, if_pos ⟨hth, hq⟩, hQ]; exact bz_up qs _ false, by rw [rm_b, if_pos hth, hcf]; exact hbc, hK, hH, hFo, hPs⟩, (hF37).trans (cz_F.k0 kk108 (hm_a1 ⟨by rw [po 5 (by decide)]; unfold pm; omega, _, f106⟩))⟩) hlocks (by omega) (by omega) dd_MO_remove_109
          · obtain rfl : y9 = nI (kq - 1) := by
              have h9 := hi_nI (x := y9) (by omega)
              rw [h9, show y9.toInt.toNat = kq - 1 by omega]
            obtain ⟨b, hb1⟩ : ∃ b, bs[kq - 1]? = some b := ⟨_, List.getElem?_eq_getElem (by omega)⟩
            have hbc1 : (bs.take kq ++ (bs.drop kq).filter (fun b => !rm_p x q b))[kq - 1]? = some b := by rw [List.getElem?_append_left (by rw [List.length_take]; omega), List.getElem?_take, if_pos (by omega)]; exact hb1
            have hkc := (List.getElem?_eq_some_iff.mp hbc1).1
            obtain ⟨bf1, bf2, ⟨bt1, bt2, bt3, bt4⟩, bf4, bf5⟩ := hbc.2.2 (kq - 1) b hbc1
            have hcl120 := hbc.2.1
            have hl : lv_has ls 4 [(0, .ref (P 0)), (1, .int x), (2, .int (nI 1)), (3, .int (nI (kq - 1)))] := by rw [hq] at hl; exact hl
            refine lv_aload_n hx hb dd_MO_remove_41 rfl (lv_at hl 0 rfl) ?_
            refine hm_get (ci := 6) (C := rn_MO) (T := ft_MO) (N := 22) hx hb hts fi_MO hown hE.K hP g86_0 rfl 8 (by decide) (hts _ tw_994) (fun _ h9 => h9) rfl dd_MO_remove_42 ?_
            refine lv_iload_n hx hb dd_MO_remove_45 rfl (lv_at hl 3 rfl) ?_
            refine hm_iald (j := kq - 1) hx hb hE.K hP 2 g86_8 rfl (vp_in_nI (by omega) (by omega)) (nI_clamp (by omega)) dd_MO_remove_46 ?_
            refine W.eq (g2 := F0 m 47 ls [.int (to_I b.2.1 b.2.2.1)]) (by rw [bf2]) ?_
            refine lv_iload_n hx hb dd_MO_remove_47 rfl (lv_at hl 2 rfl) ?_
            refine hn_if_eq (tgt := 58) hx hb (by omega) dd_MO_remove_48 (by decide) (fun c109 => absurd c109 (by omega)) (fun c109 => ?_)
            refine lv_bipush (v := nI 16) hx hb dd_MO_remove_51 (by decide +kernel) ?_
            refine lv_iload_n hx hb dd_MO_remove_53 rfl (lv_at hl 1 rfl) ?_
            refine lv_iadd hx hb dd_MO_remove_54 ?_
            refine lv_topi (fun x110 ex110 => ?_)
            refine lv_goto (tgt := 59) hx hb dd_MO_remove_55 (by decide) ?_
            refine W.eq (g2 := F0 m 59 ls [.int (to_I x q), .int (to_I b.2.1 b.2.2.1)]) (by rw [show to_I x q = x110 by rw [hq, ex110]; rfl]) ?_
            refine hi_icmp_eq (tgt := 76) hx hb dd_MO_remove_59 (by decide) (fun c111 => ?_) (fun c111 => ?_)
            · have hrm : rm_p x q b = true := by rw [rm_p, to_bd q hin bf5, decide_eq_true c111]; rfl
              refine lv_aload_n hx hb dd_MO_remove_76 rfl (lv_at hl 0 rfl) ?_
              refine lv_iload_n hx hb dd_MO_remove_77 rfl (lv_at hl 3 rfl) ?_
              have hF113 : cz_F O M O Mu37 pm := hF37
              have hd112 : mo_D B D P O Mu37 (va_up (va_up I 0 (nI 0)) 6 (nI ((bs.take kq ++ (bs.drop kq).filter (fun b => !rm_p x q b)).length))) (va_up (va_up (va_up (va_up A 7 fa) 8 ga) 9 za) 10 xa) L := ⟨g86_0, g86_1, g86_3, g86_4, g86_5, g86_7, g86_8, g86_9, g86_10, g86_11, g86_14, g86_15, g86_16, g86_17, g86_19, g86_20, g86_21, po, pb⟩
              refine hm_cv hS (hm_rV 1 (As := [.int (nI (kq - 1))]) (rest := []) ⟨hx, hb, hml, hown, hts⟩ hE hS hP (kc_MO_drop l B D G Mu37 P O (va_up (va_up I 0 (nI 0)) 6 (nI ((bs.take kq ++ (bs.drop kq).filter (fun b => !rm_p x q b)).length))) (va_up (va_up (va_up (va_up A 7 fa) 8 ga) 9 za) 10 xa) L hd112 (bs.take kq ++ (bs.drop kq).filter (fun b => !rm_p x q b)) hbc (kq - 1) hkc) rfl g86_0 tw_1094 tw_1091 tw_1093 tw_20 tw_46 (by decide +kernel) rfl rfl ⟨by show 0 + 1 ≤ R.frames; omega, by show 8 + (4 + 11) + 0 ≤ R.locals; omega⟩ rfl hl.1 rfl (Nat.le_of_ble_eq_true rfl) dd_MO_remove_78 ⟨by omega, by omega⟩) (fun M115 H locs hw116 hP hS => ?_)
              refine W.widen (k := 0) (n := 0) (by omega) (by omega) ?_
              obtain ⟨fb, gb, zb, xb, hbn, hd117, hF118⟩ := hw116
              have hF118 := hF113.trans hF118
              obtain ⟨g119_0, g119_1, g119_3, g119_4, g119_5, g119_7, g119_8, g119_9, g119_10, g119_11, g119_14, g119_15, g119_16, g119_17, g119_19, g119_20, g119_21, -, -⟩ := id hd117
              have g119_0 : M115 (P 0) = some (.inr (6, [.int (nI 0), .ref (P 1), .int (I 2), .ref (P 3), .ref (P 4), .ref (P 5), .int (nI ((bs.take kq ++ (bs.drop kq).filter (fun b => !rm_p x q b)).length - 1)), .ref (P 7), .ref (P 8), .ref (P 9), .ref (P 10), .ref (P 11), .int (I 12), .int (I 13), .ref (P 14), .ref (P 15), .ref (P 16), .ref (P 17), .int (I 18), .ref (P 19), .ref (P 20), .ref (P 21)])) := g119_0
              have g119_1 : M115 (P 1) = some (.inl (D.1 102, 48, .inl (A 1))) := g119_1
              have g119_3 : M115 (P 3) = some (.inl (D.1 102, 16, .inl (A 3))) := g119_3
              have g119_4 : M115 (P 4) = some (.inl (D.1 102, 16, .inl (A 4))) := g119_4
              have g119_5 : M115 (P 5) = some (.inl (D.1 101, 16, .inl (A 5))) := g119_5
              have g119_7 : M115 (P 7) = some (.inl (D.1 102, 120, .inl fb)) := g119_7
              have g119_8 : M115 (P 8) = some (.inl (D.1 102, 120, .inl gb)) := g119_8
              have g119_9 : M115 (P 9) = some (.inl (D.1 102, 120, .inl zb)) := g119_9
              have g119_10 : M115 (P 10) = some (.inl (D.1 102, 5760, .inl xb)) := g119_10
              have g119_11 : M115 (P 11) = some (.inl (D.1 102, 48, .inl (A 11))) := g119_11
              have g119_16 : M115 (P 16) = some (.inl (D.1 101, 16, .inl (A 16))) := g119_16
              have g119_17 : M115 (P 17) = some (.inl (D.1 101, 16, .inl (A 17))) := g119_17
              have g119_19 : M115 (P 19) = some (.inl (D.1 101, 2601, .inl (A 19))) := g119_19
              have g119_20 : M115 (P 20) = some (.inl (D.1 102, 52, .inl (A 20))) := g119_20
              have g119_21 : M115 (P 21) = some (.inl (D.1 102, 52, .inl (A 21))) := g119_21
              obtain ⟨x120, ex120⟩ : ∃ y : Int32, y = nI (kq - 1) + (-1) := ⟨_, rfl⟩
              refine lv_iinc (v := x120) (lv' := [(3, .int x120), (0, .ref (P 0)), (1, .int x), (2, .int (nI 1))]) hx hb dd_MO_remove_81 hl (k := 3) rfl (by rw [ex120]; rfl) (by decide) rfl (fun ls hl => ?_)
              refine lv_goto (tgt := 37) hx hb dd_MO_remove_84 (by decide) ?_
              have hl : lv_has ls 4 [(3, .int x120), (0, .ref (P 0)), (1, .int x), (2, .int (nI (bz q)))] := by rw [hq]; exact hl
              have hcn : (bs.take kq ++ (bs.drop kq).filter (fun b => !rm_p x q b)).eraseIdx (kq - 1) = (bs.take (kq - 1) ++ (bs.drop (kq - 1)).filter (fun b => !rm_p x q b)) := rm_drop (by omega) hb1 (by rw [hrm]; rfl)
              have hcl : (bs.take (kq - 1) ++ (bs.drop (kq - 1)).filter (fun b => !rm_p x q b)).length = (bs.take kq ++ (bs.drop kq).filter (fun b => !rm_p x q b)).length - 1 := by rw [← hcn]; exact List.length_eraseIdx_of_lt hkc
              have f121 : M115 (P 0) = some (.inr (6, [.int (nI 0), .ref (P 1), .int (I 2), .ref (P 3), .ref (P 4), .ref (P 5), .int (nI ((bs.take (kq - 1) ++ (bs.drop (kq - 1)).filter (fun b => !rm_p x q b)).length)), .ref (P 7), .ref (P 8), .ref (P 9), .ref (P 10), .ref (P 11), .int (I 12), .int (I 13), .ref (P 14), .ref (P 15), .ref (P 16), .ref (P 17), .int (I 18), .ref (P 19), .ref (P 20), .ref (P 21)])) := g119_0.trans (by rw [hcl])
              exact ih37 (kq - 1) x120 fb gb zb xb M115 (by omega) (by rw [ex120, hi_add (by rw [nI_toInt (by omega)]; show _ ≤ _ + (-1 : Int); omega) (by rw [nI_toInt (by omega)]; show _ + (-1 : Int) < _; omega), nI_toInt (by omega)]; show _ + (-1 : Int) = _; omega) (by rw [← hcn, List.length_eraseIdx_of_lt hkc]; exact hbn) (⟨f121, g119_1, g119_3, g119_4, g119_5, g119_7, g119_8, g119_9, g119_10, g119_11, g119_14, g119_15, g119_16, g119_17, g119_19, g119_20, g119_21, po, pb⟩) (hF118) (by omega) _ _ _ hP hS (lv_sub hl [1, 2, 3, 0] rfl)
            · have hto : bd_to x q b = false := by rw [to_bd q hin bf5]; exact decide_eq_false c111
              refine lv_iload_n hx hb dd_MO_remove_62 rfl (lv_at hl 2 rfl) ?_
              refine hn_if_ne (tgt := 81) hx hb (by omega) dd_MO_remove_63 (by decide) (fun c122 => ?_) (fun c122 => absurd c122 (by omega))
              have hrm : rm_p x q b = false := by rw [rm_p, hto, hq]; rfl
              obtain ⟨x123, ex123⟩ : ∃ y : Int32, y = nI (kq - 1) + (-1) := ⟨_, rfl⟩
              refine lv_iinc (v := x123) (lv' := [(3, .int x123), (0, .ref (P 0)), (1, .int x), (2, .int (nI 1))]) hx hb dd_MO_remove_81 hl (k := 3) rfl (by rw [ex123]; rfl) (by decide) rfl (fun ls hl => ?_)
              refine lv_goto (tgt := 37) hx hb dd_MO_remove_84 (by decide) ?_
              have hl : lv_has ls 4 [(3, .int x123), (0, .ref (P 0)), (1, .int x), (2, .int (nI (bz q)))] := by rw [hq]; exact hl
              have hcn : (bs.take kq ++ (bs.drop kq).filter (fun b => !rm_p x q b)) = (bs.take (kq - 1) ++ (bs.drop (kq - 1)).filter (fun b => !rm_p x q b)) := rm_keep (by omega) hb1 (by rw [hrm]; rfl)
              have f124 : Mu37 (P 0) = some (.inr (6, [.int (nI 0), .ref (P 1), .int (I 2), .ref (P 3), .ref (P 4), .ref (P 5), .int (nI ((bs.take (kq - 1) ++ (bs.drop (kq - 1)).filter (fun b => !rm_p x q b)).length)), .ref (P 7), .ref (P 8), .ref (P 9), .ref (P 10), .ref (P 11), .int (I 12), .int (I 13), .ref (P 14), .ref (P 15), .ref (P 16), .ref (P 17), .int (I 18), .ref (P 19), .ref (P 20), .ref (P 21)])) := g86_0.trans (by rw [hcn])
              exact ih37 (kq - 1) x123 fa ga za xa Mu37 (by omega) (by rw [ex123, hi_add (by rw [nI_toInt (by omega)]; show _ ≤ _ + (-1 : Int); omega) (by rw [nI_toInt (by omega)]; show _ + (-1 : Int) < _; omega), nI_toInt (by omega)]; show _ + (-1 : Int) = _; omega) (by rw [← hcn]; exact hbc) (⟨f124, g86_1, g86_3, g86_4, g86_5, g86_7, g86_8, g86_9, g86_10, g86_11, g86_14, g86_15, g86_16, g86_17, g86_19, g86_20, g86_21, po, pb⟩) (hF37) (by omega) _ _ _ hP hS (lv_sub hl [1, 2, 3, 0] rfl)
      have hcl0 : (bs.take bs.length ++ (bs.drop bs.length).filter (fun b => !rm_p x q b)) = bs := by rw [List.take_of_length_le (Nat.le_refl _), List.drop_of_length_le (Nat.le_refl _)]; exact List.append_nil _
      have f125 : M1 (P 0) = some (.inr (6, [.int (nI 0), .ref (P 1), .int (I 2), .ref (P 3), .ref (P 4), .ref (P 5), .int (nI ((bs.take bs.length ++ (bs.drop bs.length).filter (fun b => !rm_p x q b)).length)), .ref (P 7), .ref (P 8), .ref (P 9), .ref (P 10), .ref (P 11), .int (I 12), .int (I 13), .ref (P 14), .ref (P 15), .ref (P 16), .ref (P 17), .int (I 18), .ref (P 19), .ref (P 20), .ref (P 21)])) := f18.trans (by rw [bi1, hcl0])
      have kk126 : hm_k M M [(P 0)] := hm_krf
      have kk127 : hm_k M M1 [(P 0)] := hm_ku kk126 (Or.inr (by simp)) eM1
      exact lp37 _ bs.length x85 (A 7) (A 8) (A 9) (A 10) M1 (Nat.le_refl _) (by rw [ex85, hi_sub (by rw [nI_toInt (by omega), t1]; omega) (by rw [nI_toInt (by omega), t1]; omega), nI_toInt (by omega), t1]) (by rw [hcl0, ← bi1]; exact hB) (⟨f125, f2, f3, f4, f5, f6, f7, f8, f9, f10, f11, f12, f13, f14, f15, f16, f17, po, pb⟩) (cz_F.k0 kk127 (hm_a1 ⟨by rw [po 0 (by decide)]; unfold pm; omega, _, f125⟩)) (Nat.lt_succ_self _) _ _ _ hP hS (lv_sub hl [1, 2, 3, 0] rfl)
    · have hth : th_at ex qs x q = false := by rw [th_at, hq]; exact bz_f c84
      
      refine lv_goto (tgt := 28) hx hb dd_MO_remove_17 (by decide) ?_
      refine lv_iconst (v := nI 0) hx hb dd_MO_remove_28 (by decide +kernel) ?_
      have kk128 : hm_k M M [(P 0)] := hm_krf
      have kk129 : hm_k M M1 [(P 0)] := hm_ku kk128 (Or.inr (by simp)) eM1
      exact hm_Ei (v := nI 0) hx hb hr rfl hS hP (⟨bz_0 hth, (va_up I 0 (nI 0)), A, L, ⟨f18, f2, f3, f4, f5, f6, f7, f8, f9, f10, f11, f12, f13, f14, f15, f16, f17, po, pb⟩, rfl, ⟨hT, by rw [rm_e, if_neg (by rw [hth]; simp)]; exact hX, by rw [rm_q, if_neg (by rw [hth]; simp)]; exact hQ, by rw [rm_b, if_neg (by rw [hth]; decide)]; exact hB, hK, hH, hFo, hPs⟩, cz_F.k0 kk129 (hm_a1 ⟨by rw [po 0 (by decide)]; unfold pm; omega, _, f18⟩)⟩) hlocks (by omega) (by omega) dd_MO_remove_29
