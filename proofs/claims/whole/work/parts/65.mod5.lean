/-! bind, header -/
theorem rs_nm2 {t : List Nat} {b e i : Nat} (h : rn_E ch_small t b e) (hei : e ≤ i) (hil : i ≤ t.length) :
    nm_ok (pr_nm (tx_sl t b i)) = (decide (1 ≤ e - b ∧ e - b < 7) && decide (e = i ∨ t.getD e 0 = 61)) ∧ ((e = i ∨ t.getD e 0 = 61) → pr_nm (tx_sl t b i) = tx_sl t b e ∧ pr_vl (tx_sl t b i) = tx_sl t e i) := by
  have h61 : ∀ j, b ≤ j → j < e → ¬ t.getD j 0 = 61 := fun j h1 h2 h3 => by
    have := h.2.2.1 j h1 h2
    rw [h3, sm_61] at this; cases this
  by_cases hc : e = i ∨ t.getD e 0 = 61
  · have hq := pr_take h.1 hei hil h61 (fun h9 => hc.resolve_left (by omega))
    refine ⟨?_, fun _ => hq⟩
    rw [hq.1, nm_ok, tx_sl_len (by omega), tx_all (by omega) h.2.2.1, decide_eq_true hc]
    congr 1
    rw [decide_eq_decide]; omega
  · refine ⟨?_, fun h9 => absurd h9 hc⟩
    rw [decide_eq_false hc, Bool.and_false]
    obtain ⟨k, k1, k2, k3, k4⟩ := rn_ex (fun c => c != 61) (t.take i) _ b (Nat.le_refl _) (by rw [List.length_take]; have := h.1; omega)
    have hl : (t.take i).length = i := by rw [List.length_take]; omega
    have hg : ∀ j, j < i → (t.take i).getD j 0 = t.getD j 0 := fun j hj => by
      rw [List.getD_eq_getElem?_getD, List.getElem?_take, if_pos hj, ← List.getD_eq_getElem?_getD]
    have hk : e < k := by
      rcases Nat.lt_or_ge e k with h9 | h9
      · exact h9
      · exfalso
        have h8 := k4 (by omega)
        rw [hg k (by omega)] at h8
        have h7 : t.getD k 0 = 61 := by simpa using h8
        by_cases h6 : k = e
        · exact hc (Or.inr (by rw [← h6]; exact h7))
        · exact h61 k k1 (by omega) h7
    have hq := pr_take (t := t) (a := b) (k := k) (n := i) k1 (by omega) hil (fun j h1 h2 h3 => by
      have := k3 j h1 h2
      rw [hg j (by omega), h3] at this; exact absurd this (by decide)) (fun h9 => by
      have := k4 (by omega)
      rw [hg k (by omega)] at this
      simpa using this)
    rw [hq.1, nm_ok, tx_nall (by omega) h.1 hk (h.2.2.2 (by omega)), Bool.and_false]
theorem hd_1 {t : List Nat} {e : Nat} (h : rn_E ch_small t 0 e) (hno : ¬ (1 ≤ e - 0 ∧ e - 0 < 7) ∨ t.length ≤ e ∨ ¬ t.getD e 0 = 61) : pr_ok t true = false := by
  have hq := rs_nm2 h h.2.1 (Nat.le_refl _)
  rw [tx_sl_all] at hq
  rw [pr_ok, hq.1]
  by_cases h1 : 1 ≤ e - 0 ∧ e - 0 < 7
  · by_cases h2 : e = t.length
    · have h3 := (hq.2 (Or.inl h2)).2
      rw [h3, tx_nil (by omega) (Nat.le_refl _)]
      simp
    · have h4 : ¬ t.getD e 0 = 61 := by
        have := h.2.1
        rcases hno with h9 | h9 | h9
        · exact absurd h1 h9
        · omega
        · exact h9
      rw [decide_eq_false (p := e = t.length ∨ t.getD e 0 = 61) (fun h9 => h9.elim h2 h4), Bool.and_false, Bool.false_and]
  · rw [decide_eq_false h1, Bool.false_and, Bool.false_and]
theorem hd_2 {t : List Nat} {e x : Nat} (h : rn_E ch_small t 0 e) (he : e < t.length) (h6 : t.getD e 0 = 61) (hx : rn_E ch_part t (e + 1) x) : pr_ok t true = (decide (1 ≤ e - 0 ∧ e - 0 < 7) && (decide (x - (e + 1) < 7) && decide (x = t.length))) ∧ pr_nm t = tx_sl t 0 e ∧ (pr_vl t).drop 1 = tx_sl t (e + 1) t.length := by
  have hq := rs_nm2 h h.2.1 (Nat.le_refl _)
  rw [tx_sl_all] at hq
  have h3 := hq.2 (Or.inr h6)
  have h4 : pr_vl t = t.getD e 0 :: tx_sl t (e + 1) t.length := by rw [h3.2, tx_sl_hd he (Nat.le_refl _)]
  refine ⟨?_, h3.1, by rw [h4]; rfl⟩
  rw [pr_ok, hq.1, h4, decide_eq_true (Or.inr h6 : e = t.length ∨ _), Bool.and_true]
  congr 1
  show vl_ok (tx_sl t (e + 1) t.length) = _
  by_cases hl : x = t.length
  · rw [decide_eq_true hl, Bool.and_true, ← hl, vl_ok, tx_sl_len hx.2.1, tx_all hx.2.1 hx.2.2.1, Bool.and_true, decide_eq_decide]
    omega
  · rw [decide_eq_false hl, Bool.and_false, vl_ok, tx_nall (Nat.le_refl _) hx.1 (by have := hx.2.1; omega) (hx.2.2.2 (by have := hx.2.1; omega)), Bool.and_false]
/-- where a header's name stands -/
def hf_R (hs : List (List Nat × List Nat)) (nm : List Nat) (r : Int32) : Prop := (∃ i h, r = nI i ∧ hs[i]? = some h ∧ h.1 = nm ∧ ∀ j, j < i → ∀ g, hs[j]? = some g → ¬ g.1 = nm) ∨ (r = -1 ∧ ∀ g ∈ hs, ¬ g.1 = nm)
theorem pu_no {n : List Nat} {hs : List (List Nat × List Nat)} (h : ∀ g ∈ hs, ¬ g.1 = n) : pu_a n hs = false := by
  rw [pu_a, List.any_eq_false]
  intro g hg h9
  exact h g hg (of_decide_eq_true h9)
theorem pu_yes {n : List Nat} {hs : List (List Nat × List Nat)} {i : Nat} {g : List Nat × List Nat} (h : hs[i]? = some g) (hn : g.1 = n) : pu_a n hs = true := by
  rw [pu_a, List.any_eq_true]
  exact ⟨g, List.mem_of_getElem? h, decide_eq_true hn⟩
def bn_c (ex : Nat → Option (Int32 × Int32)) (qs : Nat → Bool) (t : List Nat) (bs : List bd_T) (x y : Int32) (q : Bool) : Nat := if bi_ok ex qs t x y q = true then (if bs.any (bd_is x y q t) = true then 0 else if bs.length = 120 then 2 else 0) else 1
def bn_b (ex : Nat → Option (Int32 × Int32)) (qs : Nat → Bool) (t : List Nat) (bs : List bd_T) (x y : Int32) (q : Bool) : Bool := bi_ok ex qs t x y q && (!bs.any (bd_is x y q t) && decide (¬ bs.length = 120))
def bn_l (ex : Nat → Option (Int32 × Int32)) (qs : Nat → Bool) (t : List Nat) (bs : List bd_T) (x y : Int32) (q : Bool) : List bd_T := if bn_b ex qs t bs x y q = true then bs ++ [(x, y, q, t)] else bs
theorem bdS_add {f g z x xk : Nat → Int32} {bs : List bd_T} {a y : Int32} {q : Bool} {t : List Nat} (h : bdS (nI bs.length) f g z x bs) (hl : bs.length < 120) (h1 : ∀ m, m < 48 * bs.length → xk m = x m) (h2 : ∀ i, i < t.length → xk (48 * bs.length + i) = nI (t.getD i 0)) (ht : t.length ≤ 48) (hc : ∀ c ∈ t, c < 128) (ha : in16 a) (hy : in16 y) : bdS (nI (bs.length + 1)) (upd f bs.length a) (upd g bs.length (to_I y q)) (upd z bs.length (nI t.length)) xk (bs ++ [(a, y, q, t)]) := by
  refine ⟨by rw [List.length_append]; rfl, by rw [List.length_append, List.length_singleton]; omega, fun b d hd => ?_⟩
  by_cases e : b < bs.length
  · rw [List.getElem?_append_left e] at hd
    exact bdS1_mv (h.2.2 b d hd) (up_o (by omega)) (up_o (by omega)) (up_o (by omega)) (fun i hi => h1 _ (by omega))
  · have hb := (List.getElem?_eq_some_iff.mp hd).1
    rw [List.length_append, List.length_singleton] at hb
    have : b = bs.length := by omega
    subst this
    rw [List.getElem?_append_right (Nat.le_refl _), Nat.sub_self] at hd
    cases hd
    exact ⟨up_s, up_s, ⟨up_s, h2, ht, hc⟩, ha, hy⟩

set_option maxHeartbeats 4000000 in
set_option maxRecDepth 100000 in
theorem kc_MO_bind (l : Launch) (B : Nat) (D : va_G) (G : Nat → Nat) (M : hm_M) (P O : Nat → Nat) (I : Nat → Int32) (A : Nat → Nat → Int32) (L : Nat → Nat → Int64) (hD : mo_D B D P O M I A L) (t : List Nat) (ex : Nat → Option (Int32 × Int32)) (qs : Nat → Bool) (bs : List bd_T) (key : List Nat) (hs : List (List Nat × List Nat)) (fo ps : Nat → Bool) (hZ : mo_S I A L t ex qs bs key hs fo ps) (x y : Int32) (q : Bool) : Met l yy_MO_bind ws_MO_bind ({ frames := 5, cells := 0, slots := 0, locals := 107 }) (hm_Pc B D G M [.ref (P 0), .int x, .int y, .int (nI (bz q))]) (hm_Ni B D (fun r M1 => r = nI (bz (bn_b ex qs t bs x y q)) ∧ ∃ I1 A1 L1, mo_D B D P O M1 I1 A1 L1 ∧ I1 0 = nI (bn_c ex qs t bs x y q) ∧ mo_S I1 A1 L1 ([]) ex qs (bn_l ex qs t bs x y q) key hs fo ps ∧ cz_F O M O M1 pm)) (0) (0) (hm_A B) := by
  refine Met.ofW (cc := cd_MO_bind) (maxL := 8) (ret := ((some FieldType.boolean))) (by decide) rfl ?_
  intro p e s m args below meth c s₁ B0 hml hv
  obtain ⟨rfl, hE, hP⟩ := hv
  have hx := B0.exec
  have hb := B0.bytes
  have hr := B0.returns
  have hts : ∀ w ∈ tb_G, w.before _ s = true := fun w h => atoms_spec (ws := ws_MO_bind) B0.pre w (List.mem_cons_of_mem _ h)
  have hown : s.vm.findClass "RouteDeskModel" = some m.cls := findClass_of_methodNamed B0.named
  have hlocks := B0.notSynchronized
  have hRf : (headSpec ws_MO_bind { frames := 5, cells := 0, slots := 0, locals := 107 }).room.frames = 5 := rfl
  have hRl : (headSpec ws_MO_bind { frames := 5, cells := 0, slots := 0, locals := 107 }).room.locals = 107 := rfl
  have hRc : (headSpec ws_MO_bind { frames := 5, cells := 0, slots := 0, locals := 107 }).room.cells = 0 := rfl
  have hRs : (headSpec ws_MO_bind { frames := 5, cells := 0, slots := 0, locals := 107 }).room.slots = 0 := rfl
  generalize (headSpec ws_MO_bind { frames := 5, cells := 0, slots := 0, locals := 107 }).room = R at hRf hRl hRc hRs ⊢
  have hS : va_S (hm_A B) s.heap s.heap [] := va_S.rf
  have hl := lv_entry ([.ref (P 0), .int x, .int y, .int (nI (bz q))]) (n := 8) (Nat.le_of_ble_eq_true rfl)
  rw [lg_entry_eq]
  generalize (lg_sl ([.ref (P 0), .int x, .int y, .int (nI (bz q))]) ++ List.replicate (8 - (lg_sl ([.ref (P 0), .int x, .int y, .int (nI (bz q))])).length) Slot.unset).toArray = ls at hl ⊢
  have hl : lv_has ls 8 [(0, .ref (P 0)), (1, .int x), (2, .int y), (3, .int (nI (bz q)))] := hl
  have t16 : (nI 16).toInt = 16 := by decide
  have tm1 : (-1 : Int32).toInt = -1 := by decide
  have t0 : (nI 0).toInt = 0 := by decide
  have t2 : (nI 2).toInt = 2 := by decide
  have t3 : (nI 3).toInt = 3 := by decide
  have t1 : (nI 1).toInt = 1 := by decide
  have t4 : (nI 4).toInt = 4 := by decide
  obtain ⟨p0, p1, p3, p4, p5, p7, p8, p9, p10, p11, p14, p15, p16, p17, p19, p20, p21, po, pb⟩ := id hD
  obtain ⟨hT, hX, hQ, hB, hK, hH, hFo, hPs⟩ := id hZ
  obtain ⟨ti1, ti2, ti3, ti4⟩ := id hT
  obtain ⟨bi1, bi2, bi3⟩ := id hB
  obtain ⟨ki1, ki2, ki3, ki4⟩ := id hK
  obtain ⟨hi1, hi2, hi3⟩ := id hH
  refine lv_aload_n hx hb dd_MO_bind_0 rfl (lv_at hl 0 rfl) ?_
  refine lv_iload_n hx hb dd_MO_bind_1 rfl (lv_at hl 1 rfl) ?_
  have hd1 : mo_D B D P O M I A L := ⟨p0, p1, p3, p4, p5, p7, p8, p9, p10, p11, p14, p15, p16, p17, p19, p20, p21, po, pb⟩
  refine hm_ci hS (hm_rV 1 (As := [.int x]) (rest := []) ⟨hx, hb, hml, hown, hts⟩ hE hS hP (kc_MO_isExchange l B D G M P O I A L hd1 x) rfl p0 tw_1078 tw_1075 tw_1077 tw_18 tw_46 (by decide +kernel) rfl rfl ⟨by show 0 + 1 ≤ R.frames; omega, by show 8 + (2 + 11) + 0 ≤ R.locals; omega⟩ rfl hl.1 rfl (Nat.le_of_ble_eq_true rfl) dd_MO_bind_2 ⟨by omega, by omega⟩) (fun r2 M3 H locs hw4 hP hS => ?_)
  refine W.widen (k := 0) (n := 0) (by omega) (by omega) ?_
  obtain ⟨hrM3, eM3⟩ := hw4
  rw [eM3] at hP
  have hrM3 := hrM3.trans (by rw [exS_x (A := A) hX])
  obtain rfl : r2 = nI (bz (ex_at ex x).isSome) := hrM3
  refine hn_if_eq (tgt := 34) hx hb (bz_b _) dd_MO_bind_5 (by decide) (fun c5 => ?_) (fun c5 => ?_)
  · have hxs := bz_f c5
    have hok : bi_ok ex qs t x y q = false := by unfold bi_ok; cases h9 : ex_at ex x with
      | none => rfl
      | some z => rw [h9] at hxs; cases hxs
    refine lv_iconst (v := nI 0) hx hb dd_MO_bind_34 (by decide +kernel) ?_
    refine lv_istore (lv' := [(4, .int (nI 0)), (0, .ref (P 0)), (1, .int x), (2, .int y), (3, .int (nI (bz q)))]) hx hb dd_MO_bind_35 hl (by decide) rfl (fun ls hl => ?_)
    refine lv_iload_n hx hb dd_MO_bind_37 rfl (lv_at hl 4 rfl) ?_
    refine hn_if_eq (tgt := 48) hx hb (bz_b _) dd_MO_bind_38 (by decide) (fun c6 => ?_) (fun c6 => ?_)
    · have hq := bz_f c6
      refine lv_iload_n hx hb dd_MO_bind_48 rfl (lv_at hl 3 rfl) ?_
      refine W.eq (g2 := F0 m 49 ls [.int (to_I y q)]) (by rw [show to_I y q = y by rw [hq]; rfl]) ?_
      refine lv_istore (lv' := [(5, .int (to_I y q)), (4, .int (nI 0)), (0, .ref (P 0)), (1, .int x), (2, .int y), (3, .int (nI (bz q)))]) hx hb dd_MO_bind_49 hl (by decide) rfl (fun ls hl => ?_)
      refine lv_iload hx hb dd_MO_bind_51 (lv_at hl 1 rfl) ?_
      refine hn_if_eq (tgt := 71) hx hb (by omega) dd_MO_bind_53 (by decide) (fun c7 => ?_) (fun c7 => absurd c7 (by omega))
      refine lv_iconst (v := nI 0) hx hb dd_MO_bind_71 (by decide +kernel) ?_
      refine lv_istore (lv' := [(6, .int (nI 0)), (5, .int (to_I y q)), (4, .int (nI 0)), (0, .ref (P 0)), (1, .int x), (2, .int y), (3, .int (nI (bz q)))]) hx hb dd_MO_bind_72 hl (by decide) rfl (fun ls hl => ?_)
      refine lv_aload_n hx hb dd_MO_bind_74 rfl (lv_at hl 3 rfl) ?_
      refine lv_iload hx hb dd_MO_bind_75 (lv_at hl 2 rfl) ?_
      refine hn_if_ne (tgt := 84) hx hb (by omega) dd_MO_bind_77 (by decide) (fun c8 => absurd c8 (by omega)) (fun c8 => ?_)
      refine lv_iconst (v := nI 1) hx hb dd_MO_bind_80 (by decide +kernel) ?_
      refine lv_goto (tgt := 103) hx hb dd_MO_bind_81 (by decide) ?_
      refine hm_put (ci := 6) (v := .int (nI 1)) (ty := .int) (C := rn_MO) (T := ft_MO) (N := 22) hx hb hts fi_MO fy_MO fo_MO fn_MO hown hE.K hP hS (pb 0 (by decide)) p0 rfl 0 (by decide) (hts _ tw_986) (fun _ h9 => h9) rfl (by decide +kernel) rfl rfl (Nat.le_of_ble_eq_true rfl) dd_MO_bind_103 (fun H locs hP hS => ?_)
      have hP : hm_P D cl_W (hm_up M (P 0) (.inr (6, [.int (nI 1), .ref (P 1), .int (I 2), .ref (P 3), .ref (P 4), .ref (P 5), .int (I 6), .ref (P 7), .ref (P 8), .ref (P 9), .ref (P 10), .ref (P 11), .int (I 12), .int (I 13), .ref (P 14), .ref (P 15), .ref (P 16), .ref (P 17), .int (I 18), .ref (P 19), .ref (P 20), .ref (P 21)]))) H := hP
      obtain ⟨M9, eM9⟩ : ∃ z, z = hm_up M (P 0) (.inr (6, [.int (nI 1), .ref (P 1), .int (I 2), .ref (P 3), .ref (P 4), .ref (P 5), .int (I 6), .ref (P 7), .ref (P 8), .ref (P 9), .ref (P 10), .ref (P 11), .int (I 12), .int (I 13), .ref (P 14), .ref (P 15), .ref (P 16), .ref (P 17), .int (I 18), .ref (P 19), .ref (P 20), .ref (P 21)])) := ⟨_, rfl⟩
      rw [← eM9] at hP
      have f10 : M9 (P 1) = some (.inl (D.1 102, 48, .inl (A 1))) := by rw [eM9]; exact hm_up_o (hm_neO (po 1 (by decide)) (po 0 (by decide)) (by decide)) p1
      have f11 : M9 (P 3) = some (.inl (D.1 102, 16, .inl (A 3))) := by rw [eM9]; exact hm_up_o (hm_neO (po 3 (by decide)) (po 0 (by decide)) (by decide)) p3
      have f12 : M9 (P 4) = some (.inl (D.1 102, 16, .inl (A 4))) := by rw [eM9]; exact hm_up_o (hm_neO (po 4 (by decide)) (po 0 (by decide)) (by decide)) p4
      have f13 : M9 (P 5) = some (.inl (D.1 101, 16, .inl (A 5))) := by rw [eM9]; exact hm_up_o (hm_neO (po 5 (by decide)) (po 0 (by decide)) (by decide)) p5
      have f14 : M9 (P 7) = some (.inl (D.1 102, 120, .inl (A 7))) := by rw [eM9]; exact hm_up_o (hm_neO (po 7 (by decide)) (po 0 (by decide)) (by decide)) p7
      have f15 : M9 (P 8) = some (.inl (D.1 102, 120, .inl (A 8))) := by rw [eM9]; exact hm_up_o (hm_neO (po 8 (by decide)) (po 0 (by decide)) (by decide)) p8
      have f16 : M9 (P 9) = some (.inl (D.1 102, 120, .inl (A 9))) := by rw [eM9]; exact hm_up_o (hm_neO (po 9 (by decide)) (po 0 (by decide)) (by decide)) p9
      have f17 : M9 (P 10) = some (.inl (D.1 102, 5760, .inl (A 10))) := by rw [eM9]; exact hm_up_o (hm_neO (po 10 (by decide)) (po 0 (by decide)) (by decide)) p10
      have f18 : M9 (P 11) = some (.inl (D.1 102, 48, .inl (A 11))) := by rw [eM9]; exact hm_up_o (hm_neO (po 11 (by decide)) (po 0 (by decide)) (by decide)) p11
      have f19 : M9 (P 14) = some (.inl (D.1 103, 6, .inr (.inl (L 14)))) := by rw [eM9]; exact hm_up_o (hm_neO (po 14 (by decide)) (po 0 (by decide)) (by decide)) p14
      have f20 : M9 (P 15) = some (.inl (D.1 103, 6, .inr (.inl (L 15)))) := by rw [eM9]; exact hm_up_o (hm_neO (po 15 (by decide)) (po 0 (by decide)) (by decide)) p15
      have f21 : M9 (P 16) = some (.inl (D.1 101, 16, .inl (A 16))) := by rw [eM9]; exact hm_up_o (hm_neO (po 16 (by decide)) (po 0 (by decide)) (by decide)) p16
      have f22 : M9 (P 17) = some (.inl (D.1 101, 16, .inl (A 17))) := by rw [eM9]; exact hm_up_o (hm_neO (po 17 (by decide)) (po 0 (by decide)) (by decide)) p17
      have f23 : M9 (P 19) = some (.inl (D.1 101, 2601, .inl (A 19))) := by rw [eM9]; exact hm_up_o (hm_neO (po 19 (by decide)) (po 0 (by decide)) (by decide)) p19
      have f24 : M9 (P 20) = some (.inl (D.1 102, 52, .inl (A 20))) := by rw [eM9]; exact hm_up_o (hm_neO (po 20 (by decide)) (po 0 (by decide)) (by decide)) p20
      have f25 : M9 (P 21) = some (.inl (D.1 102, 52, .inl (A 21))) := by rw [eM9]; exact hm_up_o (hm_neO (po 21 (by decide)) (po 0 (by decide)) (by decide)) p21
      have f26 : M9 (P 0) = some (.inr (6, [.int (nI 1), .ref (P 1), .int (I 2), .ref (P 3), .ref (P 4), .ref (P 5), .int (I 6), .ref (P 7), .ref (P 8), .ref (P 9), .ref (P 10), .ref (P 11), .int (I 12), .int (I 13), .ref (P 14), .ref (P 15), .ref (P 16), .ref (P 17), .int (I 18), .ref (P 19), .ref (P 20), .ref (P 21)])) := by rw [eM9]; exact hm_up_s
      refine lv_aload_n hx hb dd_MO_bind_106 rfl (lv_at hl 3 rfl) ?_
      refine hm_get (ci := 6) (C := rn_MO) (T := ft_MO) (N := 22) hx hb hts fi_MO hown hE.K hP f26 rfl 0 (by decide) (hts _ tw_986) (fun _ h9 => h9) rfl dd_MO_bind_107 ?_
      refine hn_if_ne (tgt := 202) hx hb (by omega) dd_MO_bind_110 (by decide) (fun c27 => ?_) (fun c27 => absurd c27 (by omega))
      refine lv_aload_n hx hb dd_MO_bind_202 rfl (lv_at hl 3 rfl) ?_
      refine lv_iconst (v := nI 0) hx hb dd_MO_bind_203 (by decide +kernel) ?_
      refine hm_put (ci := 6) (v := .int (nI 0)) (ty := .int) (C := rn_MO) (T := ft_MO) (N := 22) hx hb hts fi_MO fy_MO fo_MO fn_MO hown hE.K hP hS (pb 0 (by decide)) f26 rfl 2 (by decide) (hts _ tw_988) (fun _ h9 => h9) rfl (by decide +kernel) rfl rfl (Nat.le_of_ble_eq_true rfl) dd_MO_bind_204 (fun H locs hP hS => ?_)
      have hP : hm_P D cl_W (hm_up M9 (P 0) (.inr (6, [.int (nI 1), .ref (P 1), .int (nI 0), .ref (P 3), .ref (P 4), .ref (P 5), .int (I 6), .ref (P 7), .ref (P 8), .ref (P 9), .ref (P 10), .ref (P 11), .int (I 12), .int (I 13), .ref (P 14), .ref (P 15), .ref (P 16), .ref (P 17), .int (I 18), .ref (P 19), .ref (P 20), .ref (P 21)]))) H := hP
      obtain ⟨M28, eM28⟩ : ∃ z, z = hm_up M9 (P 0) (.inr (6, [.int (nI 1), .ref (P 1), .int (nI 0), .ref (P 3), .ref (P 4), .ref (P 5), .int (I 6), .ref (P 7), .ref (P 8), .ref (P 9), .ref (P 10), .ref (P 11), .int (I 12), .int (I 13), .ref (P 14), .ref (P 15), .ref (P 16), .ref (P 17), .int (I 18), .ref (P 19), .ref (P 20), .ref (P 21)])) := ⟨_, rfl⟩
      rw [← eM28] at hP
      have f29 : M28 (P 1) = some (.inl (D.1 102, 48, .inl (A 1))) := by rw [eM28]; exact hm_up_o (hm_neO (po 1 (by decide)) (po 0 (by decide)) (by decide)) f10
      have f30 : M28 (P 3) = some (.inl (D.1 102, 16, .inl (A 3))) := by rw [eM28]; exact hm_up_o (hm_neO (po 3 (by decide)) (po 0 (by decide)) (by decide)) f11
      have f31 : M28 (P 4) = some (.inl (D.1 102, 16, .inl (A 4))) := by rw [eM28]; exact hm_up_o (hm_neO (po 4 (by decide)) (po 0 (by decide)) (by decide)) f12
      have f32 : M28 (P 5) = some (.inl (D.1 101, 16, .inl (A 5))) := by rw [eM28]; exact hm_up_o (hm_neO (po 5 (by decide)) (po 0 (by decide)) (by decide)) f13
      have f33 : M28 (P 7) = some (.inl (D.1 102, 120, .inl (A 7))) := by rw [eM28]; exact hm_up_o (hm_neO (po 7 (by decide)) (po 0 (by decide)) (by decide)) f14
      have f34 : M28 (P 8) = some (.inl (D.1 102, 120, .inl (A 8))) := by rw [eM28]; exact hm_up_o (hm_neO (po 8 (by decide)) (po 0 (by decide)) (by decide)) f15
      have f35 : M28 (P 9) = some (.inl (D.1 102, 120, .inl (A 9))) := by rw [eM28]; exact hm_up_o (hm_neO (po 9 (by decide)) (po 0 (by decide)) (by decide)) f16
      have f36 : M28 (P 10) = some (.inl (D.1 102, 5760, .inl (A 10))) := by rw [eM28]; exact hm_up_o (hm_neO (po 10 (by decide)) (po 0 (by decide)) (by decide)) f17
      have f37 : M28 (P 11) = some (.inl (D.1 102, 48, .inl (A 11))) := by rw [eM28]; exact hm_up_o (hm_neO (po 11 (by decide)) (po 0 (by decide)) (by decide)) f18
      have f38 : M28 (P 14) = some (.inl (D.1 103, 6, .inr (.inl (L 14)))) := by rw [eM28]; exact hm_up_o (hm_neO (po 14 (by decide)) (po 0 (by decide)) (by decide)) f19
      have f39 : M28 (P 15) = some (.inl (D.1 103, 6, .inr (.inl (L 15)))) := by rw [eM28]; exact hm_up_o (hm_neO (po 15 (by decide)) (po 0 (by decide)) (by decide)) f20
      have f40 : M28 (P 16) = some (.inl (D.1 101, 16, .inl (A 16))) := by rw [eM28]; exact hm_up_o (hm_neO (po 16 (by decide)) (po 0 (by decide)) (by decide)) f21
      have f41 : M28 (P 17) = some (.inl (D.1 101, 16, .inl (A 17))) := by rw [eM28]; exact hm_up_o (hm_neO (po 17 (by decide)) (po 0 (by decide)) (by decide)) f22
      have f42 : M28 (P 19) = some (.inl (D.1 101, 2601, .inl (A 19))) := by rw [eM28]; exact hm_up_o (hm_neO (po 19 (by decide)) (po 0 (by decide)) (by decide)) f23
      have f43 : M28 (P 20) = some (.inl (D.1 102, 52, .inl (A 20))) := by rw [eM28]; exact hm_up_o (hm_neO (po 20 (by decide)) (po 0 (by decide)) (by decide)) f24
      have f44 : M28 (P 21) = some (.inl (D.1 102, 52, .inl (A 21))) := by rw [eM28]; exact hm_up_o (hm_neO (po 21 (by decide)) (po 0 (by decide)) (by decide)) f25
      have f45 : M28 (P 0) = some (.inr (6, [.int (nI 1), .ref (P 1), .int (nI 0), .ref (P 3), .ref (P 4), .ref (P 5), .int (I 6), .ref (P 7), .ref (P 8), .ref (P 9), .ref (P 10), .ref (P 11), .int (I 12), .int (I 13), .ref (P 14), .ref (P 15), .ref (P 16), .ref (P 17), .int (I 18), .ref (P 19), .ref (P 20), .ref (P 21)])) := by rw [eM28]; exact hm_up_s
      refine lv_aload_n hx hb dd_MO_bind_207 rfl (lv_at hl 3 rfl) ?_
      refine hm_get (ci := 6) (C := rn_MO) (T := ft_MO) (N := 22) hx hb hts fi_MO hown hE.K hP f45 rfl 0 (by decide) (hts _ tw_986) (fun _ h9 => h9) rfl dd_MO_bind_208 ?_
      refine hn_if_ne (tgt := 223) hx hb (by omega) dd_MO_bind_211 (by decide) (fun c46 => ?_) (fun c46 => absurd c46 (by omega))
      refine lv_iconst (v := nI 0) hx hb dd_MO_bind_223 (by decide +kernel) ?_
      have kk47 : hm_k M M [(P 0)] := hm_krf
      have kk48 : hm_k M M9 [(P 0)] := hm_ku kk47 (Or.inr (by simp)) eM9
      have kk49 : hm_k M M28 [(P 0)] := hm_ku kk48 (Or.inr (by simp)) eM28
      exact hm_Ei (v := nI 0) hx hb hr rfl hS hP (⟨bz_0 (by rw [bn_b, hok]; rfl), (va_up (va_up I 0 (nI 1)) 2 (nI 0)), A, L, ⟨f45, f29, f30, f31, f32, f33, f34, f35, f36, f37, f38, f39, f40, f41, f42, f43, f44, po, pb⟩, by rw [bn_c, hok]; rfl, ⟨tpS_0, hX, hQ, by rw [bn_l, bn_b, hok]; exact hB, hK, hH, hFo, hPs⟩, cz_F.k0 kk49 (hm_a1 ⟨by rw [po 0 (by decide)]; unfold pm; omega, _, f45⟩)⟩) hlocks (by omega) (by omega) dd_MO_bind_224
    · have hq := bz_t c6
      refine lv_bipush (v := nI 16) hx hb dd_MO_bind_41 (by decide +kernel) ?_
      refine lv_iload_n hx hb dd_MO_bind_43 rfl (lv_at hl 3 rfl) ?_
      refine lv_iadd hx hb dd_MO_bind_44 ?_
      refine lv_topi (fun x50 ex50 => ?_)
      refine lv_goto (tgt := 49) hx hb dd_MO_bind_45 (by decide) ?_
      refine W.eq (g2 := F0 m 49 ls [.int (to_I y q)]) (by rw [show to_I y q = x50 by rw [hq, ex50]; rfl]) ?_
      refine lv_istore (lv' := [(5, .int (to_I y q)), (4, .int (nI 0)), (0, .ref (P 0)), (1, .int x), (2, .int y), (3, .int (nI (bz q)))]) hx hb dd_MO_bind_49 hl (by decide) rfl (fun ls hl => ?_)
      refine lv_iload hx hb dd_MO_bind_51 (lv_at hl 1 rfl) ?_
      refine hn_if_eq (tgt := 71) hx hb (by omega) dd_MO_bind_53 (by decide) (fun c51 => ?_) (fun c51 => absurd c51 (by omega))
      refine lv_iconst (v := nI 0) hx hb dd_MO_bind_71 (by decide +kernel) ?_
      refine lv_istore (lv' := [(6, .int (nI 0)), (5, .int (to_I y q)), (4, .int (nI 0)), (0, .ref (P 0)), (1, .int x), (2, .int y), (3, .int (nI (bz q)))]) hx hb dd_MO_bind_72 hl (by decide) rfl (fun ls hl => ?_)
      refine lv_aload_n hx hb dd_MO_bind_74 rfl (lv_at hl 3 rfl) ?_
      refine lv_iload hx hb dd_MO_bind_75 (lv_at hl 2 rfl) ?_
      refine hn_if_ne (tgt := 84) hx hb (by omega) dd_MO_bind_77 (by decide) (fun c52 => absurd c52 (by omega)) (fun c52 => ?_)
      refine lv_iconst (v := nI 1) hx hb dd_MO_bind_80 (by decide +kernel) ?_
      refine lv_goto (tgt := 103) hx hb dd_MO_bind_81 (by decide) ?_
      refine hm_put (ci := 6) (v := .int (nI 1)) (ty := .int) (C := rn_MO) (T := ft_MO) (N := 22) hx hb hts fi_MO fy_MO fo_MO fn_MO hown hE.K hP hS (pb 0 (by decide)) p0 rfl 0 (by decide) (hts _ tw_986) (fun _ h9 => h9) rfl (by decide +kernel) rfl rfl (Nat.le_of_ble_eq_true rfl) dd_MO_bind_103 (fun H locs hP hS => ?_)
      have hP : hm_P D cl_W (hm_up M (P 0) (.inr (6, [.int (nI 1), .ref (P 1), .int (I 2), .ref (P 3), .ref (P 4), .ref (P 5), .int (I 6), .ref (P 7), .ref (P 8), .ref (P 9), .ref (P 10), .ref (P 11), .int (I 12), .int (I 13), .ref (P 14), .ref (P 15), .ref (P 16), .ref (P 17), .int (I 18), .ref (P 19), .ref (P 20), .ref (P 21)]))) H := hP
      obtain ⟨M53, eM53⟩ : ∃ z, z = hm_up M (P 0) (.inr (6, [.int (nI 1), .ref (P 1), .int (I 2), .ref (P 3), .ref (P 4), .ref (P 5), .int (I 6), .ref (P 7), .ref (P 8), .ref (P 9), .ref (P 10), .ref (P 11), .int (I 12), .int (I 13), .ref (P 14), .ref (P 15), .ref (P 16), .ref (P 17), .int (I 18), .ref (P 19), .ref (P 20), .ref (P 21)])) := ⟨_, rfl⟩
      rw [← eM53] at hP
      have f54 : M53 (P 1) = some (.inl (D.1 102, 48, .inl (A 1))) := by rw [eM53]; exact hm_up_o (hm_neO (po 1 (by decide)) (po 0 (by decide)) (by decide)) p1
      have f55 : M53 (P 3) = some (.inl (D.1 102, 16, .inl (A 3))) := by rw [eM53]; exact hm_up_o (hm_neO (po 3 (by decide)) (po 0 (by decide)) (by decide)) p3
      have f56 : M53 (P 4) = some (.inl (D.1 102, 16, .inl (A 4))) := by rw [eM53]; exact hm_up_o (hm_neO (po 4 (by decide)) (po 0 (by decide)) (by decide)) p4
      have f57 : M53 (P 5) = some (.inl (D.1 101, 16, .inl (A 5))) := by rw [eM53]; exact hm_up_o (hm_neO (po 5 (by decide)) (po 0 (by decide)) (by decide)) p5
      have f58 : M53 (P 7) = some (.inl (D.1 102, 120, .inl (A 7))) := by rw [eM53]; exact hm_up_o (hm_neO (po 7 (by decide)) (po 0 (by decide)) (by decide)) p7
      have f59 : M53 (P 8) = some (.inl (D.1 102, 120, .inl (A 8))) := by rw [eM53]; exact hm_up_o (hm_neO (po 8 (by decide)) (po 0 (by decide)) (by decide)) p8
      have f60 : M53 (P 9) = some (.inl (D.1 102, 120, .inl (A 9))) := by rw [eM53]; exact hm_up_o (hm_neO (po 9 (by decide)) (po 0 (by decide)) (by decide)) p9
      have f61 : M53 (P 10) = some (.inl (D.1 102, 5760, .inl (A 10))) := by rw [eM53]; exact hm_up_o (hm_neO (po 10 (by decide)) (po 0 (by decide)) (by decide)) p10
      have f62 : M53 (P 11) = some (.inl (D.1 102, 48, .inl (A 11))) := by rw [eM53]; exact hm_up_o (hm_neO (po 11 (by decide)) (po 0 (by decide)) (by decide)) p11
      have f63 : M53 (P 14) = some (.inl (D.1 103, 6, .inr (.inl (L 14)))) := by rw [eM53]; exact hm_up_o (hm_neO (po 14 (by decide)) (po 0 (by decide)) (by decide)) p14
      have f64 : M53 (P 15) = some (.inl (D.1 103, 6, .inr (.inl (L 15)))) := by rw [eM53]; exact hm_up_o (hm_neO (po 15 (by decide)) (po 0 (by decide)) (by decide)) p15
      have f65 : M53 (P 16) = some (.inl (D.1 101, 16, .inl (A 16))) := by rw [eM53]; exact hm_up_o (hm_neO (po 16 (by decide)) (po 0 (by decide)) (by decide)) p16
      have f66 : M53 (P 17) = some (.inl (D.1 101, 16, .inl (A 17))) := by rw [eM53]; exact hm_up_o (hm_neO (po 17 (by decide)) (po 0 (by decide)) (by decide)) p17
      have f67 : M53 (P 19) = some (.inl (D.1 101, 2601, .inl (A 19))) := by rw [eM53]; exact hm_up_o (hm_neO (po 19 (by decide)) (po 0 (by decide)) (by decide)) p19
      have f68 : M53 (P 20) = some (.inl (D.1 102, 52, .inl (A 20))) := by rw [eM53]; exact hm_up_o (hm_neO (po 20 (by decide)) (po 0 (by decide)) (by decide)) p20
      have f69 : M53 (P 21) = some (.inl (D.1 102, 52, .inl (A 21))) := by rw [eM53]; exact hm_up_o (hm_neO (po 21 (by decide)) (po 0 (by decide)) (by decide)) p21
      have f70 : M53 (P 0) = some (.inr (6, [.int (nI 1), .ref (P 1), .int (I 2), .ref (P 3), .ref (P 4), .ref (P 5), .int (I 6), .ref (P 7), .ref (P 8), .ref (P 9), .ref (P 10), .ref (P 11), .int (I 12), .int (I 13), .ref (P 14), .ref (P 15), .ref (P 16), .ref (P 17), .int (I 18), .ref (P 19), .ref (P 20), .ref (P 21)])) := by rw [eM53]; exact hm_up_s
      refine lv_aload_n hx hb dd_MO_bind_106 rfl (lv_at hl 3 rfl) ?_
      refine hm_get (ci := 6) (C := rn_MO) (T := ft_MO) (N := 22) hx hb hts fi_MO hown hE.K hP f70 rfl 0 (by decide) (hts _ tw_986) (fun _ h9 => h9) rfl dd_MO_bind_107 ?_
      refine hn_if_ne (tgt := 202) hx hb (by omega) dd_MO_bind_110 (by decide) (fun c71 => ?_) (fun c71 => absurd c71 (by omega))
      refine lv_aload_n hx hb dd_MO_bind_202 rfl (lv_at hl 3 rfl) ?_
      refine lv_iconst (v := nI 0) hx hb dd_MO_bind_203 (by decide +kernel) ?_
      refine hm_put (ci := 6) (v := .int (nI 0)) (ty := .int) (C := rn_MO) (T := ft_MO) (N := 22) hx hb hts fi_MO fy_MO fo_MO fn_MO hown hE.K hP hS (pb 0 (by decide)) f70 rfl 2 (by decide) (hts _ tw_988) (fun _ h9 => h9) rfl (by decide +kernel) rfl rfl (Nat.le_of_ble_eq_true rfl) dd_MO_bind_204 (fun H locs hP hS => ?_)
      have hP : hm_P D cl_W (hm_up M53 (P 0) (.inr (6, [.int (nI 1), .ref (P 1), .int (nI 0), .ref (P 3), .ref (P 4), .ref (P 5), .int (I 6), .ref (P 7), .ref (P 8), .ref (P 9), .ref (P 10), .ref (P 11), .int (I 12), .int (I 13), .ref (P 14), .ref (P 15), .ref (P 16), .ref (P 17), .int (I 18), .ref (P 19), .ref (P 20), .ref (P 21)]))) H := hP
      obtain ⟨M72, eM72⟩ : ∃ z, z = hm_up M53 (P 0) (.inr (6, [.int (nI 1), .ref (P 1), .int (nI 0), .ref (P 3), .ref (P 4), .ref (P 5), .int (I 6), .ref (P 7), .ref (P 8), .ref (P 9), .ref (P 10), .ref (P 11), .int (I 12), .int (I 13), .ref (P 14), .ref (P 15), .ref (P 16), .ref (P 17), .int (I 18), .ref (P 19), .ref (P 20), .ref (P 21)])) := ⟨_, rfl⟩
      rw [← eM72] at hP
      have f73 : M72 (P 1) = some (.inl (D.1 102, 48, .inl (A 1))) := by rw [eM72]; exact hm_up_o (hm_neO (po 1 (by decide)) (po 0 (by decide)) (by decide)) f54
      have f74 : M72 (P 3) = some (.inl (D.1 102, 16, .inl (A 3))) := by rw [eM72]; exact hm_up_o (hm_neO (po 3 (by decide)) (po 0 (by decide)) (by decide)) f55
      have f75 : M72 (P 4) = some (.inl (D.1 102, 16, .inl (A 4))) := by rw [eM72]; exact hm_up_o (hm_neO (po 4 (by decide)) (po 0 (by decide)) (by decide)) f56
      have f76 : M72 (P 5) = some (.inl (D.1 101, 16, .inl (A 5))) := by rw [eM72]; exact hm_up_o (hm_neO (po 5 (by decide)) (po 0 (by decide)) (by decide)) f57
      have f77 : M72 (P 7) = some (.inl (D.1 102, 120, .inl (A 7))) := by rw [eM72]; exact hm_up_o (hm_neO (po 7 (by decide)) (po 0 (by decide)) (by decide)) f58
      have f78 : M72 (P 8) = some (.inl (D.1 102, 120, .inl (A 8))) := by rw [eM72]; exact hm_up_o (hm_neO (po 8 (by decide)) (po 0 (by decide)) (by decide)) f59
      have f79 : M72 (P 9) = some (.inl (D.1 102, 120, .inl (A 9))) := by rw [eM72]; exact hm_up_o (hm_neO (po 9 (by decide)) (po 0 (by decide)) (by decide)) f60
      have f80 : M72 (P 10) = some (.inl (D.1 102, 5760, .inl (A 10))) := by rw [eM72]; exact hm_up_o (hm_neO (po 10 (by decide)) (po 0 (by decide)) (by decide)) f61
      have f81 : M72 (P 11) = some (.inl (D.1 102, 48, .inl (A 11))) := by rw [eM72]; exact hm_up_o (hm_neO (po 11 (by decide)) (po 0 (by decide)) (by decide)) f62
      have f82 : M72 (P 14) = some (.inl (D.1 103, 6, .inr (.inl (L 14)))) := by rw [eM72]; exact hm_up_o (hm_neO (po 14 (by decide)) (po 0 (by decide)) (by decide)) f63
      have f83 : M72 (P 15) = some (.inl (D.1 103, 6, .inr (.inl (L 15)))) := by rw [eM72]; exact hm_up_o (hm_neO (po 15 (by decide)) (po 0 (by decide)) (by decide)) f64
      have f84 : M72 (P 16) = some (.inl (D.1 101, 16, .inl (A 16))) := by rw [eM72]; exact hm_up_o (hm_neO (po 16 (by decide)) (po 0 (by decide)) (by decide)) f65
      have f85 : M72 (P 17) = some (.inl (D.1 101, 16, .inl (A 17))) := by rw [eM72]; exact hm_up_o (hm_neO (po 17 (by decide)) (po 0 (by decide)) (by decide)) f66
      have f86 : M72 (P 19) = some (.inl (D.1 101, 2601, .inl (A 19))) := by rw [eM72]; exact hm_up_o (hm_neO (po 19 (by decide)) (po 0 (by decide)) (by decide)) f67
      have f87 : M72 (P 20) = some (.inl (D.1 102, 52, .inl (A 20))) := by rw [eM72]; exact hm_up_o (hm_neO (po 20 (by decide)) (po 0 (by decide)) (by decide)) f68
      have f88 : M72 (P 21) = some (.inl (D.1 102, 52, .inl (A 21))) := by rw [eM72]; exact hm_up_o (hm_neO (po 21 (by decide)) (po 0 (by decide)) (by decide)) f69
      have f89 : M72 (P 0) = some (.inr (6, [.int (nI 1), .ref (P 1), .int (nI 0), .ref (P 3), .ref (P 4), .ref (P 5), .int (I 6), .ref (P 7), .ref (P 8), .ref (P 9), .ref (P 10), .ref (P 11), .int (I 12), .int (I 13), .ref (P 14), .ref (P 15), .ref (P 16), .ref (P 17), .int (I 18), .ref (P 19), .ref (P 20), .ref (P 21)])) := by rw [eM72]; exact hm_up_s
      refine lv_aload_n hx hb dd_MO_bind_207 rfl (lv_at hl 3 rfl) ?_
      refine hm_get (ci := 6) (C := rn_MO) (T := ft_MO) (N := 22) hx hb hts fi_MO hown hE.K hP f89 rfl 0 (by decide) (hts _ tw_986) (fun _ h9 => h9) rfl dd_MO_bind_208 ?_
      refine hn_if_ne (tgt := 223) hx hb (by omega) dd_MO_bind_211 (by decide) (fun c90 => ?_) (fun c90 => absurd c90 (by omega))
      refine lv_iconst (v := nI 0) hx hb dd_MO_bind_223 (by decide +kernel) ?_
      have kk91 : hm_k M M [(P 0)] := hm_krf
      have kk92 : hm_k M M53 [(P 0)] := hm_ku kk91 (Or.inr (by simp)) eM53
      have kk93 : hm_k M M72 [(P 0)] := hm_ku kk92 (Or.inr (by simp)) eM72
      exact hm_Ei (v := nI 0) hx hb hr rfl hS hP (⟨bz_0 (by rw [bn_b, hok]; rfl), (va_up (va_up I 0 (nI 1)) 2 (nI 0)), A, L, ⟨f89, f73, f74, f75, f76, f77, f78, f79, f80, f81, f82, f83, f84, f85, f86, f87, f88, po, pb⟩, by rw [bn_c, hok]; rfl, ⟨tpS_0, hX, hQ, by rw [bn_l, bn_b, hok]; exact hB, hK, hH, hFo, hPs⟩, cz_F.k0 kk93 (hm_a1 ⟨by rw [po 0 (by decide)]; unfold pm; omega, _, f89⟩)⟩) hlocks (by omega) (by omega) dd_MO_bind_224
  · have hxs := bz_t c5
    obtain ⟨s9, o9, hev⟩ := exS_v hX hxs
    have hin := ex_some hxs
    have hin1 := hin.1
    have hin2 := hin.2
    refine lv_aload_n hx hb dd_MO_bind_8 rfl (lv_at hl 0 rfl) ?_
    refine lv_iload_n hx hb dd_MO_bind_9 rfl (lv_at hl 2 rfl) ?_
    refine lv_iload_n hx hb dd_MO_bind_10 rfl (lv_at hl 3 rfl) ?_
    have hd94 : mo_D B D P O M I A L := ⟨p0, p1, p3, p4, p5, p7, p8, p9, p10, p11, p14, p15, p16, p17, p19, p20, p21, po, pb⟩
    refine hm_ci hS (hm_rV 2 (As := [.int y, .int (nI (bz q))]) (rest := []) ⟨hx, hb, hml, hown, hts⟩ hE hS hP (kc_MO_isGoal l B D G M P O I A L hd94 qs hQ y q) rfl p0 tw_1102 tw_1099 tw_1101 tw_21 tw_46 (by decide +kernel) rfl rfl ⟨by show 1 + 1 ≤ R.frames; omega, by show 8 + (3 + 11) + 21 ≤ R.locals; omega⟩ rfl hl.1 rfl (Nat.le_of_ble_eq_true rfl) dd_MO_bind_11 ⟨by omega, by omega⟩) (fun r95 M96 H locs hw97 hP hS => ?_)
    refine W.widen (k := 0) (n := 0) (by omega) (by omega) ?_
    obtain ⟨hrM96, eM96⟩ := hw97
    rw [eM96] at hP
    have hrM96 := hrM96.trans ((by rw [th_at, exS_b (A := A) hX] : nI (bz (if q = true then qu_at qs y else me_x A y)) = nI (bz (th_at ex qs y q))))
    obtain rfl : r95 = nI (bz (th_at ex qs y q)) := hrM96
    refine hn_if_eq (tgt := 34) hx hb (bz_b _) dd_MO_bind_14 (by decide) (fun c98 => ?_) (fun c98 => ?_)
    · have hys := bz_f c98
      have hok : bi_ok ex qs t x y q = false := by rw [bi_ok, hev.1]; show (th_at ex qs y q && _) = false; rw [hys]; rfl
      refine lv_iconst (v := nI 0) hx hb dd_MO_bind_34 (by decide +kernel) ?_
      refine lv_istore (lv' := [(4, .int (nI 0)), (0, .ref (P 0)), (1, .int x), (2, .int y), (3, .int (nI (bz q)))]) hx hb dd_MO_bind_35 hl (by decide) rfl (fun ls hl => ?_)
      refine lv_iload_n hx hb dd_MO_bind_37 rfl (lv_at hl 4 rfl) ?_
      refine hn_if_eq (tgt := 48) hx hb (bz_b _) dd_MO_bind_38 (by decide) (fun c99 => ?_) (fun c99 => ?_)
      · have hq := bz_f c99
        refine lv_iload_n hx hb dd_MO_bind_48 rfl (lv_at hl 3 rfl) ?_
        refine W.eq (g2 := F0 m 49 ls [.int (to_I y q)]) (by rw [show to_I y q = y by rw [hq]; rfl]) ?_
        refine lv_istore (lv' := [(5, .int (to_I y q)), (4, .int (nI 0)), (0, .ref (P 0)), (1, .int x), (2, .int y), (3, .int (nI (bz q)))]) hx hb dd_MO_bind_49 hl (by decide) rfl (fun ls hl => ?_)
        refine lv_iload hx hb dd_MO_bind_51 (lv_at hl 1 rfl) ?_
        refine hn_if_eq (tgt := 71) hx hb (by omega) dd_MO_bind_53 (by decide) (fun c100 => ?_) (fun c100 => absurd c100 (by omega))
        refine lv_iconst (v := nI 0) hx hb dd_MO_bind_71 (by decide +kernel) ?_
        refine lv_istore (lv' := [(6, .int (nI 0)), (5, .int (to_I y q)), (4, .int (nI 0)), (0, .ref (P 0)), (1, .int x), (2, .int y), (3, .int (nI (bz q)))]) hx hb dd_MO_bind_72 hl (by decide) rfl (fun ls hl => ?_)
        refine lv_aload_n hx hb dd_MO_bind_74 rfl (lv_at hl 3 rfl) ?_
        refine lv_iload hx hb dd_MO_bind_75 (lv_at hl 2 rfl) ?_
        refine hn_if_ne (tgt := 84) hx hb (by omega) dd_MO_bind_77 (by decide) (fun c101 => absurd c101 (by omega)) (fun c101 => ?_)
        refine lv_iconst (v := nI 1) hx hb dd_MO_bind_80 (by decide +kernel) ?_
        refine lv_goto (tgt := 103) hx hb dd_MO_bind_81 (by decide) ?_
        refine hm_put (ci := 6) (v := .int (nI 1)) (ty := .int) (C := rn_MO) (T := ft_MO) (N := 22) hx hb hts fi_MO fy_MO fo_MO fn_MO hown hE.K hP hS (pb 0 (by decide)) p0 rfl 0 (by decide) (hts _ tw_986) (fun _ h9 => h9) rfl (by decide +kernel) rfl rfl (Nat.le_of_ble_eq_true rfl) dd_MO_bind_103 (fun H locs hP hS => ?_)
        have hP : hm_P D cl_W (hm_up M (P 0) (.inr (6, [.int (nI 1), .ref (P 1), .int (I 2), .ref (P 3), .ref (P 4), .ref (P 5), .int (I 6), .ref (P 7), .ref (P 8), .ref (P 9), .ref (P 10), .ref (P 11), .int (I 12), .int (I 13), .ref (P 14), .ref (P 15), .ref (P 16), .ref (P 17), .int (I 18), .ref (P 19), .ref (P 20), .ref (P 21)]))) H := hP
        obtain ⟨M102, eM102⟩ : ∃ z, z = hm_up M (P 0) (.inr (6, [.int (nI 1), .ref (P 1), .int (I 2), .ref (P 3), .ref (P 4), .ref (P 5), .int (I 6), .ref (P 7), .ref (P 8), .ref (P 9), .ref (P 10), .ref (P 11), .int (I 12), .int (I 13), .ref (P 14), .ref (P 15), .ref (P 16), .ref (P 17), .int (I 18), .ref (P 19), .ref (P 20), .ref (P 21)])) := ⟨_, rfl⟩
        rw [← eM102] at hP
        have f103 : M102 (P 1) = some (.inl (D.1 102, 48, .inl (A 1))) := by rw [eM102]; exact hm_up_o (hm_neO (po 1 (by decide)) (po 0 (by decide)) (by decide)) p1
        have f104 : M102 (P 3) = some (.inl (D.1 102, 16, .inl (A 3))) := by rw [eM102]; exact hm_up_o (hm_neO (po 3 (by decide)) (po 0 (by decide)) (by decide)) p3
        have f105 : M102 (P 4) = some (.inl (D.1 102, 16, .inl (A 4))) := by rw [eM102]; exact hm_up_o (hm_neO (po 4 (by decide)) (po 0 (by decide)) (by decide)) p4
        have f106 : M102 (P 5) = some (.inl (D.1 101, 16, .inl (A 5))) := by rw [eM102]; exact hm_up_o (hm_neO (po 5 (by decide)) (po 0 (by decide)) (by decide)) p5
        have f107 : M102 (P 7) = some (.inl (D.1 102, 120, .inl (A 7))) := by rw [eM102]; exact hm_up_o (hm_neO (po 7 (by decide)) (po 0 (by decide)) (by decide)) p7
        have f108 : M102 (P 8) = some (.inl (D.1 102, 120, .inl (A 8))) := by rw [eM102]; exact hm_up_o (hm_neO (po 8 (by decide)) (po 0 (by decide)) (by decide)) p8
        have f109 : M102 (P 9) = some (.inl (D.1 102, 120, .inl (A 9))) := by rw [eM102]; exact hm_up_o (hm_neO (po 9 (by decide)) (po 0 (by decide)) (by decide)) p9
        have f110 : M102 (P 10) = some (.inl (D.1 102, 5760, .inl (A 10))) := by rw [eM102]; exact hm_up_o (hm_neO (po 10 (by decide)) (po 0 (by decide)) (by decide)) p10
        have f111 : M102 (P 11) = some (.inl (D.1 102, 48, .inl (A 11))) := by rw [eM102]; exact hm_up_o (hm_neO (po 11 (by decide)) (po 0 (by decide)) (by decide)) p11
        have f112 : M102 (P 14) = some (.inl (D.1 103, 6, .inr (.inl (L 14)))) := by rw [eM102]; exact hm_up_o (hm_neO (po 14 (by decide)) (po 0 (by decide)) (by decide)) p14
        have f113 : M102 (P 15) = some (.inl (D.1 103, 6, .inr (.inl (L 15)))) := by rw [eM102]; exact hm_up_o (hm_neO (po 15 (by decide)) (po 0 (by decide)) (by decide)) p15
        have f114 : M102 (P 16) = some (.inl (D.1 101, 16, .inl (A 16))) := by rw [eM102]; exact hm_up_o (hm_neO (po 16 (by decide)) (po 0 (by decide)) (by decide)) p16
        have f115 : M102 (P 17) = some (.inl (D.1 101, 16, .inl (A 17))) := by rw [eM102]; exact hm_up_o (hm_neO (po 17 (by decide)) (po 0 (by decide)) (by decide)) p17
        have f116 : M102 (P 19) = some (.inl (D.1 101, 2601, .inl (A 19))) := by rw [eM102]; exact hm_up_o (hm_neO (po 19 (by decide)) (po 0 (by decide)) (by decide)) p19
        have f117 : M102 (P 20) = some (.inl (D.1 102, 52, .inl (A 20))) := by rw [eM102]; exact hm_up_o (hm_neO (po 20 (by decide)) (po 0 (by decide)) (by decide)) p20
        have f118 : M102 (P 21) = some (.inl (D.1 102, 52, .inl (A 21))) := by rw [eM102]; exact hm_up_o (hm_neO (po 21 (by decide)) (po 0 (by decide)) (by decide)) p21
        have f119 : M102 (P 0) = some (.inr (6, [.int (nI 1), .ref (P 1), .int (I 2), .ref (P 3), .ref (P 4), .ref (P 5), .int (I 6), .ref (P 7), .ref (P 8), .ref (P 9), .ref (P 10), .ref (P 11), .int (I 12), .int (I 13), .ref (P 14), .ref (P 15), .ref (P 16), .ref (P 17), .int (I 18), .ref (P 19), .ref (P 20), .ref (P 21)])) := by rw [eM102]; exact hm_up_s
        refine lv_aload_n hx hb dd_MO_bind_106 rfl (lv_at hl 3 rfl) ?_
        refine hm_get (ci := 6) (C := rn_MO) (T := ft_MO) (N := 22) hx hb hts fi_MO hown hE.K hP f119 rfl 0 (by decide) (hts _ tw_986) (fun _ h9 => h9) rfl dd_MO_bind_107 ?_
        refine hn_if_ne (tgt := 202) hx hb (by omega) dd_MO_bind_110 (by decide) (fun c120 => ?_) (fun c120 => absurd c120 (by omega))
        refine lv_aload_n hx hb dd_MO_bind_202 rfl (lv_at hl 3 rfl) ?_
        refine lv_iconst (v := nI 0) hx hb dd_MO_bind_203 (by decide +kernel) ?_
        refine hm_put (ci := 6) (v := .int (nI 0)) (ty := .int) (C := rn_MO) (T := ft_MO) (N := 22) hx hb hts fi_MO fy_MO fo_MO fn_MO hown hE.K hP hS (pb 0 (by decide)) f119 rfl 2 (by decide) (hts _ tw_988) (fun _ h9 => h9) rfl (by decide +kernel) rfl rfl (Nat.le_of_ble_eq_true rfl) dd_MO_bind_204 (fun H locs hP hS => ?_)
        have hP : hm_P D cl_W (hm_up M102 (P 0) (.inr (6, [.int (nI 1), .ref (P 1), .int (nI 0), .ref (P 3), .ref (P 4), .ref (P 5), .int (I 6), .ref (P 7), .ref (P 8), .ref (P 9), .ref (P 10), .ref (P 11), .int (I 12), .int (I 13), .ref (P 14), .ref (P 15), .ref (P 16), .ref (P 17), .int (I 18), .ref (P 19), .ref (P 20), .ref (P 21)]))) H := hP
        obtain ⟨M121, eM121⟩ : ∃ z, z = hm_up M102 (P 0) (.inr (6, [.int (nI 1), .ref (P 1), .int (nI 0), .ref (P 3), .ref (P 4), .ref (P 5), .int (I 6), .ref (P 7), .ref (P 8), .ref (P 9), .ref (P 10), .ref (P 11), .int (I 12), .int (I 13), .ref (P 14), .ref (P 15), .ref (P 16), .ref (P 17), .int (I 18), .ref (P 19), .ref (P 20), .ref (P 21)])) := ⟨_, rfl⟩
        rw [← eM121] at hP
        have f122 : M121 (P 1) = some (.inl (D.1 102, 48, .inl (A 1))) := by rw [eM121]; exact hm_up_o (hm_neO (po 1 (by decide)) (po 0 (by decide)) (by decide)) f103
        have f123 : M121 (P 3) = some (.inl (D.1 102, 16, .inl (A 3))) := by rw [eM121]; exact hm_up_o (hm_neO (po 3 (by decide)) (po 0 (by decide)) (by decide)) f104
        have f124 : M121 (P 4) = some (.inl (D.1 102, 16, .inl (A 4))) := by rw [eM121]; exact hm_up_o (hm_neO (po 4 (by decide)) (po 0 (by decide)) (by decide)) f105
        have f125 : M121 (P 5) = some (.inl (D.1 101, 16, .inl (A 5))) := by rw [eM121]; exact hm_up_o (hm_neO (po 5 (by decide)) (po 0 (by decide)) (by decide)) f106
        have f126 : M121 (P 7) = some (.inl (D.1 102, 120, .inl (A 7))) := by rw [eM121]; exact hm_up_o (hm_neO (po 7 (by decide)) (po 0 (by decide)) (by decide)) f107
        have f127 : M121 (P 8) = some (.inl (D.1 102, 120, .inl (A 8))) := by rw [eM121]; exact hm_up_o (hm_neO (po 8 (by decide)) (po 0 (by decide)) (by decide)) f108
        have f128 : M121 (P 9) = some (.inl (D.1 102, 120, .inl (A 9))) := by rw [eM121]; exact hm_up_o (hm_neO (po 9 (by decide)) (po 0 (by decide)) (by decide)) f109
        have f129 : M121 (P 10) = some (.inl (D.1 102, 5760, .inl (A 10))) := by rw [eM121]; exact hm_up_o (hm_neO (po 10 (by decide)) (po 0 (by decide)) (by decide)) f110
        have f130 : M121 (P 11) = some (.inl (D.1 102, 48, .inl (A 11))) := by rw [eM121]; exact hm_up_o (hm_neO (po 11 (by decide)) (po 0 (by decide)) (by decide)) f111
        have f131 : M121 (P 14) = some (.inl (D.1 103, 6, .inr (.inl (L 14)))) := by rw [eM121]; exact hm_up_o (hm_neO (po 14 (by decide)) (po 0 (by decide)) (by decide)) f112
        have f132 : M121 (P 15) = some (.inl (D.1 103, 6, .inr (.inl (L 15)))) := by rw [eM121]; exact hm_up_o (hm_neO (po 15 (by decide)) (po 0 (by decide)) (by decide)) f113
        have f133 : M121 (P 16) = some (.inl (D.1 101, 16, .inl (A 16))) := by rw [eM121]; exact hm_up_o (hm_neO (po 16 (by decide)) (po 0 (by decide)) (by decide)) f114
        have f134 : M121 (P 17) = some (.inl (D.1 101, 16, .inl (A 17))) := by rw [eM121]; exact hm_up_o (hm_neO (po 17 (by decide)) (po 0 (by decide)) (by decide)) f115
        have f135 : M121 (P 19) = some (.inl (D.1 101, 2601, .inl (A 19))) := by rw [eM121]; exact hm_up_o (hm_neO (po 19 (by decide)) (po 0 (by decide)) (by decide)) f116
        have f136 : M121 (P 20) = some (.inl (D.1 102, 52, .inl (A 20))) := by rw [eM121]; exact hm_up_o (hm_neO (po 20 (by decide)) (po 0 (by decide)) (by decide)) f117
        have f137 : M121 (P 21) = some (.inl (D.1 102, 52, .inl (A 21))) := by rw [eM121]; exact hm_up_o (hm_neO (po 21 (by decide)) (po 0 (by decide)) (by decide)) f118
        have f138 : M121 (P 0) = some (.inr (6, [.int (nI 1), .ref (P 1), .int (nI 0), .ref (P 3), .ref (P 4), .ref (P 5), .int (I 6), .ref (P 7), .ref (P 8), .ref (P 9), .ref (P 10), .ref (P 11), .int (I 12), .int (I 13), .ref (P 14), .ref (P 15), .ref (P 16), .ref (P 17), .int (I 18), .ref (P 19), .ref (P 20), .ref (P 21)])) := by rw [eM121]; exact hm_up_s
        refine lv_aload_n hx hb dd_MO_bind_207 rfl (lv_at hl 3 rfl) ?_
        refine hm_get (ci := 6) (C := rn_MO) (T := ft_MO) (N := 22) hx hb hts fi_MO hown hE.K hP f138 rfl 0 (by decide) (hts _ tw_986) (fun _ h9 => h9) rfl dd_MO_bind_208 ?_
        refine hn_if_ne (tgt := 223) hx hb (by omega) dd_MO_bind_211 (by decide) (fun c139 => ?_) (fun c139 => absurd c139 (by omega))
        refine lv_iconst (v := nI 0) hx hb dd_MO_bind_223 (by decide +kernel) ?_
        have kk140 : hm_k M M [(P 0)] := hm_krf
        have kk141 : hm_k M M102 [(P 0)] := hm_ku kk140 (Or.inr (by simp)) eM102
        have kk142 : hm_k M M121 [(P 0)] := hm_ku kk141 (Or.inr (by simp)) eM121
        exact hm_Ei (v := nI 0) hx hb hr rfl hS hP (⟨bz_0 (by rw [bn_b, hok]; rfl), (va_up (va_up I 0 (nI 1)) 2 (nI 0)), A, L, ⟨f138, f122, f123, f124, f125, f126, f127, f128, f129, f130, f131, f132, f133, f134, f135, f136, f137, po, pb⟩, by rw [bn_c, hok]; rfl, ⟨tpS_0, hX, hQ, by rw [bn_l, bn_b, hok]; exact hB, hK, hH, hFo, hPs⟩, cz_F.k0 kk142 (hm_a1 ⟨by rw [po 0 (by decide)]; unfold pm; omega, _, f138⟩)⟩) hlocks (by omega) (by omega) dd_MO_bind_224
      · have hq := bz_t c99
        refine lv_bipush (v := nI 16) hx hb dd_MO_bind_41 (by decide +kernel) ?_
        refine lv_iload_n hx hb dd_MO_bind_43 rfl (lv_at hl 3 rfl) ?_
        refine lv_iadd hx hb dd_MO_bind_44 ?_
        refine lv_topi (fun x143 ex143 => ?_)
        refine lv_goto (tgt := 49) hx hb dd_MO_bind_45 (by decide) ?_
        refine W.eq (g2 := F0 m 49 ls [.int (to_I y q)]) (by rw [show to_I y q = x143 by rw [hq, ex143]; rfl]) ?_
        refine lv_istore (lv' := [(5, .int (to_I y q)), (4, .int (nI 0)), (0, .ref (P 0)), (1, .int x), (2, .int y), (3, .int (nI (bz q)))]) hx hb dd_MO_bind_49 hl (by decide) rfl (fun ls hl => ?_)
        refine lv_iload hx hb dd_MO_bind_51 (lv_at hl 1 rfl) ?_
        refine hn_if_eq (tgt := 71) hx hb (by omega) dd_MO_bind_53 (by decide) (fun c144 => ?_) (fun c144 => absurd c144 (by omega))
        refine lv_iconst (v := nI 0) hx hb dd_MO_bind_71 (by decide +kernel) ?_
        refine lv_istore (lv' := [(6, .int (nI 0)), (5, .int (to_I y q)), (4, .int (nI 0)), (0, .ref (P 0)), (1, .int x), (2, .int y), (3, .int (nI (bz q)))]) hx hb dd_MO_bind_72 hl (by decide) rfl (fun ls hl => ?_)
        refine lv_aload_n hx hb dd_MO_bind_74 rfl (lv_at hl 3 rfl) ?_
        refine lv_iload hx hb dd_MO_bind_75 (lv_at hl 2 rfl) ?_
        refine hn_if_ne (tgt := 84) hx hb (by omega) dd_MO_bind_77 (by decide) (fun c145 => absurd c145 (by omega)) (fun c145 => ?_)
        refine lv_iconst (v := nI 1) hx hb dd_MO_bind_80 (by decide +kernel) ?_
        refine lv_goto (tgt := 103) hx hb dd_MO_bind_81 (by decide) ?_
        refine hm_put (ci := 6) (v := .int (nI 1)) (ty := .int) (C := rn_MO) (T := ft_MO) (N := 22) hx hb hts fi_MO fy_MO fo_MO fn_MO hown hE.K hP hS (pb 0 (by decide)) p0 rfl 0 (by decide) (hts _ tw_986) (fun _ h9 => h9) rfl (by decide +kernel) rfl rfl (Nat.le_of_ble_eq_true rfl) dd_MO_bind_103 (fun H locs hP hS => ?_)
        have hP : hm_P D cl_W (hm_up M (P 0) (.inr (6, [.int (nI 1), .ref (P 1), .int (I 2), .ref (P 3), .ref (P 4), .ref (P 5), .int (I 6), .ref (P 7), .ref (P 8), .ref (P 9), .ref (P 10), .ref (P 11), .int (I 12), .int (I 13), .ref (P 14), .ref (P 15), .ref (P 16), .ref (P 17), .int (I 18), .ref (P 19), .ref (P 20), .ref (P 21)]))) H := hP
        obtain ⟨M146, eM146⟩ : ∃ z, z = hm_up M (P 0) (.inr (6, [.int (nI 1), .ref (P 1), .int (I 2), .ref (P 3), .ref (P 4), .ref (P 5), .int (I 6), .ref (P 7), .ref (P 8), .ref (P 9), .ref (P 10), .ref (P 11), .int (I 12), .int (I 13), .ref (P 14), .ref (P 15), .ref (P 16), .ref (P 17), .int (I 18), .ref (P 19), .ref (P 20), .ref (P 21)])) := ⟨_, rfl⟩
        rw [← eM146] at hP
        have f147 : M146 (P 1) = some (.inl (D.1 102, 48, .inl (A 1))) := by rw [eM146]; exact hm_up_o (hm_neO (po 1 (by decide)) (po 0 (by decide)) (by decide)) p1
        have f148 : M146 (P 3) = some (.inl (D.1 102, 16, .inl (A 3))) := by rw [eM146]; exact hm_up_o (hm_neO (po 3 (by decide)) (po 0 (by decide)) (by decide)) p3
        have f149 : M146 (P 4) = some (.inl (D.1 102, 16, .inl (A 4))) := by rw [eM146]; exact hm_up_o (hm_neO (po 4 (by decide)) (po 0 (by decide)) (by decide)) p4
        have f150 : M146 (P 5) = some (.inl (D.1 101, 16, .inl (A 5))) := by rw [eM146]; exact hm_up_o (hm_neO (po 5 (by decide)) (po 0 (by decide)) (by decide)) p5
        have f151 : M146 (P 7) = some (.inl (D.1 102, 120, .inl (A 7))) := by rw [eM146]; exact hm_up_o (hm_neO (po 7 (by decide)) (po 0 (by decide)) (by decide)) p7
        have f152 : M146 (P 8) = some (.inl (D.1 102, 120, .inl (A 8))) := by rw [eM146]; exact hm_up_o (hm_neO (po 8 (by decide)) (po 0 (by decide)) (by decide)) p8
        have f153 : M146 (P 9) = some (.inl (D.1 102, 120, .inl (A 9))) := by rw [eM146]; exact hm_up_o (hm_neO (po 9 (by decide)) (po 0 (by decide)) (by decide)) p9
        have f154 : M146 (P 10) = some (.inl (D.1 102, 5760, .inl (A 10))) := by rw [eM146]; exact hm_up_o (hm_neO (po 10 (by decide)) (po 0 (by decide)) (by decide)) p10
        have f155 : M146 (P 11) = some (.inl (D.1 102, 48, .inl (A 11))) := by rw [eM146]; exact hm_up_o (hm_neO (po 11 (by decide)) (po 0 (by decide)) (by decide)) p11
        have f156 : M146 (P 14) = some (.inl (D.1 103, 6, .inr (.inl (L 14)))) := by rw [eM146]; exact hm_up_o (hm_neO (po 14 (by decide)) (po 0 (by decide)) (by decide)) p14
        have f157 : M146 (P 15) = some (.inl (D.1 103, 6, .inr (.inl (L 15)))) := by rw [eM146]; exact hm_up_o (hm_neO (po 15 (by decide)) (po 0 (by decide)) (by decide)) p15
        have f158 : M146 (P 16) = some (.inl (D.1 101, 16, .inl (A 16))) := by rw [eM146]; exact hm_up_o (hm_neO (po 16 (by decide)) (po 0 (by decide)) (by decide)) p16
        have f159 : M146 (P 17) = some (.inl (D.1 101, 16, .inl (A 17))) := by rw [eM146]; exact hm_up_o (hm_neO (po 17 (by decide)) (po 0 (by decide)) (by decide)) p17
        have f160 : M146 (P 19) = some (.inl (D.1 101, 2601, .inl (A 19))) := by rw [eM146]; exact hm_up_o (hm_neO (po 19 (by decide)) (po 0 (by decide)) (by decide)) p19
        have f161 : M146 (P 20) = some (.inl (D.1 102, 52, .inl (A 20))) := by rw [eM146]; exact hm_up_o (hm_neO (po 20 (by decide)) (po 0 (by decide)) (by decide)) p20
        have f162 : M146 (P 21) = some (.inl (D.1 102, 52, .inl (A 21))) := by rw [eM146]; exact hm_up_o (hm_neO (po 21 (by decide)) (po 0 (by decide)) (by decide)) p21
        have f163 : M146 (P 0) = some (.inr (6, [.int (nI 1), .ref (P 1), .int (I 2), .ref (P 3), .ref (P 4), .ref (P 5), .int (I 6), .ref (P 7), .ref (P 8), .ref (P 9), .ref (P 10), .ref (P 11), .int (I 12), .int (I 13), .ref (P 14), .ref (P 15), .ref (P 16), .ref (P 17), .int (I 18), .ref (P 19), .ref (P 20), .ref (P 21)])) := by rw [eM146]; exact hm_up_s
        refine lv_aload_n hx hb dd_MO_bind_106 rfl (lv_at hl 3 rfl) ?_
        refine hm_get (ci := 6) (C := rn_MO) (T := ft_MO) (N := 22) hx hb hts fi_MO hown hE.K hP f163 rfl 0 (by decide) (hts _ tw_986) (fun _ h9 => h9) rfl dd_MO_bind_107 ?_
        refine hn_if_ne (tgt := 202) hx hb (by omega) dd_MO_bind_110 (by decide) (fun c164 => ?_) (fun c164 => absurd c164 (by omega))
        refine lv_aload_n hx hb dd_MO_bind_202 rfl (lv_at hl 3 rfl) ?_
        refine lv_iconst (v := nI 0) hx hb dd_MO_bind_203 (by decide +kernel) ?_
        refine hm_put (ci := 6) (v := .int (nI 0)) (ty := .int) (C := rn_MO) (T := ft_MO) (N := 22) hx hb hts fi_MO fy_MO fo_MO fn_MO hown hE.K hP hS (pb 0 (by decide)) f163 rfl 2 (by decide) (hts _ tw_988) (fun _ h9 => h9) rfl (by decide +kernel) rfl rfl (Nat.le_of_ble_eq_true rfl) dd_MO_bind_204 (fun H locs hP hS => ?_)
        have hP : hm_P D cl_W (hm_up M146 (P 0) (.inr (6, [.int (nI 1), .ref (P 1), .int (nI 0), .ref (P 3), .ref (P 4), .ref (P 5), .int (I 6), .ref (P 7), .ref (P 8), .ref (P 9), .ref (P 10), .ref (P 11), .int (I 12), .int (I 13), .ref (P 14), .ref (P 15), .ref (P 16), .ref (P 17), .int (I 18), .ref (P 19), .ref (P 20), .ref (P 21)]))) H := hP
        obtain ⟨M165, eM165⟩ : ∃ z, z = hm_up M146 (P 0) (.inr (6, [.int (nI 1), .ref (P 1), .int (nI 0), .ref (P 3), .ref (P 4), .ref (P 5), .int (I 6), .ref (P 7), .ref (P 8), .ref (P 9), .ref (P 10), .ref (P 11), .int (I 12), .int (I 13), .ref (P 14), .ref (P 15), .ref (P 16), .ref (P 17), .int (I 18), .ref (P 19), .ref (P 20), .ref (P 21)])) := ⟨_, rfl⟩
        rw [← eM165] at hP
        have f166 : M165 (P 1) = some (.inl (D.1 102, 48, .inl (A 1))) := by rw [eM165]; exact hm_up_o (hm_neO (po 1 (by decide)) (po 0 (by decide)) (by decide)) f147
        have f167 : M165 (P 3) = some (.inl (D.1 102, 16, .inl (A 3))) := by rw [eM165]; exact hm_up_o (hm_neO (po 3 (by decide)) (po 0 (by decide)) (by decide)) f148
        have f168 : M165 (P 4) = some (.inl (D.1 102, 16, .inl (A 4))) := by rw [eM165]; exact hm_up_o (hm_neO (po 4 (by decide)) (po 0 (by decide)) (by decide)) f149
        have f169 : M165 (P 5) = some (.inl (D.1 101, 16, .inl (A 5))) := by rw [eM165]; exact hm_up_o (hm_neO (po 5 (by decide)) (po 0 (by decide)) (by decide)) f150
        have f170 : M165 (P 7) = some (.inl (D.1 102, 120, .inl (A 7))) := by rw [eM165]; exact hm_up_o (hm_neO (po 7 (by decide)) (po 0 (by decide)) (by decide)) f151
        have f171 : M165 (P 8) = some (.inl (D.1 102, 120, .inl (A 8))) := by rw [eM165]; exact hm_up_o (hm_neO (po 8 (by decide)) (po 0 (by decide)) (by decide)) f152
        have f172 : M165 (P 9) = some (.inl (D.1 102, 120, .inl (A 9))) := by rw [eM165]; exact hm_up_o (hm_neO (po 9 (by decide)) (po 0 (by decide)) (by decide)) f153
        have f173 : M165 (P 10) = some (.inl (D.1 102, 5760, .inl (A 10))) := by rw [eM165]; exact hm_up_o (hm_neO (po 10 (by decide)) (po 0 (by decide)) (by decide)) f154
        have f174 : M165 (P 11) = some (.inl (D.1 102, 48, .inl (A 11))) := by rw [eM165]; exact hm_up_o (hm_neO (po 11 (by decide)) (po 0 (by decide)) (by decide)) f155
        have f175 : M165 (P 14) = some (.inl (D.1 103, 6, .inr (.inl (L 14)))) := by rw [eM165]; exact hm_up_o (hm_neO (po 14 (by decide)) (po 0 (by decide)) (by decide)) f156
        have f176 : M165 (P 15) = some (.inl (D.1 103, 6, .inr (.inl (L 15)))) := by rw [eM165]; exact hm_up_o (hm_neO (po 15 (by decide)) (po 0 (by decide)) (by decide)) f157
        have f177 : M165 (P 16) = some (.inl (D.1 101, 16, .inl (A 16))) := by rw [eM165]; exact hm_up_o (hm_neO (po 16 (by decide)) (po 0 (by decide)) (by decide)) f158
        have f178 : M165 (P 17) = some (.inl (D.1 101, 16, .inl (A 17))) := by rw [eM165]; exact hm_up_o (hm_neO (po 17 (by decide)) (po 0 (by decide)) (by decide)) f159
        have f179 : M165 (P 19) = some (.inl (D.1 101, 2601, .inl (A 19))) := by rw [eM165]; exact hm_up_o (hm_neO (po 19 (by decide)) (po 0 (by decide)) (by decide)) f160
        have f180 : M165 (P 20) = some (.inl (D.1 102, 52, .inl (A 20))) := by rw [eM165]; exact hm_up_o (hm_neO (po 20 (by decide)) (po 0 (by decide)) (by decide)) f161
        have f181 : M165 (P 21) = some (.inl (D.1 102, 52, .inl (A 21))) := by rw [eM165]; exact hm_up_o (hm_neO (po 21 (by decide)) (po 0 (by decide)) (by decide)) f162
        have f182 : M165 (P 0) = some (.inr (6, [.int (nI 1), .ref (P 1), .int (nI 0), .ref (P 3), .ref (P 4), .ref (P 5), .int (I 6), .ref (P 7), .ref (P 8), .ref (P 9), .ref (P 10), .ref (P 11), .int (I 12), .int (I 13), .ref (P 14), .ref (P 15), .ref (P 16), .ref (P 17), .int (I 18), .ref (P 19), .ref (P 20), .ref (P 21)])) := by rw [eM165]; exact hm_up_s
        refine lv_aload_n hx hb dd_MO_bind_207 rfl (lv_at hl 3 rfl) ?_
        refine hm_get (ci := 6) (C := rn_MO) (T := ft_MO) (N := 22) hx hb hts fi_MO hown hE.K hP f182 rfl 0 (by decide) (hts _ tw_986) (fun _ h9 => h9) rfl dd_MO_bind_208 ?_
        refine hn_if_ne (tgt := 223) hx hb (by omega) dd_MO_bind_211 (by decide) (fun c183 => ?_) (fun c183 => absurd c183 (by omega))
        refine lv_iconst (v := nI 0) hx hb dd_MO_bind_223 (by decide +kernel) ?_
        have kk184 : hm_k M M [(P 0)] := hm_krf
        have kk185 : hm_k M M146 [(P 0)] := hm_ku kk184 (Or.inr (by simp)) eM146
        have kk186 : hm_k M M165 [(P 0)] := hm_ku kk185 (Or.inr (by simp)) eM165
        exact hm_Ei (v := nI 0) hx hb hr rfl hS hP (⟨bz_0 (by rw [bn_b, hok]; rfl), (va_up (va_up I 0 (nI 1)) 2 (nI 0)), A, L, ⟨f182, f166, f167, f168, f169, f170, f171, f172, f173, f174, f175, f176, f177, f178, f179, f180, f181, po, pb⟩, by rw [bn_c, hok]; rfl, ⟨tpS_0, hX, hQ, by rw [bn_l, bn_b, hok]; exact hB, hK, hH, hFo, hPs⟩, cz_F.k0 kk186 (hm_a1 ⟨by rw [po 0 (by decide)]; unfold pm; omega, _, f182⟩)⟩) hlocks (by omega) (by omega) dd_MO_bind_224
    · have hys := bz_t c98
      have hiny := th_in hys
      refine lv_aload_n hx hb dd_MO_bind_17 rfl (lv_at hl 0 rfl) ?_
      refine lv_aload_n hx hb dd_MO_bind_18 rfl (lv_at hl 0 rfl) ?_
      refine hm_get (ci := 6) (C := rn_MO) (T := ft_MO) (N := 22) hx hb hts fi_MO hown hE.K hP p0 rfl 3 (by decide) (hts _ tw_989) (fun _ h9 => h9) rfl dd_MO_bind_19 ?_
      refine lv_iload_n hx hb dd_MO_bind_22 rfl (lv_at hl 1 rfl) ?_
      refine hm_iald (j := x.toInt.toNat) hx hb hE.K hP 2 p3 rfl (hi_in (by omega) (by omega)) hi_clamp dd_MO_bind_23 ?_
      refine W.eq (g2 := F0 m 24 ls [.int s9, .ref (P 0)]) (by rw [hev.2.1]) ?_
      have hF188 : cz_F O M O M pm := cz_F.rf
      have hd187 : mo_D B D P O M I A L := ⟨p0, p1, p3, p4, p5, p7, p8, p9, p10, p11, p14, p15, p16, p17, p19, p20, p21, po, pb⟩
      refine hm_ci hS (hm_rV 1 (As := [.int s9]) (rest := []) ⟨hx, hb, hml, hown, hts⟩ hE hS hP (kc_MO_isText l B D G M P O I A L hd187 t hT s9) rfl p0 tw_1106 tw_1103 tw_1105 tw_22 tw_46 (by decide +kernel) rfl rfl ⟨by show 4 + 1 ≤ R.frames; omega, by show 8 + (2 + 11) + 86 ≤ R.locals; omega⟩ rfl hl.1 rfl (Nat.le_of_ble_eq_true rfl) dd_MO_bind_24 ⟨by omega, by omega⟩) (fun r189 M190 H locs hw191 hP hS => ?_)
      refine W.widen (k := 0) (n := 0) (by omega) (by omega) ?_
      obtain ⟨rfl, zr189, hd192, hF193⟩ := hw191
      have hF193 := hF188.trans hF193
      obtain ⟨g194_0, g194_1, g194_3, g194_4, g194_5, g194_7, g194_8, g194_9, g194_10, g194_11, g194_14, g194_15, g194_16, g194_17, g194_19, g194_20, g194_21, -, -⟩ := id hd192
      have g194_0 : M190 (P 0) = some (.inr (6, [.int (I 0), .ref (P 1), .int (I 2), .ref (P 3), .ref (P 4), .ref (P 5), .int (I 6), .ref (P 7), .ref (P 8), .ref (P 9), .ref (P 10), .ref (P 11), .int (I 12), .int (I 13), .ref (P 14), .ref (P 15), .ref (P 16), .ref (P 17), .int zr189, .ref (P 19), .ref (P 20), .ref (P 21)])) := g194_0
      refine hn_if_eq (tgt := 34) hx hb (bz_b _) dd_MO_bind_27 (by decide) (fun c195 => ?_) (fun c195 => ?_)
      · have hok : bi_ok ex qs t x y q = false := by rw [bi_ok, hev.1]; show (th_at ex qs y q && tx_for s9 t) = false; rw [bz_f c195, Bool.and_false]
        refine lv_iconst (v := nI 0) hx hb dd_MO_bind_34 (by decide +kernel) ?_
        refine lv_istore (lv' := [(4, .int (nI 0)), (0, .ref (P 0)), (1, .int x), (2, .int y), (3, .int (nI (bz q)))]) hx hb dd_MO_bind_35 hl (by decide) rfl (fun ls hl => ?_)
        refine lv_iload_n hx hb dd_MO_bind_37 rfl (lv_at hl 4 rfl) ?_
        refine hn_if_eq (tgt := 48) hx hb (bz_b _) dd_MO_bind_38 (by decide) (fun c196 => ?_) (fun c196 => ?_)
        · have hq := bz_f c196
          refine lv_iload_n hx hb dd_MO_bind_48 rfl (lv_at hl 3 rfl) ?_
          refine W.eq (g2 := F0 m 49 ls [.int (to_I y q)]) (by rw [show to_I y q = y by rw [hq]; rfl]) ?_
          refine lv_istore (lv' := [(5, .int (to_I y q)), (4, .int (nI 0)), (0, .ref (P 0)), (1, .int x), (2, .int y), (3, .int (nI (bz q)))]) hx hb dd_MO_bind_49 hl (by decide) rfl (fun ls hl => ?_)
          refine lv_iload hx hb dd_MO_bind_51 (lv_at hl 1 rfl) ?_
          refine hn_if_eq (tgt := 71) hx hb (by omega) dd_MO_bind_53 (by decide) (fun c197 => ?_) (fun c197 => absurd c197 (by omega))
          refine lv_iconst (v := nI 0) hx hb dd_MO_bind_71 (by decide +kernel) ?_
          refine lv_istore (lv' := [(6, .int (nI 0)), (5, .int (to_I y q)), (4, .int (nI 0)), (0, .ref (P 0)), (1, .int x), (2, .int y), (3, .int (nI (bz q)))]) hx hb dd_MO_bind_72 hl (by decide) rfl (fun ls hl => ?_)
          refine lv_aload_n hx hb dd_MO_bind_74 rfl (lv_at hl 3 rfl) ?_
          refine lv_iload hx hb dd_MO_bind_75 (lv_at hl 2 rfl) ?_
          refine hn_if_ne (tgt := 84) hx hb (by omega) dd_MO_bind_77 (by decide) (fun c198 => absurd c198 (by omega)) (fun c198 => ?_)
          refine lv_iconst (v := nI 1) hx hb dd_MO_bind_80 (by decide +kernel) ?_
          refine lv_goto (tgt := 103) hx hb dd_MO_bind_81 (by decide) ?_
          refine hm_put (ci := 6) (v := .int (nI 1)) (ty := .int) (C := rn_MO) (T := ft_MO) (N := 22) hx hb hts fi_MO fy_MO fo_MO fn_MO hown hE.K hP hS (pb 0 (by decide)) g194_0 rfl 0 (by decide) (hts _ tw_986) (fun _ h9 => h9) rfl (by decide +kernel) rfl rfl (Nat.le_of_ble_eq_true rfl) dd_MO_bind_103 (fun H locs hP hS => ?_)
          have hP : hm_P D cl_W (hm_up M190 (P 0) (.inr (6, [.int (nI 1), .ref (P 1), .int (I 2), .ref (P 3), .ref (P 4), .ref (P 5), .int (I 6), .ref (P 7), .ref (P 8), .ref (P 9), .ref (P 10), .ref (P 11), .int (I 12), .int (I 13), .ref (P 14), .ref (P 15), .ref (P 16), .ref (P 17), .int zr189, .ref (P 19), .ref (P 20), .ref (P 21)]))) H := hP
          obtain ⟨M199, eM199⟩ : ∃ z, z = hm_up M190 (P 0) (.inr (6, [.int (nI 1), .ref (P 1), .int (I 2), .ref (P 3), .ref (P 4), .ref (P 5), .int (I 6), .ref (P 7), .ref (P 8), .ref (P 9), .ref (P 10), .ref (P 11), .int (I 12), .int (I 13), .ref (P 14), .ref (P 15), .ref (P 16), .ref (P 17), .int zr189, .ref (P 19), .ref (P 20), .ref (P 21)])) := ⟨_, rfl⟩
          rw [← eM199] at hP
          have f200 : M199 (P 1) = some (.inl (D.1 102, 48, .inl (A 1))) := by rw [eM199]; exact hm_up_o (hm_neO (po 1 (by decide)) (po 0 (by decide)) (by decide)) g194_1
          have f201 : M199 (P 3) = some (.inl (D.1 102, 16, .inl (A 3))) := by rw [eM199]; exact hm_up_o (hm_neO (po 3 (by decide)) (po 0 (by decide)) (by decide)) g194_3
          have f202 : M199 (P 4) = some (.inl (D.1 102, 16, .inl (A 4))) := by rw [eM199]; exact hm_up_o (hm_neO (po 4 (by decide)) (po 0 (by decide)) (by decide)) g194_4
          have f203 : M199 (P 5) = some (.inl (D.1 101, 16, .inl (A 5))) := by rw [eM199]; exact hm_up_o (hm_neO (po 5 (by decide)) (po 0 (by decide)) (by decide)) g194_5
          have f204 : M199 (P 7) = some (.inl (D.1 102, 120, .inl (A 7))) := by rw [eM199]; exact hm_up_o (hm_neO (po 7 (by decide)) (po 0 (by decide)) (by decide)) g194_7
          have f205 : M199 (P 8) = some (.inl (D.1 102, 120, .inl (A 8))) := by rw [eM199]; exact hm_up_o (hm_neO (po 8 (by decide)) (po 0 (by decide)) (by decide)) g194_8
          have f206 : M199 (P 9) = some (.inl (D.1 102, 120, .inl (A 9))) := by rw [eM199]; exact hm_up_o (hm_neO (po 9 (by decide)) (po 0 (by decide)) (by decide)) g194_9
          have f207 : M199 (P 10) = some (.inl (D.1 102, 5760, .inl (A 10))) := by rw [eM199]; exact hm_up_o (hm_neO (po 10 (by decide)) (po 0 (by decide)) (by decide)) g194_10
          have f208 : M199 (P 11) = some (.inl (D.1 102, 48, .inl (A 11))) := by rw [eM199]; exact hm_up_o (hm_neO (po 11 (by decide)) (po 0 (by decide)) (by decide)) g194_11
          have f209 : M199 (P 14) = some (.inl (D.1 103, 6, .inr (.inl (L 14)))) := by rw [eM199]; exact hm_up_o (hm_neO (po 14 (by decide)) (po 0 (by decide)) (by decide)) g194_14
          have f210 : M199 (P 15) = some (.inl (D.1 103, 6, .inr (.inl (L 15)))) := by rw [eM199]; exact hm_up_o (hm_neO (po 15 (by decide)) (po 0 (by decide)) (by decide)) g194_15
          have f211 : M199 (P 16) = some (.inl (D.1 101, 16, .inl (A 16))) := by rw [eM199]; exact hm_up_o (hm_neO (po 16 (by decide)) (po 0 (by decide)) (by decide)) g194_16
          have f212 : M199 (P 17) = some (.inl (D.1 101, 16, .inl (A 17))) := by rw [eM199]; exact hm_up_o (hm_neO (po 17 (by decide)) (po 0 (by decide)) (by decide)) g194_17
          have f213 : M199 (P 19) = some (.inl (D.1 101, 2601, .inl (A 19))) := by rw [eM199]; exact hm_up_o (hm_neO (po 19 (by decide)) (po 0 (by decide)) (by decide)) g194_19
          have f214 : M199 (P 20) = some (.inl (D.1 102, 52, .inl (A 20))) := by rw [eM199]; exact hm_up_o (hm_neO (po 20 (by decide)) (po 0 (by decide)) (by decide)) g194_20
          have f215 : M199 (P 21) = some (.inl (D.1 102, 52, .inl (A 21))) := by rw [eM199]; exact hm_up_o (hm_neO (po 21 (by decide)) (po 0 (by decide)) (by decide)) g194_21
          have f216 : M199 (P 0) = some (.inr (6, [.int (nI 1), .ref (P 1), .int (I 2), .ref (P 3), .ref (P 4), .ref (P 5), .int (I 6), .ref (P 7), .ref (P 8), .ref (P 9), .ref (P 10), .ref (P 11), .int (I 12), .int (I 13), .ref (P 14), .ref (P 15), .ref (P 16), .ref (P 17), .int zr189, .ref (P 19), .ref (P 20), .ref (P 21)])) := by rw [eM199]; exact hm_up_s
          refine lv_aload_n hx hb dd_MO_bind_106 rfl (lv_at hl 3 rfl) ?_
          refine hm_get (ci := 6) (C := rn_MO) (T := ft_MO) (N := 22) hx hb hts fi_MO hown hE.K hP f216 rfl 0 (by decide) (hts _ tw_986) (fun _ h9 => h9) rfl dd_MO_bind_107 ?_
          refine hn_if_ne (tgt := 202) hx hb (by omega) dd_MO_bind_110 (by decide) (fun c217 => ?_) (fun c217 => absurd c217 (by omega))
          refine lv_aload_n hx hb dd_MO_bind_202 rfl (lv_at hl 3 rfl) ?_
          refine lv_iconst (v := nI 0) hx hb dd_MO_bind_203 (by decide +kernel) ?_
          refine hm_put (ci := 6) (v := .int (nI 0)) (ty := .int) (C := rn_MO) (T := ft_MO) (N := 22) hx hb hts fi_MO fy_MO fo_MO fn_MO hown hE.K hP hS (pb 0 (by decide)) f216 rfl 2 (by decide) (hts _ tw_988) (fun _ h9 => h9) rfl (by decide +kernel) rfl rfl (Nat.le_of_ble_eq_true rfl) dd_MO_bind_204 (fun H locs hP hS => ?_)
          have hP : hm_P D cl_W (hm_up M199 (P 0) (.inr (6, [.int (nI 1), .ref (P 1), .int (nI 0), .ref (P 3), .ref (P 4), .ref (P 5), .int (I 6), .ref (P 7), .ref (P 8), .ref (P 9), .ref (P 10), .ref (P 11), .int (I 12), .int (I 13), .ref (P 14), .ref (P 15), .ref (P 16), .ref (P 17), .int zr189, .ref (P 19), .ref (P 20), .ref (P 21)]))) H := hP
          obtain ⟨M218, eM218⟩ : ∃ z, z = hm_up M199 (P 0) (.inr (6, [.int (nI 1), .ref (P 1), .int (nI 0), .ref (P 3), .ref (P 4), .ref (P 5), .int (I 6), .ref (P 7), .ref (P 8), .ref (P 9), .ref (P 10), .ref (P 11), .int (I 12), .int (I 13), .ref (P 14), .ref (P 15), .ref (P 16), .ref (P 17), .int zr189, .ref (P 19), .ref (P 20), .ref (P 21)])) := ⟨_, rfl⟩
          rw [← eM218] at hP
          have f219 : M218 (P 1) = some (.inl (D.1 102, 48, .inl (A 1))) := by rw [eM218]; exact hm_up_o (hm_neO (po 1 (by decide)) (po 0 (by decide)) (by decide)) f200
          have f220 : M218 (P 3) = some (.inl (D.1 102, 16, .inl (A 3))) := by rw [eM218]; exact hm_up_o (hm_neO (po 3 (by decide)) (po 0 (by decide)) (by decide)) f201
          have f221 : M218 (P 4) = some (.inl (D.1 102, 16, .inl (A 4))) := by rw [eM218]; exact hm_up_o (hm_neO (po 4 (by decide)) (po 0 (by decide)) (by decide)) f202
          have f222 : M218 (P 5) = some (.inl (D.1 101, 16, .inl (A 5))) := by rw [eM218]; exact hm_up_o (hm_neO (po 5 (by decide)) (po 0 (by decide)) (by decide)) f203
          have f223 : M218 (P 7) = some (.inl (D.1 102, 120, .inl (A 7))) := by rw [eM218]; exact hm_up_o (hm_neO (po 7 (by decide)) (po 0 (by decide)) (by decide)) f204
          have f224 : M218 (P 8) = some (.inl (D.1 102, 120, .inl (A 8))) := by rw [eM218]; exact hm_up_o (hm_neO (po 8 (by decide)) (po 0 (by decide)) (by decide)) f205
          have f225 : M218 (P 9) = some (.inl (D.1 102, 120, .inl (A 9))) := by rw [eM218]; exact hm_up_o (hm_neO (po 9 (by decide)) (po 0 (by decide)) (by decide)) f206
          have f226 : M218 (P 10) = some (.inl (D.1 102, 5760, .inl (A 10))) := by rw [eM218]; exact hm_up_o (hm_neO (po 10 (by decide)) (po 0 (by decide)) (by decide)) f207
          have f227 : M218 (P 11) = some (.inl (D.1 102, 48, .inl (A 11))) := by rw [eM218]; exact hm_up_o (hm_neO (po 11 (by decide)) (po 0 (by decide)) (by decide)) f208
          have f228 : M218 (P 14) = some (.inl (D.1 103, 6, .inr (.inl (L 14)))) := by rw [eM218]; exact hm_up_o (hm_neO (po 14 (by decide)) (po 0 (by decide)) (by decide)) f209
          have f229 : M218 (P 15) = some (.inl (D.1 103, 6, .inr (.inl (L 15)))) := by rw [eM218]; exact hm_up_o (hm_neO (po 15 (by decide)) (po 0 (by decide)) (by decide)) f210
          have f230 : M218 (P 16) = some (.inl (D.1 101, 16, .inl (A 16))) := by rw [eM218]; exact hm_up_o (hm_neO (po 16 (by decide)) (po 0 (by decide)) (by decide)) f211
          have f231 : M218 (P 17) = some (.inl (D.1 101, 16, .inl (A 17))) := by rw [eM218]; exact hm_up_o (hm_neO (po 17 (by decide)) (po 0 (by decide)) (by decide)) f212
          have f232 : M218 (P 19) = some (.inl (D.1 101, 2601, .inl (A 19))) := by rw [eM218]; exact hm_up_o (hm_neO (po 19 (by decide)) (po 0 (by decide)) (by decide)) f213
          have f233 : M218 (P 20) = some (.inl (D.1 102, 52, .inl (A 20))) := by rw [eM218]; exact hm_up_o (hm_neO (po 20 (by decide)) (po 0 (by decide)) (by decide)) f214
          have f234 : M218 (P 21) = some (.inl (D.1 102, 52, .inl (A 21))) := by rw [eM218]; exact hm_up_o (hm_neO (po 21 (by decide)) (po 0 (by decide)) (by decide)) f215
          have f235 : M218 (P 0) = some (.inr (6, [.int (nI 1), .ref (P 1), .int (nI 0), .ref (P 3), .ref (P 4), .ref (P 5), .int (I 6), .ref (P 7), .ref (P 8), .ref (P 9), .ref (P 10), .ref (P 11), .int (I 12), .int (I 13), .ref (P 14), .ref (P 15), .ref (P 16), .ref (P 17), .int zr189, .ref (P 19), .ref (P 20), .ref (P 21)])) := by rw [eM218]; exact hm_up_s
          refine lv_aload_n hx hb dd_MO_bind_207 rfl (lv_at hl 3 rfl) ?_
          refine hm_get (ci := 6) (C := rn_MO) (T := ft_MO) (N := 22) hx hb hts fi_MO hown hE.K hP f235 rfl 0 (by decide) (hts _ tw_986) (fun _ h9 => h9) rfl dd_MO_bind_208 ?_
          refine hn_if_ne (tgt := 223) hx hb (by omega) dd_MO_bind_211 (by decide) (fun c236 => ?_) (fun c236 => absurd c236 (by omega))
          refine lv_iconst (v := nI 0) hx hb dd_MO_bind_223 (by decide +kernel) ?_
          have kk237 : hm_k M190 M190 [(P 0)] := hm_krf
          have kk238 : hm_k M190 M199 [(P 0)] := hm_ku kk237 (Or.inr (by simp)) eM199
          have kk239 : hm_k M190 M218 [(P 0)] := hm_ku kk238 (Or.inr (by simp)) eM218
          exact hm_Ei (v := nI 0) hx hb hr rfl hS hP (⟨bz_0 (by rw [bn_b, hok]; rfl), (va_up (va_up (va_up I 0 (nI 1)) 2 (nI 0)) 18 zr189), A, L, ⟨f235, f219, f220, f221, f222, f223, f224, f225, f226, f227, f228, f229, f230, f231, f232, f233, f234, po, pb⟩, by rw [bn_c, hok]; rfl, ⟨tpS_0, hX, hQ, by rw [bn_l, bn_b, hok]; exact hB, hK, hH, hFo, hPs⟩, (hF193).trans (cz_F.k0 kk239 (hm_a1 ⟨by rw [po 0 (by decide)]; unfold pm; omega, _, f235⟩))⟩) hlocks (by omega) (by omega) dd_MO_bind_224
        · have hq := bz_t c196
          refine lv_bipush (v := nI 16) hx hb dd_MO_bind_41 (by decide +kernel) ?_
          refine lv_iload_n hx hb dd_MO_bind_43 rfl (lv_at hl 3 rfl) ?_
          refine lv_iadd hx hb dd_MO_bind_44 ?_
          refine lv_topi (fun x240 ex240 => ?_)
          refine lv_goto (tgt := 49) hx hb dd_MO_bind_45 (by decide) ?_
          refine W.eq (g2 := F0 m 49 ls [.int (to_I y q)]) (by rw [show to_I y q = x240 by rw [hq, ex240]; rfl]) ?_
          refine lv_istore (lv' := [(5, .int (to_I y q)), (4, .int (nI 0)), (0, .ref (P 0)), (1, .int x), (2, .int y), (3, .int (nI (bz q)))]) hx hb dd_MO_bind_49 hl (by decide) rfl (fun ls hl => ?_)
          refine lv_iload hx hb dd_MO_bind_51 (lv_at hl 1 rfl) ?_
          refine hn_if_eq (tgt := 71) hx hb (by omega) dd_MO_bind_53 (by decide) (fun c241 => ?_) (fun c241 => absurd c241 (by omega))
          refine lv_iconst (v := nI 0) hx hb dd_MO_bind_71 (by decide +kernel) ?_
          refine lv_istore (lv' := [(6, .int (nI 0)), (5, .int (to_I y q)), (4, .int (nI 0)), (0, .ref (P 0)), (1, .int x), (2, .int y), (3, .int (nI (bz q)))]) hx hb dd_MO_bind_72 hl (by decide) rfl (fun ls hl => ?_)
          refine lv_aload_n hx hb dd_MO_bind_74 rfl (lv_at hl 3 rfl) ?_
          refine lv_iload hx hb dd_MO_bind_75 (lv_at hl 2 rfl) ?_
          refine hn_if_ne (tgt := 84) hx hb (by omega) dd_MO_bind_77 (by decide) (fun c242 => absurd c242 (by omega)) (fun c242 => ?_)
          refine lv_iconst (v := nI 1) hx hb dd_MO_bind_80 (by decide +kernel) ?_
          refine lv_goto (tgt := 103) hx hb dd_MO_bind_81 (by decide) ?_
          refine hm_put (ci := 6) (v := .int (nI 1)) (ty := .int) (C := rn_MO) (T := ft_MO) (N := 22) hx hb hts fi_MO fy_MO fo_MO fn_MO hown hE.K hP hS (pb 0 (by decide)) g194_0 rfl 0 (by decide) (hts _ tw_986) (fun _ h9 => h9) rfl (by decide +kernel) rfl rfl (Nat.le_of_ble_eq_true rfl) dd_MO_bind_103 (fun H locs hP hS => ?_)
          have hP : hm_P D cl_W (hm_up M190 (P 0) (.inr (6, [.int (nI 1), .ref (P 1), .int (I 2), .ref (P 3), .ref (P 4), .ref (P 5), .int (I 6), .ref (P 7), .ref (P 8), .ref (P 9), .ref (P 10), .ref (P 11), .int (I 12), .int (I 13), .ref (P 14), .ref (P 15), .ref (P 16), .ref (P 17), .int zr189, .ref (P 19), .ref (P 20), .ref (P 21)]))) H := hP
          obtain ⟨M243, eM243⟩ : ∃ z, z = hm_up M190 (P 0) (.inr (6, [.int (nI 1), .ref (P 1), .int (I 2), .ref (P 3), .ref (P 4), .ref (P 5), .int (I 6), .ref (P 7), .ref (P 8), .ref (P 9), .ref (P 10), .ref (P 11), .int (I 12), .int (I 13), .ref (P 14), .ref (P 15), .ref (P 16), .ref (P 17), .int zr189, .ref (P 19), .ref (P 20), .ref (P 21)])) := ⟨_, rfl⟩
          rw [← eM243] at hP
          have f244 : M243 (P 1) = some (.inl (D.1 102, 48, .inl (A 1))) := by rw [eM243]; exact hm_up_o (hm_neO (po 1 (by decide)) (po 0 (by decide)) (by decide)) g194_1
          have f245 : M243 (P 3) = some (.inl (D.1 102, 16, .inl (A 3))) := by rw [eM243]; exact hm_up_o (hm_neO (po 3 (by decide)) (po 0 (by decide)) (by decide)) g194_3
          have f246 : M243 (P 4) = some (.inl (D.1 102, 16, .inl (A 4))) := by rw [eM243]; exact hm_up_o (hm_neO (po 4 (by decide)) (po 0 (by decide)) (by decide)) g194_4
          have f247 : M243 (P 5) = some (.inl (D.1 101, 16, .inl (A 5))) := by rw [eM243]; exact hm_up_o (hm_neO (po 5 (by decide)) (po 0 (by decide)) (by decide)) g194_5
          have f248 : M243 (P 7) = some (.inl (D.1 102, 120, .inl (A 7))) := by rw [eM243]; exact hm_up_o (hm_neO (po 7 (by decide)) (po 0 (by decide)) (by decide)) g194_7
          have f249 : M243 (P 8) = some (.inl (D.1 102, 120, .inl (A 8))) := by rw [eM243]; exact hm_up_o (hm_neO (po 8 (by decide)) (po 0 (by decide)) (by decide)) g194_8
          have f250 : M243 (P 9) = some (.inl (D.1 102, 120, .inl (A 9))) := by rw [eM243]; exact hm_up_o (hm_neO (po 9 (by decide)) (po 0 (by decide)) (by decide)) g194_9
          have f251 : M243 (P 10) = some (.inl (D.1 102, 5760, .inl (A 10))) := by rw [eM243]; exact hm_up_o (hm_neO (po 10 (by decide)) (po 0 (by decide)) (by decide)) g194_10
          have f252 : M243 (P 11) = some (.inl (D.1 102, 48, .inl (A 11))) := by rw [eM243]; exact hm_up_o (hm_neO (po 11 (by decide)) (po 0 (by decide)) (by decide)) g194_11
          have f253 : M243 (P 14) = some (.inl (D.1 103, 6, .inr (.inl (L 14)))) := by rw [eM243]; exact hm_up_o (hm_neO (po 14 (by decide)) (po 0 (by decide)) (by decide)) g194_14
          have f254 : M243 (P 15) = some (.inl (D.1 103, 6, .inr (.inl (L 15)))) := by rw [eM243]; exact hm_up_o (hm_neO (po 15 (by decide)) (po 0 (by decide)) (by decide)) g194_15
          have f255 : M243 (P 16) = some (.inl (D.1 101, 16, .inl (A 16))) := by rw [eM243]; exact hm_up_o (hm_neO (po 16 (by decide)) (po 0 (by decide)) (by decide)) g194_16
          have f256 : M243 (P 17) = some (.inl (D.1 101, 16, .inl (A 17))) := by rw [eM243]; exact hm_up_o (hm_neO (po 17 (by decide)) (po 0 (by decide)) (by decide)) g194_17
          have f257 : M243 (P 19) = some (.inl (D.1 101, 2601, .inl (A 19))) := by rw [eM243]; exact hm_up_o (hm_neO (po 19 (by decide)) (po 0 (by decide)) (by decide)) g194_19
          have f258 : M243 (P 20) = some (.inl (D.1 102, 52, .inl (A 20))) := by rw [eM243]; exact hm_up_o (hm_neO (po 20 (by decide)) (po 0 (by decide)) (by decide)) g194_20
          have f259 : M243 (P 21) = some (.inl (D.1 102, 52, .inl (A 21))) := by rw [eM243]; exact hm_up_o (hm_neO (po 21 (by decide)) (po 0 (by decide)) (by decide)) g194_21
          have f260 : M243 (P 0) = some (.inr (6, [.int (nI 1), .ref (P 1), .int (I 2), .ref (P 3), .ref (P 4), .ref (P 5), .int (I 6), .ref (P 7), .ref (P 8), .ref (P 9), .ref (P 10), .ref (P 11), .int (I 12), .int (I 13), .ref (P 14), .ref (P 15), .ref (P 16), .ref (P 17), .int zr189, .ref (P 19), .ref (P 20), .ref (P 21)])) := by rw [eM243]; exact hm_up_s
          refine lv_aload_n hx hb dd_MO_bind_106 rfl (lv_at hl 3 rfl) ?_
          refine hm_get (ci := 6) (C := rn_MO) (T := ft_MO) (N := 22) hx hb hts fi_MO hown hE.K hP f260 rfl 0 (by decide) (hts _ tw_986) (fun _ h9 => h9) rfl dd_MO_bind_107 ?_
          refine hn_if_ne (tgt := 202) hx hb (by omega) dd_MO_bind_110 (by decide) (fun c261 => ?_) (fun c261 => absurd c261 (by omega))
          refine lv_aload_n hx hb dd_MO_bind_202 rfl (lv_at hl 3 rfl) ?_
          refine lv_iconst (v := nI 0) hx hb dd_MO_bind_203 (by decide +kernel) ?_
          refine hm_put (ci := 6) (v := .int (nI 0)) (ty := .int) (C := rn_MO) (T := ft_MO) (N := 22) hx hb hts fi_MO fy_MO fo_MO fn_MO hown hE.K hP hS (pb 0 (by decide)) f260 rfl 2 (by decide) (hts _ tw_988) (fun _ h9 => h9) rfl (by decide +kernel) rfl rfl (Nat.le_of_ble_eq_true rfl) dd_MO_bind_204 (fun H locs hP hS => ?_)
          have hP : hm_P D cl_W (hm_up M243 (P 0) (.inr (6, [.int (nI 1), .ref (P 1), .int (nI 0), .ref (P 3), .ref (P 4), .ref (P 5), .int (I 6), .ref (P 7), .ref (P 8), .ref (P 9), .ref (P 10), .ref (P 11), .int (I 12), .int (I 13), .ref (P 14), .ref (P 15), .ref (P 16), .ref (P 17), .int zr189, .ref (P 19), .ref (P 20), .ref (P 21)]))) H := hP
          obtain ⟨M262, eM262⟩ : ∃ z, z = hm_up M243 (P 0) (.inr (6, [.int (nI 1), .ref (P 1), .int (nI 0), .ref (P 3), .ref (P 4), .ref (P 5), .int (I 6), .ref (P 7), .ref (P 8), .ref (P 9), .ref (P 10), .ref (P 11), .int (I 12), .int (I 13), .ref (P 14), .ref (P 15), .ref (P 16), .ref (P 17), .int zr189, .ref (P 19), .ref (P 20), .ref (P 21)])) := ⟨_, rfl⟩
          rw [← eM262] at hP
          have f263 : M262 (P 1) = some (.inl (D.1 102, 48, .inl (A 1))) := by rw [eM262]; exact hm_up_o (hm_neO (po 1 (by decide)) (po 0 (by decide)) (by decide)) f244
          have f264 : M262 (P 3) = some (.inl (D.1 102, 16, .inl (A 3))) := by rw [eM262]; exact hm_up_o (hm_neO (po 3 (by decide)) (po 0 (by decide)) (by decide)) f245
          have f265 : M262 (P 4) = some (.inl (D.1 102, 16, .inl (A 4))) := by rw [eM262]; exact hm_up_o (hm_neO (po 4 (by decide)) (po 0 (by decide)) (by decide)) f246
          have f266 : M262 (P 5) = some (.inl (D.1 101, 16, .inl (A 5))) := by rw [eM262]; exact hm_up_o (hm_neO (po 5 (by decide)) (po 0 (by decide)) (by decide)) f247
          have f267 : M262 (P 7) = some (.inl (D.1 102, 120, .inl (A 7))) := by rw [eM262]; exact hm_up_o (hm_neO (po 7 (by decide)) (po 0 (by decide)) (by decide)) f248
          have f268 : M262 (P 8) = some (.inl (D.1 102, 120, .inl (A 8))) := by rw [eM262]; exact hm_up_o (hm_neO (po 8 (by decide)) (po 0 (by decide)) (by decide)) f249
          have f269 : M262 (P 9) = some (.inl (D.1 102, 120, .inl (A 9))) := by rw [eM262]; exact hm_up_o (hm_neO (po 9 (by decide)) (po 0 (by decide)) (by decide)) f250
          have f270 : M262 (P 10) = some (.inl (D.1 102, 5760, .inl (A 10))) := by rw [eM262]; exact hm_up_o (hm_neO (po 10 (by decide)) (po 0 (by decide)) (by decide)) f251
          have f271 : M262 (P 11) = some (.inl (D.1 102, 48, .inl (A 11))) := by rw [eM262]; exact hm_up_o (hm_neO (po 11 (by decide)) (po 0 (by decide)) (by decide)) f252
          have f272 : M262 (P 14) = some (.inl (D.1 103, 6, .inr (.inl (L 14)))) := by rw [eM262]; exact hm_up_o (hm_neO (po 14 (by decide)) (po 0 (by decide)) (by decide)) f253
          have f273 : M262 (P 15) = some (.inl (D.1 103, 6, .inr (.inl (L 15)))) := by rw [eM262]; exact hm_up_o (hm_neO (po 15 (by decide)) (po 0 (by decide)) (by decide)) f254
          have f274 : M262 (P 16) = some (.inl (D.1 101, 16, .inl (A 16))) := by rw [eM262]; exact hm_up_o (hm_neO (po 16 (by decide)) (po 0 (by decide)) (by decide)) f255
          have f275 : M262 (P 17) = some (.inl (D.1 101, 16, .inl (A 17))) := by rw [eM262]; exact hm_up_o (hm_neO (po 17 (by decide)) (po 0 (by decide)) (by decide)) f256
          have f276 : M262 (P 19) = some (.inl (D.1 101, 2601, .inl (A 19))) := by rw [eM262]; exact hm_up_o (hm_neO (po 19 (by decide)) (po 0 (by decide)) (by decide)) f257
          have f277 : M262 (P 20) = some (.inl (D.1 102, 52, .inl (A 20))) := by rw [eM262]; exact hm_up_o (hm_neO (po 20 (by decide)) (po 0 (by decide)) (by decide)) f258
          have f278 : M262 (P 21) = some (.inl (D.1 102, 52, .inl (A 21))) := by rw [eM262]; exact hm_up_o (hm_neO (po 21 (by decide)) (po 0 (by decide)) (by decide)) f259
          have f279 : M262 (P 0) = some (.inr (6, [.int (nI 1), .ref (P 1), .int (nI 0), .ref (P 3), .ref (P 4), .ref (P 5), .int (I 6), .ref (P 7), .ref (P 8), .ref (P 9), .ref (P 10), .ref (P 11), .int (I 12), .int (I 13), .ref (P 14), .ref (P 15), .ref (P 16), .ref (P 17), .int zr189, .ref (P 19), .ref (P 20), .ref (P 21)])) := by rw [eM262]; exact hm_up_s
          refine lv_aload_n hx hb dd_MO_bind_207 rfl (lv_at hl 3 rfl) ?_
          refine hm_get (ci := 6) (C := rn_MO) (T := ft_MO) (N := 22) hx hb hts fi_MO hown hE.K hP f279 rfl 0 (by decide) (hts _ tw_986) (fun _ h9 => h9) rfl dd_MO_bind_208 ?_
          refine hn_if_ne (tgt := 223) hx hb (by omega) dd_MO_bind_211 (by decide) (fun c280 => ?_) (fun c280 => absurd c280 (by omega))
          refine lv_iconst (v := nI 0) hx hb dd_MO_bind_223 (by decide +kernel) ?_
          have kk281 : hm_k M190 M190 [(P 0)] := hm_krf
          have kk282 : hm_k M190 M243 [(P 0)] := hm_ku kk281 (Or.inr (by simp)) eM243
          have kk283 : hm_k M190 M262 [(P 0)] := hm_ku kk282 (Or.inr (by simp)) eM262
          exact hm_Ei (v := nI 0) hx hb hr rfl hS hP (⟨bz_0 (by rw [bn_b, hok]; rfl), (va_up (va_up (va_up I 0 (nI 1)) 2 (nI 0)) 18 zr189), A, L, ⟨f279, f263, f264, f265, f266, f267, f268, f269, f270, f271, f272, f273, f274, f275, f276, f277, f278, po, pb⟩, by rw [bn_c, hok]; rfl, ⟨tpS_0, hX, hQ, by rw [bn_l, bn_b, hok]; exact hB, hK, hH, hFo, hPs⟩, (hF193).trans (cz_F.k0 kk283 (hm_a1 ⟨by rw [po 0 (by decide)]; unfold pm; omega, _, f279⟩))⟩) hlocks (by omega) (by omega) dd_MO_bind_224
      · have hok : bi_ok ex qs t x y q = true := by rw [bi_ok, hev.1]; show (th_at ex qs y q && tx_for s9 t) = true; rw [bz_t c195, hys]; rfl
        refine lv_iconst (v := nI 1) hx hb dd_MO_bind_30 (by decide +kernel) ?_
        refine lv_goto (tgt := 35) hx hb dd_MO_bind_31 (by decide) ?_
        refine lv_istore (lv' := [(4, .int (nI 1)), (0, .ref (P 0)), (1, .int x), (2, .int y), (3, .int (nI (bz q)))]) hx hb dd_MO_bind_35 hl (by decide) rfl (fun ls hl => ?_)
        refine lv_iload_n hx hb dd_MO_bind_37 rfl (lv_at hl 4 rfl) ?_
        refine hn_if_eq (tgt := 48) hx hb (bz_b _) dd_MO_bind_38 (by decide) (fun c284 => ?_) (fun c284 => ?_)
        · have hq := bz_f c284
          refine lv_iload_n hx hb dd_MO_bind_48 rfl (lv_at hl 3 rfl) ?_
          refine W.eq (g2 := F0 m 49 ls [.int (to_I y q)]) (by rw [show to_I y q = y by rw [hq]; rfl]) ?_
          refine lv_istore (lv' := [(5, .int (to_I y q)), (4, .int (nI 1)), (0, .ref (P 0)), (1, .int x), (2, .int y), (3, .int (nI (bz q)))]) hx hb dd_MO_bind_49 hl (by decide) rfl (fun ls hl => ?_)
          refine lv_iload hx hb dd_MO_bind_51 (lv_at hl 1 rfl) ?_
          refine hn_if_eq (tgt := 71) hx hb (by omega) dd_MO_bind_53 (by decide) (fun c285 => absurd c285 (by omega)) (fun c285 => ?_)
          refine lv_aload_n hx hb dd_MO_bind_56 rfl (lv_at hl 2 rfl) ?_
          refine lv_iload_n hx hb dd_MO_bind_57 rfl (lv_at hl 3 rfl) ?_
          refine lv_iload hx hb dd_MO_bind_58 (lv_at hl 0 rfl) ?_
          have hd286 : mo_D B D P O M190 (va_up I 18 zr189) A L := ⟨g194_0, g194_1, g194_3, g194_4, g194_5, g194_7, g194_8, g194_9, g194_10, g194_11, g194_14, g194_15, g194_16, g194_17, g194_19, g194_20, g194_21, po, pb⟩
          refine hm_ci hS (hm_rV 2 (As := [.int x, .int (to_I y q)]) (rest := []) ⟨hx, hb, hml, hown, hts⟩ hE hS hP (kc_MO_find l B D G M190 P O (va_up I 18 zr189) A L hd286 t hT bs hB x y q hiny) rfl g194_0 tw_1133 tw_1130 tw_1132 tw_27 tw_46 (by decide +kernel) rfl rfl ⟨by show 0 + 1 ≤ R.frames; omega, by show 8 + (6 + 11) + 0 ≤ R.locals; omega⟩ rfl hl.1 rfl (Nat.le_of_ble_eq_true rfl) dd_MO_bind_60 ⟨by omega, by omega⟩) (fun r287 M288 H locs hw289 hP hS => ?_)
          refine W.widen (k := 0) (n := 0) (by omega) (by omega) ?_
          obtain ⟨hrM288, eM288⟩ := hw289
          rw [eM288] at hP
          rcases pl_er hrM288 with ⟨rfl, hpa, hpe⟩ | ⟨i9, rfl, hpi, hpi2, hpa, hpe⟩
          · refine lv_iconst (v := (-1)) hx hb dd_MO_bind_63 (by decide +kernel) ?_
            refine hi_icmp_eq (tgt := 71) hx hb dd_MO_bind_64 (by decide) (fun c290 => ?_) (fun c290 => absurd c290 (by decide))
            refine lv_iconst (v := nI 0) hx hb dd_MO_bind_71 (by decide +kernel) ?_
            refine lv_istore (lv' := [(6, .int (nI 0)), (5, .int (to_I y q)), (4, .int (nI 1)), (0, .ref (P 0)), (1, .int x), (2, .int y), (3, .int (nI (bz q)))]) hx hb dd_MO_bind_72 hl (by decide) rfl (fun ls hl => ?_)
            refine lv_aload_n hx hb dd_MO_bind_74 rfl (lv_at hl 3 rfl) ?_
            refine lv_iload hx hb dd_MO_bind_75 (lv_at hl 2 rfl) ?_
            refine hn_if_ne (tgt := 84) hx hb (by omega) dd_MO_bind_77 (by decide) (fun c291 => ?_) (fun c291 => absurd c291 (by omega))
            refine lv_iload hx hb dd_MO_bind_84 (lv_at hl 0 rfl) ?_
            refine hn_if_ne (tgt := 102) hx hb (by omega) dd_MO_bind_86 (by decide) (fun c292 => absurd c292 (by omega)) (fun c292 => ?_)
            refine lv_aload_n hx hb dd_MO_bind_89 rfl (lv_at hl 3 rfl) ?_
            refine hm_get (ci := 6) (C := rn_MO) (T := ft_MO) (N := 22) hx hb hts fi_MO hown hE.K hP g194_0 rfl 6 (by decide) (hts _ tw_992) (fun _ h9 => h9) rfl dd_MO_bind_90 ?_
            refine W.eq (g2 := F0 m 93 ls [.int (nI bs.length), .ref (P 0)]) (by rw [bi1]) ?_
            refine lv_bipush (v := nI 120) hx hb dd_MO_bind_93 (by decide +kernel) ?_
            refine hn_icmp_ne (tgt := 102) hx hb (by omega) (by omega) dd_MO_bind_95 (by decide) (fun c293 => ?_) (fun c293 => ?_)
            · refine lv_iconst (v := nI 0) hx hb dd_MO_bind_102 (by decide +kernel) ?_
              refine hm_put (ci := 6) (v := .int (nI 0)) (ty := .int) (C := rn_MO) (T := ft_MO) (N := 22) hx hb hts fi_MO fy_MO fo_MO fn_MO hown hE.K hP hS (pb 0 (by decide)) g194_0 rfl 0 (by decide) (hts _ tw_986) (fun _ h9 => h9) rfl (by decide +kernel) rfl rfl (Nat.le_of_ble_eq_true rfl) dd_MO_bind_103 (fun H locs hP hS => ?_)
              have hP : hm_P D cl_W (hm_up M190 (P 0) (.inr (6, [.int (nI 0), .ref (P 1), .int (I 2), .ref (P 3), .ref (P 4), .ref (P 5), .int (I 6), .ref (P 7), .ref (P 8), .ref (P 9), .ref (P 10), .ref (P 11), .int (I 12), .int (I 13), .ref (P 14), .ref (P 15), .ref (P 16), .ref (P 17), .int zr189, .ref (P 19), .ref (P 20), .ref (P 21)]))) H := hP
              obtain ⟨M294, eM294⟩ : ∃ z, z = hm_up M190 (P 0) (.inr (6, [.int (nI 0), .ref (P 1), .int (I 2), .ref (P 3), .ref (P 4), .ref (P 5), .int (I 6), .ref (P 7), .ref (P 8), .ref (P 9), .ref (P 10), .ref (P 11), .int (I 12), .int (I 13), .ref (P 14), .ref (P 15), .ref (P 16), .ref (P 17), .int zr189, .ref (P 19), .ref (P 20), .ref (P 21)])) := ⟨_, rfl⟩
              rw [← eM294] at hP
              have f295 : M294 (P 1) = some (.inl (D.1 102, 48, .inl (A 1))) := by rw [eM294]; exact hm_up_o (hm_neO (po 1 (by decide)) (po 0 (by decide)) (by decide)) g194_1
              have f296 : M294 (P 3) = some (.inl (D.1 102, 16, .inl (A 3))) := by rw [eM294]; exact hm_up_o (hm_neO (po 3 (by decide)) (po 0 (by decide)) (by decide)) g194_3
              have f297 : M294 (P 4) = some (.inl (D.1 102, 16, .inl (A 4))) := by rw [eM294]; exact hm_up_o (hm_neO (po 4 (by decide)) (po 0 (by decide)) (by decide)) g194_4
              have f298 : M294 (P 5) = some (.inl (D.1 101, 16, .inl (A 5))) := by rw [eM294]; exact hm_up_o (hm_neO (po 5 (by decide)) (po 0 (by decide)) (by decide)) g194_5
              have f299 : M294 (P 7) = some (.inl (D.1 102, 120, .inl (A 7))) := by rw [eM294]; exact hm_up_o (hm_neO (po 7 (by decide)) (po 0 (by decide)) (by decide)) g194_7
              have f300 : M294 (P 8) = some (.inl (D.1 102, 120, .inl (A 8))) := by rw [eM294]; exact hm_up_o (hm_neO (po 8 (by decide)) (po 0 (by decide)) (by decide)) g194_8
              have f301 : M294 (P 9) = some (.inl (D.1 102, 120, .inl (A 9))) := by rw [eM294]; exact hm_up_o (hm_neO (po 9 (by decide)) (po 0 (by decide)) (by decide)) g194_9
              have f302 : M294 (P 10) = some (.inl (D.1 102, 5760, .inl (A 10))) := by rw [eM294]; exact hm_up_o (hm_neO (po 10 (by decide)) (po 0 (by decide)) (by decide)) g194_10
              have f303 : M294 (P 11) = some (.inl (D.1 102, 48, .inl (A 11))) := by rw [eM294]; exact hm_up_o (hm_neO (po 11 (by decide)) (po 0 (by decide)) (by decide)) g194_11
              have f304 : M294 (P 14) = some (.inl (D.1 103, 6, .inr (.inl (L 14)))) := by rw [eM294]; exact hm_up_o (hm_neO (po 14 (by decide)) (po 0 (by decide)) (by decide)) g194_14
              have f305 : M294 (P 15) = some (.inl (D.1 103, 6, .inr (.inl (L 15)))) := by rw [eM294]; exact hm_up_o (hm_neO (po 15 (by decide)) (po 0 (by decide)) (by decide)) g194_15
              have f306 : M294 (P 16) = some (.inl (D.1 101, 16, .inl (A 16))) := by rw [eM294]; exact hm_up_o (hm_neO (po 16 (by decide)) (po 0 (by decide)) (by decide)) g194_16
              have f307 : M294 (P 17) = some (.inl (D.1 101, 16, .inl (A 17))) := by rw [eM294]; exact hm_up_o (hm_neO (po 17 (by decide)) (po 0 (by decide)) (by decide)) g194_17
              have f308 : M294 (P 19) = some (.inl (D.1 101, 2601, .inl (A 19))) := by rw [eM294]; exact hm_up_o (hm_neO (po 19 (by decide)) (po 0 (by decide)) (by decide)) g194_19
              have f309 : M294 (P 20) = some (.inl (D.1 102, 52, .inl (A 20))) := by rw [eM294]; exact hm_up_o (hm_neO (po 20 (by decide)) (po 0 (by decide)) (by decide)) g194_20
              have f310 : M294 (P 21) = some (.inl (D.1 102, 52, .inl (A 21))) := by rw [eM294]; exact hm_up_o (hm_neO (po 21 (by decide)) (po 0 (by decide)) (by decide)) g194_21
              have f311 : M294 (P 0) = some (.inr (6, [.int (nI 0), .ref (P 1), .int (I 2), .ref (P 3), .ref (P 4), .ref (P 5), .int (I 6), .ref (P 7), .ref (P 8), .ref (P 9), .ref (P 10), .ref (P 11), .int (I 12), .int (I 13), .ref (P 14), .ref (P 15), .ref (P 16), .ref (P 17), .int zr189, .ref (P 19), .ref (P 20), .ref (P 21)])) := by rw [eM294]; exact hm_up_s
              refine lv_aload_n hx hb dd_MO_bind_106 rfl (lv_at hl 3 rfl) ?_
              refine hm_get (ci := 6) (C := rn_MO) (T := ft_MO) (N := 22) hx hb hts fi_MO hown hE.K hP f311 rfl 0 (by decide) (hts _ tw_986) (fun _ h9 => h9) rfl dd_MO_bind_107 ?_
              refine hn_if_ne (tgt := 202) hx hb (by omega) dd_MO_bind_110 (by decide) (fun c312 => absurd c312 (by omega)) (fun c312 => ?_)
              refine lv_iload hx hb dd_MO_bind_113 (lv_at hl 0 rfl) ?_
              refine hn_if_ne (tgt := 202) hx hb (by omega) dd_MO_bind_115 (by decide) (fun c313 => absurd c313 (by omega)) (fun c313 => ?_)
              refine lv_aload_n hx hb dd_MO_bind_118 rfl (lv_at hl 3 rfl) ?_
              refine hm_get (ci := 6) (C := rn_MO) (T := ft_MO) (N := 22) hx hb hts fi_MO hown hE.K hP f311 rfl 7 (by decide) (hts _ tw_993) (fun _ h9 => h9) rfl dd_MO_bind_119 ?_
              refine lv_aload_n hx hb dd_MO_bind_122 rfl (lv_at hl 3 rfl) ?_
              refine hm_get (ci := 6) (C := rn_MO) (T := ft_MO) (N := 22) hx hb hts fi_MO hown hE.K hP f311 rfl 6 (by decide) (hts _ tw_992) (fun _ h9 => h9) rfl dd_MO_bind_123 ?_
              refine W.eq (g2 := F0 m 126 ls [.int (nI bs.length), .ref (P 7)]) (by rw [bi1]) ?_
              refine lv_iload_n hx hb dd_MO_bind_126 rfl (lv_at hl 4 rfl) ?_
              refine hm_iast (j := bs.length) hx hb hE.K hP hS (pb 7 (by decide)) 2 f299 rfl (vp_in_nI (by omega) (by omega)) (nI_clamp (by omega)) dd_MO_bind_127 (fun H locs hP hS => ?_)
              obtain ⟨M314, eM314⟩ : ∃ z, z = hm_up M294 (P 7) (.inl (D.1 102, 120, .inl (upd (A 7) bs.length x))) := ⟨_, rfl⟩
              rw [← eM314] at hP
              have f315 : M314 (P 0) = some (.inr (6, [.int (nI 0), .ref (P 1), .int (I 2), .ref (P 3), .ref (P 4), .ref (P 5), .int (I 6), .ref (P 7), .ref (P 8), .ref (P 9), .ref (P 10), .ref (P 11), .int (I 12), .int (I 13), .ref (P 14), .ref (P 15), .ref (P 16), .ref (P 17), .int zr189, .ref (P 19), .ref (P 20), .ref (P 21)])) := by rw [eM314]; exact hm_up_o (hm_neO (po 0 (by decide)) (po 7 (by decide)) (by decide)) f311
              have f316 : M314 (P 1) = some (.inl (D.1 102, 48, .inl (A 1))) := by rw [eM314]; exact hm_up_o (hm_neO (po 1 (by decide)) (po 7 (by decide)) (by decide)) f295
              have f317 : M314 (P 3) = some (.inl (D.1 102, 16, .inl (A 3))) := by rw [eM314]; exact hm_up_o (hm_neO (po 3 (by decide)) (po 7 (by decide)) (by decide)) f296
              have f318 : M314 (P 4) = some (.inl (D.1 102, 16, .inl (A 4))) := by rw [eM314]; exact hm_up_o (hm_neO (po 4 (by decide)) (po 7 (by decide)) (by decide)) f297
              have f319 : M314 (P 5) = some (.inl (D.1 101, 16, .inl (A 5))) := by rw [eM314]; exact hm_up_o (hm_neO (po 5 (by decide)) (po 7 (by decide)) (by decide)) f298
              have f320 : M314 (P 8) = some (.inl (D.1 102, 120, .inl (A 8))) := by rw [eM314]; exact hm_up_o (hm_neO (po 8 (by decide)) (po 7 (by decide)) (by decide)) f300
              have f321 : M314 (P 9) = some (.inl (D.1 102, 120, .inl (A 9))) := by rw [eM314]; exact hm_up_o (hm_neO (po 9 (by decide)) (po 7 (by decide)) (by decide)) f301
              have f322 : M314 (P 10) = some (.inl (D.1 102, 5760, .inl (A 10))) := by rw [eM314]; exact hm_up_o (hm_neO (po 10 (by decide)) (po 7 (by decide)) (by decide)) f302
              have f323 : M314 (P 11) = some (.inl (D.1 102, 48, .inl (A 11))) := by rw [eM314]; exact hm_up_o (hm_neO (po 11 (by decide)) (po 7 (by decide)) (by decide)) f303
              have f324 : M314 (P 14) = some (.inl (D.1 103, 6, .inr (.inl (L 14)))) := by rw [eM314]; exact hm_up_o (hm_neO (po 14 (by decide)) (po 7 (by decide)) (by decide)) f304
              have f325 : M314 (P 15) = some (.inl (D.1 103, 6, .inr (.inl (L 15)))) := by rw [eM314]; exact hm_up_o (hm_neO (po 15 (by decide)) (po 7 (by decide)) (by decide)) f305
              have f326 : M314 (P 16) = some (.inl (D.1 101, 16, .inl (A 16))) := by rw [eM314]; exact hm_up_o (hm_neO (po 16 (by decide)) (po 7 (by decide)) (by decide)) f306
              have f327 : M314 (P 17) = some (.inl (D.1 101, 16, .inl (A 17))) := by rw [eM314]; exact hm_up_o (hm_neO (po 17 (by decide)) (po 7 (by decide)) (by decide)) f307
              have f328 : M314 (P 19) = some (.inl (D.1 101, 2601, .inl (A 19))) := by rw [eM314]; exact hm_up_o (hm_neO (po 19 (by decide)) (po 7 (by decide)) (by decide)) f308
              have f329 : M314 (P 20) = some (.inl (D.1 102, 52, .inl (A 20))) := by rw [eM314]; exact hm_up_o (hm_neO (po 20 (by decide)) (po 7 (by decide)) (by decide)) f309
              have f330 : M314 (P 21) = some (.inl (D.1 102, 52, .inl (A 21))) := by rw [eM314]; exact hm_up_o (hm_neO (po 21 (by decide)) (po 7 (by decide)) (by decide)) f310
              have f331 : M314 (P 7) = some (.inl (D.1 102, 120, .inl (upd (A 7) bs.length x))) := by rw [eM314]; exact hm_up_s
              refine lv_aload_n hx hb dd_MO_bind_128 rfl (lv_at hl 3 rfl) ?_
              refine hm_get (ci := 6) (C := rn_MO) (T := ft_MO) (N := 22) hx hb hts fi_MO hown hE.K hP f315 rfl 8 (by decide) (hts _ tw_994) (fun _ h9 => h9) rfl dd_MO_bind_129 ?_
              refine lv_aload_n hx hb dd_MO_bind_132 rfl (lv_at hl 3 rfl) ?_
              refine hm_get (ci := 6) (C := rn_MO) (T := ft_MO) (N := 22) hx hb hts fi_MO hown hE.K hP f315 rfl 6 (by decide) (hts _ tw_992) (fun _ h9 => h9) rfl dd_MO_bind_133 ?_
              refine W.eq (g2 := F0 m 136 ls [.int (nI bs.length), .ref (P 8)]) (by rw [bi1]) ?_
              refine lv_iload hx hb dd_MO_bind_136 (lv_at hl 1 rfl) ?_
              refine hm_iast (j := bs.length) hx hb hE.K hP hS (pb 8 (by decide)) 2 f320 rfl (vp_in_nI (by omega) (by omega)) (nI_clamp (by omega)) dd_MO_bind_138 (fun H locs hP hS => ?_)
              obtain ⟨M332, eM332⟩ : ∃ z, z = hm_up M314 (P 8) (.inl (D.1 102, 120, .inl (upd (A 8) bs.length (to_I y q)))) := ⟨_, rfl⟩
              rw [← eM332] at hP
              have f333 : M332 (P 0) = some (.inr (6, [.int (nI 0), .ref (P 1), .int (I 2), .ref (P 3), .ref (P 4), .ref (P 5), .int (I 6), .ref (P 7), .ref (P 8), .ref (P 9), .ref (P 10), .ref (P 11), .int (I 12), .int (I 13), .ref (P 14), .ref (P 15), .ref (P 16), .ref (P 17), .int zr189, .ref (P 19), .ref (P 20), .ref (P 21)])) := by rw [eM332]; exact hm_up_o (hm_neO (po 0 (by decide)) (po 8 (by decide)) (by decide)) f315
              have f334 : M332 (P 1) = some (.inl (D.1 102, 48, .inl (A 1))) := by rw [eM332]; exact hm_up_o (hm_neO (po 1 (by decide)) (po 8 (by decide)) (by decide)) f316
              have f335 : M332 (P 3) = some (.inl (D.1 102, 16, .inl (A 3))) := by rw [eM332]; exact hm_up_o (hm_neO (po 3 (by decide)) (po 8 (by decide)) (by decide)) f317
              have f336 : M332 (P 4) = some (.inl (D.1 102, 16, .inl (A 4))) := by rw [eM332]; exact hm_up_o (hm_neO (po 4 (by decide)) (po 8 (by decide)) (by decide)) f318
              have f337 : M332 (P 5) = some (.inl (D.1 101, 16, .inl (A 5))) := by rw [eM332]; exact hm_up_o (hm_neO (po 5 (by decide)) (po 8 (by decide)) (by decide)) f319
              have f338 : M332 (P 7) = some (.inl (D.1 102, 120, .inl (upd (A 7) bs.length x))) := by rw [eM332]; exact hm_up_o (hm_neO (po 7 (by decide)) (po 8 (by decide)) (by decide)) f331
              have f339 : M332 (P 9) = some (.inl (D.1 102, 120, .inl (A 9))) := by rw [eM332]; exact hm_up_o (hm_neO (po 9 (by decide)) (po 8 (by decide)) (by decide)) f321
              have f340 : M332 (P 10) = some (.inl (D.1 102, 5760, .inl (A 10))) := by rw [eM332]; exact hm_up_o (hm_neO (po 10 (by decide)) (po 8 (by decide)) (by decide)) f322
              have f341 : M332 (P 11) = some (.inl (D.1 102, 48, .inl (A 11))) := by rw [eM332]; exact hm_up_o (hm_neO (po 11 (by decide)) (po 8 (by decide)) (by decide)) f323
              have f342 : M332 (P 14) = some (.inl (D.1 103, 6, .inr (.inl (L 14)))) := by rw [eM332]; exact hm_up_o (hm_neO (po 14 (by decide)) (po 8 (by decide)) (by decide)) f324
              have f343 : M332 (P 15) = some (.inl (D.1 103, 6, .inr (.inl (L 15)))) := by rw [eM332]; exact hm_up_o (hm_neO (po 15 (by decide)) (po 8 (by decide)) (by decide)) f325
              have f344 : M332 (P 16) = some (.inl (D.1 101, 16, .inl (A 16))) := by rw [eM332]; exact hm_up_o (hm_neO (po 16 (by decide)) (po 8 (by decide)) (by decide)) f326
              have f345 : M332 (P 17) = some (.inl (D.1 101, 16, .inl (A 17))) := by rw [eM332]; exact hm_up_o (hm_neO (po 17 (by decide)) (po 8 (by decide)) (by decide)) f327
              have f346 : M332 (P 19) = some (.inl (D.1 101, 2601, .inl (A 19))) := by rw [eM332]; exact hm_up_o (hm_neO (po 19 (by decide)) (po 8 (by decide)) (by decide)) f328
              have f347 : M332 (P 20) = some (.inl (D.1 102, 52, .inl (A 20))) := by rw [eM332]; exact hm_up_o (hm_neO (po 20 (by decide)) (po 8 (by decide)) (by decide)) f329
              have f348 : M332 (P 21) = some (.inl (D.1 102, 52, .inl (A 21))) := by rw [eM332]; exact hm_up_o (hm_neO (po 21 (by decide)) (po 8 (by decide)) (by decide)) f330
              have f349 : M332 (P 8) = some (.inl (D.1 102, 120, .inl (upd (A 8) bs.length (to_I y q)))) := by rw [eM332]; exact hm_up_s
              refine lv_aload_n hx hb dd_MO_bind_139 rfl (lv_at hl 3 rfl) ?_
              refine hm_get (ci := 6) (C := rn_MO) (T := ft_MO) (N := 22) hx hb hts fi_MO hown hE.K hP f333 rfl 9 (by decide) (hts _ tw_995) (fun _ h9 => h9) rfl dd_MO_bind_140 ?_
              refine lv_aload_n hx hb dd_MO_bind_143 rfl (lv_at hl 3 rfl) ?_
              refine hm_get (ci := 6) (C := rn_MO) (T := ft_MO) (N := 22) hx hb hts fi_MO hown hE.K hP f333 rfl 6 (by decide) (hts _ tw_992) (fun _ h9 => h9) rfl dd_MO_bind_144 ?_
              refine W.eq (g2 := F0 m 147 ls [.int (nI bs.length), .ref (P 9)]) (by rw [bi1]) ?_
              refine lv_aload_n hx hb dd_MO_bind_147 rfl (lv_at hl 3 rfl) ?_
              refine hm_get (ci := 6) (C := rn_MO) (T := ft_MO) (N := 22) hx hb hts fi_MO hown hE.K hP f333 rfl 2 (by decide) (hts _ tw_988) (fun _ h9 => h9) rfl dd_MO_bind_148 ?_
              refine W.eq (g2 := F0 m 151 ls [.int (nI t.length), .int (nI bs.length), .ref (P 9)]) (by rw [ti1]) ?_
              refine hm_iast (j := bs.length) hx hb hE.K hP hS (pb 9 (by decide)) 2 f339 rfl (vp_in_nI (by omega) (by omega)) (nI_clamp (by omega)) dd_MO_bind_151 (fun H locs hP hS => ?_)
              obtain ⟨M350, eM350⟩ : ∃ z, z = hm_up M332 (P 9) (.inl (D.1 102, 120, .inl (upd (A 9) bs.length (nI t.length)))) := ⟨_, rfl⟩
              rw [← eM350] at hP
              have f351 : M350 (P 0) = some (.inr (6, [.int (nI 0), .ref (P 1), .int (I 2), .ref (P 3), .ref (P 4), .ref (P 5), .int (I 6), .ref (P 7), .ref (P 8), .ref (P 9), .ref (P 10), .ref (P 11), .int (I 12), .int (I 13), .ref (P 14), .ref (P 15), .ref (P 16), .ref (P 17), .int zr189, .ref (P 19), .ref (P 20), .ref (P 21)])) := by rw [eM350]; exact hm_up_o (hm_neO (po 0 (by decide)) (po 9 (by decide)) (by decide)) f333
              have f352 : M350 (P 1) = some (.inl (D.1 102, 48, .inl (A 1))) := by rw [eM350]; exact hm_up_o (hm_neO (po 1 (by decide)) (po 9 (by decide)) (by decide)) f334
              have f353 : M350 (P 3) = some (.inl (D.1 102, 16, .inl (A 3))) := by rw [eM350]; exact hm_up_o (hm_neO (po 3 (by decide)) (po 9 (by decide)) (by decide)) f335
              have f354 : M350 (P 4) = some (.inl (D.1 102, 16, .inl (A 4))) := by rw [eM350]; exact hm_up_o (hm_neO (po 4 (by decide)) (po 9 (by decide)) (by decide)) f336
              have f355 : M350 (P 5) = some (.inl (D.1 101, 16, .inl (A 5))) := by rw [eM350]; exact hm_up_o (hm_neO (po 5 (by decide)) (po 9 (by decide)) (by decide)) f337
              have f356 : M350 (P 7) = some (.inl (D.1 102, 120, .inl (upd (A 7) bs.length x))) := by rw [eM350]; exact hm_up_o (hm_neO (po 7 (by decide)) (po 9 (by decide)) (by decide)) f338
              have f357 : M350 (P 8) = some (.inl (D.1 102, 120, .inl (upd (A 8) bs.length (to_I y q)))) := by rw [eM350]; exact hm_up_o (hm_neO (po 8 (by decide)) (po 9 (by decide)) (by decide)) f349
              have f358 : M350 (P 10) = some (.inl (D.1 102, 5760, .inl (A 10))) := by rw [eM350]; exact hm_up_o (hm_neO (po 10 (by decide)) (po 9 (by decide)) (by decide)) f340
              have f359 : M350 (P 11) = some (.inl (D.1 102, 48, .inl (A 11))) := by rw [eM350]; exact hm_up_o (hm_neO (po 11 (by decide)) (po 9 (by decide)) (by decide)) f341
              have f360 : M350 (P 14) = some (.inl (D.1 103, 6, .inr (.inl (L 14)))) := by rw [eM350]; exact hm_up_o (hm_neO (po 14 (by decide)) (po 9 (by decide)) (by decide)) f342
              have f361 : M350 (P 15) = some (.inl (D.1 103, 6, .inr (.inl (L 15)))) := by rw [eM350]; exact hm_up_o (hm_neO (po 15 (by decide)) (po 9 (by decide)) (by decide)) f343
              have f362 : M350 (P 16) = some (.inl (D.1 101, 16, .inl (A 16))) := by rw [eM350]; exact hm_up_o (hm_neO (po 16 (by decide)) (po 9 (by decide)) (by decide)) f344
              have f363 : M350 (P 17) = some (.inl (D.1 101, 16, .inl (A 17))) := by rw [eM350]; exact hm_up_o (hm_neO (po 17 (by decide)) (po 9 (by decide)) (by decide)) f345
              have f364 : M350 (P 19) = some (.inl (D.1 101, 2601, .inl (A 19))) := by rw [eM350]; exact hm_up_o (hm_neO (po 19 (by decide)) (po 9 (by decide)) (by decide)) f346
              have f365 : M350 (P 20) = some (.inl (D.1 102, 52, .inl (A 20))) := by rw [eM350]; exact hm_up_o (hm_neO (po 20 (by decide)) (po 9 (by decide)) (by decide)) f347
              have f366 : M350 (P 21) = some (.inl (D.1 102, 52, .inl (A 21))) := by rw [eM350]; exact hm_up_o (hm_neO (po 21 (by decide)) (po 9 (by decide)) (by decide)) f348
              have f367 : M350 (P 9) = some (.inl (D.1 102, 120, .inl (upd (A 9) bs.length (nI t.length)))) := by rw [eM350]; exact hm_up_s
              refine lv_iconst (v := nI 0) hx hb dd_MO_bind_152 (by decide +kernel) ?_
              refine lv_istore (lv' := [(7, .int (nI 0)), (6, .int (nI 0)), (5, .int (to_I y q)), (4, .int (nI 1)), (0, .ref (P 0)), (1, .int x), (2, .int y), (3, .int (nI (bz q)))]) hx hb dd_MO_bind_153 hl (by decide) rfl (fun ls hl => ?_)
              have lp155 : ∀ (n9 : Nat) (k : Nat) (xk : Nat → Int32) (Mu155 : hm_M), (k ≤ t.length) → (∀ m, m < 48 * bs.length → xk m = A 10 m) → (∀ i, i < k → xk (48 * bs.length + i) = nI (t.getD i 0)) → (mo_D B D P O Mu155 (va_up (va_up I 0 (nI 0)) 18 zr189) (va_up (va_up (va_up (va_up A 7 (upd (A 7) bs.length x)) 8 (upd (A 8) bs.length (to_I y q))) 9 (upd (A 9) bs.length (nI t.length))) 10 xk) L) → (cz_F O M O Mu155 pm) → t.length - k < n9 → ∀ (H : Heap) (locs : List Loc) (ls : Array Slot), hm_P D cl_W Mu155 H → va_S (hm_A B) s.heap H locs → lv_has ls 8 [(0, .ref (P 0)), (1, .int x), (2, .int y), (3, .int (nI (bz q))), (4, .int (nI 1)), (5, .int (to_I y q)), (6, .int (nI 0)), (7, .int (nI k))] → W p l e R s m ([.ref (P 0), .int x, .int y, .int (nI (bz q))] : List Value).toArray below meth c H locs (0) (0) (MQ below (hm_Ni B D (fun r M1 => r = nI (bz (bn_b ex qs t bs x y q)) ∧ ∃ I1 A1 L1, mo_D B D P O M1 I1 A1 L1 ∧ I1 0 = nI (bn_c ex qs t bs x y q) ∧ mo_S I1 A1 L1 ([]) ex qs (bn_l ex qs t bs x y q) key hs fo ps ∧ cz_F O M O M1 pm)) ([.ref (P 0), .int x, .int y, .int (nI (bz q))] : List Value).toArray s (0) (0) (hm_A B)) (F0 m 155 ls []) := by
                intro n9
                induction n9 with
                | zero => intro k xk Mu155 hk hx1 hx2 hd155 hF155 hm; exact absurd hm (Nat.not_lt_zero _)
                | succ n9 ih155 =>
                  intro k xk Mu155 hk hx1 hx2 hd155 hF155 hm H locs ls hP hS hl
                  obtain ⟨g368_0, g368_1, g368_3, g368_4, g368_5, g368_7, g368_8, g368_9, g368_10, g368_11, g368_14, g368_15, g368_16, g368_17, g368_19, g368_20, g368_21, -, -⟩ := id hd155
                  have g368_0 : Mu155 (P 0) = some (.inr (6, [.int (nI 0), .ref (P 1), .int (I 2), .ref (P 3), .ref (P 4), .ref (P 5), .int (I 6), .ref (P 7), .ref (P 8), .ref (P 9), .ref (P 10), .ref (P 11), .int (I 12), .int (I 13), .ref (P 14), .ref (P 15), .ref (P 16), .ref (P 17), .int zr189, .ref (P 19), .ref (P 20), .ref (P 21)])) := g368_0
                  have g368_1 : Mu155 (P 1) = some (.inl (D.1 102, 48, .inl (A 1))) := g368_1
                  have g368_3 : Mu155 (P 3) = some (.inl (D.1 102, 16, .inl (A 3))) := g368_3
                  have g368_4 : Mu155 (P 4) = some (.inl (D.1 102, 16, .inl (A 4))) := g368_4
                  have g368_5 : Mu155 (P 5) = some (.inl (D.1 101, 16, .inl (A 5))) := g368_5
                  have g368_7 : Mu155 (P 7) = some (.inl (D.1 102, 120, .inl (upd (A 7) bs.length x))) := g368_7
                  have g368_8 : Mu155 (P 8) = some (.inl (D.1 102, 120, .inl (upd (A 8) bs.length (to_I y q)))) := g368_8
                  have g368_9 : Mu155 (P 9) = some (.inl (D.1 102, 120, .inl (upd (A 9) bs.length (nI t.length)))) := g368_9
                  have g368_10 : Mu155 (P 10) = some (.inl (D.1 102, 5760, .inl xk)) := g368_10
                  have g368_11 : Mu155 (P 11) = some (.inl (D.1 102, 48, .inl (A 11))) := g368_11
                  have g368_16 : Mu155 (P 16) = some (.inl (D.1 101, 16, .inl (A 16))) := g368_16
                  have g368_17 : Mu155 (P 17) = some (.inl (D.1 101, 16, .inl (A 17))) := g368_17
                  have g368_19 : Mu155 (P 19) = some (.inl (D.1 101, 2601, .inl (A 19))) := g368_19
                  have g368_20 : Mu155 (P 20) = some (.inl (D.1 102, 52, .inl (A 20))) := g368_20
                  have g368_21 : Mu155 (P 21) = some (.inl (D.1 102, 52, .inl (A 21))) := g368_21
                  refine lv_iload hx hb dd_MO_bind_155 (lv_at hl 7 rfl) ?_
                  refine lv_aload_n hx hb dd_MO_bind_157 rfl (lv_at hl 0 rfl) ?_
                  refine hm_get (ci := 6) (C := rn_MO) (T := ft_MO) (N := 22) hx hb hts fi_MO hown hE.K hP g368_0 rfl 2 (by decide) (hts _ tw_988) (fun _ h9 => h9) rfl dd_MO_bind_158 ?_
                  refine W.eq (g2 := F0 m 161 ls [.int (nI t.length), .int (nI k)]) (by rw [ti1]) ?_
                  refine hn_icmp_ge (tgt := 192) hx hb (by omega) (by omega) dd_MO_bind_161 (by decide) (fun c369 => ?_) (fun c369 => ?_)
                  · refine lv_aload_n hx hb dd_MO_bind_192 rfl (lv_at hl 0 rfl) ?_
                    refine lv_dup hx hb dd_MO_bind_193 rfl ?_
                    refine hm_get (ci := 6) (C := rn_MO) (T := ft_MO) (N := 22) hx hb hts fi_MO hown hE.K hP g368_0 rfl 6 (by decide) (hts _ tw_992) (fun _ h9 => h9) rfl dd_MO_bind_194 ?_
                    refine W.eq (g2 := F0 m 197 ls [.int (nI bs.length), .ref (P 0)]) (by rw [bi1]) ?_
                    refine lv_iconst (v := nI 1) hx hb dd_MO_bind_197 (by decide +kernel) ?_
                    refine hn_iadd hx hb dd_MO_bind_198 ?_
                    refine hm_put (ci := 6) (v := .int (nI (bs.length + 1))) (ty := .int) (C := rn_MO) (T := ft_MO) (N := 22) hx hb hts fi_MO fy_MO fo_MO fn_MO hown hE.K hP hS (pb 0 (by decide)) g368_0 rfl 6 (by decide) (hts _ tw_992) (fun _ h9 => h9) rfl (by decide +kernel) rfl rfl (Nat.le_of_ble_eq_true rfl) dd_MO_bind_199 (fun H locs hP hS => ?_)
                    have hP : hm_P D cl_W (hm_up Mu155 (P 0) (.inr (6, [.int (nI 0), .ref (P 1), .int (I 2), .ref (P 3), .ref (P 4), .ref (P 5), .int (nI (bs.length + 1)), .ref (P 7), .ref (P 8), .ref (P 9), .ref (P 10), .ref (P 11), .int (I 12), .int (I 13), .ref (P 14), .ref (P 15), .ref (P 16), .ref (P 17), .int zr189, .ref (P 19), .ref (P 20), .ref (P 21)]))) H := hP
                    obtain ⟨M370, eM370⟩ : ∃ z, z = hm_up Mu155 (P 0) (.inr (6, [.int (nI 0), .ref (P 1), .int (I 2), .ref (P 3), .ref (P 4), .ref (P 5), .int (nI (bs.length + 1)), .ref (P 7), .ref (P 8), .ref (P 9), .ref (P 10), .ref (P 11), .int (I 12), .int (I 13), .ref (P 14), .ref (P 15), .ref (P 16), .ref (P 17), .int zr189, .ref (P 19), .ref (P 20), .ref (P 21)])) := ⟨_, rfl⟩
                    rw [← eM370] at hP
                    have f371 : M370 (P 1) = some (.inl (D.1 102, 48, .inl (A 1))) := by rw [eM370]; exact hm_up_o (hm_neO (po 1 (by decide)) (po 0 (by decide)) (by decide)) g368_1
                    have f372 : M370 (P 3) = some (.inl (D.1 102, 16, .inl (A 3))) := by rw [eM370]; exact hm_up_o (hm_neO (po 3 (by decide)) (po 0 (by decide)) (by decide)) g368_3
                    have f373 : M370 (P 4) = some (.inl (D.1 102, 16, .inl (A 4))) := by rw [eM370]; exact hm_up_o (hm_neO (po 4 (by decide)) (po 0 (by decide)) (by decide)) g368_4
                    have f374 : M370 (P 5) = some (.inl (D.1 101, 16, .inl (A 5))) := by rw [eM370]; exact hm_up_o (hm_neO (po 5 (by decide)) (po 0 (by decide)) (by decide)) g368_5
                    have f375 : M370 (P 7) = some (.inl (D.1 102, 120, .inl (upd (A 7) bs.length x))) := by rw [eM370]; exact hm_up_o (hm_neO (po 7 (by decide)) (po 0 (by decide)) (by decide)) g368_7
                    have f376 : M370 (P 8) = some (.inl (D.1 102, 120, .inl (upd (A 8) bs.length (to_I y q)))) := by rw [eM370]; exact hm_up_o (hm_neO (po 8 (by decide)) (po 0 (by decide)) (by decide)) g368_8
                    have f377 : M370 (P 9) = some (.inl (D.1 102, 120, .inl (upd (A 9) bs.length (nI t.length)))) := by rw [eM370]; exact hm_up_o (hm_neO (po 9 (by decide)) (po 0 (by decide)) (by decide)) g368_9
                    have f378 : M370 (P 10) = some (.inl (D.1 102, 5760, .inl xk)) := by rw [eM370]; exact hm_up_o (hm_neO (po 10 (by decide)) (po 0 (by decide)) (by decide)) g368_10
                    have f379 : M370 (P 11) = some (.inl (D.1 102, 48, .inl (A 11))) := by rw [eM370]; exact hm_up_o (hm_neO (po 11 (by decide)) (po 0 (by decide)) (by decide)) g368_11
                    have f380 : M370 (P 14) = some (.inl (D.1 103, 6, .inr (.inl (L 14)))) := by rw [eM370]; exact hm_up_o (hm_neO (po 14 (by decide)) (po 0 (by decide)) (by decide)) g368_14
                    have f381 : M370 (P 15) = some (.inl (D.1 103, 6, .inr (.inl (L 15)))) := by rw [eM370]; exact hm_up_o (hm_neO (po 15 (by decide)) (po 0 (by decide)) (by decide)) g368_15
                    have f382 : M370 (P 16) = some (.inl (D.1 101, 16, .inl (A 16))) := by rw [eM370]; exact hm_up_o (hm_neO (po 16 (by decide)) (po 0 (by decide)) (by decide)) g368_16
                    have f383 : M370 (P 17) = some (.inl (D.1 101, 16, .inl (A 17))) := by rw [eM370]; exact hm_up_o (hm_neO (po 17 (by decide)) (po 0 (by decide)) (by decide)) g368_17
                    have f384 : M370 (P 19) = some (.inl (D.1 101, 2601, .inl (A 19))) := by rw [eM370]; exact hm_up_o (hm_neO (po 19 (by decide)) (po 0 (by decide)) (by decide)) g368_19
                    have f385 : M370 (P 20) = some (.inl (D.1 102, 52, .inl (A 20))) := by rw [eM370]; exact hm_up_o (hm_neO (po 20 (by decide)) (po 0 (by decide)) (by decide)) g368_20
                    have f386 : M370 (P 21) = some (.inl (D.1 102, 52, .inl (A 21))) := by rw [eM370]; exact hm_up_o (hm_neO (po 21 (by decide)) (po 0 (by decide)) (by decide)) g368_21
                    have f387 : M370 (P 0) = some (.inr (6, [.int (nI 0), .ref (P 1), .int (I 2), .ref (P 3), .ref (P 4), .ref (P 5), .int (nI (bs.length + 1)), .ref (P 7), .ref (P 8), .ref (P 9), .ref (P 10), .ref (P 11), .int (I 12), .int (I 13), .ref (P 14), .ref (P 15), .ref (P 16), .ref (P 17), .int zr189, .ref (P 19), .ref (P 20), .ref (P 21)])) := by rw [eM370]; exact hm_up_s
                    refine lv_aload_n hx hb dd_MO_bind_202 rfl (lv_at hl 0 rfl) ?_
                    refine lv_iconst (v := nI 0) hx hb dd_MO_bind_203 (by decide +kernel) ?_
                    refine hm_put (ci := 6) (v := .int (nI 0)) (ty := .int) (C := rn_MO) (T := ft_MO) (N := 22) hx hb hts fi_MO fy_MO fo_MO fn_MO hown hE.K hP hS (pb 0 (by decide)) f387 rfl 2 (by decide) (hts _ tw_988) (fun _ h9 => h9) rfl (by decide +kernel) rfl rfl (Nat.le_of_ble_eq_true rfl) dd_MO_bind_204 (fun H locs hP hS => ?_)
                    have hP : hm_P D cl_W (hm_up M370 (P 0) (.inr (6, [.int (nI 0), .ref (P 1), .int (nI 0), .ref (P 3), .ref (P 4), .ref (P 5), .int (nI (bs.length + 1)), .ref (P 7), .ref (P 8), .ref (P 9), .ref (P 10), .ref (P 11), .int (I 12), .int (I 13), .ref (P 14), .ref (P 15), .ref (P 16), .ref (P 17), .int zr189, .ref (P 19), .ref (P 20), .ref (P 21)]))) H := hP
                    obtain ⟨M388, eM388⟩ : ∃ z, z = hm_up M370 (P 0) (.inr (6, [.int (nI 0), .ref (P 1), .int (nI 0), .ref (P 3), .ref (P 4), .ref (P 5), .int (nI (bs.length + 1)), .ref (P 7), .ref (P 8), .ref (P 9), .ref (P 10), .ref (P 11), .int (I 12), .int (I 13), .ref (P 14), .ref (P 15), .ref (P 16), .ref (P 17), .int zr189, .ref (P 19), .ref (P 20), .ref (P 21)])) := ⟨_, rfl⟩
                    rw [← eM388] at hP
                    have f389 : M388 (P 1) = some (.inl (D.1 102, 48, .inl (A 1))) := by rw [eM388]; exact hm_up_o (hm_neO (po 1 (by decide)) (po 0 (by decide)) (by decide)) f371
                    have f390 : M388 (P 3) = some (.inl (D.1 102, 16, .inl (A 3))) := by rw [eM388]; exact hm_up_o (hm_neO (po 3 (by decide)) (po 0 (by decide)) (by decide)) f372
                    have f391 : M388 (P 4) = some (.inl (D.1 102, 16, .inl (A 4))) := by rw [eM388]; exact hm_up_o (hm_neO (po 4 (by decide)) (po 0 (by decide)) (by decide)) f373
                    have f392 : M388 (P 5) = some (.inl (D.1 101, 16, .inl (A 5))) := by rw [eM388]; exact hm_up_o (hm_neO (po 5 (by decide)) (po 0 (by decide)) (by decide)) f374
                    have f393 : M388 (P 7) = some (.inl (D.1 102, 120, .inl (upd (A 7) bs.length x))) := by rw [eM388]; exact hm_up_o (hm_neO (po 7 (by decide)) (po 0 (by decide)) (by decide)) f375
                    have f394 : M388 (P 8) = some (.inl (D.1 102, 120, .inl (upd (A 8) bs.length (to_I y q)))) := by rw [eM388]; exact hm_up_o (hm_neO (po 8 (by decide)) (po 0 (by decide)) (by decide)) f376
                    have f395 : M388 (P 9) = some (.inl (D.1 102, 120, .inl (upd (A 9) bs.length (nI t.length)))) := by rw [eM388]; exact hm_up_o (hm_neO (po 9 (by decide)) (po 0 (by decide)) (by decide)) f377
                    have f396 : M388 (P 10) = some (.inl (D.1 102, 5760, .inl xk)) := by rw [eM388]; exact hm_up_o (hm_neO (po 10 (by decide)) (po 0 (by decide)) (by decide)) f378
                    have f397 : M388 (P 11) = some (.inl (D.1 102, 48, .inl (A 11))) := by rw [eM388]; exact hm_up_o (hm_neO (po 11 (by decide)) (po 0 (by decide)) (by decide)) f379
                    have f398 : M388 (P 14) = some (.inl (D.1 103, 6, .inr (.inl (L 14)))) := by rw [eM388]; exact hm_up_o (hm_neO (po 14 (by decide)) (po 0 (by decide)) (by decide)) f380
                    have f399 : M388 (P 15) = some (.inl (D.1 103, 6, .inr (.inl (L 15)))) := by rw [eM388]; exact hm_up_o (hm_neO (po 15 (by decide)) (po 0 (by decide)) (by decide)) f381
                    have f400 : M388 (P 16) = some (.inl (D.1 101, 16, .inl (A 16))) := by rw [eM388]; exact hm_up_o (hm_neO (po 16 (by decide)) (po 0 (by decide)) (by decide)) f382
                    have f401 : M388 (P 17) = some (.inl (D.1 101, 16, .inl (A 17))) := by rw [eM388]; exact hm_up_o (hm_neO (po 17 (by decide)) (po 0 (by decide)) (by decide)) f383
                    have f402 : M388 (P 19) = some (.inl (D.1 101, 2601, .inl (A 19))) := by rw [eM388]; exact hm_up_o (hm_neO (po 19 (by decide)) (po 0 (by decide)) (by decide)) f384
                    have f403 : M388 (P 20) = some (.inl (D.1 102, 52, .inl (A 20))) := by rw [eM388]; exact hm_up_o (hm_neO (po 20 (by decide)) (po 0 (by decide)) (by decide)) f385
                    have f404 : M388 (P 21) = some (.inl (D.1 102, 52, .inl (A 21))) := by rw [eM388]; exact hm_up_o (hm_neO (po 21 (by decide)) (po 0 (by decide)) (by decide)) f386
                    have f405 : M388 (P 0) = some (.inr (6, [.int (nI 0), .ref (P 1), .int (nI 0), .ref (P 3), .ref (P 4), .ref (P 5), .int (nI (bs.length + 1)), .ref (P 7), .ref (P 8), .ref (P 9), .ref (P 10), .ref (P 11), .int (I 12), .int (I 13), .ref (P 14), .ref (P 15), .ref (P 16), .ref (P 17), .int zr189, .ref (P 19), .ref (P 20), .ref (P 21)])) := by rw [eM388]; exact hm_up_s
                    refine lv_aload_n hx hb dd_MO_bind_207 rfl (lv_at hl 0 rfl) ?_
                    refine hm_get (ci := 6) (C := rn_MO) (T := ft_MO) (N := 22) hx hb hts fi_MO hown hE.K hP f405 rfl 0 (by decide) (hts _ tw_986) (fun _ h9 => h9) rfl dd_MO_bind_208 ?_
                    refine hn_if_ne (tgt := 223) hx hb (by omega) dd_MO_bind_211 (by decide) (fun c406 => absurd c406 (by omega)) (fun c406 => ?_)
                    refine lv_iload hx hb dd_MO_bind_214 (lv_at hl 6 rfl) ?_
                    refine hn_if_ne (tgt := 223) hx hb (by omega) dd_MO_bind_216 (by decide) (fun c407 => absurd c407 (by omega)) (fun c407 => ?_)
                    refine lv_iconst (v := nI 1) hx hb dd_MO_bind_219 (by decide +kernel) ?_
                    refine lv_goto (tgt := 224) hx hb dd_MO_bind_220 (by decide) ?_
                    have hbb : bn_b ex qs t bs x y q = true := by rw [bn_b, hok, hpa, decide_eq_true (by omega)]; rfl
                    have hkt : k = t.length := by omega
                    have kk408 : hm_k Mu155 Mu155 [(P 0)] := hm_krf
                    have kk409 : hm_k Mu155 M370 [(P 0)] := hm_ku kk408 (Or.inr (by simp)) eM370
                    have kk410 : hm_k Mu155 M388 [(P 0)] := hm_ku kk409 (Or.inr (by simp)) eM388
                    exact hm_Ei (v := nI 1) hx hb hr rfl hS hP (⟨bz_1 hbb, (va_up (va_up (va_up (va_up I 0 (nI 0)) 2 (nI 0)) 6 (nI (bs.length + 1))) 18 zr189), (va_up (va_up (va_up (va_up A 7 (upd (A 7) bs.length x)) 8 (upd (A 8) bs.length (to_I y q))) 9 (upd (A 9) bs.length (nI t.length))) 10 xk), L, ⟨f405, f389, f390, f391, f392, f393, f394, f395, f396, f397, f398, f399, f400, f401, f402, f403, f404, po, pb⟩, by rw [bn_c, hok, if_pos rfl, hpa, if_neg (by decide), if_neg (by omega)]; rfl, ⟨tpS_0, hX, hQ, by rw [bn_l, if_pos hbb]; exact bdS_add (by rw [← bi1]; exact hB) (by omega) hx1 (fun i hi => hx2 i (by omega)) ti3 ti4 hin hiny, hK, hH, hFo, hPs⟩, (hF155).trans (cz_F.k0 kk410 (hm_a1 ⟨by rw [po 0 (by decide)]; unfold pm; omega, _, f405⟩))⟩) hlocks (by omega) (by omega) dd_MO_bind_224
                  · refine lv_aload_n hx hb dd_MO_bind_164 rfl (lv_at hl 0 rfl) ?_
                    refine hm_get (ci := 6) (C := rn_MO) (T := ft_MO) (N := 22) hx hb hts fi_MO hown hE.K hP g368_0 rfl 10 (by decide) (hts _ tw_996) (fun _ h9 => h9) rfl dd_MO_bind_165 ?_
                    refine lv_bipush (v := nI 48) hx hb dd_MO_bind_168 (by decide +kernel) ?_
                    refine lv_aload_n hx hb dd_MO_bind_170 rfl (lv_at hl 0 rfl) ?_
                    refine hm_get (ci := 6) (C := rn_MO) (T := ft_MO) (N := 22) hx hb hts fi_MO hown hE.K hP g368_0 rfl 6 (by decide) (hts _ tw_992) (fun _ h9 => h9) rfl dd_MO_bind_171 ?_
                    refine W.eq (g2 := F0 m 174 ls [.int (nI bs.length), .int (nI 48), .ref (P 10)]) (by rw [bi1]) ?_
                    refine hn_imul hx hb dd_MO_bind_174 ?_
                    refine lv_iload hx hb dd_MO_bind_175 (lv_at hl 7 rfl) ?_
                    refine hn_iadd hx hb dd_MO_bind_177 ?_
                    refine lv_aload_n hx hb dd_MO_bind_178 rfl (lv_at hl 0 rfl) ?_
                    refine hm_get (ci := 6) (C := rn_MO) (T := ft_MO) (N := 22) hx hb hts fi_MO hown hE.K hP g368_0 rfl 1 (by decide) (hts _ tw_987) (fun _ h9 => h9) rfl dd_MO_bind_179 ?_
                    refine lv_iload hx hb dd_MO_bind_182 (lv_at hl 7 rfl) ?_
                    refine hm_iald (j := k) hx hb hE.K hP 2 g368_1 rfl (vp_in_nI (by omega) (by omega)) (nI_clamp (by omega)) dd_MO_bind_184 ?_
                    refine W.eq (g2 := F0 m 185 ls [.int (nI (t.getD k 0)), .int (nI ((48 * bs.length) + k)), .ref (P 10)]) (by rw [ti2 k (by omega)]) ?_
                    refine hm_iast (j := (48 * bs.length) + k) hx hb hE.K hP hS (pb 10 (by decide)) 2 g368_10 rfl (vp_in_nI (by omega) (by omega)) (nI_clamp (by omega)) dd_MO_bind_185 (fun H locs hP hS => ?_)
                    obtain ⟨M411, eM411⟩ : ∃ z, z = hm_up Mu155 (P 10) (.inl (D.1 102, 5760, .inl (upd xk ((48 * bs.length) + k) (nI (t.getD k 0))))) := ⟨_, rfl⟩
                    rw [← eM411] at hP
                    have f412 : M411 (P 0) = some (.inr (6, [.int (nI 0), .ref (P 1), .int (I 2), .ref (P 3), .ref (P 4), .ref (P 5), .int (I 6), .ref (P 7), .ref (P 8), .ref (P 9), .ref (P 10), .ref (P 11), .int (I 12), .int (I 13), .ref (P 14), .ref (P 15), .ref (P 16), .ref (P 17), .int zr189, .ref (P 19), .ref (P 20), .ref (P 21)])) := by rw [eM411]; exact hm_up_o (hm_neO (po 0 (by decide)) (po 10 (by decide)) (by decide)) g368_0
                    have f413 : M411 (P 1) = some (.inl (D.1 102, 48, .inl (A 1))) := by rw [eM411]; exact hm_up_o (hm_neO (po 1 (by decide)) (po 10 (by decide)) (by decide)) g368_1
                    have f414 : M411 (P 3) = some (.inl (D.1 102, 16, .inl (A 3))) := by rw [eM411]; exact hm_up_o (hm_neO (po 3 (by decide)) (po 10 (by decide)) (by decide)) g368_3
                    have f415 : M411 (P 4) = some (.inl (D.1 102, 16, .inl (A 4))) := by rw [eM411]; exact hm_up_o (hm_neO (po 4 (by decide)) (po 10 (by decide)) (by decide)) g368_4
                    have f416 : M411 (P 5) = some (.inl (D.1 101, 16, .inl (A 5))) := by rw [eM411]; exact hm_up_o (hm_neO (po 5 (by decide)) (po 10 (by decide)) (by decide)) g368_5
                    have f417 : M411 (P 7) = some (.inl (D.1 102, 120, .inl (upd (A 7) bs.length x))) := by rw [eM411]; exact hm_up_o (hm_neO (po 7 (by decide)) (po 10 (by decide)) (by decide)) g368_7
                    have f418 : M411 (P 8) = some (.inl (D.1 102, 120, .inl (upd (A 8) bs.length (to_I y q)))) := by rw [eM411]; exact hm_up_o (hm_neO (po 8 (by decide)) (po 10 (by decide)) (by decide)) g368_8
                    have f419 : M411 (P 9) = some (.inl (D.1 102, 120, .inl (upd (A 9) bs.length (nI t.length)))) := by rw [eM411]; exact hm_up_o (hm_neO (po 9 (by decide)) (po 10 (by decide)) (by decide)) g368_9
                    have f420 : M411 (P 11) = some (.inl (D.1 102, 48, .inl (A 11))) := by rw [eM411]; exact hm_up_o (hm_neO (po 11 (by decide)) (po 10 (by decide)) (by decide)) g368_11
                    have f421 : M411 (P 14) = some (.inl (D.1 103, 6, .inr (.inl (L 14)))) := by rw [eM411]; exact hm_up_o (hm_neO (po 14 (by decide)) (po 10 (by decide)) (by decide)) g368_14
                    have f422 : M411 (P 15) = some (.inl (D.1 103, 6, .inr (.inl (L 15)))) := by rw [eM411]; exact hm_up_o (hm_neO (po 15 (by decide)) (po 10 (by decide)) (by decide)) g368_15
                    have f423 : M411 (P 16) = some (.inl (D.1 101, 16, .inl (A 16))) := by rw [eM411]; exact hm_up_o (hm_neO (po 16 (by decide)) (po 10 (by decide)) (by decide)) g368_16
                    have f424 : M411 (P 17) = some (.inl (D.1 101, 16, .inl (A 17))) := by rw [eM411]; exact hm_up_o (hm_neO (po 17 (by decide)) (po 10 (by decide)) (by decide)) g368_17
                    have f425 : M411 (P 19) = some (.inl (D.1 101, 2601, .inl (A 19))) := by rw [eM411]; exact hm_up_o (hm_neO (po 19 (by decide)) (po 10 (by decide)) (by decide)) g368_19
                    have f426 : M411 (P 20) = some (.inl (D.1 102, 52, .inl (A 20))) := by rw [eM411]; exact hm_up_o (hm_neO (po 20 (by decide)) (po 10 (by decide)) (by decide)) g368_20
                    have f427 : M411 (P 21) = some (.inl (D.1 102, 52, .inl (A 21))) := by rw [eM411]; exact hm_up_o (hm_neO (po 21 (by decide)) (po 10 (by decide)) (by decide)) g368_21
                    have f428 : M411 (P 10) = some (.inl (D.1 102, 5760, .inl (upd xk ((48 * bs.length) + k) (nI (t.getD k 0))))) := by rw [eM411]; exact hm_up_s
                    refine lv_iinc (v := nI (k + 1)) (lv' := [(7, .int (nI (k + 1))), (0, .ref (P 0)), (1, .int x), (2, .int y), (3, .int (nI (bz q))), (4, .int (nI 1)), (5, .int (to_I y q)), (6, .int (nI 0))]) hx hb dd_MO_bind_186 hl (k := 7) rfl (nI_1 k) (by decide) rfl (fun ls hl => ?_)
                    refine lv_goto (tgt := 155) hx hb dd_MO_bind_189 (by decide) ?_
                    have kk429 : hm_k Mu155 Mu155 [(P 10)] := hm_krf
                    have kk430 : hm_k Mu155 M411 [(P 10)] := hm_ku kk429 (Or.inr (by simp)) eM411
                    exact ih155 (k + 1) (upd xk ((48 * bs.length) + k) (nI (t.getD k 0))) M411 (by omega) (fun m hm9 => (up_o (by omega)).trans (hx1 m hm9)) (fun i hi => by
                        by_cases h9 : i = k
                        · subst h9; exact up_s
                        · exact (up_o (by omega)).trans (hx2 i (by omega))) (⟨f412, f413, f414, f415, f416, f417, f418, f419, f428, f420, f421, f422, f423, f424, f425, f426, f427, po, pb⟩) ((hF155).trans (cz_F.k0 kk430 (hm_a1 ⟨by rw [po 10 (by decide)]; unfold pm; omega, _, f428⟩))) (by omega) _ _ _ hP hS (lv_sub hl [1, 2, 3, 4, 5, 6, 7, 0] rfl)
              have kk431 : hm_k M190 M190 [(P 0), (P 7), (P 8), (P 9)] := hm_krf
              have kk432 : hm_k M190 M294 [(P 0), (P 7), (P 8), (P 9)] := hm_ku kk431 (Or.inr (by simp)) eM294
              have kk433 : hm_k M190 M314 [(P 0), (P 7), (P 8), (P 9)] := hm_ku kk432 (Or.inr (by simp)) eM314
              have kk434 : hm_k M190 M332 [(P 0), (P 7), (P 8), (P 9)] := hm_ku kk433 (Or.inr (by simp)) eM332
              have kk435 : hm_k M190 M350 [(P 0), (P 7), (P 8), (P 9)] := hm_ku kk434 (Or.inr (by simp)) eM350
              exact lp155 _ 0 (A 10) M350 (Nat.zero_le _) (fun m _ => rfl) (fun i hi => absurd hi (Nat.not_lt_zero _)) (⟨f351, f352, f353, f354, f355, f356, f357, f367, f358, f359, f360, f361, f362, f363, f364, f365, f366, po, pb⟩) ((hF193).trans (cz_F.k0 kk435 (hm_a4 ⟨by rw [po 0 (by decide)]; unfold pm; omega, _, f351⟩ ⟨by rw [po 7 (by decide)]; unfold pm; omega, _, f356⟩ ⟨by rw [po 8 (by decide)]; unfold pm; omega, _, f357⟩ ⟨by rw [po 9 (by decide)]; unfold pm; omega, _, f367⟩))) (Nat.lt_succ_self _) _ _ _ hP hS (lv_sub hl [4, 5, 6, 7, 3, 2, 1, 0] rfl)
            · refine lv_iconst (v := nI 2) hx hb dd_MO_bind_98 (by decide +kernel) ?_
              refine lv_goto (tgt := 103) hx hb dd_MO_bind_99 (by decide) ?_
              refine hm_put (ci := 6) (v := .int (nI 2)) (ty := .int) (C := rn_MO) (T := ft_MO) (N := 22) hx hb hts fi_MO fy_MO fo_MO fn_MO hown hE.K hP hS (pb 0 (by decide)) g194_0 rfl 0 (by decide) (hts _ tw_986) (fun _ h9 => h9) rfl (by decide +kernel) rfl rfl (Nat.le_of_ble_eq_true rfl) dd_MO_bind_103 (fun H locs hP hS => ?_)
              have hP : hm_P D cl_W (hm_up M190 (P 0) (.inr (6, [.int (nI 2), .ref (P 1), .int (I 2), .ref (P 3), .ref (P 4), .ref (P 5), .int (I 6), .ref (P 7), .ref (P 8), .ref (P 9), .ref (P 10), .ref (P 11), .int (I 12), .int (I 13), .ref (P 14), .ref (P 15), .ref (P 16), .ref (P 17), .int zr189, .ref (P 19), .ref (P 20), .ref (P 21)]))) H := hP
              obtain ⟨M436, eM436⟩ : ∃ z, z = hm_up M190 (P 0) (.inr (6, [.int (nI 2), .ref (P 1), .int (I 2), .ref (P 3), .ref (P 4), .ref (P 5), .int (I 6), .ref (P 7), .ref (P 8), .ref (P 9), .ref (P 10), .ref (P 11), .int (I 12), .int (I 13), .ref (P 14), .ref (P 15), .ref (P 16), .ref (P 17), .int zr189, .ref (P 19), .ref (P 20), .ref (P 21)])) := ⟨_, rfl⟩
              rw [← eM436] at hP
              have f437 : M436 (P 1) = some (.inl (D.1 102, 48, .inl (A 1))) := by rw [eM436]; exact hm_up_o (hm_neO (po 1 (by decide)) (po 0 (by decide)) (by decide)) g194_1
              have f438 : M436 (P 3) = some (.inl (D.1 102, 16, .inl (A 3))) := by rw [eM436]; exact hm_up_o (hm_neO (po 3 (by decide)) (po 0 (by decide)) (by decide)) g194_3
              have f439 : M436 (P 4) = some (.inl (D.1 102, 16, .inl (A 4))) := by rw [eM436]; exact hm_up_o (hm_neO (po 4 (by decide)) (po 0 (by decide)) (by decide)) g194_4
              have f440 : M436 (P 5) = some (.inl (D.1 101, 16, .inl (A 5))) := by rw [eM436]; exact hm_up_o (hm_neO (po 5 (by decide)) (po 0 (by decide)) (by decide)) g194_5
              have f441 : M436 (P 7) = some (.inl (D.1 102, 120, .inl (A 7))) := by rw [eM436]; exact hm_up_o (hm_neO (po 7 (by decide)) (po 0 (by decide)) (by decide)) g194_7
              have f442 : M436 (P 8) = some (.inl (D.1 102, 120, .inl (A 8))) := by rw [eM436]; exact hm_up_o (hm_neO (po 8 (by decide)) (po 0 (by decide)) (by decide)) g194_8
              have f443 : M436 (P 9) = some (.inl (D.1 102, 120, .inl (A 9))) := by rw [eM436]; exact hm_up_o (hm_neO (po 9 (by decide)) (po 0 (by decide)) (by decide)) g194_9
              have f444 : M436 (P 10) = some (.inl (D.1 102, 5760, .inl (A 10))) := by rw [eM436]; exact hm_up_o (hm_neO (po 10 (by decide)) (po 0 (by decide)) (by decide)) g194_10
              have f445 : M436 (P 11) = some (.inl (D.1 102, 48, .inl (A 11))) := by rw [eM436]; exact hm_up_o (hm_neO (po 11 (by decide)) (po 0 (by decide)) (by decide)) g194_11
              have f446 : M436 (P 14) = some (.inl (D.1 103, 6, .inr (.inl (L 14)))) := by rw [eM436]; exact hm_up_o (hm_neO (po 14 (by decide)) (po 0 (by decide)) (by decide)) g194_14
              have f447 : M436 (P 15) = some (.inl (D.1 103, 6, .inr (.inl (L 15)))) := by rw [eM436]; exact hm_up_o (hm_neO (po 15 (by decide)) (po 0 (by decide)) (by decide)) g194_15
              have f448 : M436 (P 16) = some (.inl (D.1 101, 16, .inl (A 16))) := by rw [eM436]; exact hm_up_o (hm_neO (po 16 (by decide)) (po 0 (by decide)) (by decide)) g194_16
              have f449 : M436 (P 17) = some (.inl (D.1 101, 16, .inl (A 17))) := by rw [eM436]; exact hm_up_o (hm_neO (po 17 (by decide)) (po 0 (by decide)) (by decide)) g194_17
              have f450 : M436 (P 19) = some (.inl (D.1 101, 2601, .inl (A 19))) := by rw [eM436]; exact hm_up_o (hm_neO (po 19 (by decide)) (po 0 (by decide)) (by decide)) g194_19
              have f451 : M436 (P 20) = some (.inl (D.1 102, 52, .inl (A 20))) := by rw [eM436]; exact hm_up_o (hm_neO (po 20 (by decide)) (po 0 (by decide)) (by decide)) g194_20
              have f452 : M436 (P 21) = some (.inl (D.1 102, 52, .inl (A 21))) := by rw [eM436]; exact hm_up_o (hm_neO (po 21 (by decide)) (po 0 (by decide)) (by decide)) g194_21
              have f453 : M436 (P 0) = some (.inr (6, [.int (nI 2), .ref (P 1), .int (I 2), .ref (P 3), .ref (P 4), .ref (P 5), .int (I 6), .ref (P 7), .ref (P 8), .ref (P 9), .ref (P 10), .ref (P 11), .int (I 12), .int (I 13), .ref (P 14), .ref (P 15), .ref (P 16), .ref (P 17), .int zr189, .ref (P 19), .ref (P 20), .ref (P 21)])) := by rw [eM436]; exact hm_up_s
              refine lv_aload_n hx hb dd_MO_bind_106 rfl (lv_at hl 3 rfl) ?_
              refine hm_get (ci := 6) (C := rn_MO) (T := ft_MO) (N := 22) hx hb hts fi_MO hown hE.K hP f453 rfl 0 (by decide) (hts _ tw_986) (fun _ h9 => h9) rfl dd_MO_bind_107 ?_
              refine hn_if_ne (tgt := 202) hx hb (by omega) dd_MO_bind_110 (by decide) (fun c454 => ?_) (fun c454 => absurd c454 (by omega))
              refine lv_aload_n hx hb dd_MO_bind_202 rfl (lv_at hl 3 rfl) ?_
              refine lv_iconst (v := nI 0) hx hb dd_MO_bind_203 (by decide +kernel) ?_
              refine hm_put (ci := 6) (v := .int (nI 0)) (ty := .int) (C := rn_MO) (T := ft_MO) (N := 22) hx hb hts fi_MO fy_MO fo_MO fn_MO hown hE.K hP hS (pb 0 (by decide)) f453 rfl 2 (by decide) (hts _ tw_988) (fun _ h9 => h9) rfl (by decide +kernel) rfl rfl (Nat.le_of_ble_eq_true rfl) dd_MO_bind_204 (fun H locs hP hS => ?_)
              have hP : hm_P D cl_W (hm_up M436 (P 0) (.inr (6, [.int (nI 2), .ref (P 1), .int (nI 0), .ref (P 3), .ref (P 4), .ref (P 5), .int (I 6), .ref (P 7), .ref (P 8), .ref (P 9), .ref (P 10), .ref (P 11), .int (I 12), .int (I 13), .ref (P 14), .ref (P 15), .ref (P 16), .ref (P 17), .int zr189, .ref (P 19), .ref (P 20), .ref (P 21)]))) H := hP
              obtain ⟨M455, eM455⟩ : ∃ z, z = hm_up M436 (P 0) (.inr (6, [.int (nI 2), .ref (P 1), .int (nI 0), .ref (P 3), .ref (P 4), .ref (P 5), .int (I 6), .ref (P 7), .ref (P 8), .ref (P 9), .ref (P 10), .ref (P 11), .int (I 12), .int (I 13), .ref (P 14), .ref (P 15), .ref (P 16), .ref (P 17), .int zr189, .ref (P 19), .ref (P 20), .ref (P 21)])) := ⟨_, rfl⟩
              rw [← eM455] at hP
              have f456 : M455 (P 1) = some (.inl (D.1 102, 48, .inl (A 1))) := by rw [eM455]; exact hm_up_o (hm_neO (po 1 (by decide)) (po 0 (by decide)) (by decide)) f437
              have f457 : M455 (P 3) = some (.inl (D.1 102, 16, .inl (A 3))) := by rw [eM455]; exact hm_up_o (hm_neO (po 3 (by decide)) (po 0 (by decide)) (by decide)) f438
              have f458 : M455 (P 4) = some (.inl (D.1 102, 16, .inl (A 4))) := by rw [eM455]; exact hm_up_o (hm_neO (po 4 (by decide)) (po 0 (by decide)) (by decide)) f439
              have f459 : M455 (P 5) = some (.inl (D.1 101, 16, .inl (A 5))) := by rw [eM455]; exact hm_up_o (hm_neO (po 5 (by decide)) (po 0 (by decide)) (by decide)) f440
              have f460 : M455 (P 7) = some (.inl (D.1 102, 120, .inl (A 7))) := by rw [eM455]; exact hm_up_o (hm_neO (po 7 (by decide)) (po 0 (by decide)) (by decide)) f441
              have f461 : M455 (P 8) = some (.inl (D.1 102, 120, .inl (A 8))) := by rw [eM455]; exact hm_up_o (hm_neO (po 8 (by decide)) (po 0 (by decide)) (by decide)) f442
              have f462 : M455 (P 9) = some (.inl (D.1 102, 120, .inl (A 9))) := by rw [eM455]; exact hm_up_o (hm_neO (po 9 (by decide)) (po 0 (by decide)) (by decide)) f443
              have f463 : M455 (P 10) = some (.inl (D.1 102, 5760, .inl (A 10))) := by rw [eM455]; exact hm_up_o (hm_neO (po 10 (by decide)) (po 0 (by decide)) (by decide)) f444
              have f464 : M455 (P 11) = some (.inl (D.1 102, 48, .inl (A 11))) := by rw [eM455]; exact hm_up_o (hm_neO (po 11 (by decide)) (po 0 (by decide)) (by decide)) f445
              have f465 : M455 (P 14) = some (.inl (D.1 103, 6, .inr (.inl (L 14)))) := by rw [eM455]; exact hm_up_o (hm_neO (po 14 (by decide)) (po 0 (by decide)) (by decide)) f446
              have f466 : M455 (P 15) = some (.inl (D.1 103, 6, .inr (.inl (L 15)))) := by rw [eM455]; exact hm_up_o (hm_neO (po 15 (by decide)) (po 0 (by decide)) (by decide)) f447
              have f467 : M455 (P 16) = some (.inl (D.1 101, 16, .inl (A 16))) := by rw [eM455]; exact hm_up_o (hm_neO (po 16 (by decide)) (po 0 (by decide)) (by decide)) f448
              have f468 : M455 (P 17) = some (.inl (D.1 101, 16, .inl (A 17))) := by rw [eM455]; exact hm_up_o (hm_neO (po 17 (by decide)) (po 0 (by decide)) (by decide)) f449
              have f469 : M455 (P 19) = some (.inl (D.1 101, 2601, .inl (A 19))) := by rw [eM455]; exact hm_up_o (hm_neO (po 19 (by decide)) (po 0 (by decide)) (by decide)) f450
              have f470 : M455 (P 20) = some (.inl (D.1 102, 52, .inl (A 20))) := by rw [eM455]; exact hm_up_o (hm_neO (po 20 (by decide)) (po 0 (by decide)) (by decide)) f451
              have f471 : M455 (P 21) = some (.inl (D.1 102, 52, .inl (A 21))) := by rw [eM455]; exact hm_up_o (hm_neO (po 21 (by decide)) (po 0 (by decide)) (by decide)) f452
              have f472 : M455 (P 0) = some (.inr (6, [.int (nI 2), .ref (P 1), .int (nI 0), .ref (P 3), .ref (P 4), .ref (P 5), .int (I 6), .ref (P 7), .ref (P 8), .ref (P 9), .ref (P 10), .ref (P 11), .int (I 12), .int (I 13), .ref (P 14), .ref (P 15), .ref (P 16), .ref (P 17), .int zr189, .ref (P 19), .ref (P 20), .ref (P 21)])) := by rw [eM455]; exact hm_up_s
              refine lv_aload_n hx hb dd_MO_bind_207 rfl (lv_at hl 3 rfl) ?_
              refine hm_get (ci := 6) (C := rn_MO) (T := ft_MO) (N := 22) hx hb hts fi_MO hown hE.K hP f472 rfl 0 (by decide) (hts _ tw_986) (fun _ h9 => h9) rfl dd_MO_bind_208 ?_
              refine hn_if_ne (tgt := 223) hx hb (by omega) dd_MO_bind_211 (by decide) (fun c473 => ?_) (fun c473 => absurd c473 (by omega))
              refine lv_iconst (v := nI 0) hx hb dd_MO_bind_223 (by decide +kernel) ?_
              have kk474 : hm_k M190 M190 [(P 0)] := hm_krf
              have kk475 : hm_k M190 M436 [(P 0)] := hm_ku kk474 (Or.inr (by simp)) eM436
              have kk476 : hm_k M190 M455 [(P 0)] := hm_ku kk475 (Or.inr (by simp)) eM455
              exact hm_Ei (v := nI 0) hx hb hr rfl hS hP (⟨bz_0 (by rw [bn_b, decide_eq_false (fun h9 => h9 (by omega))]; simp), (va_up (va_up (va_up I 0 (nI 2)) 2 (nI 0)) 18 zr189), A, L, ⟨f472, f456, f457, f458, f459, f460, f461, f462, f463, f464, f465, f466, f467, f468, f469, f470, f471, po, pb⟩, by rw [bn_c, hok, if_pos rfl, hpa, if_neg (by decide), if_pos (by omega)]; rfl, ⟨tpS_0, hX, hQ, by rw [bn_l, if_neg (by rw [bn_b, decide_eq_false (fun h9 => h9 (by omega))]; simp)]; exact hB, hK, hH, hFo, hPs⟩, (hF193).trans (cz_F.k0 kk476 (hm_a1 ⟨by rw [po 0 (by decide)]; unfold pm; omega, _, f472⟩))⟩) hlocks (by omega) (by omega) dd_MO_bind_224
          · refine lv_iconst (v := (-1)) hx hb dd_MO_bind_63 (by decide +kernel) ?_
            refine hi_icmp_eq (tgt := 71) hx hb dd_MO_bind_64 (by decide) (fun c477 => ?_) (fun c477 => ?_)
            · exact absurd c477 (by rw [nI_toInt (by omega), tm1]; omega)
            · refine lv_iconst (v := nI 1) hx hb dd_MO_bind_67 (by decide +kernel) ?_
              refine lv_goto (tgt := 72) hx hb dd_MO_bind_68 (by decide) ?_
              refine lv_istore (lv' := [(6, .int (nI 1)), (5, .int (to_I y q)), (4, .int (nI 1)), (0, .ref (P 0)), (1, .int x), (2, .int y), (3, .int (nI (bz q)))]) hx hb dd_MO_bind_72 hl (by decide) rfl (fun ls hl => ?_)
              refine lv_aload_n hx hb dd_MO_bind_74 rfl (lv_at hl 3 rfl) ?_
              refine lv_iload hx hb dd_MO_bind_75 (lv_at hl 2 rfl) ?_
              refine hn_if_ne (tgt := 84) hx hb (by omega) dd_MO_bind_77 (by decide) (fun c478 => ?_) (fun c478 => absurd c478 (by omega))
              refine lv_iload hx hb dd_MO_bind_84 (lv_at hl 0 rfl) ?_
              refine hn_if_ne (tgt := 102) hx hb (by omega) dd_MO_bind_86 (by decide) (fun c479 => ?_) (fun c479 => absurd c479 (by omega))
              refine lv_iconst (v := nI 0) hx hb dd_MO_bind_102 (by decide +kernel) ?_
              refine hm_put (ci := 6) (v := .int (nI 0)) (ty := .int) (C := rn_MO) (T := ft_MO) (N := 22) hx hb hts fi_MO fy_MO fo_MO fn_MO hown hE.K hP hS (pb 0 (by decide)) g194_0 rfl 0 (by decide) (hts _ tw_986) (fun _ h9 => h9) rfl (by decide +kernel) rfl rfl (Nat.le_of_ble_eq_true rfl) dd_MO_bind_103 (fun H locs hP hS => ?_)
              have hP : hm_P D cl_W (hm_up M190 (P 0) (.inr (6, [.int (nI 0), .ref (P 1), .int (I 2), .ref (P 3), .ref (P 4), .ref (P 5), .int (I 6), .ref (P 7), .ref (P 8), .ref (P 9), .ref (P 10), .ref (P 11), .int (I 12), .int (I 13), .ref (P 14), .ref (P 15), .ref (P 16), .ref (P 17), .int zr189, .ref (P 19), .ref (P 20), .ref (P 21)]))) H := hP
              obtain ⟨M480, eM480⟩ : ∃ z, z = hm_up M190 (P 0) (.inr (6, [.int (nI 0), .ref (P 1), .int (I 2), .ref (P 3), .ref (P 4), .ref (P 5), .int (I 6), .ref (P 7), .ref (P 8), .ref (P 9), .ref (P 10), .ref (P 11), .int (I 12), .int (I 13), .ref (P 14), .ref (P 15), .ref (P 16), .ref (P 17), .int zr189, .ref (P 19), .ref (P 20), .ref (P 21)])) := ⟨_, rfl⟩
              rw [← eM480] at hP
              have f481 : M480 (P 1) = some (.inl (D.1 102, 48, .inl (A 1))) := by rw [eM480]; exact hm_up_o (hm_neO (po 1 (by decide)) (po 0 (by decide)) (by decide)) g194_1
              have f482 : M480 (P 3) = some (.inl (D.1 102, 16, .inl (A 3))) := by rw [eM480]; exact hm_up_o (hm_neO (po 3 (by decide)) (po 0 (by decide)) (by decide)) g194_3
              have f483 : M480 (P 4) = some (.inl (D.1 102, 16, .inl (A 4))) := by rw [eM480]; exact hm_up_o (hm_neO (po 4 (by decide)) (po 0 (by decide)) (by decide)) g194_4
              have f484 : M480 (P 5) = some (.inl (D.1 101, 16, .inl (A 5))) := by rw [eM480]; exact hm_up_o (hm_neO (po 5 (by decide)) (po 0 (by decide)) (by decide)) g194_5
              have f485 : M480 (P 7) = some (.inl (D.1 102, 120, .inl (A 7))) := by rw [eM480]; exact hm_up_o (hm_neO (po 7 (by decide)) (po 0 (by decide)) (by decide)) g194_7
              have f486 : M480 (P 8) = some (.inl (D.1 102, 120, .inl (A 8))) := by rw [eM480]; exact hm_up_o (hm_neO (po 8 (by decide)) (po 0 (by decide)) (by decide)) g194_8
              have f487 : M480 (P 9) = some (.inl (D.1 102, 120, .inl (A 9))) := by rw [eM480]; exact hm_up_o (hm_neO (po 9 (by decide)) (po 0 (by decide)) (by decide)) g194_9
              have f488 : M480 (P 10) = some (.inl (D.1 102, 5760, .inl (A 10))) := by rw [eM480]; exact hm_up_o (hm_neO (po 10 (by decide)) (po 0 (by decide)) (by decide)) g194_10
              have f489 : M480 (P 11) = some (.inl (D.1 102, 48, .inl (A 11))) := by rw [eM480]; exact hm_up_o (hm_neO (po 11 (by decide)) (po 0 (by decide)) (by decide)) g194_11
              have f490 : M480 (P 14) = some (.inl (D.1 103, 6, .inr (.inl (L 14)))) := by rw [eM480]; exact hm_up_o (hm_neO (po 14 (by decide)) (po 0 (by decide)) (by decide)) g194_14
              have f491 : M480 (P 15) = some (.inl (D.1 103, 6, .inr (.inl (L 15)))) := by rw [eM480]; exact hm_up_o (hm_neO (po 15 (by decide)) (po 0 (by decide)) (by decide)) g194_15
              have f492 : M480 (P 16) = some (.inl (D.1 101, 16, .inl (A 16))) := by rw [eM480]; exact hm_up_o (hm_neO (po 16 (by decide)) (po 0 (by decide)) (by decide)) g194_16
              have f493 : M480 (P 17) = some (.inl (D.1 101, 16, .inl (A 17))) := by rw [eM480]; exact hm_up_o (hm_neO (po 17 (by decide)) (po 0 (by decide)) (by decide)) g194_17
              have f494 : M480 (P 19) = some (.inl (D.1 101, 2601, .inl (A 19))) := by rw [eM480]; exact hm_up_o (hm_neO (po 19 (by decide)) (po 0 (by decide)) (by decide)) g194_19
              have f495 : M480 (P 20) = some (.inl (D.1 102, 52, .inl (A 20))) := by rw [eM480]; exact hm_up_o (hm_neO (po 20 (by decide)) (po 0 (by decide)) (by decide)) g194_20
              have f496 : M480 (P 21) = some (.inl (D.1 102, 52, .inl (A 21))) := by rw [eM480]; exact hm_up_o (hm_neO (po 21 (by decide)) (po 0 (by decide)) (by decide)) g194_21
              have f497 : M480 (P 0) = some (.inr (6, [.int (nI 0), .ref (P 1), .int (I 2), .ref (P 3), .ref (P 4), .ref (P 5), .int (I 6), .ref (P 7), .ref (P 8), .ref (P 9), .ref (P 10), .ref (P 11), .int (I 12), .int (I 13), .ref (P 14), .ref (P 15), .ref (P 16), .ref (P 17), .int zr189, .ref (P 19), .ref (P 20), .ref (P 21)])) := by rw [eM480]; exact hm_up_s
              refine lv_aload_n hx hb dd_MO_bind_106 rfl (lv_at hl 3 rfl) ?_
              refine hm_get (ci := 6) (C := rn_MO) (T := ft_MO) (N := 22) hx hb hts fi_MO hown hE.K hP f497 rfl 0 (by decide) (hts _ tw_986) (fun _ h9 => h9) rfl dd_MO_bind_107 ?_
              refine hn_if_ne (tgt := 202) hx hb (by omega) dd_MO_bind_110 (by decide) (fun c498 => absurd c498 (by omega)) (fun c498 => ?_)
              refine lv_iload hx hb dd_MO_bind_113 (lv_at hl 0 rfl) ?_
              refine hn_if_ne (tgt := 202) hx hb (by omega) dd_MO_bind_115 (by decide) (fun c499 => ?_) (fun c499 => absurd c499 (by omega))
              refine lv_aload_n hx hb dd_MO_bind_202 rfl (lv_at hl 3 rfl) ?_
              refine lv_iconst (v := nI 0) hx hb dd_MO_bind_203 (by decide +kernel) ?_
              refine hm_put (ci := 6) (v := .int (nI 0)) (ty := .int) (C := rn_MO) (T := ft_MO) (N := 22) hx hb hts fi_MO fy_MO fo_MO fn_MO hown hE.K hP hS (pb 0 (by decide)) f497 rfl 2 (by decide) (hts _ tw_988) (fun _ h9 => h9) rfl (by decide +kernel) rfl rfl (Nat.le_of_ble_eq_true rfl) dd_MO_bind_204 (fun H locs hP hS => ?_)
              have hP : hm_P D cl_W (hm_up M480 (P 0) (.inr (6, [.int (nI 0), .ref (P 1), .int (nI 0), .ref (P 3), .ref (P 4), .ref (P 5), .int (I 6), .ref (P 7), .ref (P 8), .ref (P 9), .ref (P 10), .ref (P 11), .int (I 12), .int (I 13), .ref (P 14), .ref (P 15), .ref (P 16), .ref (P 17), .int zr189, .ref (P 19), .ref (P 20), .ref (P 21)]))) H := hP
              obtain ⟨M500, eM500⟩ : ∃ z, z = hm_up M480 (P 0) (.inr (6, [.int (nI 0), .ref (P 1), .int (nI 0), .ref (P 3), .ref (P 4), .ref (P 5), .int (I 6), .ref (P 7), .ref (P 8), .ref (P 9), .ref (P 10), .ref (P 11), .int (I 12), .int (I 13), .ref (P 14), .ref (P 15), .ref (P 16), .ref (P 17), .int zr189, .ref (P 19), .ref (P 20), .ref (P 21)])) := ⟨_, rfl⟩
              rw [← eM500] at hP
              have f501 : M500 (P 1) = some (.inl (D.1 102, 48, .inl (A 1))) := by rw [eM500]; exact hm_up_o (hm_neO (po 1 (by decide)) (po 0 (by decide)) (by decide)) f481
              have f502 : M500 (P 3) = some (.inl (D.1 102, 16, .inl (A 3))) := by rw [eM500]; exact hm_up_o (hm_neO (po 3 (by decide)) (po 0 (by decide)) (by decide)) f482
              have f503 : M500 (P 4) = some (.inl (D.1 102, 16, .inl (A 4))) := by rw [eM500]; exact hm_up_o (hm_neO (po 4 (by decide)) (po 0 (by decide)) (by decide)) f483
              have f504 : M500 (P 5) = some (.inl (D.1 101, 16, .inl (A 5))) := by rw [eM500]; exact hm_up_o (hm_neO (po 5 (by decide)) (po 0 (by decide)) (by decide)) f484
              have f505 : M500 (P 7) = some (.inl (D.1 102, 120, .inl (A 7))) := by rw [eM500]; exact hm_up_o (hm_neO (po 7 (by decide)) (po 0 (by decide)) (by decide)) f485
              have f506 : M500 (P 8) = some (.inl (D.1 102, 120, .inl (A 8))) := by rw [eM500]; exact hm_up_o (hm_neO (po 8 (by decide)) (po 0 (by decide)) (by decide)) f486
              have f507 : M500 (P 9) = some (.inl (D.1 102, 120, .inl (A 9))) := by rw [eM500]; exact hm_up_o (hm_neO (po 9 (by decide)) (po 0 (by decide)) (by decide)) f487
              have f508 : M500 (P 10) = some (.inl (D.1 102, 5760, .inl (A 10))) := by rw [eM500]; exact hm_up_o (hm_neO (po 10 (by decide)) (po 0 (by decide)) (by decide)) f488
              have f509 : M500 (P 11) = some (.inl (D.1 102, 48, .inl (A 11))) := by rw [eM500]; exact hm_up_o (hm_neO (po 11 (by decide)) (po 0 (by decide)) (by decide)) f489
              have f510 : M500 (P 14) = some (.inl (D.1 103, 6, .inr (.inl (L 14)))) := by rw [eM500]; exact hm_up_o (hm_neO (po 14 (by decide)) (po 0 (by decide)) (by decide)) f490
              have f511 : M500 (P 15) = some (.inl (D.1 103, 6, .inr (.inl (L 15)))) := by rw [eM500]; exact hm_up_o (hm_neO (po 15 (by decide)) (po 0 (by decide)) (by decide)) f491
              have f512 : M500 (P 16) = some (.inl (D.1 101, 16, .inl (A 16))) := by rw [eM500]; exact hm_up_o (hm_neO (po 16 (by decide)) (po 0 (by decide)) (by decide)) f492
              have f513 : M500 (P 17) = some (.inl (D.1 101, 16, .inl (A 17))) := by rw [eM500]; exact hm_up_o (hm_neO (po 17 (by decide)) (po 0 (by decide)) (by decide)) f493
              have f514 : M500 (P 19) = some (.inl (D.1 101, 2601, .inl (A 19))) := by rw [eM500]; exact hm_up_o (hm_neO (po 19 (by decide)) (po 0 (by decide)) (by decide)) f494
              have f515 : M500 (P 20) = some (.inl (D.1 102, 52, .inl (A 20))) := by rw [eM500]; exact hm_up_o (hm_neO (po 20 (by decide)) (po 0 (by decide)) (by decide)) f495
              have f516 : M500 (P 21) = some (.inl (D.1 102, 52, .inl (A 21))) := by rw [eM500]; exact hm_up_o (hm_neO (po 21 (by decide)) (po 0 (by decide)) (by decide)) f496
              have f517 : M500 (P 0) = some (.inr (6, [.int (nI 0), .ref (P 1), .int (nI 0), .ref (P 3), .ref (P 4), .ref (P 5), .int (I 6), .ref (P 7), .ref (P 8), .ref (P 9), .ref (P 10), .ref (P 11), .int (I 12), .int (I 13), .ref (P 14), .ref (P 15), .ref (P 16), .ref (P 17), .int zr189, .ref (P 19), .ref (P 20), .ref (P 21)])) := by rw [eM500]; exact hm_up_s
              refine lv_aload_n hx hb dd_MO_bind_207 rfl (lv_at hl 3 rfl) ?_
              refine hm_get (ci := 6) (C := rn_MO) (T := ft_MO) (N := 22) hx hb hts fi_MO hown hE.K hP f517 rfl 0 (by decide) (hts _ tw_986) (fun _ h9 => h9) rfl dd_MO_bind_208 ?_
              refine hn_if_ne (tgt := 223) hx hb (by omega) dd_MO_bind_211 (by decide) (fun c518 => absurd c518 (by omega)) (fun c518 => ?_)
              refine lv_iload hx hb dd_MO_bind_214 (lv_at hl 0 rfl) ?_
              refine hn_if_ne (tgt := 223) hx hb (by omega) dd_MO_bind_216 (by decide) (fun c519 => ?_) (fun c519 => absurd c519 (by omega))
              refine lv_iconst (v := nI 0) hx hb dd_MO_bind_223 (by decide +kernel) ?_
              have kk520 : hm_k M190 M190 [(P 0)] := hm_krf
              have kk521 : hm_k M190 M480 [(P 0)] := hm_ku kk520 (Or.inr (by simp)) eM480
              have kk522 : hm_k M190 M500 [(P 0)] := hm_ku kk521 (Or.inr (by simp)) eM500
              exact hm_Ei (v := nI 0) hx hb hr rfl hS hP (⟨bz_0 (by rw [bn_b, hpa]; simp), (va_up (va_up (va_up I 0 (nI 0)) 2 (nI 0)) 18 zr189), A, L, ⟨f517, f501, f502, f503, f504, f505, f506, f507, f508, f509, f510, f511, f512, f513, f514, f515, f516, po, pb⟩, by rw [bn_c, hok, if_pos rfl, hpa]; rfl, ⟨tpS_0, hX, hQ, by rw [bn_l, if_neg (by rw [bn_b, hpa]; simp)]; exact hB, hK, hH, hFo, hPs⟩, (hF193).trans (cz_F.k0 kk522 (hm_a1 ⟨by rw [po 0 (by decide)]; unfold pm; omega, _, f517⟩))⟩) hlocks (by omega) (by omega) dd_MO_bind_224
        · have hq := bz_t c284
          refine lv_bipush (v := nI 16) hx hb dd_MO_bind_41 (by decide +kernel) ?_
          refine lv_iload_n hx hb dd_MO_bind_43 rfl (lv_at hl 3 rfl) ?_
          refine lv_iadd hx hb dd_MO_bind_44 ?_
          refine lv_topi (fun x523 ex523 => ?_)
          refine lv_goto (tgt := 49) hx hb dd_MO_bind_45 (by decide) ?_
          refine W.eq (g2 := F0 m 49 ls [.int (to_I y q)]) (by rw [show to_I y q = x523 by rw [hq, ex523]; rfl]) ?_
          refine lv_istore (lv' := [(5, .int (to_I y q)), (4, .int (nI 1)), (0, .ref (P 0)), (1, .int x), (2, .int y), (3, .int (nI (bz q)))]) hx hb dd_MO_bind_49 hl (by decide) rfl (fun ls hl => ?_)
          refine lv_iload hx hb dd_MO_bind_51 (lv_at hl 1 rfl) ?_
          refine hn_if_eq (tgt := 71) hx hb (by omega) dd_MO_bind_53 (by decide) (fun c524 => absurd c524 (by omega)) (fun c524 => ?_)
          refine lv_aload_n hx hb dd_MO_bind_56 rfl (lv_at hl 2 rfl) ?_
          refine lv_iload_n hx hb dd_MO_bind_57 rfl (lv_at hl 3 rfl) ?_
          refine lv_iload hx hb dd_MO_bind_58 (lv_at hl 0 rfl) ?_
          have hd525 : mo_D B D P O M190 (va_up I 18 zr189) A L := ⟨g194_0, g194_1, g194_3, g194_4, g194_5, g194_7, g194_8, g194_9, g194_10, g194_11, g194_14, g194_15, g194_16, g194_17, g194_19, g194_20, g194_21, po, pb⟩
          refine hm_ci hS (hm_rV 2 (As := [.int x, .int (to_I y q)]) (rest := []) ⟨hx, hb, hml, hown, hts⟩ hE hS hP (kc_MO_find l B D G M190 P O (va_up I 18 zr189) A L hd525 t hT bs hB x y q hiny) rfl g194_0 tw_1133 tw_1130 tw_1132 tw_27 tw_46 (by decide +kernel) rfl rfl ⟨by show 0 + 1 ≤ R.frames; omega, by show 8 + (6 + 11) + 0 ≤ R.locals; omega⟩ rfl hl.1 rfl (Nat.le_of_ble_eq_true rfl) dd_MO_bind_60 ⟨by omega, by omega⟩) (fun r526 M527 H locs hw528 hP hS => ?_)
          refine W.widen (k := 0) (n := 0) (by omega) (by omega) ?_
          obtain ⟨hrM527, eM527⟩ := hw528
          rw [eM527] at hP
          rcases pl_er hrM527 with ⟨rfl, hpa, hpe⟩ | ⟨i9, rfl, hpi, hpi2, hpa, hpe⟩
          · refine lv_iconst (v := (-1)) hx hb dd_MO_bind_63 (by decide +kernel) ?_
            refine hi_icmp_eq (tgt := 71) hx hb dd_MO_bind_64 (by decide) (fun c529 => ?_) (fun c529 => absurd c529 (by decide))
            refine lv_iconst (v := nI 0) hx hb dd_MO_bind_71 (by decide +kernel) ?_
            refine lv_istore (lv' := [(6, .int (nI 0)), (5, .int (to_I y q)), (4, .int (nI 1)), (0, .ref (P 0)), (1, .int x), (2, .int y), (3, .int (nI (bz q)))]) hx hb dd_MO_bind_72 hl (by decide) rfl (fun ls hl => ?_)
            refine lv_aload_n hx hb dd_MO_bind_74 rfl (lv_at hl 3 rfl) ?_
            refine lv_iload hx hb dd_MO_bind_75 (lv_at hl 2 rfl) ?_
            refine hn_if_ne (tgt := 84) hx hb (by omega) dd_MO_bind_77 (by decide) (fun c530 => ?_) (fun c530 => absurd c530 (by omega))
            refine lv_iload hx hb dd_MO_bind_84 (lv_at hl 0 rfl) ?_
            refine hn_if_ne (tgt := 102) hx hb (by omega) dd_MO_bind_86 (by decide) (fun c531 => absurd c531 (by omega)) (fun c531 => ?_)
            refine lv_aload_n hx hb dd_MO_bind_89 rfl (lv_at hl 3 rfl) ?_
            refine hm_get (ci := 6) (C := rn_MO) (T := ft_MO) (N := 22) hx hb hts fi_MO hown hE.K hP g194_0 rfl 6 (by decide) (hts _ tw_992) (fun _ h9 => h9) rfl dd_MO_bind_90 ?_
            refine W.eq (g2 := F0 m 93 ls [.int (nI bs.length), .ref (P 0)]) (by rw [bi1]) ?_
            refine lv_bipush (v := nI 120) hx hb dd_MO_bind_93 (by decide +kernel) ?_
            refine hn_icmp_ne (tgt := 102) hx hb (by omega) (by omega) dd_MO_bind_95 (by decide) (fun c532 => ?_) (fun c532 => ?_)
            · refine lv_iconst (v := nI 0) hx hb dd_MO_bind_102 (by decide +kernel) ?_
              refine hm_put (ci := 6) (v := .int (nI 0)) (ty := .int) (C := rn_MO) (T := ft_MO) (N := 22) hx hb hts fi_MO fy_MO fo_MO fn_MO hown hE.K hP hS (pb 0 (by decide)) g194_0 rfl 0 (by decide) (hts _ tw_986) (fun _ h9 => h9) rfl (by decide +kernel) rfl rfl (Nat.le_of_ble_eq_true rfl) dd_MO_bind_103 (fun H locs hP hS => ?_)
              have hP : hm_P D cl_W (hm_up M190 (P 0) (.inr (6, [.int (nI 0), .ref (P 1), .int (I 2), .ref (P 3), .ref (P 4), .ref (P 5), .int (I 6), .ref (P 7), .ref (P 8), .ref (P 9), .ref (P 10), .ref (P 11), .int (I 12), .int (I 13), .ref (P 14), .ref (P 15), .ref (P 16), .ref (P 17), .int zr189, .ref (P 19), .ref (P 20), .ref (P 21)]))) H := hP
              obtain ⟨M533, eM533⟩ : ∃ z, z = hm_up M190 (P 0) (.inr (6, [.int (nI 0), .ref (P 1), .int (I 2), .ref (P 3), .ref (P 4), .ref (P 5), .int (I 6), .ref (P 7), .ref (P 8), .ref (P 9), .ref (P 10), .ref (P 11), .int (I 12), .int (I 13), .ref (P 14), .ref (P 15), .ref (P 16), .ref (P 17), .int zr189, .ref (P 19), .ref (P 20), .ref (P 21)])) := ⟨_, rfl⟩
              rw [← eM533] at hP
              have f534 : M533 (P 1) = some (.inl (D.1 102, 48, .inl (A 1))) := by rw [eM533]; exact hm_up_o (hm_neO (po 1 (by decide)) (po 0 (by decide)) (by decide)) g194_1
              have f535 : M533 (P 3) = some (.inl (D.1 102, 16, .inl (A 3))) := by rw [eM533]; exact hm_up_o (hm_neO (po 3 (by decide)) (po 0 (by decide)) (by decide)) g194_3
              have f536 : M533 (P 4) = some (.inl (D.1 102, 16, .inl (A 4))) := by rw [eM533]; exact hm_up_o (hm_neO (po 4 (by decide)) (po 0 (by decide)) (by decide)) g194_4
              have f537 : M533 (P 5) = some (.inl (D.1 101, 16, .inl (A 5))) := by rw [eM533]; exact hm_up_o (hm_neO (po 5 (by decide)) (po 0 (by decide)) (by decide)) g194_5
              have f538 : M533 (P 7) = some (.inl (D.1 102, 120, .inl (A 7))) := by rw [eM533]; exact hm_up_o (hm_neO (po 7 (by decide)) (po 0 (by decide)) (by decide)) g194_7
              have f539 : M533 (P 8) = some (.inl (D.1 102, 120, .inl (A 8))) := by rw [eM533]; exact hm_up_o (hm_neO (po 8 (by decide)) (po 0 (by decide)) (by decide)) g194_8
              have f540 : M533 (P 9) = some (.inl (D.1 102, 120, .inl (A 9))) := by rw [eM533]; exact hm_up_o (hm_neO (po 9 (by decide)) (po 0 (by decide)) (by decide)) g194_9
              have f541 : M533 (P 10) = some (.inl (D.1 102, 5760, .inl (A 10))) := by rw [eM533]; exact hm_up_o (hm_neO (po 10 (by decide)) (po 0 (by decide)) (by decide)) g194_10
              have f542 : M533 (P 11) = some (.inl (D.1 102, 48, .inl (A 11))) := by rw [eM533]; exact hm_up_o (hm_neO (po 11 (by decide)) (po 0 (by decide)) (by decide)) g194_11
              have f543 : M533 (P 14) = some (.inl (D.1 103, 6, .inr (.inl (L 14)))) := by rw [eM533]; exact hm_up_o (hm_neO (po 14 (by decide)) (po 0 (by decide)) (by decide)) g194_14
              have f544 : M533 (P 15) = some (.inl (D.1 103, 6, .inr (.inl (L 15)))) := by rw [eM533]; exact hm_up_o (hm_neO (po 15 (by decide)) (po 0 (by decide)) (by decide)) g194_15
              have f545 : M533 (P 16) = some (.inl (D.1 101, 16, .inl (A 16))) := by rw [eM533]; exact hm_up_o (hm_neO (po 16 (by decide)) (po 0 (by decide)) (by decide)) g194_16
              have f546 : M533 (P 17) = some (.inl (D.1 101, 16, .inl (A 17))) := by rw [eM533]; exact hm_up_o (hm_neO (po 17 (by decide)) (po 0 (by decide)) (by decide)) g194_17
              have f547 : M533 (P 19) = some (.inl (D.1 101, 2601, .inl (A 19))) := by rw [eM533]; exact hm_up_o (hm_neO (po 19 (by decide)) (po 0 (by decide)) (by decide)) g194_19
              have f548 : M533 (P 20) = some (.inl (D.1 102, 52, .inl (A 20))) := by rw [eM533]; exact hm_up_o (hm_neO (po 20 (by decide)) (po 0 (by decide)) (by decide)) g194_20
              have f549 : M533 (P 21) = some (.inl (D.1 102, 52, .inl (A 21))) := by rw [eM533]; exact hm_up_o (hm_neO (po 21 (by decide)) (po 0 (by decide)) (by decide)) g194_21
              have f550 : M533 (P 0) = some (.inr (6, [.int (nI 0), .ref (P 1), .int (I 2), .ref (P 3), .ref (P 4), .ref (P 5), .int (I 6), .ref (P 7), .ref (P 8), .ref (P 9), .ref (P 10), .ref (P 11), .int (I 12), .int (I 13), .ref (P 14), .ref (P 15), .ref (P 16), .ref (P 17), .int zr189, .ref (P 19), .ref (P 20), .ref (P 21)])) := by rw [eM533]; exact hm_up_s
              refine lv_aload_n hx hb dd_MO_bind_106 rfl (lv_at hl 3 rfl) ?_
              refine hm_get (ci := 6) (C := rn_MO) (T := ft_MO) (N := 22) hx hb hts fi_MO hown hE.K hP f550 rfl 0 (by decide) (hts _ tw_986) (fun _ h9 => h9) rfl dd_MO_bind_107 ?_
              refine hn_if_ne (tgt := 202) hx hb (by omega) dd_MO_bind_110 (by decide) (fun c551 => absurd c551 (by omega)) (fun c551 => ?_)
              refine lv_iload hx hb dd_MO_bind_113 (lv_at hl 0 rfl) ?_
              refine hn_if_ne (tgt := 202) hx hb (by omega) dd_MO_bind_115 (by decide) (fun c552 => absurd c552 (by omega)) (fun c552 => ?_)
              refine lv_aload_n hx hb dd_MO_bind_118 rfl (lv_at hl 3 rfl) ?_
              refine hm_get (ci := 6) (C := rn_MO) (T := ft_MO) (N := 22) hx hb hts fi_MO hown hE.K hP f550 rfl 7 (by decide) (hts _ tw_993) (fun _ h9 => h9) rfl dd_MO_bind_119 ?_
              refine lv_aload_n hx hb dd_MO_bind_122 rfl (lv_at hl 3 rfl) ?_
              refine hm_get (ci := 6) (C := rn_MO) (T := ft_MO) (N := 22) hx hb hts fi_MO hown hE.K hP f550 rfl 6 (by decide) (hts _ tw_992) (fun _ h9 => h9) rfl dd_MO_bind_123 ?_
              refine W.eq (g2 := F0 m 126 ls [.int (nI bs.length), .ref (P 7)]) (by rw [bi1]) ?_
              refine lv_iload_n hx hb dd_MO_bind_126 rfl (lv_at hl 4 rfl) ?_
              refine hm_iast (j := bs.length) hx hb hE.K hP hS (pb 7 (by decide)) 2 f538 rfl (vp_in_nI (by omega) (by omega)) (nI_clamp (by omega)) dd_MO_bind_127 (fun H locs hP hS => ?_)
              obtain ⟨M553, eM553⟩ : ∃ z, z = hm_up M533 (P 7) (.inl (D.1 102, 120, .inl (upd (A 7) bs.length x))) := ⟨_, rfl⟩
              rw [← eM553] at hP
              have f554 : M553 (P 0) = some (.inr (6, [.int (nI 0), .ref (P 1), .int (I 2), .ref (P 3), .ref (P 4), .ref (P 5), .int (I 6), .ref (P 7), .ref (P 8), .ref (P 9), .ref (P 10), .ref (P 11), .int (I 12), .int (I 13), .ref (P 14), .ref (P 15), .ref (P 16), .ref (P 17), .int zr189, .ref (P 19), .ref (P 20), .ref (P 21)])) := by rw [eM553]; exact hm_up_o (hm_neO (po 0 (by decide)) (po 7 (by decide)) (by decide)) f550
              have f555 : M553 (P 1) = some (.inl (D.1 102, 48, .inl (A 1))) := by rw [eM553]; exact hm_up_o (hm_neO (po 1 (by decide)) (po 7 (by decide)) (by decide)) f534
              have f556 : M553 (P 3) = some (.inl (D.1 102, 16, .inl (A 3))) := by rw [eM553]; exact hm_up_o (hm_neO (po 3 (by decide)) (po 7 (by decide)) (by decide)) f535
              have f557 : M553 (P 4) = some (.inl (D.1 102, 16, .inl (A 4))) := by rw [eM553]; exact hm_up_o (hm_neO (po 4 (by decide)) (po 7 (by decide)) (by decide)) f536
              have f558 : M553 (P 5) = some (.inl (D.1 101, 16, .inl (A 5))) := by rw [eM553]; exact hm_up_o (hm_neO (po 5 (by decide)) (po 7 (by decide)) (by decide)) f537
              have f559 : M553 (P 8) = some (.inl (D.1 102, 120, .inl (A 8))) := by rw [eM553]; exact hm_up_o (hm_neO (po 8 (by decide)) (po 7 (by decide)) (by decide)) f539
              have f560 : M553 (P 9) = some (.inl (D.1 102, 120, .inl (A 9))) := by rw [eM553]; exact hm_up_o (hm_neO (po 9 (by decide)) (po 7 (by decide)) (by decide)) f540
              have f561 : M553 (P 10) = some (.inl (D.1 102, 5760, .inl (A 10))) := by rw [eM553]; exact hm_up_o (hm_neO (po 10 (by decide)) (po 7 (by decide)) (by decide)) f541
              have f562 : M553 (P 11) = some (.inl (D.1 102, 48, .inl (A 11))) := by rw [eM553]; exact hm_up_o (hm_neO (po 11 (by decide)) (po 7 (by decide)) (by decide)) f542
              have f563 : M553 (P 14) = some (.inl (D.1 103, 6, .inr (.inl (L 14)))) := by rw [eM553]; exact hm_up_o (hm_neO (po 14 (by decide)) (po 7 (by decide)) (by decide)) f543
              have f564 : M553 (P 15) = some (.inl (D.1 103, 6, .inr (.inl (L 15)))) := by rw [eM553]; exact hm_up_o (hm_neO (po 15 (by decide)) (po 7 (by decide)) (by decide)) f544
              have f565 : M553 (P 16) = some (.inl (D.1 101, 16, .inl (A 16))) := by rw [eM553]; exact hm_up_o (hm_neO (po 16 (by decide)) (po 7 (by decide)) (by decide)) f545
              have f566 : M553 (P 17) = some (.inl (D.1 101, 16, .inl (A 17))) := by rw [eM553]; exact hm_up_o (hm_neO (po 17 (by decide)) (po 7 (by decide)) (by decide)) f546
              have f567 : M553 (P 19) = some (.inl (D.1 101, 2601, .inl (A 19))) := by rw [eM553]; exact hm_up_o (hm_neO (po 19 (by decide)) (po 7 (by decide)) (by decide)) f547
              have f568 : M553 (P 20) = some (.inl (D.1 102, 52, .inl (A 20))) := by rw [eM553]; exact hm_up_o (hm_neO (po 20 (by decide)) (po 7 (by decide)) (by decide)) f548
              have f569 : M553 (P 21) = some (.inl (D.1 102, 52, .inl (A 21))) := by rw [eM553]; exact hm_up_o (hm_neO (po 21 (by decide)) (po 7 (by decide)) (by decide)) f549
              have f570 : M553 (P 7) = some (.inl (D.1 102, 120, .inl (upd (A 7) bs.length x))) := by rw [eM553]; exact hm_up_s
              refine lv_aload_n hx hb dd_MO_bind_128 rfl (lv_at hl 3 rfl) ?_
              refine hm_get (ci := 6) (C := rn_MO) (T := ft_MO) (N := 22) hx hb hts fi_MO hown hE.K hP f554 rfl 8 (by decide) (hts _ tw_994) (fun _ h9 => h9) rfl dd_MO_bind_129 ?_
              refine lv_aload_n hx hb dd_MO_bind_132 rfl (lv_at hl 3 rfl) ?_
              refine hm_get (ci := 6) (C := rn_MO) (T := ft_MO) (N := 22) hx hb hts fi_MO hown hE.K hP f554 rfl 6 (by decide) (hts _ tw_992) (fun _ h9 => h9) rfl dd_MO_bind_133 ?_
              refine W.eq (g2 := F0 m 136 ls [.int (nI bs.length), .ref (P 8)]) (by rw [bi1]) ?_
              refine lv_iload hx hb dd_MO_bind_136 (lv_at hl 1 rfl) ?_
              refine hm_iast (j := bs.length) hx hb hE.K hP hS (pb 8 (by decide)) 2 f559 rfl (vp_in_nI (by omega) (by omega)) (nI_clamp (by omega)) dd_MO_bind_138 (fun H locs hP hS => ?_)
              obtain ⟨M571, eM571⟩ : ∃ z, z = hm_up M553 (P 8) (.inl (D.1 102, 120, .inl (upd (A 8) bs.length (to_I y q)))) := ⟨_, rfl⟩
              rw [← eM571] at hP
              have f572 : M571 (P 0) = some (.inr (6, [.int (nI 0), .ref (P 1), .int (I 2), .ref (P 3), .ref (P 4), .ref (P 5), .int (I 6), .ref (P 7), .ref (P 8), .ref (P 9), .ref (P 10), .ref (P 11), .int (I 12), .int (I 13), .ref (P 14), .ref (P 15), .ref (P 16), .ref (P 17), .int zr189, .ref (P 19), .ref (P 20), .ref (P 21)])) := by rw [eM571]; exact hm_up_o (hm_neO (po 0 (by decide)) (po 8 (by decide)) (by decide)) f554
              have f573 : M571 (P 1) = some (.inl (D.1 102, 48, .inl (A 1))) := by rw [eM571]; exact hm_up_o (hm_neO (po 1 (by decide)) (po 8 (by decide)) (by decide)) f555
              have f574 : M571 (P 3) = some (.inl (D.1 102, 16, .inl (A 3))) := by rw [eM571]; exact hm_up_o (hm_neO (po 3 (by decide)) (po 8 (by decide)) (by decide)) f556
              have f575 : M571 (P 4) = some (.inl (D.1 102, 16, .inl (A 4))) := by rw [eM571]; exact hm_up_o (hm_neO (po 4 (by decide)) (po 8 (by decide)) (by decide)) f557
              have f576 : M571 (P 5) = some (.inl (D.1 101, 16, .inl (A 5))) := by rw [eM571]; exact hm_up_o (hm_neO (po 5 (by decide)) (po 8 (by decide)) (by decide)) f558
              have f577 : M571 (P 7) = some (.inl (D.1 102, 120, .inl (upd (A 7) bs.length x))) := by rw [eM571]; exact hm_up_o (hm_neO (po 7 (by decide)) (po 8 (by decide)) (by decide)) f570
              have f578 : M571 (P 9) = some (.inl (D.1 102, 120, .inl (A 9))) := by rw [eM571]; exact hm_up_o (hm_neO (po 9 (by decide)) (po 8 (by decide)) (by decide)) f560
              have f579 : M571 (P 10) = some (.inl (D.1 102, 5760, .inl (A 10))) := by rw [eM571]; exact hm_up_o (hm_neO (po 10 (by decide)) (po 8 (by decide)) (by decide)) f561
              have f580 : M571 (P 11) = some (.inl (D.1 102, 48, .inl (A 11))) := by rw [eM571]; exact hm_up_o (hm_neO (po 11 (by decide)) (po 8 (by decide)) (by decide)) f562
              have f581 : M571 (P 14) = some (.inl (D.1 103, 6, .inr (.inl (L 14)))) := by rw [eM571]; exact hm_up_o (hm_neO (po 14 (by decide)) (po 8 (by decide)) (by decide)) f563
              have f582 : M571 (P 15) = some (.inl (D.1 103, 6, .inr (.inl (L 15)))) := by rw [eM571]; exact hm_up_o (hm_neO (po 15 (by decide)) (po 8 (by decide)) (by decide)) f564
              have f583 : M571 (P 16) = some (.inl (D.1 101, 16, .inl (A 16))) := by rw [eM571]; exact hm_up_o (hm_neO (po 16 (by decide)) (po 8 (by decide)) (by decide)) f565
              have f584 : M571 (P 17) = some (.inl (D.1 101, 16, .inl (A 17))) := by rw [eM571]; exact hm_up_o (hm_neO (po 17 (by decide)) (po 8 (by decide)) (by decide)) f566
              have f585 : M571 (P 19) = some (.inl (D.1 101, 2601, .inl (A 19))) := by rw [eM571]; exact hm_up_o (hm_neO (po 19 (by decide)) (po 8 (by decide)) (by decide)) f567
              have f586 : M571 (P 20) = some (.inl (D.1 102, 52, .inl (A 20))) := by rw [eM571]; exact hm_up_o (hm_neO (po 20 (by decide)) (po 8 (by decide)) (by decide)) f568
              have f587 : M571 (P 21) = some (.inl (D.1 102, 52, .inl (A 21))) := by rw [eM571]; exact hm_up_o (hm_neO (po 21 (by decide)) (po 8 (by decide)) (by decide)) f569
              have f588 : M571 (P 8) = some (.inl (D.1 102, 120, .inl (upd (A 8) bs.length (to_I y q)))) := by rw [eM571]; exact hm_up_s
              refine lv_aload_n hx hb dd_MO_bind_139 rfl (lv_at hl 3 rfl) ?_
              refine hm_get (ci := 6) (C := rn_MO) (T := ft_MO) (N := 22) hx hb hts fi_MO hown hE.K hP f572 rfl 9 (by decide) (hts _ tw_995) (fun _ h9 => h9) rfl dd_MO_bind_140 ?_
              refine lv_aload_n hx hb dd_MO_bind_143 rfl (lv_at hl 3 rfl) ?_
              refine hm_get (ci := 6) (C := rn_MO) (T := ft_MO) (N := 22) hx hb hts fi_MO hown hE.K hP f572 rfl 6 (by decide) (hts _ tw_992) (fun _ h9 => h9) rfl dd_MO_bind_144 ?_
              refine W.eq (g2 := F0 m 147 ls [.int (nI bs.length), .ref (P 9)]) (by rw [bi1]) ?_
              refine lv_aload_n hx hb dd_MO_bind_147 rfl (lv_at hl 3 rfl) ?_
              refine hm_get (ci := 6) (C := rn_MO) (T := ft_MO) (N := 22) hx hb hts fi_MO hown hE.K hP f572 rfl 2 (by decide) (hts _ tw_988) (fun _ h9 => h9) rfl dd_MO_bind_148 ?_
              refine W.eq (g2 := F0 m 151 ls [.int (nI t.length), .int (nI bs.length), .ref (P 9)]) (by rw [ti1]) ?_
              refine hm_iast (j := bs.length) hx hb hE.K hP hS (pb 9 (by decide)) 2 f578 rfl (vp_in_nI (by omega) (by omega)) (nI_clamp (by omega)) dd_MO_bind_151 (fun H locs hP hS => ?_)
              obtain ⟨M589, eM589⟩ : ∃ z, z = hm_up M571 (P 9) (.inl (D.1 102, 120, .inl (upd (A 9) bs.length (nI t.length)))) := ⟨_, rfl⟩
              rw [← eM589] at hP
              have f590 : M589 (P 0) = some (.inr (6, [.int (nI 0), .ref (P 1), .int (I 2), .ref (P 3), .ref (P 4), .ref (P 5), .int (I 6), .ref (P 7), .ref (P 8), .ref (P 9), .ref (P 10), .ref (P 11), .int (I 12), .int (I 13), .ref (P 14), .ref (P 15), .ref (P 16), .ref (P 17), .int zr189, .ref (P 19), .ref (P 20), .ref (P 21)])) := by rw [eM589]; exact hm_up_o (hm_neO (po 0 (by decide)) (po 9 (by decide)) (by decide)) f572
              have f591 : M589 (P 1) = some (.inl (D.1 102, 48, .inl (A 1))) := by rw [eM589]; exact hm_up_o (hm_neO (po 1 (by decide)) (po 9 (by decide)) (by decide)) f573
              have f592 : M589 (P 3) = some (.inl (D.1 102, 16, .inl (A 3))) := by rw [eM589]; exact hm_up_o (hm_neO (po 3 (by decide)) (po 9 (by decide)) (by decide)) f574
              have f593 : M589 (P 4) = some (.inl (D.1 102, 16, .inl (A 4))) := by rw [eM589]; exact hm_up_o (hm_neO (po 4 (by decide)) (po 9 (by decide)) (by decide)) f575
              have f594 : M589 (P 5) = some (.inl (D.1 101, 16, .inl (A 5))) := by rw [eM589]; exact hm_up_o (hm_neO (po 5 (by decide)) (po 9 (by decide)) (by decide)) f576
              have f595 : M589 (P 7) = some (.inl (D.1 102, 120, .inl (upd (A 7) bs.length x))) := by rw [eM589]; exact hm_up_o (hm_neO (po 7 (by decide)) (po 9 (by decide)) (by decide)) f577
              have f596 : M589 (P 8) = some (.inl (D.1 102, 120, .inl (upd (A 8) bs.length (to_I y q)))) := by rw [eM589]; exact hm_up_o (hm_neO (po 8 (by decide)) (po 9 (by decide)) (by decide)) f588
              have f597 : M589 (P 10) = some (.inl (D.1 102, 5760, .inl (A 10))) := by rw [eM589]; exact hm_up_o (hm_neO (po 10 (by decide)) (po 9 (by decide)) (by decide)) f579
              have f598 : M589 (P 11) = some (.inl (D.1 102, 48, .inl (A 11))) := by rw [eM589]; exact hm_up_o (hm_neO (po 11 (by decide)) (po 9 (by decide)) (by decide)) f580
              have f599 : M589 (P 14) = some (.inl (D.1 103, 6, .inr (.inl (L 14)))) := by rw [eM589]; exact hm_up_o (hm_neO (po 14 (by decide)) (po 9 (by decide)) (by decide)) f581
              have f600 : M589 (P 15) = some (.inl (D.1 103, 6, .inr (.inl (L 15)))) := by rw [eM589]; exact hm_up_o (hm_neO (po 15 (by decide)) (po 9 (by decide)) (by decide)) f582
              have f601 : M589 (P 16) = some (.inl (D.1 101, 16, .inl (A 16))) := by rw [eM589]; exact hm_up_o (hm_neO (po 16 (by decide)) (po 9 (by decide)) (by decide)) f583
              have f602 : M589 (P 17) = some (.inl (D.1 101, 16, .inl (A 17))) := by rw [eM589]; exact hm_up_o (hm_neO (po 17 (by decide)) (po 9 (by decide)) (by decide)) f584
              have f603 : M589 (P 19) = some (.inl (D.1 101, 2601, .inl (A 19))) := by rw [eM589]; exact hm_up_o (hm_neO (po 19 (by decide)) (po 9 (by decide)) (by decide)) f585
              have f604 : M589 (P 20) = some (.inl (D.1 102, 52, .inl (A 20))) := by rw [eM589]; exact hm_up_o (hm_neO (po 20 (by decide)) (po 9 (by decide)) (by decide)) f586
              have f605 : M589 (P 21) = some (.inl (D.1 102, 52, .inl (A 21))) := by rw [eM589]; exact hm_up_o (hm_neO (po 21 (by decide)) (po 9 (by decide)) (by decide)) f587
              have f606 : M589 (P 9) = some (.inl (D.1 102, 120, .inl (upd (A 9) bs.length (nI t.length)))) := by rw [eM589]; exact hm_up_s
              refine lv_iconst (v := nI 0) hx hb dd_MO_bind_152 (by decide +kernel) ?_
              refine lv_istore (lv' := [(7, .int (nI 0)), (6, .int (nI 0)), (5, .int (to_I y q)), (4, .int (nI 1)), (0, .ref (P 0)), (1, .int x), (2, .int y), (3, .int (nI (bz q)))]) hx hb dd_MO_bind_153 hl (by decide) rfl (fun ls hl => ?_)
              have lp155 : ∀ (n9 : Nat) (k : Nat) (xk : Nat → Int32) (Mu155 : hm_M), (k ≤ t.length) → (∀ m, m < 48 * bs.length → xk m = A 10 m) → (∀ i, i < k → xk (48 * bs.length + i) = nI (t.getD i 0)) → (mo_D B D P O Mu155 (va_up (va_up I 0 (nI 0)) 18 zr189) (va_up (va_up (va_up (va_up A 7 (upd (A 7) bs.length x)) 8 (upd (A 8) bs.length (to_I y q))) 9 (upd (A 9) bs.length (nI t.length))) 10 xk) L) → (cz_F O M O Mu155 pm) → t.length - k < n9 → ∀ (H : Heap) (locs : List Loc) (ls : Array Slot), hm_P D cl_W Mu155 H → va_S (hm_A B) s.heap H locs → lv_has ls 8 [(0, .ref (P 0)), (1, .int x), (2, .int y), (3, .int (nI (bz q))), (4, .int (nI 1)), (5, .int (to_I y q)), (6, .int (nI 0)), (7, .int (nI k))] → W p l e R s m ([.ref (P 0), .int x, .int y, .int (nI (bz q))] : List Value).toArray below meth c H locs (0) (0) (MQ below (hm_Ni B D (fun r M1 => r = nI (bz (bn_b ex qs t bs x y q)) ∧ ∃ I1 A1 L1, mo_D B D P O M1 I1 A1 L1 ∧ I1 0 = nI (bn_c ex qs t bs x y q) ∧ mo_S I1 A1 L1 ([]) ex qs (bn_l ex qs t bs x y q) key hs fo ps ∧ cz_F O M O M1 pm)) ([.ref (P 0), .int x, .int y, .int (nI (bz q))] : List Value).toArray s (0) (0) (hm_A B)) (F0 m 155 ls []) := by
                intro n9
                induction n9 with
                | zero => intro k xk Mu155 hk hx1 hx2 hd155 hF155 hm; exact absurd hm (Nat.not_lt_zero _)
                | succ n9 ih155 =>
                  intro k xk Mu155 hk hx1 hx2 hd155 hF155 hm H locs ls hP hS hl
                  obtain ⟨g607_0, g607_1, g607_3, g607_4, g607_5, g607_7, g607_8, g607_9, g607_10, g607_11, g607_14, g607_15, g607_16, g607_17, g607_19, g607_20, g607_21, -, -⟩ := id hd155
                  have g607_0 : Mu155 (P 0) = some (.inr (6, [.int (nI 0), .ref (P 1), .int (I 2), .ref (P 3), .ref (P 4), .ref (P 5), .int (I 6), .ref (P 7), .ref (P 8), .ref (P 9), .ref (P 10), .ref (P 11), .int (I 12), .int (I 13), .ref (P 14), .ref (P 15), .ref (P 16), .ref (P 17), .int zr189, .ref (P 19), .ref (P 20), .ref (P 21)])) := g607_0
                  have g607_1 : Mu155 (P 1) = some (.inl (D.1 102, 48, .inl (A 1))) := g607_1
                  have g607_3 : Mu155 (P 3) = some (.inl (D.1 102, 16, .inl (A 3))) := g607_3
                  have g607_4 : Mu155 (P 4) = some (.inl (D.1 102, 16, .inl (A 4))) := g607_4
                  have g607_5 : Mu155 (P 5) = some (.inl (D.1 101, 16, .inl (A 5))) := g607_5
                  have g607_7 : Mu155 (P 7) = some (.inl (D.1 102, 120, .inl (upd (A 7) bs.length x))) := g607_7
                  have g607_8 : Mu155 (P 8) = some (.inl (D.1 102, 120, .inl (upd (A 8) bs.length (to_I y q)))) := g607_8
                  have g607_9 : Mu155 (P 9) = some (.inl (D.1 102, 120, .inl (upd (A 9) bs.length (nI t.length)))) := g607_9
                  have g607_10 : Mu155 (P 10) = some (.inl (D.1 102, 5760, .inl xk)) := g607_10
                  have g607_11 : Mu155 (P 11) = some (.inl (D.1 102, 48, .inl (A 11))) := g607_11
                  have g607_16 : Mu155 (P 16) = some (.inl (D.1 101, 16, .inl (A 16))) := g607_16
                  have g607_17 : Mu155 (P 17) = some (.inl (D.1 101, 16, .inl (A 17))) := g607_17
                  have g607_19 : Mu155 (P 19) = some (.inl (D.1 101, 2601, .inl (A 19))) := g607_19
                  have g607_20 : Mu155 (P 20) = some (.inl (D.1 102, 52, .inl (A 20))) := g607_20
                  have g607_21 : Mu155 (P 21) = some (.inl (D.1 102, 52, .inl (A 21))) := g607_21
                  refine lv_iload hx hb dd_MO_bind_155 (lv_at hl 7 rfl) ?_
                  refine lv_aload_n hx hb dd_MO_bind_157 rfl (lv_at hl 0 rfl) ?_
                  refine hm_get (ci := 6) (C := rn_MO) (T := ft_MO) (N := 22) hx hb hts fi_MO hown hE.K hP g607_0 rfl 2 (by decide) (hts _ tw_988) (fun _ h9 => h9) rfl dd_MO_bind_158 ?_
                  refine W.eq (g2 := F0 m 161 ls [.int (nI t.length), .int (nI k)]) (by rw [ti1]) ?_
                  refine hn_icmp_ge (tgt := 192) hx hb (by omega) (by omega) dd_MO_bind_161 (by decide) (fun c608 => ?_) (fun c608 => ?_)
                  · refine lv_aload_n hx hb dd_MO_bind_192 rfl (lv_at hl 0 rfl) ?_
                    refine lv_dup hx hb dd_MO_bind_193 rfl ?_
                    refine hm_get (ci := 6) (C := rn_MO) (T := ft_MO) (N := 22) hx hb hts fi_MO hown hE.K hP g607_0 rfl 6 (by decide) (hts _ tw_992) (fun _ h9 => h9) rfl dd_MO_bind_194 ?_
                    refine W.eq (g2 := F0 m 197 ls [.int (nI bs.length), .ref (P 0)]) (by rw [bi1]) ?_
                    refine lv_iconst (v := nI 1) hx hb dd_MO_bind_197 (by decide +kernel) ?_
                    refine hn_iadd hx hb dd_MO_bind_198 ?_
                    refine hm_put (ci := 6) (v := .int (nI (bs.length + 1))) (ty := .int) (C := rn_MO) (T := ft_MO) (N := 22) hx hb hts fi_MO fy_MO fo_MO fn_MO hown hE.K hP hS (pb 0 (by decide)) g607_0 rfl 6 (by decide) (hts _ tw_992) (fun _ h9 => h9) rfl (by decide +kernel) rfl rfl (Nat.le_of_ble_eq_true rfl) dd_MO_bind_199 (fun H locs hP hS => ?_)
                    have hP : hm_P D cl_W (hm_up Mu155 (P 0) (.inr (6, [.int (nI 0), .ref (P 1), .int (I 2), .ref (P 3), .ref (P 4), .ref (P 5), .int (nI (bs.length + 1)), .ref (P 7), .ref (P 8), .ref (P 9), .ref (P 10), .ref (P 11), .int (I 12), .int (I 13), .ref (P 14), .ref (P 15), .ref (P 16), .ref (P 17), .int zr189, .ref (P 19), .ref (P 20), .ref (P 21)]))) H := hP
                    obtain ⟨M609, eM609⟩ : ∃ z, z = hm_up Mu155 (P 0) (.inr (6, [.int (nI 0), .ref (P 1), .int (I 2), .ref (P 3), .ref (P 4), .ref (P 5), .int (nI (bs.length + 1)), .ref (P 7), .ref (P 8), .ref (P 9), .ref (P 10), .ref (P 11), .int (I 12), .int (I 13), .ref (P 14), .ref (P 15), .ref (P 16), .ref (P 17), .int zr189, .ref (P 19), .ref (P 20), .ref (P 21)])) := ⟨_, rfl⟩
                    rw [← eM609] at hP
                    have f610 : M609 (P 1) = some (.inl (D.1 102, 48, .inl (A 1))) := by rw [eM609]; exact hm_up_o (hm_neO (po 1 (by decide)) (po 0 (by decide)) (by decide)) g607_1
                    have f611 : M609 (P 3) = some (.inl (D.1 102, 16, .inl (A 3))) := by rw [eM609]; exact hm_up_o (hm_neO (po 3 (by decide)) (po 0 (by decide)) (by decide)) g607_3
                    have f612 : M609 (P 4) = some (.inl (D.1 102, 16, .inl (A 4))) := by rw [eM609]; exact hm_up_o (hm_neO (po 4 (by decide)) (po 0 (by decide)) (by decide)) g607_4
                    have f613 : M609 (P 5) = some (.inl (D.1 101, 16, .inl (A 5))) := by rw [eM609]; exact hm_up_o (hm_neO (po 5 (by decide)) (po 0 (by decide)) (by decide)) g607_5
                    have f614 : M609 (P 7) = some (.inl (D.1 102, 120, .inl (upd (A 7) bs.length x))) := by rw [eM609]; exact hm_up_o (hm_neO (po 7 (by decide)) (po 0 (by decide)) (by decide)) g607_7
                    have f615 : M609 (P 8) = some (.inl (D.1 102, 120, .inl (upd (A 8) bs.length (to_I y q)))) := by rw [eM609]; exact hm_up_o (hm_neO (po 8 (by decide)) (po 0 (by decide)) (by decide)) g607_8
                    have f616 : M609 (P 9) = some (.inl (D.1 102, 120, .inl (upd (A 9) bs.length (nI t.length)))) := by rw [eM609]; exact hm_up_o (hm_neO (po 9 (by decide)) (po 0 (by decide)) (by decide)) g607_9
                    have f617 : M609 (P 10) = some (.inl (D.1 102, 5760, .inl xk)) := by rw [eM609]; exact hm_up_o (hm_neO (po 10 (by decide)) (po 0 (by decide)) (by decide)) g607_10
                    have f618 : M609 (P 11) = some (.inl (D.1 102, 48, .inl (A 11))) := by rw [eM609]; exact hm_up_o (hm_neO (po 11 (by decide)) (po 0 (by decide)) (by decide)) g607_11
                    have f619 : M609 (P 14) = some (.inl (D.1 103, 6, .inr (.inl (L 14)))) := by rw [eM609]; exact hm_up_o (hm_neO (po 14 (by decide)) (po 0 (by decide)) (by decide)) g607_14
                    have f620 : M609 (P 15) = some (.inl (D.1 103, 6, .inr (.inl (L 15)))) := by rw [eM609]; exact hm_up_o (hm_neO (po 15 (by decide)) (po 0 (by decide)) (by decide)) g607_15
                    have f621 : M609 (P 16) = some (.inl (D.1 101, 16, .inl (A 16))) := by rw [eM609]; exact hm_up_o (hm_neO (po 16 (by decide)) (po 0 (by decide)) (by decide)) g607_16
                    have f622 : M609 (P 17) = some (.inl (D.1 101, 16, .inl (A 17))) := by rw [eM609]; exact hm_up_o (hm_neO (po 17 (by decide)) (po 0 (by decide)) (by decide)) g607_17
                    have f623 : M609 (P 19) = some (.inl (D.1 101, 2601, .inl (A 19))) := by rw [eM609]; exact hm_up_o (hm_neO (po 19 (by decide)) (po 0 (by decide)) (by decide)) g607_19
                    have f624 : M609 (P 20) = some (.inl (D.1 102, 52, .inl (A 20))) := by rw [eM609]; exact hm_up_o (hm_neO (po 20 (by decide)) (po 0 (by decide)) (by decide)) g607_20
                    have f625 : M609 (P 21) = some (.inl (D.1 102, 52, .inl (A 21))) := by rw [eM609]; exact hm_up_o (hm_neO (po 21 (by decide)) (po 0 (by decide)) (by decide)) g607_21
                    have f626 : M609 (P 0) = some (.inr (6, [.int (nI 0), .ref (P 1), .int (I 2), .ref (P 3), .ref (P 4), .ref (P 5), .int (nI (bs.length + 1)), .ref (P 7), .ref (P 8), .ref (P 9), .ref (P 10), .ref (P 11), .int (I 12), .int (I 13), .ref (P 14), .ref (P 15), .ref (P 16), .ref (P 17), .int zr189, .ref (P 19), .ref (P 20), .ref (P 21)])) := by rw [eM609]; exact hm_up_s
                    refine lv_aload_n hx hb dd_MO_bind_202 rfl (lv_at hl 0 rfl) ?_
                    refine lv_iconst (v := nI 0) hx hb dd_MO_bind_203 (by decide +kernel) ?_
                    refine hm_put (ci := 6) (v := .int (nI 0)) (ty := .int) (C := rn_MO) (T := ft_MO) (N := 22) hx hb hts fi_MO fy_MO fo_MO fn_MO hown hE.K hP hS (pb 0 (by decide)) f626 rfl 2 (by decide) (hts _ tw_988) (fun _ h9 => h9) rfl (by decide +kernel) rfl rfl (Nat.le_of_ble_eq_true rfl) dd_MO_bind_204 (fun H locs hP hS => ?_)
                    have hP : hm_P D cl_W (hm_up M609 (P 0) (.inr (6, [.int (nI 0), .ref (P 1), .int (nI 0), .ref (P 3), .ref (P 4), .ref (P 5), .int (nI (bs.length + 1)), .ref (P 7), .ref (P 8), .ref (P 9), .ref (P 10), .ref (P 11), .int (I 12), .int (I 13), .ref (P 14), .ref (P 15), .ref (P 16), .ref (P 17), .int zr189, .ref (P 19), .ref (P 20), .ref (P 21)]))) H := hP
                    obtain ⟨M627, eM627⟩ : ∃ z, z = hm_up M609 (P 0) (.inr (6, [.int (nI 0), .ref (P 1), .int (nI 0), .ref (P 3), .ref (P 4), .ref (P 5), .int (nI (bs.length + 1)), .ref (P 7), .ref (P 8), .ref (P 9), .ref (P 10), .ref (P 11), .int (I 12), .int (I 13), .ref (P 14), .ref (P 15), .ref (P 16), .ref (P 17), .int zr189, .ref (P 19), .ref (P 20), .ref (P 21)])) := ⟨_, rfl⟩
                    rw [← eM627] at hP
                    have f628 : M627 (P 1) = some (.inl (D.1 102, 48, .inl (A 1))) := by rw [eM627]; exact hm_up_o (hm_neO (po 1 (by decide)) (po 0 (by decide)) (by decide)) f610
                    have f629 : M627 (P 3) = some (.inl (D.1 102, 16, .inl (A 3))) := by rw [eM627]; exact hm_up_o (hm_neO (po 3 (by decide)) (po 0 (by decide)) (by decide)) f611
                    have f630 : M627 (P 4) = some (.inl (D.1 102, 16, .inl (A 4))) := by rw [eM627]; exact hm_up_o (hm_neO (po 4 (by decide)) (po 0 (by decide)) (by decide)) f612
                    have f631 : M627 (P 5) = some (.inl (D.1 101, 16, .inl (A 5))) := by rw [eM627]; exact hm_up_o (hm_neO (po 5 (by decide)) (po 0 (by decide)) (by decide)) f613
                    have f632 : M627 (P 7) = some (.inl (D.1 102, 120, .inl (upd (A 7) bs.length x))) := by rw [eM627]; exact hm_up_o (hm_neO (po 7 (by decide)) (po 0 (by decide)) (by decide)) f614
                    have f633 : M627 (P 8) = some (.inl (D.1 102, 120, .inl (upd (A 8) bs.length (to_I y q)))) := by rw [eM627]; exact hm_up_o (hm_neO (po 8 (by decide)) (po 0 (by decide)) (by decide)) f615
                    have f634 : M627 (P 9) = some (.inl (D.1 102, 120, .inl (upd (A 9) bs.length (nI t.length)))) := by rw [eM627]; exact hm_up_o (hm_neO (po 9 (by decide)) (po 0 (by decide)) (by decide)) f616
                    have f635 : M627 (P 10) = some (.inl (D.1 102, 5760, .inl xk)) := by rw [eM627]; exact hm_up_o (hm_neO (po 10 (by decide)) (po 0 (by decide)) (by decide)) f617
                    have f636 : M627 (P 11) = some (.inl (D.1 102, 48, .inl (A 11))) := by rw [eM627]; exact hm_up_o (hm_neO (po 11 (by decide)) (po 0 (by decide)) (by decide)) f618
                    have f637 : M627 (P 14) = some (.inl (D.1 103, 6, .inr (.inl (L 14)))) := by rw [eM627]; exact hm_up_o (hm_neO (po 14 (by decide)) (po 0 (by decide)) (by decide)) f619
                    have f638 : M627 (P 15) = some (.inl (D.1 103, 6, .inr (.inl (L 15)))) := by rw [eM627]; exact hm_up_o (hm_neO (po 15 (by decide)) (po 0 (by decide)) (by decide)) f620
                    have f639 : M627 (P 16) = some (.inl (D.1 101, 16, .inl (A 16))) := by rw [eM627]; exact hm_up_o (hm_neO (po 16 (by decide)) (po 0 (by decide)) (by decide)) f621
                    have f640 : M627 (P 17) = some (.inl (D.1 101, 16, .inl (A 17))) := by rw [eM627]; exact hm_up_o (hm_neO (po 17 (by decide)) (po 0 (by decide)) (by decide)) f622
                    have f641 : M627 (P 19) = some (.inl (D.1 101, 2601, .inl (A 19))) := by rw [eM627]; exact hm_up_o (hm_neO (po 19 (by decide)) (po 0 (by decide)) (by decide)) f623
                    have f642 : M627 (P 20) = some (.inl (D.1 102, 52, .inl (A 20))) := by rw [eM627]; exact hm_up_o (hm_neO (po 20 (by decide)) (po 0 (by decide)) (by decide)) f624
                    have f643 : M627 (P 21) = some (.inl (D.1 102, 52, .inl (A 21))) := by rw [eM627]; exact hm_up_o (hm_neO (po 21 (by decide)) (po 0 (by decide)) (by decide)) f625
                    have f644 : M627 (P 0) = some (.inr (6, [.int (nI 0), .ref (P 1), .int (nI 0), .ref (P 3), .ref (P 4), .ref (P 5), .int (nI (bs.length + 1)), .ref (P 7), .ref (P 8), .ref (P 9), .ref (P 10), .ref (P 11), .int (I 12), .int (I 13), .ref (P 14), .ref (P 15), .ref (P 16), .ref (P 17), .int zr189, .ref (P 19), .ref (P 20), .ref (P 21)])) := by rw [eM627]; exact hm_up_s
                    refine lv_aload_n hx hb dd_MO_bind_207 rfl (lv_at hl 0 rfl) ?_
                    refine hm_get (ci := 6) (C := rn_MO) (T := ft_MO) (N := 22) hx hb hts fi_MO hown hE.K hP f644 rfl 0 (by decide) (hts _ tw_986) (fun _ h9 => h9) rfl dd_MO_bind_208 ?_
                    refine hn_if_ne (tgt := 223) hx hb (by omega) dd_MO_bind_211 (by decide) (fun c645 => absurd c645 (by omega)) (fun c645 => ?_)
                    refine lv_iload hx hb dd_MO_bind_214 (lv_at hl 6 rfl) ?_
                    refine hn_if_ne (tgt := 223) hx hb (by omega) dd_MO_bind_216 (by decide) (fun c646 => absurd c646 (by omega)) (fun c646 => ?_)
                    refine lv_iconst (v := nI 1) hx hb dd_MO_bind_219 (by decide +kernel) ?_
                    refine lv_goto (tgt := 224) hx hb dd_MO_bind_220 (by decide) ?_
                    have hbb : bn_b ex qs t bs x y q = true := by rw [bn_b, hok, hpa, decide_eq_true (by omega)]; rfl
                    have hkt : k = t.length := by omega
                    have kk647 : hm_k Mu155 Mu155 [(P 0)] := hm_krf
                    have kk648 : hm_k Mu155 M609 [(P 0)] := hm_ku kk647 (Or.inr (by simp)) eM609
                    have kk649 : hm_k Mu155 M627 [(P 0)] := hm_ku kk648 (Or.inr (by simp)) eM627
                    exact hm_Ei (v := nI 1) hx hb hr rfl hS hP (⟨bz_1 hbb, (va_up (va_up (va_up (va_up I 0 (nI 0)) 2 (nI 0)) 6 (nI (bs.length + 1))) 18 zr189), (va_up (va_up (va_up (va_up A 7 (upd (A 7) bs.length x)) 8 (upd (A 8) bs.length (to_I y q))) 9 (upd (A 9) bs.length (nI t.length))) 10 xk), L, ⟨f644, f628, f629, f630, f631, f632, f633, f634, f635, f636, f637, f638, f639, f640, f641, f642, f643, po, pb⟩, by rw [bn_c, hok, if_pos rfl, hpa, if_neg (by decide), if_neg (by omega)]; rfl, ⟨tpS_0, hX, hQ, by rw [bn_l, if_pos hbb]; exact bdS_add (by rw [← bi1]; exact hB) (by omega) hx1 (fun i hi => hx2 i (by omega)) ti3 ti4 hin hiny, hK, hH, hFo, hPs⟩, (hF155).trans (cz_F.k0 kk649 (hm_a1 ⟨by rw [po 0 (by decide)]; unfold pm; omega, _, f644⟩))⟩) hlocks (by omega) (by omega) dd_MO_bind_224
                  · refine lv_aload_n hx hb dd_MO_bind_164 rfl (lv_at hl 0 rfl) ?_
                    refine hm_get (ci := 6) (C := rn_MO) (T := ft_MO) (N := 22) hx hb hts fi_MO hown hE.K hP g607_0 rfl 10 (by decide) (hts _ tw_996) (fun _ h9 => h9) rfl dd_MO_bind_165 ?_
                    refine lv_bipush (v := nI 48) hx hb dd_MO_bind_168 (by decide +kernel) ?_
                    refine lv_aload_n hx hb dd_MO_bind_170 rfl (lv_at hl 0 rfl) ?_
                    refine hm_get (ci := 6) (C := rn_MO) (T := ft_MO) (N := 22) hx hb hts fi_MO hown hE.K hP g607_0 rfl 6 (by decide) (hts _ tw_992) (fun _ h9 => h9) rfl dd_MO_bind_171 ?_
                    refine W.eq (g2 := F0 m 174 ls [.int (nI bs.length), .int (nI 48), .ref (P 10)]) (by rw [bi1]) ?_
                    refine hn_imul hx hb dd_MO_bind_174 ?_
                    refine lv_iload hx hb dd_MO_bind_175 (lv_at hl 7 rfl) ?_
                    refine hn_iadd hx hb dd_MO_bind_177 ?_
                    refine lv_aload_n hx hb dd_MO_bind_178 rfl (lv_at hl 0 rfl) ?_
                    refine hm_get (ci := 6) (C := rn_MO) (T := ft_MO) (N := 22) hx hb hts fi_MO hown hE.K hP g607_0 rfl 1 (by decide) (hts _ tw_987) (fun _ h9 => h9) rfl dd_MO_bind_179 ?_
                    refine lv_iload hx hb dd_MO_bind_182 (lv_at hl 7 rfl) ?_
                    refine hm_iald (j := k) hx hb hE.K hP 2 g607_1 rfl (vp_in_nI (by omega) (by omega)) (nI_clamp (by omega)) dd_MO_bind_184 ?_
                    refine W.eq (g2 := F0 m 185 ls [.int (nI (t.getD k 0)), .int (nI ((48 * bs.length) + k)), .ref (P 10)]) (by rw [ti2 k (by omega)]) ?_
                    refine hm_iast (j := (48 * bs.length) + k) hx hb hE.K hP hS (pb 10 (by decide)) 2 g607_10 rfl (vp_in_nI (by omega) (by omega)) (nI_clamp (by omega)) dd_MO_bind_185 (fun H locs hP hS => ?_)
                    obtain ⟨M650, eM650⟩ : ∃ z, z = hm_up Mu155 (P 10) (.inl (D.1 102, 5760, .inl (upd xk ((48 * bs.length) + k) (nI (t.getD k 0))))) := ⟨_, rfl⟩
                    rw [← eM650] at hP
                    have f651 : M650 (P 0) = some (.inr (6, [.int (nI 0), .ref (P 1), .int (I 2), .ref (P 3), .ref (P 4), .ref (P 5), .int (I 6), .ref (P 7), .ref (P 8), .ref (P 9), .ref (P 10), .ref (P 11), .int (I 12), .int (I 13), .ref (P 14), .ref (P 15), .ref (P 16), .ref (P 17), .int zr189, .ref (P 19), .ref (P 20), .ref (P 21)])) := by rw [eM650]; exact hm_up_o (hm_neO (po 0 (by decide)) (po 10 (by decide)) (by decide)) g607_0
                    have f652 : M650 (P 1) = some (.inl (D.1 102, 48, .inl (A 1))) := by rw [eM650]; exact hm_up_o (hm_neO (po 1 (by decide)) (po 10 (by decide)) (by decide)) g607_1
                    have f653 : M650 (P 3) = some (.inl (D.1 102, 16, .inl (A 3))) := by rw [eM650]; exact hm_up_o (hm_neO (po 3 (by decide)) (po 10 (by decide)) (by decide)) g607_3
                    have f654 : M650 (P 4) = some (.inl (D.1 102, 16, .inl (A 4))) := by rw [eM650]; exact hm_up_o (hm_neO (po 4 (by decide)) (po 10 (by decide)) (by decide)) g607_4
                    have f655 : M650 (P 5) = some (.inl (D.1 101, 16, .inl (A 5))) := by rw [eM650]; exact hm_up_o (hm_neO (po 5 (by decide)) (po 10 (by decide)) (by decide)) g607_5
                    have f656 : M650 (P 7) = some (.inl (D.1 102, 120, .inl (upd (A 7) bs.length x))) := by rw [eM650]; exact hm_up_o (hm_neO (po 7 (by decide)) (po 10 (by decide)) (by decide)) g607_7
                    have f657 : M650 (P 8) = some (.inl (D.1 102, 120, .inl (upd (A 8) bs.length (to_I y q)))) := by rw [eM650]; exact hm_up_o (hm_neO (po 8 (by decide)) (po 10 (by decide)) (by decide)) g607_8
                    have f658 : M650 (P 9) = some (.inl (D.1 102, 120, .inl (upd (A 9) bs.length (nI t.length)))) := by rw [eM650]; exact hm_up_o (hm_neO (po 9 (by decide)) (po 10 (by decide)) (by decide)) g607_9
                    have f659 : M650 (P 11) = some (.inl (D.1 102, 48, .inl (A 11))) := by rw [eM650]; exact hm_up_o (hm_neO (po 11 (by decide)) (po 10 (by decide)) (by decide)) g607_11
                    have f660 : M650 (P 14) = some (.inl (D.1 103, 6, .inr (.inl (L 14)))) := by rw [eM650]; exact hm_up_o (hm_neO (po 14 (by decide)) (po 10 (by decide)) (by decide)) g607_14
                    have f661 : M650 (P 15) = some (.inl (D.1 103, 6, .inr (.inl (L 15)))) := by rw [eM650]; exact hm_up_o (hm_neO (po 15 (by decide)) (po 10 (by decide)) (by decide)) g607_15
                    have f662 : M650 (P 16) = some (.inl (D.1 101, 16, .inl (A 16))) := by rw [eM650]; exact hm_up_o (hm_neO (po 16 (by decide)) (po 10 (by decide)) (by decide)) g607_16
                    have f663 : M650 (P 17) = some (.inl (D.1 101, 16, .inl (A 17))) := by rw [eM650]; exact hm_up_o (hm_neO (po 17 (by decide)) (po 10 (by decide)) (by decide)) g607_17
                    have f664 : M650 (P 19) = some (.inl (D.1 101, 2601, .inl (A 19))) := by rw [eM650]; exact hm_up_o (hm_neO (po 19 (by decide)) (po 10 (by decide)) (by decide)) g607_19
                    have f665 : M650 (P 20) = some (.inl (D.1 102, 52, .inl (A 20))) := by rw [eM650]; exact hm_up_o (hm_neO (po 20 (by decide)) (po 10 (by decide)) (by decide)) g607_20
                    have f666 : M650 (P 21) = some (.inl (D.1 102, 52, .inl (A 21))) := by rw [eM650]; exact hm_up_o (hm_neO (po 21 (by decide)) (po 10 (by decide)) (by decide)) g607_21
                    have f667 : M650 (P 10) = some (.inl (D.1 102, 5760, .inl (upd xk ((48 * bs.length) + k) (nI (t.getD k 0))))) := by rw [eM650]; exact hm_up_s
                    refine lv_iinc (v := nI (k + 1)) (lv' := [(7, .int (nI (k + 1))), (0, .ref (P 0)), (1, .int x), (2, .int y), (3, .int (nI (bz q))), (4, .int (nI 1)), (5, .int (to_I y q)), (6, .int (nI 0))]) hx hb dd_MO_bind_186 hl (k := 7) rfl (nI_1 k) (by decide) rfl (fun ls hl => ?_)
                    refine lv_goto (tgt := 155) hx hb dd_MO_bind_189 (by decide) ?_
                    have kk668 : hm_k Mu155 Mu155 [(P 10)] := hm_krf
                    have kk669 : hm_k Mu155 M650 [(P 10)] := hm_ku kk668 (Or.inr (by simp)) eM650
                    exact ih155 (k + 1) (upd xk ((48 * bs.length) + k) (nI (t.getD k 0))) M650 (by omega) (fun m hm9 => (up_o (by omega)).trans (hx1 m hm9)) (fun i hi => by
                        by_cases h9 : i = k
                        · subst h9; exact up_s
                        · exact (up_o (by omega)).trans (hx2 i (by omega))) (⟨f651, f652, f653, f654, f655, f656, f657, f658, f667, f659, f660, f661, f662, f663, f664, f665, f666, po, pb⟩) ((hF155).trans (cz_F.k0 kk669 (hm_a1 ⟨by rw [po 10 (by decide)]; unfold pm; omega, _, f667⟩))) (by omega) _ _ _ hP hS (lv_sub hl [1, 2, 3, 4, 5, 6, 7, 0] rfl)
              have kk670 : hm_k M190 M190 [(P 0), (P 7), (P 8), (P 9)] := hm_krf
              have kk671 : hm_k M190 M533 [(P 0), (P 7), (P 8), (P 9)] := hm_ku kk670 (Or.inr (by simp)) eM533
              have kk672 : hm_k M190 M553 [(P 0), (P 7), (P 8), (P 9)] := hm_ku kk671 (Or.inr (by simp)) eM553
              have kk673 : hm_k M190 M571 [(P 0), (P 7), (P 8), (P 9)] := hm_ku kk672 (Or.inr (by simp)) eM571
              have kk674 : hm_k M190 M589 [(P 0), (P 7), (P 8), (P 9)] := hm_ku kk673 (Or.inr (by simp)) eM589
              exact lp155 _ 0 (A 10) M589 (Nat.zero_le _) (fun m _ => rfl) (fun i hi => absurd hi (Nat.not_lt_zero _)) (⟨f590, f591, f592, f593, f594, f595, f596, f606, f597, f598, f599, f600, f601, f602, f603, f604, f605, po, pb⟩) ((hF193).trans (cz_F.k0 kk674 (hm_a4 ⟨by rw [po 0 (by decide)]; unfold pm; omega, _, f590⟩ ⟨by rw [po 7 (by decide)]; unfold pm; omega, _, f595⟩ ⟨by rw [po 8 (by decide)]; unfold pm; omega, _, f596⟩ ⟨by rw [po 9 (by decide)]; unfold pm; omega, _, f606⟩))) (Nat.lt_succ_self _) _ _ _ hP hS (lv_sub hl [4, 5, 6, 7, 3, 2, 1, 0] rfl)
            · refine lv_iconst (v := nI 2) hx hb dd_MO_bind_98 (by decide +kernel) ?_
              refine lv_goto (tgt := 103) hx hb dd_MO_bind_99 (by decide) ?_
              refine hm_put (ci := 6) (v := .int (nI 2)) (ty := .int) (C := rn_MO) (T := ft_MO) (N := 22) hx hb hts fi_MO fy_MO fo_MO fn_MO hown hE.K hP hS (pb 0 (by decide)) g194_0 rfl 0 (by decide) (hts _ tw_986) (fun _ h9 => h9) rfl (by decide +kernel) rfl rfl (Nat.le_of_ble_eq_true rfl) dd_MO_bind_103 (fun H locs hP hS => ?_)
              have hP : hm_P D cl_W (hm_up M190 (P 0) (.inr (6, [.int (nI 2), .ref (P 1), .int (I 2), .ref (P 3), .ref (P 4), .ref (P 5), .int (I 6), .ref (P 7), .ref (P 8), .ref (P 9), .ref (P 10), .ref (P 11), .int (I 12), .int (I 13), .ref (P 14), .ref (P 15), .ref (P 16), .ref (P 17), .int zr189, .ref (P 19), .ref (P 20), .ref (P 21)]))) H := hP
              obtain ⟨M675, eM675⟩ : ∃ z, z = hm_up M190 (P 0) (.inr (6, [.int (nI 2), .ref (P 1), .int (I 2), .ref (P 3), .ref (P 4), .ref (P 5), .int (I 6), .ref (P 7), .ref (P 8), .ref (P 9), .ref (P 10), .ref (P 11), .int (I 12), .int (I 13), .ref (P 14), .ref (P 15), .ref (P 16), .ref (P 17), .int zr189, .ref (P 19), .ref (P 20), .ref (P 21)])) := ⟨_, rfl⟩
              rw [← eM675] at hP
              have f676 : M675 (P 1) = some (.inl (D.1 102, 48, .inl (A 1))) := by rw [eM675]; exact hm_up_o (hm_neO (po 1 (by decide)) (po 0 (by decide)) (by decide)) g194_1
              have f677 : M675 (P 3) = some (.inl (D.1 102, 16, .inl (A 3))) := by rw [eM675]; exact hm_up_o (hm_neO (po 3 (by decide)) (po 0 (by decide)) (by decide)) g194_3
              have f678 : M675 (P 4) = some (.inl (D.1 102, 16, .inl (A 4))) := by rw [eM675]; exact hm_up_o (hm_neO (po 4 (by decide)) (po 0 (by decide)) (by decide)) g194_4
              have f679 : M675 (P 5) = some (.inl (D.1 101, 16, .inl (A 5))) := by rw [eM675]; exact hm_up_o (hm_neO (po 5 (by decide)) (po 0 (by decide)) (by decide)) g194_5
              have f680 : M675 (P 7) = some (.inl (D.1 102, 120, .inl (A 7))) := by rw [eM675]; exact hm_up_o (hm_neO (po 7 (by decide)) (po 0 (by decide)) (by decide)) g194_7
              have f681 : M675 (P 8) = some (.inl (D.1 102, 120, .inl (A 8))) := by rw [eM675]; exact hm_up_o (hm_neO (po 8 (by decide)) (po 0 (by decide)) (by decide)) g194_8
              have f682 : M675 (P 9) = some (.inl (D.1 102, 120, .inl (A 9))) := by rw [eM675]; exact hm_up_o (hm_neO (po 9 (by decide)) (po 0 (by decide)) (by decide)) g194_9
              have f683 : M675 (P 10) = some (.inl (D.1 102, 5760, .inl (A 10))) := by rw [eM675]; exact hm_up_o (hm_neO (po 10 (by decide)) (po 0 (by decide)) (by decide)) g194_10
              have f684 : M675 (P 11) = some (.inl (D.1 102, 48, .inl (A 11))) := by rw [eM675]; exact hm_up_o (hm_neO (po 11 (by decide)) (po 0 (by decide)) (by decide)) g194_11
              have f685 : M675 (P 14) = some (.inl (D.1 103, 6, .inr (.inl (L 14)))) := by rw [eM675]; exact hm_up_o (hm_neO (po 14 (by decide)) (po 0 (by decide)) (by decide)) g194_14
              have f686 : M675 (P 15) = some (.inl (D.1 103, 6, .inr (.inl (L 15)))) := by rw [eM675]; exact hm_up_o (hm_neO (po 15 (by decide)) (po 0 (by decide)) (by decide)) g194_15
              have f687 : M675 (P 16) = some (.inl (D.1 101, 16, .inl (A 16))) := by rw [eM675]; exact hm_up_o (hm_neO (po 16 (by decide)) (po 0 (by decide)) (by decide)) g194_16
              have f688 : M675 (P 17) = some (.inl (D.1 101, 16, .inl (A 17))) := by rw [eM675]; exact hm_up_o (hm_neO (po 17 (by decide)) (po 0 (by decide)) (by decide)) g194_17
              have f689 : M675 (P 19) = some (.inl (D.1 101, 2601, .inl (A 19))) := by rw [eM675]; exact hm_up_o (hm_neO (po 19 (by decide)) (po 0 (by decide)) (by decide)) g194_19
              have f690 : M675 (P 20) = some (.inl (D.1 102, 52, .inl (A 20))) := by rw [eM675]; exact hm_up_o (hm_neO (po 20 (by decide)) (po 0 (by decide)) (by decide)) g194_20
              have f691 : M675 (P 21) = some (.inl (D.1 102, 52, .inl (A 21))) := by rw [eM675]; exact hm_up_o (hm_neO (po 21 (by decide)) (po 0 (by decide)) (by decide)) g194_21
              have f692 : M675 (P 0) = some (.inr (6, [.int (nI 2), .ref (P 1), .int (I 2), .ref (P 3), .ref (P 4), .ref (P 5), .int (I 6), .ref (P 7), .ref (P 8), .ref (P 9), .ref (P 10), .ref (P 11), .int (I 12), .int (I 13), .ref (P 14), .ref (P 15), .ref (P 16), .ref (P 17), .int zr189, .ref (P 19), .ref (P 20), .ref (P 21)])) := by rw [eM675]; exact hm_up_s
              refine lv_aload_n hx hb dd_MO_bind_106 rfl (lv_at hl 3 rfl) ?_
              refine hm_get (ci := 6) (C := rn_MO) (T := ft_MO) (N := 22) hx hb hts fi_MO hown hE.K hP f692 rfl 0 (by decide) (hts _ tw_986) (fun _ h9 => h9) rfl dd_MO_bind_107 ?_
              refine hn_if_ne (tgt := 202) hx hb (by omega) dd_MO_bind_110 (by decide) (fun c693 => ?_) (fun c693 => absurd c693 (by omega))
              refine lv_aload_n hx hb dd_MO_bind_202 rfl (lv_at hl 3 rfl) ?_
              refine lv_iconst (v := nI 0) hx hb dd_MO_bind_203 (by decide +kernel) ?_
              refine hm_put (ci := 6) (v := .int (nI 0)) (ty := .int) (C := rn_MO) (T := ft_MO) (N := 22) hx hb hts fi_MO fy_MO fo_MO fn_MO hown hE.K hP hS (pb 0 (by decide)) f692 rfl 2 (by decide) (hts _ tw_988) (fun _ h9 => h9) rfl (by decide +kernel) rfl rfl (Nat.le_of_ble_eq_true rfl) dd_MO_bind_204 (fun H locs hP hS => ?_)
              have hP : hm_P D cl_W (hm_up M675 (P 0) (.inr (6, [.int (nI 2), .ref (P 1), .int (nI 0), .ref (P 3), .ref (P 4), .ref (P 5), .int (I 6), .ref (P 7), .ref (P 8), .ref (P 9), .ref (P 10), .ref (P 11), .int (I 12), .int (I 13), .ref (P 14), .ref (P 15), .ref (P 16), .ref (P 17), .int zr189, .ref (P 19), .ref (P 20), .ref (P 21)]))) H := hP
              obtain ⟨M694, eM694⟩ : ∃ z, z = hm_up M675 (P 0) (.inr (6, [.int (nI 2), .ref (P 1), .int (nI 0), .ref (P 3), .ref (P 4), .ref (P 5), .int (I 6), .ref (P 7), .ref (P 8), .ref (P 9), .ref (P 10), .ref (P 11), .int (I 12), .int (I 13), .ref (P 14), .ref (P 15), .ref (P 16), .ref (P 17), .int zr189, .ref (P 19), .ref (P 20), .ref (P 21)])) := ⟨_, rfl⟩
              rw [← eM694] at hP
              have f695 : M694 (P 1) = some (.inl (D.1 102, 48, .inl (A 1))) := by rw [eM694]; exact hm_up_o (hm_neO (po 1 (by decide)) (po 0 (by decide)) (by decide)) f676
              have f696 : M694 (P 3) = some (.inl (D.1 102, 16, .inl (A 3))) := by rw [eM694]; exact hm_up_o (hm_neO (po 3 (by decide)) (po 0 (by decide)) (by decide)) f677
              have f697 : M694 (P 4) = some (.inl (D.1 102, 16, .inl (A 4))) := by rw [eM694]; exact hm_up_o (hm_neO (po 4 (by decide)) (po 0 (by decide)) (by decide)) f678
              have f698 : M694 (P 5) = some (.inl (D.1 101, 16, .inl (A 5))) := by rw [eM694]; exact hm_up_o (hm_neO (po 5 (by decide)) (po 0 (by decide)) (by decide)) f679
              have f699 : M694 (P 7) = some (.inl (D.1 102, 120, .inl (A 7))) := by rw [eM694]; exact hm_up_o (hm_neO (po 7 (by decide)) (po 0 (by decide)) (by decide)) f680
              have f700 : M694 (P 8) = some (.inl (D.1 102, 120, .inl (A 8))) := by rw [eM694]; exact hm_up_o (hm_neO (po 8 (by decide)) (po 0 (by decide)) (by decide)) f681
              have f701 : M694 (P 9) = some (.inl (D.1 102, 120, .inl (A 9))) := by rw [eM694]; exact hm_up_o (hm_neO (po 9 (by decide)) (po 0 (by decide)) (by decide)) f682
              have f702 : M694 (P 10) = some (.inl (D.1 102, 5760, .inl (A 10))) := by rw [eM694]; exact hm_up_o (hm_neO (po 10 (by decide)) (po 0 (by decide)) (by decide)) f683
              have f703 : M694 (P 11) = some (.inl (D.1 102, 48, .inl (A 11))) := by rw [eM694]; exact hm_up_o (hm_neO (po 11 (by decide)) (po 0 (by decide)) (by decide)) f684
              have f704 : M694 (P 14) = some (.inl (D.1 103, 6, .inr (.inl (L 14)))) := by rw [eM694]; exact hm_up_o (hm_neO (po 14 (by decide)) (po 0 (by decide)) (by decide)) f685
              have f705 : M694 (P 15) = some (.inl (D.1 103, 6, .inr (.inl (L 15)))) := by rw [eM694]; exact hm_up_o (hm_neO (po 15 (by decide)) (po 0 (by decide)) (by decide)) f686
              have f706 : M694 (P 16) = some (.inl (D.1 101, 16, .inl (A 16))) := by rw [eM694]; exact hm_up_o (hm_neO (po 16 (by decide)) (po 0 (by decide)) (by decide)) f687
              have f707 : M694 (P 17) = some (.inl (D.1 101, 16, .inl (A 17))) := by rw [eM694]; exact hm_up_o (hm_neO (po 17 (by decide)) (po 0 (by decide)) (by decide)) f688
              have f708 : M694 (P 19) = some (.inl (D.1 101, 2601, .inl (A 19))) := by rw [eM694]; exact hm_up_o (hm_neO (po 19 (by decide)) (po 0 (by decide)) (by decide)) f689
              have f709 : M694 (P 20) = some (.inl (D.1 102, 52, .inl (A 20))) := by rw [eM694]; exact hm_up_o (hm_neO (po 20 (by decide)) (po 0 (by decide)) (by decide)) f690
              have f710 : M694 (P 21) = some (.inl (D.1 102, 52, .inl (A 21))) := by rw [eM694]; exact hm_up_o (hm_neO (po 21 (by decide)) (po 0 (by decide)) (by decide)) f691
              have f711 : M694 (P 0) = some (.inr (6, [.int (nI 2), .ref (P 1), .int (nI 0), .ref (P 3), .ref (P 4), .ref (P 5), .int (I 6), .ref (P 7), .ref (P 8), .ref (P 9), .ref (P 10), .ref (P 11), .int (I 12), .int (I 13), .ref (P 14), .ref (P 15), .ref (P 16), .ref (P 17), .int zr189, .ref (P 19), .ref (P 20), .ref (P 21)])) := by rw [eM694]; exact hm_up_s
              refine lv_aload_n hx hb dd_MO_bind_207 rfl (lv_at hl 3 rfl) ?_
              refine hm_get (ci := 6) (C := rn_MO) (T := ft_MO) (N := 22) hx hb hts fi_MO hown hE.K hP f711 rfl 0 (by decide) (hts _ tw_986) (fun _ h9 => h9) rfl dd_MO_bind_208 ?_
              refine hn_if_ne (tgt := 223) hx hb (by omega) dd_MO_bind_211 (by decide) (fun c712 => ?_) (fun c712 => absurd c712 (by omega))
              refine lv_iconst (v := nI 0) hx hb dd_MO_bind_223 (by decide +kernel) ?_
              have kk713 : hm_k M190 M190 [(P 0)] := hm_krf
              have kk714 : hm_k M190 M675 [(P 0)] := hm_ku kk713 (Or.inr (by simp)) eM675
              have kk715 : hm_k M190 M694 [(P 0)] := hm_ku kk714 (Or.inr (by simp)) eM694
              exact hm_Ei (v := nI 0) hx hb hr rfl hS hP (⟨bz_0 (by rw [bn_b, decide_eq_false (fun h9 => h9 (by omega))]; simp), (va_up (va_up (va_up I 0 (nI 2)) 2 (nI 0)) 18 zr189), A, L, ⟨f711, f695, f696, f697, f698, f699, f700, f701, f702, f703, f704, f705, f706, f707, f708, f709, f710, po, pb⟩, by rw [bn_c, hok, if_pos rfl, hpa, if_neg (by decide), if_pos (by omega)]; rfl, ⟨tpS_0, hX, hQ, by rw [bn_l, if_neg (by rw [bn_b, decide_eq_false (fun h9 => h9 (by omega))]; simp)]; exact hB, hK, hH, hFo, hPs⟩, (hF193).trans (cz_F.k0 kk715 (hm_a1 ⟨by rw [po 0 (by decide)]; unfold pm; omega, _, f711⟩))⟩) hlocks (by omega) (by omega) dd_MO_bind_224
          · refine lv_iconst (v := (-1)) hx hb dd_MO_bind_63 (by decide +kernel) ?_
            refine hi_icmp_eq (tgt := 71) hx hb dd_MO_bind_64 (by decide) (fun c716 => ?_) (fun c716 => ?_)
            · exact absurd c716 (by rw [nI_toInt (by omega), tm1]; omega)
            · refine lv_iconst (v := nI 1) hx hb dd_MO_bind_67 (by decide +kernel) ?_
              refine lv_goto (tgt := 72) hx hb dd_MO_bind_68 (by decide) ?_
              refine lv_istore (lv' := [(6, .int (nI 1)), (5, .int (to_I y q)), (4, .int (nI 1)), (0, .ref (P 0)), (1, .int x), (2, .int y), (3, .int (nI (bz q)))]) hx hb dd_MO_bind_72 hl (by decide) rfl (fun ls hl => ?_)
              refine lv_aload_n hx hb dd_MO_bind_74 rfl (lv_at hl 3 rfl) ?_
              refine lv_iload hx hb dd_MO_bind_75 (lv_at hl 2 rfl) ?_
              refine hn_if_ne (tgt := 84) hx hb (by omega) dd_MO_bind_77 (by decide) (fun c717 => ?_) (fun c717 => absurd c717 (by omega))
              refine lv_iload hx hb dd_MO_bind_84 (lv_at hl 0 rfl) ?_
              refine hn_if_ne (tgt := 102) hx hb (by omega) dd_MO_bind_86 (by decide) (fun c718 => ?_) (fun c718 => absurd c718 (by omega))
              refine lv_iconst (v := nI 0) hx hb dd_MO_bind_102 (by decide +kernel) ?_
              refine hm_put (ci := 6) (v := .int (nI 0)) (ty := .int) (C := rn_MO) (T := ft_MO) (N := 22) hx hb hts fi_MO fy_MO fo_MO fn_MO hown hE.K hP hS (pb 0 (by decide)) g194_0 rfl 0 (by decide) (hts _ tw_986) (fun _ h9 => h9) rfl (by decide +kernel) rfl rfl (Nat.le_of_ble_eq_true rfl) dd_MO_bind_103 (fun H locs hP hS => ?_)
              have hP : hm_P D cl_W (hm_up M190 (P 0) (.inr (6, [.int (nI 0), .ref (P 1), .int (I 2), .ref (P 3), .ref (P 4), .ref (P 5), .int (I 6), .ref (P 7), .ref (P 8), .ref (P 9), .ref (P 10), .ref (P 11), .int (I 12), .int (I 13), .ref (P 14), .ref (P 15), .ref (P 16), .ref (P 17), .int zr189, .ref (P 19), .ref (P 20), .ref (P 21)]))) H := hP
              obtain ⟨M719, eM719⟩ : ∃ z, z = hm_up M190 (P 0) (.inr (6, [.int (nI 0), .ref (P 1), .int (I 2), .ref (P 3), .ref (P 4), .ref (P 5), .int (I 6), .ref (P 7), .ref (P 8), .ref (P 9), .ref (P 10), .ref (P 11), .int (I 12), .int (I 13), .ref (P 14), .ref (P 15), .ref (P 16), .ref (P 17), .int zr189, .ref (P 19), .ref (P 20), .ref (P 21)])) := ⟨_, rfl⟩
              rw [← eM719] at hP
              have f720 : M719 (P 1) = some (.inl (D.1 102, 48, .inl (A 1))) := by rw [eM719]; exact hm_up_o (hm_neO (po 1 (by decide)) (po 0 (by decide)) (by decide)) g194_1
              have f721 : M719 (P 3) = some (.inl (D.1 102, 16, .inl (A 3))) := by rw [eM719]; exact hm_up_o (hm_neO (po 3 (by decide)) (po 0 (by decide)) (by decide)) g194_3
              have f722 : M719 (P 4) = some (.inl (D.1 102, 16, .inl (A 4))) := by rw [eM719]; exact hm_up_o (hm_neO (po 4 (by decide)) (po 0 (by decide)) (by decide)) g194_4
              have f723 : M719 (P 5) = some (.inl (D.1 101, 16, .inl (A 5))) := by rw [eM719]; exact hm_up_o (hm_neO (po 5 (by decide)) (po 0 (by decide)) (by decide)) g194_5
              have f724 : M719 (P 7) = some (.inl (D.1 102, 120, .inl (A 7))) := by rw [eM719]; exact hm_up_o (hm_neO (po 7 (by decide)) (po 0 (by decide)) (by decide)) g194_7
              have f725 : M719 (P 8) = some (.inl (D.1 102, 120, .inl (A 8))) := by rw [eM719]; exact hm_up_o (hm_neO (po 8 (by decide)) (po 0 (by decide)) (by decide)) g194_8
              have f726 : M719 (P 9) = some (.inl (D.1 102, 120, .inl (A 9))) := by rw [eM719]; exact hm_up_o (hm_neO (po 9 (by decide)) (po 0 (by decide)) (by decide)) g194_9
              have f727 : M719 (P 10) = some (.inl (D.1 102, 5760, .inl (A 10))) := by rw [eM719]; exact hm_up_o (hm_neO (po 10 (by decide)) (po 0 (by decide)) (by decide)) g194_10
              have f728 : M719 (P 11) = some (.inl (D.1 102, 48, .inl (A 11))) := by rw [eM719]; exact hm_up_o (hm_neO (po 11 (by decide)) (po 0 (by decide)) (by decide)) g194_11
              have f729 : M719 (P 14) = some (.inl (D.1 103, 6, .inr (.inl (L 14)))) := by rw [eM719]; exact hm_up_o (hm_neO (po 14 (by decide)) (po 0 (by decide)) (by decide)) g194_14
              have f730 : M719 (P 15) = some (.inl (D.1 103, 6, .inr (.inl (L 15)))) := by rw [eM719]; exact hm_up_o (hm_neO (po 15 (by decide)) (po 0 (by decide)) (by decide)) g194_15
              have f731 : M719 (P 16) = some (.inl (D.1 101, 16, .inl (A 16))) := by rw [eM719]; exact hm_up_o (hm_neO (po 16 (by decide)) (po 0 (by decide)) (by decide)) g194_16
              have f732 : M719 (P 17) = some (.inl (D.1 101, 16, .inl (A 17))) := by rw [eM719]; exact hm_up_o (hm_neO (po 17 (by decide)) (po 0 (by decide)) (by decide)) g194_17
              have f733 : M719 (P 19) = some (.inl (D.1 101, 2601, .inl (A 19))) := by rw [eM719]; exact hm_up_o (hm_neO (po 19 (by decide)) (po 0 (by decide)) (by decide)) g194_19
              have f734 : M719 (P 20) = some (.inl (D.1 102, 52, .inl (A 20))) := by rw [eM719]; exact hm_up_o (hm_neO (po 20 (by decide)) (po 0 (by decide)) (by decide)) g194_20
              have f735 : M719 (P 21) = some (.inl (D.1 102, 52, .inl (A 21))) := by rw [eM719]; exact hm_up_o (hm_neO (po 21 (by decide)) (po 0 (by decide)) (by decide)) g194_21
              have f736 : M719 (P 0) = some (.inr (6, [.int (nI 0), .ref (P 1), .int (I 2), .ref (P 3), .ref (P 4), .ref (P 5), .int (I 6), .ref (P 7), .ref (P 8), .ref (P 9), .ref (P 10), .ref (P 11), .int (I 12), .int (I 13), .ref (P 14), .ref (P 15), .ref (P 16), .ref (P 17), .int zr189, .ref (P 19), .ref (P 20), .ref (P 21)])) := by rw [eM719]; exact hm_up_s
              refine lv_aload_n hx hb dd_MO_bind_106 rfl (lv_at hl 3 rfl) ?_
              refine hm_get (ci := 6) (C := rn_MO) (T := ft_MO) (N := 22) hx hb hts fi_MO hown hE.K hP f736 rfl 0 (by decide) (hts _ tw_986) (fun _ h9 => h9) rfl dd_MO_bind_107 ?_
              refine hn_if_ne (tgt := 202) hx hb (by omega) dd_MO_bind_110 (by decide) (fun c737 => absurd c737 (by omega)) (fun c737 => ?_)
              refine lv_iload hx hb dd_MO_bind_113 (lv_at hl 0 rfl) ?_
              refine hn_if_ne (tgt := 202) hx hb (by omega) dd_MO_bind_115 (by decide) (fun c738 => ?_) (fun c738 => absurd c738 (by omega))
              refine lv_aload_n hx hb dd_MO_bind_202 rfl (lv_at hl 3 rfl) ?_
              refine lv_iconst (v := nI 0) hx hb dd_MO_bind_203 (by decide +kernel) ?_
              refine hm_put (ci := 6) (v := .int (nI 0)) (ty := .int) (C := rn_MO) (T := ft_MO) (N := 22) hx hb hts fi_MO fy_MO fo_MO fn_MO hown hE.K hP hS (pb 0 (by decide)) f736 rfl 2 (by decide) (hts _ tw_988) (fun _ h9 => h9) rfl (by decide +kernel) rfl rfl (Nat.le_of_ble_eq_true rfl) dd_MO_bind_204 (fun H locs hP hS => ?_)
              have hP : hm_P D cl_W (hm_up M719 (P 0) (.inr (6, [.int (nI 0), .ref (P 1), .int (nI 0), .ref (P 3), .ref (P 4), .ref (P 5), .int (I 6), .ref (P 7), .ref (P 8), .ref (P 9), .ref (P 10), .ref (P 11), .int (I 12), .int (I 13), .ref (P 14), .ref (P 15), .ref (P 16), .ref (P 17), .int zr189, .ref (P 19), .ref (P 20), .ref (P 21)]))) H := hP
              obtain ⟨M739, eM739⟩ : ∃ z, z = hm_up M719 (P 0) (.inr (6, [.int (nI 0), .ref (P 1), .int (nI 0), .ref (P 3), .ref (P 4), .ref (P 5), .int (I 6), .ref (P 7), .ref (P 8), .ref (P 9), .ref (P 10), .ref (P 11), .int (I 12), .int (I 13), .ref (P 14), .ref (P 15), .ref (P 16), .ref (P 17), .int zr189, .ref (P 19), .ref (P 20), .ref (P 21)])) := ⟨_, rfl⟩
              rw [← eM739] at hP
              have f740 : M739 (P 1) = some (.inl (D.1 102, 48, .inl (A 1))) := by rw [eM739]; exact hm_up_o (hm_neO (po 1 (by decide)) (po 0 (by decide)) (by decide)) f720
              have f741 : M739 (P 3) = some (.inl (D.1 102, 16, .inl (A 3))) := by rw [eM739]; exact hm_up_o (hm_neO (po 3 (by decide)) (po 0 (by decide)) (by decide)) f721
              have f742 : M739 (P 4) = some (.inl (D.1 102, 16, .inl (A 4))) := by rw [eM739]; exact hm_up_o (hm_neO (po 4 (by decide)) (po 0 (by decide)) (by decide)) f722
              have f743 : M739 (P 5) = some (.inl (D.1 101, 16, .inl (A 5))) := by rw [eM739]; exact hm_up_o (hm_neO (po 5 (by decide)) (po 0 (by decide)) (by decide)) f723
              have f744 : M739 (P 7) = some (.inl (D.1 102, 120, .inl (A 7))) := by rw [eM739]; exact hm_up_o (hm_neO (po 7 (by decide)) (po 0 (by decide)) (by decide)) f724
              have f745 : M739 (P 8) = some (.inl (D.1 102, 120, .inl (A 8))) := by rw [eM739]; exact hm_up_o (hm_neO (po 8 (by decide)) (po 0 (by decide)) (by decide)) f725
              have f746 : M739 (P 9) = some (.inl (D.1 102, 120, .inl (A 9))) := by rw [eM739]; exact hm_up_o (hm_neO (po 9 (by decide)) (po 0 (by decide)) (by decide)) f726
              have f747 : M739 (P 10) = some (.inl (D.1 102, 5760, .inl (A 10))) := by rw [eM739]; exact hm_up_o (hm_neO (po 10 (by decide)) (po 0 (by decide)) (by decide)) f727
              have f748 : M739 (P 11) = some (.inl (D.1 102, 48, .inl (A 11))) := by rw [eM739]; exact hm_up_o (hm_neO (po 11 (by decide)) (po 0 (by decide)) (by decide)) f728
              have f749 : M739 (P 14) = some (.inl (D.1 103, 6, .inr (.inl (L 14)))) := by rw [eM739]; exact hm_up_o (hm_neO (po 14 (by decide)) (po 0 (by decide)) (by decide)) f729
              have f750 : M739 (P 15) = some (.inl (D.1 103, 6, .inr (.inl (L 15)))) := by rw [eM739]; exact hm_up_o (hm_neO (po 15 (by decide)) (po 0 (by decide)) (by decide)) f730
              have f751 : M739 (P 16) = some (.inl (D.1 101, 16, .inl (A 16))) := by rw [eM739]; exact hm_up_o (hm_neO (po 16 (by decide)) (po 0 (by decide)) (by decide)) f731
              have f752 : M739 (P 17) = some (.inl (D.1 101, 16, .inl (A 17))) := by rw [eM739]; exact hm_up_o (hm_neO (po 17 (by decide)) (po 0 (by decide)) (by decide)) f732
              have f753 : M739 (P 19) = some (.inl (D.1 101, 2601, .inl (A 19))) := by rw [eM739]; exact hm_up_o (hm_neO (po 19 (by decide)) (po 0 (by decide)) (by decide)) f733
              have f754 : M739 (P 20) = some (.inl (D.1 102, 52, .inl (A 20))) := by rw [eM739]; exact hm_up_o (hm_neO (po 20 (by decide)) (po 0 (by decide)) (by decide)) f734
              have f755 : M739 (P 21) = some (.inl (D.1 102, 52, .inl (A 21))) := by rw [eM739]; exact hm_up_o (hm_neO (po 21 (by decide)) (po 0 (by decide)) (by decide)) f735
              have f756 : M739 (P 0) = some (.inr (6, [.int (nI 0), .ref (P 1), .int (nI 0), .ref (P 3), .ref (P 4), .ref (P 5), .int (I 6), .ref (P 7), .ref (P 8), .ref (P 9), .ref (P 10), .ref (P 11), .int (I 12), .int (I 13), .ref (P 14), .ref (P 15), .ref (P 16), .ref (P 17), .int zr189, .ref (P 19), .ref (P 20), .ref (P 21)])) := by rw [eM739]; exact hm_up_s
              refine lv_aload_n hx hb dd_MO_bind_207 rfl (lv_at hl 3 rfl) ?_
              refine hm_get (ci := 6) (C := rn_MO) (T := ft_MO) (N := 22) hx hb hts fi_MO hown hE.K hP f756 rfl 0 (by decide) (hts _ tw_986) (fun _ h9 => h9) rfl dd_MO_bind_208 ?_
              refine hn_if_ne (tgt := 223) hx hb (by omega) dd_MO_bind_211 (by decide) (fun c757 => absurd c757 (by omega)) (fun c757 => ?_)
              refine lv_iload hx hb dd_MO_bind_214 (lv_at hl 0 rfl) ?_
              refine hn_if_ne (tgt := 223) hx hb (by omega) dd_MO_bind_216 (by decide) (fun c758 => ?_) (fun c758 => absurd c758 (by omega))
              refine lv_iconst (v := nI 0) hx hb dd_MO_bind_223 (by decide +kernel) ?_
              have kk759 : hm_k M190 M190 [(P 0)] := hm_krf
              have kk760 : hm_k M190 M719 [(P 0)] := hm_ku kk759 (Or.inr (by simp)) eM719
              have kk761 : hm_k M190 M739 [(P 0)] := hm_ku kk760 (Or.inr (by simp)) eM739
              exact hm_Ei (v := nI 0) hx hb hr rfl hS hP (⟨bz_0 (by rw [bn_b, hpa]; simp), (va_up (va_up (va_up I 0 (nI 0)) 2 (nI 0)) 18 zr189), A, L, ⟨f756, f740, f741, f742, f743, f744, f745, f746, f747, f748, f749, f750, f751, f752, f753, f754, f755, po, pb⟩, by rw [bn_c, hok, if_pos rfl, hpa]; rfl, ⟨tpS_0, hX, hQ, by rw [bn_l, if_neg (by rw [bn_b, hpa]; simp)]; exact hB, hK, hH, hFo, hPs⟩, (hF193).trans (cz_F.k0 kk761 (hm_a1 ⟨by rw [po 0 (by decide)]; unfold pm; omega, _, f756⟩))⟩) hlocks (by omega) (by omega) dd_MO_bind_224
set_option maxHeartbeats 4000000 in
set_option maxRecDepth 100000 in
theorem kc_MO_headerOf (l : Launch) (B : Nat) (D : va_G) (G : Nat → Nat) (M : hm_M) (P O : Nat → Nat) (I : Nat → Int32) (A : Nat → Nat → Int32) (L : Nat → Nat → Int64) (hD : mo_D B D P O M I A L) (hs : List (List Nat × List Nat)) (hH : hdS (I 13) (L 14) (L 15) hs) (nm : List Nat) (hnm : nm_ok nm = true) : Met l yy_MO_headerOf ws_MO_headerOf ({ frames := 0, cells := 0, slots := 0, locals := 0 }) (hm_Pc B D G M [.ref (P 0), .long (cd nm)]) (hm_Ni B D (fun r M1 => hf_R hs nm r ∧ M1 = M)) (0) (0) (hm_A B) := by
  refine Met.ofW (cc := cd_MO_headerOf) (maxL := 4) (ret := ((some FieldType.int))) (by decide) rfl ?_
  intro p e s m args below meth c s₁ B0 hml hv
  obtain ⟨rfl, hE, hP⟩ := hv
  have hx := B0.exec
  have hb := B0.bytes
  have hr := B0.returns
  have hts : ∀ w ∈ tb_G, w.before _ s = true := fun w h => atoms_spec (ws := ws_MO_headerOf) B0.pre w (List.mem_cons_of_mem _ h)
  have hown : s.vm.findClass "RouteDeskModel" = some m.cls := findClass_of_methodNamed B0.named
  have hlocks := B0.notSynchronized
  have hRf : (headSpec ws_MO_headerOf { frames := 0, cells := 0, slots := 0, locals := 0 }).room.frames = 0 := rfl
  have hRl : (headSpec ws_MO_headerOf { frames := 0, cells := 0, slots := 0, locals := 0 }).room.locals = 0 := rfl
  have hRc : (headSpec ws_MO_headerOf { frames := 0, cells := 0, slots := 0, locals := 0 }).room.cells = 0 := rfl
  have hRs : (headSpec ws_MO_headerOf { frames := 0, cells := 0, slots := 0, locals := 0 }).room.slots = 0 := rfl
  generalize (headSpec ws_MO_headerOf { frames := 0, cells := 0, slots := 0, locals := 0 }).room = R at hRf hRl hRc hRs ⊢
  have hS : va_S (hm_A B) s.heap s.heap [] := va_S.rf
  have hl := lv_entry ([.ref (P 0), .long (cd nm)]) (n := 4) (Nat.le_of_ble_eq_true rfl)
  rw [lg_entry_eq]
  generalize (lg_sl ([.ref (P 0), .long (cd nm)]) ++ List.replicate (4 - (lg_sl ([.ref (P 0), .long (cd nm)])).length) Slot.unset).toArray = ls at hl ⊢
  have hl : lv_has ls 4 [(0, .ref (P 0)), (1, .long (cd nm))] := hl
  have t16 : (nI 16).toInt = 16 := by decide
  have tm1 : (-1 : Int32).toInt = -1 := by decide
  have t0 : (nI 0).toInt = 0 := by decide
  have t2 : (nI 2).toInt = 2 := by decide
  have t3 : (nI 3).toInt = 3 := by decide
  have t1 : (nI 1).toInt = 1 := by decide
  have t4 : (nI 4).toInt = 4 := by decide
  obtain ⟨p0, p1, p3, p4, p5, p7, p8, p9, p10, p11, p14, p15, p16, p17, p19, p20, p21, po, pb⟩ := id hD
  obtain ⟨hi1, hi2, hi3⟩ := id hH
  refine lv_iconst (v := nI 0) hx hb dd_MO_headerOf_0 (by decide +kernel) ?_
  refine lv_istore_n (lv' := [(3, .int (nI 0)), (0, .ref (P 0)), (1, .long (cd nm))]) hx hb dd_MO_headerOf_1 rfl hl (by decide) rfl (fun ls hl => ?_)
  have lp2 : ∀ (n9 : Nat) (k : Nat), (k ≤ hs.length) → (∀ j, j < k → ∀ g, hs[j]? = some g → ¬ g.1 = nm) → hs.length - k < n9 → ∀ (H : Heap) (locs : List Loc) (ls : Array Slot), hm_P D cl_W M H → va_S (hm_A B) s.heap H locs → lv_has ls 4 [(0, .ref (P 0)), (1, .long (cd nm)), (3, .int (nI k))] → W p l e R s m ([.ref (P 0), .long (cd nm)] : List Value).toArray below meth c H locs (0) (0) (MQ below (hm_Ni B D (fun r M1 => hf_R hs nm r ∧ M1 = M)) ([.ref (P 0), .long (cd nm)] : List Value).toArray s (0) (0) (hm_A B)) (F0 m 2 ls []) := by
    intro n9
    induction n9 with
    | zero => intro k hk hno hm; exact absurd hm (Nat.not_lt_zero _)
    | succ n9 ih2 =>
      intro k hk hno hm H locs ls hP hS hl
      refine lv_iload_n hx hb dd_MO_headerOf_2 rfl (lv_at hl 2 rfl) ?_
      refine lv_aload_n hx hb dd_MO_headerOf_3 rfl (lv_at hl 0 rfl) ?_
      refine hm_get (ci := 6) (C := rn_MO) (T := ft_MO) (N := 22) hx hb hts fi_MO hown hE.K hP p0 rfl 13 (by decide) (hts _ tw_999) (fun _ h9 => h9) rfl dd_MO_headerOf_4 ?_
      refine W.eq (g2 := F0 m 7 ls [.int (nI hs.length), .int (nI k)]) (by rw [hi1]) ?_
      refine hn_icmp_ge (tgt := 29) hx hb (by omega) (by omega) dd_MO_headerOf_7 (by decide) (fun c1 => ?_) (fun c1 => ?_)
      · refine lv_iconst (v := (-1)) hx hb dd_MO_headerOf_29 (by decide +kernel) ?_
        exact hm_Ei (v := (-1)) hx hb hr rfl hS hP (⟨Or.inr ⟨rfl, fun g hg => by
            obtain ⟨j, hj⟩ := List.getElem?_of_mem hg
            exact hno j (by have := (List.getElem?_eq_some_iff.mp hj).1; omega) g hj⟩, rfl⟩) hlocks (by omega) (by omega) dd_MO_headerOf_30
      · obtain ⟨h9, hh1⟩ : ∃ h9, hs[k]? = some h9 := ⟨_, List.getElem?_eq_getElem (by omega)⟩
        obtain ⟨hh2, hh3, hh4, hh5⟩ := hi3 k h9 hh1
        have hceq := cd_eq (nm_rr hh4).1 (nm_rr hnm).1 (nm_rr hh4).2 (nm_rr hnm).2
        refine lv_aload_n hx hb dd_MO_headerOf_10 rfl (lv_at hl 0 rfl) ?_
        refine hm_get (ci := 6) (C := rn_MO) (T := ft_MO) (N := 22) hx hb hts fi_MO hown hE.K hP p0 rfl 14 (by decide) (hts _ tw_1000) (fun _ h9 => h9) rfl dd_MO_headerOf_11 ?_
        refine lv_iload_n hx hb dd_MO_headerOf_14 rfl (lv_at hl 2 rfl) ?_
        refine hm_lald (j := k) hx hb hE.K hP 3 p14 rfl (vp_in_nI (by omega) (by omega)) (nI_clamp (by omega)) dd_MO_headerOf_15 ?_
        refine W.eq (g2 := F0 m 16 ls [.long (cd h9.1)]) (by rw [hh2]) ?_
        refine lv_lload_n hx hb dd_MO_headerOf_16 rfl (lv_at hl 1 rfl) ?_
        refine W.lcmp hx hb dd_MO_headerOf_17 ?_
        refine hi_if_ne (tgt := 23) hx hb dd_MO_headerOf_18 (by decide) (fun c2 => ?_) (fun c2 => ?_)
        · have hcn : ¬ h9.1 = nm := fun q8 => lc_ne c2 (hceq.mpr q8)
          refine lv_iinc (v := nI (k + 1)) (lv' := [(3, .int (nI (k + 1))), (0, .ref (P 0)), (1, .long (cd nm))]) hx hb dd_MO_headerOf_23 hl (k := 2) rfl (nI_1 k) (by decide) rfl (fun ls hl => ?_)
          refine lv_goto (tgt := 2) hx hb dd_MO_headerOf_26 (by decide) ?_
          exact ih2 (k + 1) (by omega) (fun j hj z2 hz2 => by
              by_cases h8 : j = k
              · subst h8; rw [hh1] at hz2; cases hz2; exact hcn
              · exact hno j (by omega) z2 hz2) (by omega) _ _ _ hP hS (lv_sub hl [1, 2, 0] rfl)
        · have hcy : h9.1 = nm := hceq.mp (lc_eq c2)
          refine lv_iload_n hx hb dd_MO_headerOf_21 rfl (lv_at hl 2 rfl) ?_
          exact hm_Ei (v := nI k) hx hb hr rfl hS hP (⟨Or.inl ⟨k, h9, rfl, hh1, hcy, hno⟩, rfl⟩) hlocks (by omega) (by omega) dd_MO_headerOf_22
  exact lp2 _ 0 (Nat.zero_le _) (fun j hj => absurd hj (Nat.not_lt_zero _)) (Nat.lt_succ_self _) _ _ _ hP hS (lv_sub hl [1, 2, 0] rfl)
theorem hdS_add {f g : Nat → Int64} {hs : List (List Nat × List Nat)} {n v : List Nat} (h : hdS (nI hs.length) f g hs) (hl : hs.length < 6) (hn : nm_ok n = true) (hv : vl_ok v = true) : hdS (nI (hs.length + 1)) (vp_updL f hs.length (cd n)) (vp_updL g hs.length (cd v)) (hs ++ [(n, v)]) := by
  refine ⟨by rw [List.length_append]; rfl, by rw [List.length_append, List.length_singleton]; omega, fun j d hd => ?_⟩
  unfold vp_updL
  by_cases e : j < hs.length
  · rw [List.getElem?_append_left e] at hd
    rw [if_neg (by omega), if_neg (by omega)]
    exact h.2.2 j d hd
  · have hb := (List.getElem?_eq_some_iff.mp hd).1
    rw [List.length_append, List.length_singleton] at hb
    have : j = hs.length := by omega
    subst this
    rw [List.getElem?_append_right (Nat.le_refl _), Nat.sub_self] at hd
    cases hd
    rw [if_pos rfl, if_pos rfl]
    exact ⟨rfl, rfl, hn, hv⟩
theorem hdS_set {f g : Nat → Int64} {hs : List (List Nat × List Nat)} {n v : List Nat} {i : Nat} {m : Int32} (h : hdS m f g hs) (hl : i < hs.length) (hn : nm_ok n = true) (hv : vl_ok v = true) : hdS m (vp_updL f i (cd n)) (vp_updL g i (cd v)) (hs.set i (n, v)) := by
  refine ⟨by rw [List.length_set]; exact h.1, by rw [List.length_set]; exact h.2.1, fun j d hd => ?_⟩
  unfold vp_updL
  rw [List.getElem?_set] at hd
  by_cases e : i = j
  · rw [if_pos e, if_pos hl] at hd
    cases hd
    rw [if_pos e.symm, if_pos e.symm]
    exact ⟨rfl, rfl, hn, hv⟩
  · rw [if_neg e] at hd
    rw [if_neg (fun q => e q.symm), if_neg (fun q => e q.symm)]
    exact h.2.2 j d hd

set_option maxHeartbeats 4000000 in
set_option maxRecDepth 100000 in
theorem kc_MO_header (l : Launch) (B : Nat) (D : va_G) (G : Nat → Nat) (M : hm_M) (P O : Nat → Nat) (I : Nat → Int32) (A : Nat → Nat → Int32) (L : Nat → Nat → Int64) (hD : mo_D B D P O M I A L) (t : List Nat) (ex : Nat → Option (Int32 × Int32)) (qs : Nat → Bool) (bs : List bd_T) (key : List Nat) (hs : List (List Nat × List Nat)) (fo ps : Nat → Bool) (hZ : mo_S I A L t ex qs bs key hs fo ps) : Met l yy_MO_header ws_MO_header ({ frames := 3, cells := 0, slots := 0, locals := 64 }) (hm_Pc B D G M [.ref (P 0)]) (hm_Ni B D (fun r M1 => r = nI (bz (hd_b t hs)) ∧ ∃ I1 A1 L1, mo_D B D P O M1 I1 A1 L1 ∧ I1 0 = nI 0 ∧ mo_S I1 A1 L1 ([]) ex qs bs key (hd_h t hs) fo ps ∧ cz_F O M O M1 pm)) (0) (0) (hm_A B) := by
  refine Met.ofW (cc := cd_MO_header) (maxL := 7) (ret := ((some FieldType.boolean))) (by decide) rfl ?_
  intro p e s m args below meth c s₁ B0 hml hv
  obtain ⟨rfl, hE, hP⟩ := hv
  have hx := B0.exec
  have hb := B0.bytes
  have hr := B0.returns
  have hts : ∀ w ∈ tb_G, w.before _ s = true := fun w h => atoms_spec (ws := ws_MO_header) B0.pre w (List.mem_cons_of_mem _ h)
  have hown : s.vm.findClass "RouteDeskModel" = some m.cls := findClass_of_methodNamed B0.named
  have hlocks := B0.notSynchronized
  have hRf : (headSpec ws_MO_header { frames := 3, cells := 0, slots := 0, locals := 64 }).room.frames = 3 := rfl
  have hRl : (headSpec ws_MO_header { frames := 3, cells := 0, slots := 0, locals := 64 }).room.locals = 64 := rfl
  have hRc : (headSpec ws_MO_header { frames := 3, cells := 0, slots := 0, locals := 64 }).room.cells = 0 := rfl
  have hRs : (headSpec ws_MO_header { frames := 3, cells := 0, slots := 0, locals := 64 }).room.slots = 0 := rfl
  generalize (headSpec ws_MO_header { frames := 3, cells := 0, slots := 0, locals := 64 }).room = R at hRf hRl hRc hRs ⊢
  have hS : va_S (hm_A B) s.heap s.heap [] := va_S.rf
  have hl := lv_entry ([.ref (P 0)]) (n := 7) (Nat.le_of_ble_eq_true rfl)
  rw [lg_entry_eq]
  generalize (lg_sl ([.ref (P 0)]) ++ List.replicate (7 - (lg_sl ([.ref (P 0)])).length) Slot.unset).toArray = ls at hl ⊢
  have hl : lv_has ls 7 [(0, .ref (P 0))] := hl
  have t16 : (nI 16).toInt = 16 := by decide
  have tm1 : (-1 : Int32).toInt = -1 := by decide
  have t0 : (nI 0).toInt = 0 := by decide
  have t2 : (nI 2).toInt = 2 := by decide
  have t3 : (nI 3).toInt = 3 := by decide
  have t1 : (nI 1).toInt = 1 := by decide
  have t4 : (nI 4).toInt = 4 := by decide
  obtain ⟨p0, p1, p3, p4, p5, p7, p8, p9, p10, p11, p14, p15, p16, p17, p19, p20, p21, po, pb⟩ := id hD
  obtain ⟨hT, hX, hQ, hB, hK, hH, hFo, hPs⟩ := id hZ
  obtain ⟨ti1, ti2, ti3, ti4⟩ := id hT
  obtain ⟨bi1, bi2, bi3⟩ := id hB
  obtain ⟨ki1, ki2, ki3, ki4⟩ := id hK
  obtain ⟨hi1, hi2, hi3⟩ := id hH
  refine lv_aload_n hx hb dd_MO_header_0 rfl (lv_at hl 0 rfl) ?_
  refine lv_iconst (v := nI 0) hx hb dd_MO_header_1 (by decide +kernel) ?_
  refine hm_put (ci := 6) (v := .int (nI 0)) (ty := .int) (C := rn_MO) (T := ft_MO) (N := 22) hx hb hts fi_MO fy_MO fo_MO fn_MO hown hE.K hP hS (pb 0 (by decide)) p0 rfl 0 (by decide) (hts _ tw_986) (fun _ h9 => h9) rfl (by decide +kernel) rfl rfl (Nat.le_of_ble_eq_true rfl) dd_MO_header_2 (fun H locs hP hS => ?_)
  have hP : hm_P D cl_W (hm_up M (P 0) (.inr (6, [.int (nI 0), .ref (P 1), .int (I 2), .ref (P 3), .ref (P 4), .ref (P 5), .int (I 6), .ref (P 7), .ref (P 8), .ref (P 9), .ref (P 10), .ref (P 11), .int (I 12), .int (I 13), .ref (P 14), .ref (P 15), .ref (P 16), .ref (P 17), .int (I 18), .ref (P 19), .ref (P 20), .ref (P 21)]))) H := hP
  obtain ⟨M1, eM1⟩ : ∃ z, z = hm_up M (P 0) (.inr (6, [.int (nI 0), .ref (P 1), .int (I 2), .ref (P 3), .ref (P 4), .ref (P 5), .int (I 6), .ref (P 7), .ref (P 8), .ref (P 9), .ref (P 10), .ref (P 11), .int (I 12), .int (I 13), .ref (P 14), .ref (P 15), .ref (P 16), .ref (P 17), .int (I 18), .ref (P 19), .ref (P 20), .ref (P 21)])) := ⟨_, rfl⟩
  rw [← eM1] at hP
  have f2 : M1 (P 1) = some (.inl (D.1 102, 48, .inl (A 1))) := by rw [eM1]; exact hm_up_o (hm_neO (po 1 (by decide)) (po 0 (by decide)) (by decide)) p1
  have f3 : M1 (P 3) = some (.inl (D.1 102, 16, .inl (A 3))) := by rw [eM1]; exact hm_up_o (hm_neO (po 3 (by decide)) (po 0 (by decide)) (by decide)) p3
  have f4 : M1 (P 4) = some (.inl (D.1 102, 16, .inl (A 4))) := by rw [eM1]; exact hm_up_o (hm_neO (po 4 (by decide)) (po 0 (by decide)) (by decide)) p4
  have f5 : M1 (P 5) = some (.inl (D.1 101, 16, .inl (A 5))) := by rw [eM1]; exact hm_up_o (hm_neO (po 5 (by decide)) (po 0 (by decide)) (by decide)) p5
  have f6 : M1 (P 7) = some (.inl (D.1 102, 120, .inl (A 7))) := by rw [eM1]; exact hm_up_o (hm_neO (po 7 (by decide)) (po 0 (by decide)) (by decide)) p7
  have f7 : M1 (P 8) = some (.inl (D.1 102, 120, .inl (A 8))) := by rw [eM1]; exact hm_up_o (hm_neO (po 8 (by decide)) (po 0 (by decide)) (by decide)) p8
  have f8 : M1 (P 9) = some (.inl (D.1 102, 120, .inl (A 9))) := by rw [eM1]; exact hm_up_o (hm_neO (po 9 (by decide)) (po 0 (by decide)) (by decide)) p9
  have f9 : M1 (P 10) = some (.inl (D.1 102, 5760, .inl (A 10))) := by rw [eM1]; exact hm_up_o (hm_neO (po 10 (by decide)) (po 0 (by decide)) (by decide)) p10
  have f10 : M1 (P 11) = some (.inl (D.1 102, 48, .inl (A 11))) := by rw [eM1]; exact hm_up_o (hm_neO (po 11 (by decide)) (po 0 (by decide)) (by decide)) p11
  have f11 : M1 (P 14) = some (.inl (D.1 103, 6, .inr (.inl (L 14)))) := by rw [eM1]; exact hm_up_o (hm_neO (po 14 (by decide)) (po 0 (by decide)) (by decide)) p14
  have f12 : M1 (P 15) = some (.inl (D.1 103, 6, .inr (.inl (L 15)))) := by rw [eM1]; exact hm_up_o (hm_neO (po 15 (by decide)) (po 0 (by decide)) (by decide)) p15
  have f13 : M1 (P 16) = some (.inl (D.1 101, 16, .inl (A 16))) := by rw [eM1]; exact hm_up_o (hm_neO (po 16 (by decide)) (po 0 (by decide)) (by decide)) p16
  have f14 : M1 (P 17) = some (.inl (D.1 101, 16, .inl (A 17))) := by rw [eM1]; exact hm_up_o (hm_neO (po 17 (by decide)) (po 0 (by decide)) (by decide)) p17
  have f15 : M1 (P 19) = some (.inl (D.1 101, 2601, .inl (A 19))) := by rw [eM1]; exact hm_up_o (hm_neO (po 19 (by decide)) (po 0 (by decide)) (by decide)) p19
  have f16 : M1 (P 20) = some (.inl (D.1 102, 52, .inl (A 20))) := by rw [eM1]; exact hm_up_o (hm_neO (po 20 (by decide)) (po 0 (by decide)) (by decide)) p20
  have f17 : M1 (P 21) = some (.inl (D.1 102, 52, .inl (A 21))) := by rw [eM1]; exact hm_up_o (hm_neO (po 21 (by decide)) (po 0 (by decide)) (by decide)) p21
  have f18 : M1 (P 0) = some (.inr (6, [.int (nI 0), .ref (P 1), .int (I 2), .ref (P 3), .ref (P 4), .ref (P 5), .int (I 6), .ref (P 7), .ref (P 8), .ref (P 9), .ref (P 10), .ref (P 11), .int (I 12), .int (I 13), .ref (P 14), .ref (P 15), .ref (P 16), .ref (P 17), .int (I 18), .ref (P 19), .ref (P 20), .ref (P 21)])) := by rw [eM1]; exact hm_up_s
  refine lv_aload_n hx hb dd_MO_header_5 rfl (lv_at hl 0 rfl) ?_
  refine lv_iconst (v := nI 0) hx hb dd_MO_header_6 (by decide +kernel) ?_
  refine hm_put (ci := 6) (v := .int (nI 0)) (ty := .int) (C := rn_MO) (T := ft_MO) (N := 22) hx hb hts fi_MO fy_MO fo_MO fn_MO hown hE.K hP hS (pb 0 (by decide)) f18 rfl 18 (by decide) (hts _ tw_1004) (fun _ h9 => h9) rfl (by decide +kernel) rfl rfl (Nat.le_of_ble_eq_true rfl) dd_MO_header_7 (fun H locs hP hS => ?_)
  have hP : hm_P D cl_W (hm_up M1 (P 0) (.inr (6, [.int (nI 0), .ref (P 1), .int (I 2), .ref (P 3), .ref (P 4), .ref (P 5), .int (I 6), .ref (P 7), .ref (P 8), .ref (P 9), .ref (P 10), .ref (P 11), .int (I 12), .int (I 13), .ref (P 14), .ref (P 15), .ref (P 16), .ref (P 17), .int (nI 0), .ref (P 19), .ref (P 20), .ref (P 21)]))) H := hP
  obtain ⟨M19, eM19⟩ : ∃ z, z = hm_up M1 (P 0) (.inr (6, [.int (nI 0), .ref (P 1), .int (I 2), .ref (P 3), .ref (P 4), .ref (P 5), .int (I 6), .ref (P 7), .ref (P 8), .ref (P 9), .ref (P 10), .ref (P 11), .int (I 12), .int (I 13), .ref (P 14), .ref (P 15), .ref (P 16), .ref (P 17), .int (nI 0), .ref (P 19), .ref (P 20), .ref (P 21)])) := ⟨_, rfl⟩
  rw [← eM19] at hP
  have f20 : M19 (P 1) = some (.inl (D.1 102, 48, .inl (A 1))) := by rw [eM19]; exact hm_up_o (hm_neO (po 1 (by decide)) (po 0 (by decide)) (by decide)) f2
  have f21 : M19 (P 3) = some (.inl (D.1 102, 16, .inl (A 3))) := by rw [eM19]; exact hm_up_o (hm_neO (po 3 (by decide)) (po 0 (by decide)) (by decide)) f3
  have f22 : M19 (P 4) = some (.inl (D.1 102, 16, .inl (A 4))) := by rw [eM19]; exact hm_up_o (hm_neO (po 4 (by decide)) (po 0 (by decide)) (by decide)) f4
  have f23 : M19 (P 5) = some (.inl (D.1 101, 16, .inl (A 5))) := by rw [eM19]; exact hm_up_o (hm_neO (po 5 (by decide)) (po 0 (by decide)) (by decide)) f5
  have f24 : M19 (P 7) = some (.inl (D.1 102, 120, .inl (A 7))) := by rw [eM19]; exact hm_up_o (hm_neO (po 7 (by decide)) (po 0 (by decide)) (by decide)) f6
  have f25 : M19 (P 8) = some (.inl (D.1 102, 120, .inl (A 8))) := by rw [eM19]; exact hm_up_o (hm_neO (po 8 (by decide)) (po 0 (by decide)) (by decide)) f7
  have f26 : M19 (P 9) = some (.inl (D.1 102, 120, .inl (A 9))) := by rw [eM19]; exact hm_up_o (hm_neO (po 9 (by decide)) (po 0 (by decide)) (by decide)) f8
  have f27 : M19 (P 10) = some (.inl (D.1 102, 5760, .inl (A 10))) := by rw [eM19]; exact hm_up_o (hm_neO (po 10 (by decide)) (po 0 (by decide)) (by decide)) f9
  have f28 : M19 (P 11) = some (.inl (D.1 102, 48, .inl (A 11))) := by rw [eM19]; exact hm_up_o (hm_neO (po 11 (by decide)) (po 0 (by decide)) (by decide)) f10
  have f29 : M19 (P 14) = some (.inl (D.1 103, 6, .inr (.inl (L 14)))) := by rw [eM19]; exact hm_up_o (hm_neO (po 14 (by decide)) (po 0 (by decide)) (by decide)) f11
  have f30 : M19 (P 15) = some (.inl (D.1 103, 6, .inr (.inl (L 15)))) := by rw [eM19]; exact hm_up_o (hm_neO (po 15 (by decide)) (po 0 (by decide)) (by decide)) f12
  have f31 : M19 (P 16) = some (.inl (D.1 101, 16, .inl (A 16))) := by rw [eM19]; exact hm_up_o (hm_neO (po 16 (by decide)) (po 0 (by decide)) (by decide)) f13
  have f32 : M19 (P 17) = some (.inl (D.1 101, 16, .inl (A 17))) := by rw [eM19]; exact hm_up_o (hm_neO (po 17 (by decide)) (po 0 (by decide)) (by decide)) f14
  have f33 : M19 (P 19) = some (.inl (D.1 101, 2601, .inl (A 19))) := by rw [eM19]; exact hm_up_o (hm_neO (po 19 (by decide)) (po 0 (by decide)) (by decide)) f15
  have f34 : M19 (P 20) = some (.inl (D.1 102, 52, .inl (A 20))) := by rw [eM19]; exact hm_up_o (hm_neO (po 20 (by decide)) (po 0 (by decide)) (by decide)) f16
  have f35 : M19 (P 21) = some (.inl (D.1 102, 52, .inl (A 21))) := by rw [eM19]; exact hm_up_o (hm_neO (po 21 (by decide)) (po 0 (by decide)) (by decide)) f17
  have f36 : M19 (P 0) = some (.inr (6, [.int (nI 0), .ref (P 1), .int (I 2), .ref (P 3), .ref (P 4), .ref (P 5), .int (I 6), .ref (P 7), .ref (P 8), .ref (P 9), .ref (P 10), .ref (P 11), .int (I 12), .int (I 13), .ref (P 14), .ref (P 15), .ref (P 16), .ref (P 17), .int (nI 0), .ref (P 19), .ref (P 20), .ref (P 21)])) := by rw [eM19]; exact hm_up_s
  refine lv_aload_n hx hb dd_MO_header_10 rfl (lv_at hl 0 rfl) ?_
  refine lv_aload_n hx hb dd_MO_header_11 rfl (lv_at hl 0 rfl) ?_
  refine hm_get (ci := 6) (C := rn_MO) (T := ft_MO) (N := 22) hx hb hts fi_MO hown hE.K hP f36 rfl 2 (by decide) (hts _ tw_988) (fun _ h9 => h9) rfl dd_MO_header_12 ?_
  refine W.eq (g2 := F0 m 15 ls [.int (nI t.length), .ref (P 0)]) (by rw [ti1]) ?_
  have kk38 : hm_k M M [(P 0)] := hm_krf
  have kk39 : hm_k M M1 [(P 0)] := hm_ku kk38 (Or.inr (by simp)) eM1
  have kk40 : hm_k M M19 [(P 0)] := hm_ku kk39 (Or.inr (by simp)) eM19
  have hF41 : cz_F O M O M19 pm := cz_F.k0 kk40 (hm_a1 ⟨by rw [po 0 (by decide)]; unfold pm; omega, _, f36⟩)
  have hd37 : mo_D B D P O M19 (va_up (va_up I 0 (nI 0)) 18 (nI 0)) A L := ⟨f36, f20, f21, f22, f23, f24, f25, f26, f27, f28, f29, f30, f31, f32, f33, f34, f35, po, pb⟩
  refine hm_cl hS (hm_rV 1 (As := [.int (nI t.length)]) (rest := []) ⟨hx, hb, hml, hown, hts⟩ hE hS hP (kc_MO_readName l B D G M19 P O (va_up (va_up I 0 (nI 0)) 18 (nI 0)) A L hd37 t hT 0 (Nat.zero_le _) rfl) rfl f36 tw_1118 tw_1115 tw_1117 tw_25 tw_46 (by decide +kernel) rfl rfl ⟨by show 1 + 1 ≤ R.frames; omega, by show 8 + (5 + 11) + 20 ≤ R.locals; omega⟩ rfl hl.1 rfl (Nat.le_of_ble_eq_true rfl) dd_MO_header_15 ⟨by omega, by omega⟩) (fun r42 M43 H locs hw44 hP hS => ?_)
  refine W.widen (k := 0) (n := 0) (by omega) (by omega) ?_
  obtain ⟨er42, hnr42, hvr42, hd45, hF46⟩ := hw44
  have hF46 := hF41.trans hF46
  obtain ⟨g47_0, g47_1, g47_3, g47_4, g47_5, g47_7, g47_8, g47_9, g47_10, g47_11, g47_14, g47_15, g47_16, g47_17, g47_19, g47_20, g47_21, -, -⟩ := id hd45
  have g47_0 : M43 (P 0) = some (.inr (6, [.int (nI 0), .ref (P 1), .int (I 2), .ref (P 3), .ref (P 4), .ref (P 5), .int (I 6), .ref (P 7), .ref (P 8), .ref (P 9), .ref (P 10), .ref (P 11), .int (I 12), .int (I 13), .ref (P 14), .ref (P 15), .ref (P 16), .ref (P 17), .int (nI er42), .ref (P 19), .ref (P 20), .ref (P 21)])) := g47_0
  have hb1r42 := hnr42.1
  have hb2r42 := hnr42.2.1
  have hb3r42 := tx_lt ti4 er42
  refine lv_lstore_n (lv' := [(1, .long r42), (0, .ref (P 0))]) hx hb dd_MO_header_18 rfl hl (by decide) rfl (fun ls hl => ?_)
  refine lv_lload_n hx hb dd_MO_header_19 rfl (lv_at hl 0 rfl) ?_
  refine lv_ldc2 (v := -1) hx hb hown (hts _ tw_1122) dd_MO_header_20 ?_
  refine W.lcmp hx hb dd_MO_header_23 ?_
  refine hi_if_eq (tgt := 56) hx hb dd_MO_header_24 (by decide) (fun c48 => ?_) (fun c48 => ?_)
  · have hnm : ¬ (1 ≤ er42 - 0 ∧ er42 - 0 < 7) := fun h9 => by
      have h8 := lc_eq c48
      rw [hvr42, if_pos h9] at h8
      exact cd_ne (fun c hc => (rn_r hnr42 (fun _ => sm_r) c hc).2) (by rw [rn_len hnr42]; omega) h8
    have hpr := hd_1 hnr42 (Or.inl hnm)
    refine lv_iconst (v := nI 0) hx hb dd_MO_header_56 (by decide +kernel) ?_
    refine lv_istore_n (lv' := [(3, .int (nI 0)), (1, .long r42), (0, .ref (P 0))]) hx hb dd_MO_header_57 rfl hl (by decide) rfl (fun ls hl => ?_)
    refine lv_aload_n hx hb dd_MO_header_58 rfl (lv_at hl 2 rfl) ?_
    refine lv_dup hx hb dd_MO_header_59 rfl ?_
    refine hm_get (ci := 6) (C := rn_MO) (T := ft_MO) (N := 22) hx hb hts fi_MO hown hE.K hP g47_0 rfl 18 (by decide) (hts _ tw_1004) (fun _ h9 => h9) rfl dd_MO_header_60 ?_
    refine lv_iconst (v := nI 1) hx hb dd_MO_header_63 (by decide +kernel) ?_
    refine hn_iadd hx hb dd_MO_header_64 ?_
    refine hm_put (ci := 6) (v := .int (nI (er42 + 1))) (ty := .int) (C := rn_MO) (T := ft_MO) (N := 22) hx hb hts fi_MO fy_MO fo_MO fn_MO hown hE.K hP hS (pb 0 (by decide)) g47_0 rfl 18 (by decide) (hts _ tw_1004) (fun _ h9 => h9) rfl (by decide +kernel) rfl rfl (Nat.le_of_ble_eq_true rfl) dd_MO_header_65 (fun H locs hP hS => ?_)
    have hP : hm_P D cl_W (hm_up M43 (P 0) (.inr (6, [.int (nI 0), .ref (P 1), .int (I 2), .ref (P 3), .ref (P 4), .ref (P 5), .int (I 6), .ref (P 7), .ref (P 8), .ref (P 9), .ref (P 10), .ref (P 11), .int (I 12), .int (I 13), .ref (P 14), .ref (P 15), .ref (P 16), .ref (P 17), .int (nI (er42 + 1)), .ref (P 19), .ref (P 20), .ref (P 21)]))) H := hP
    obtain ⟨M49, eM49⟩ : ∃ z, z = hm_up M43 (P 0) (.inr (6, [.int (nI 0), .ref (P 1), .int (I 2), .ref (P 3), .ref (P 4), .ref (P 5), .int (I 6), .ref (P 7), .ref (P 8), .ref (P 9), .ref (P 10), .ref (P 11), .int (I 12), .int (I 13), .ref (P 14), .ref (P 15), .ref (P 16), .ref (P 17), .int (nI (er42 + 1)), .ref (P 19), .ref (P 20), .ref (P 21)])) := ⟨_, rfl⟩
    rw [← eM49] at hP
    have f50 : M49 (P 1) = some (.inl (D.1 102, 48, .inl (A 1))) := by rw [eM49]; exact hm_up_o (hm_neO (po 1 (by decide)) (po 0 (by decide)) (by decide)) g47_1
    have f51 : M49 (P 3) = some (.inl (D.1 102, 16, .inl (A 3))) := by rw [eM49]; exact hm_up_o (hm_neO (po 3 (by decide)) (po 0 (by decide)) (by decide)) g47_3
    have f52 : M49 (P 4) = some (.inl (D.1 102, 16, .inl (A 4))) := by rw [eM49]; exact hm_up_o (hm_neO (po 4 (by decide)) (po 0 (by decide)) (by decide)) g47_4
    have f53 : M49 (P 5) = some (.inl (D.1 101, 16, .inl (A 5))) := by rw [eM49]; exact hm_up_o (hm_neO (po 5 (by decide)) (po 0 (by decide)) (by decide)) g47_5
    have f54 : M49 (P 7) = some (.inl (D.1 102, 120, .inl (A 7))) := by rw [eM49]; exact hm_up_o (hm_neO (po 7 (by decide)) (po 0 (by decide)) (by decide)) g47_7
    have f55 : M49 (P 8) = some (.inl (D.1 102, 120, .inl (A 8))) := by rw [eM49]; exact hm_up_o (hm_neO (po 8 (by decide)) (po 0 (by decide)) (by decide)) g47_8
    have f56 : M49 (P 9) = some (.inl (D.1 102, 120, .inl (A 9))) := by rw [eM49]; exact hm_up_o (hm_neO (po 9 (by decide)) (po 0 (by decide)) (by decide)) g47_9
    have f57 : M49 (P 10) = some (.inl (D.1 102, 5760, .inl (A 10))) := by rw [eM49]; exact hm_up_o (hm_neO (po 10 (by decide)) (po 0 (by decide)) (by decide)) g47_10
    have f58 : M49 (P 11) = some (.inl (D.1 102, 48, .inl (A 11))) := by rw [eM49]; exact hm_up_o (hm_neO (po 11 (by decide)) (po 0 (by decide)) (by decide)) g47_11
    have f59 : M49 (P 14) = some (.inl (D.1 103, 6, .inr (.inl (L 14)))) := by rw [eM49]; exact hm_up_o (hm_neO (po 14 (by decide)) (po 0 (by decide)) (by decide)) g47_14
    have f60 : M49 (P 15) = some (.inl (D.1 103, 6, .inr (.inl (L 15)))) := by rw [eM49]; exact hm_up_o (hm_neO (po 15 (by decide)) (po 0 (by decide)) (by decide)) g47_15
    have f61 : M49 (P 16) = some (.inl (D.1 101, 16, .inl (A 16))) := by rw [eM49]; exact hm_up_o (hm_neO (po 16 (by decide)) (po 0 (by decide)) (by decide)) g47_16
    have f62 : M49 (P 17) = some (.inl (D.1 101, 16, .inl (A 17))) := by rw [eM49]; exact hm_up_o (hm_neO (po 17 (by decide)) (po 0 (by decide)) (by decide)) g47_17
    have f63 : M49 (P 19) = some (.inl (D.1 101, 2601, .inl (A 19))) := by rw [eM49]; exact hm_up_o (hm_neO (po 19 (by decide)) (po 0 (by decide)) (by decide)) g47_19
    have f64 : M49 (P 20) = some (.inl (D.1 102, 52, .inl (A 20))) := by rw [eM49]; exact hm_up_o (hm_neO (po 20 (by decide)) (po 0 (by decide)) (by decide)) g47_20
    have f65 : M49 (P 21) = some (.inl (D.1 102, 52, .inl (A 21))) := by rw [eM49]; exact hm_up_o (hm_neO (po 21 (by decide)) (po 0 (by decide)) (by decide)) g47_21
    have f66 : M49 (P 0) = some (.inr (6, [.int (nI 0), .ref (P 1), .int (I 2), .ref (P 3), .ref (P 4), .ref (P 5), .int (I 6), .ref (P 7), .ref (P 8), .ref (P 9), .ref (P 10), .ref (P 11), .int (I 12), .int (I 13), .ref (P 14), .ref (P 15), .ref (P 16), .ref (P 17), .int (nI (er42 + 1)), .ref (P 19), .ref (P 20), .ref (P 21)])) := by rw [eM49]; exact hm_up_s
    refine lv_iload_n hx hb dd_MO_header_68 rfl (lv_at hl 0 rfl) ?_
    refine hn_if_eq (tgt := 83) hx hb (by omega) dd_MO_header_69 (by decide) (fun c67 => ?_) (fun c67 => absurd c67 (by omega))
    refine lv_ldc2 (v := -1) hx hb hown (hts _ tw_1122) dd_MO_header_83 ?_
    refine lv_lstore (lv' := [(4, .long (-1)), (3, .int (nI 0)), (1, .long r42), (0, .ref (P 0))]) hx hb dd_MO_header_86 hl (by decide) rfl (fun ls hl => ?_)
    refine lv_iload_n hx hb dd_MO_header_88 rfl (lv_at hl 1 rfl) ?_
    refine hn_if_eq (tgt := 116) hx hb (by omega) dd_MO_header_89 (by decide) (fun c68 => ?_) (fun c68 => absurd c68 (by omega))
    refine lv_iconst (v := nI 0) hx hb dd_MO_header_116 (by decide +kernel) ?_
    refine lv_istore_n (lv' := [(3, .int (nI 0)), (4, .long (-1)), (1, .long r42), (0, .ref (P 0))]) hx hb dd_MO_header_117 rfl hl (by decide) rfl (fun ls hl => ?_)
    refine lv_aload_n hx hb dd_MO_header_118 rfl (lv_at hl 3 rfl) ?_
    refine lv_iconst (v := nI 0) hx hb dd_MO_header_119 (by decide +kernel) ?_
    refine hm_put (ci := 6) (v := .int (nI 0)) (ty := .int) (C := rn_MO) (T := ft_MO) (N := 22) hx hb hts fi_MO fy_MO fo_MO fn_MO hown hE.K hP hS (pb 0 (by decide)) f66 rfl 2 (by decide) (hts _ tw_988) (fun _ h9 => h9) rfl (by decide +kernel) rfl rfl (Nat.le_of_ble_eq_true rfl) dd_MO_header_120 (fun H locs hP hS => ?_)
    have hP : hm_P D cl_W (hm_up M49 (P 0) (.inr (6, [.int (nI 0), .ref (P 1), .int (nI 0), .ref (P 3), .ref (P 4), .ref (P 5), .int (I 6), .ref (P 7), .ref (P 8), .ref (P 9), .ref (P 10), .ref (P 11), .int (I 12), .int (I 13), .ref (P 14), .ref (P 15), .ref (P 16), .ref (P 17), .int (nI (er42 + 1)), .ref (P 19), .ref (P 20), .ref (P 21)]))) H := hP
    obtain ⟨M69, eM69⟩ : ∃ z, z = hm_up M49 (P 0) (.inr (6, [.int (nI 0), .ref (P 1), .int (nI 0), .ref (P 3), .ref (P 4), .ref (P 5), .int (I 6), .ref (P 7), .ref (P 8), .ref (P 9), .ref (P 10), .ref (P 11), .int (I 12), .int (I 13), .ref (P 14), .ref (P 15), .ref (P 16), .ref (P 17), .int (nI (er42 + 1)), .ref (P 19), .ref (P 20), .ref (P 21)])) := ⟨_, rfl⟩
    rw [← eM69] at hP
    have f70 : M69 (P 1) = some (.inl (D.1 102, 48, .inl (A 1))) := by rw [eM69]; exact hm_up_o (hm_neO (po 1 (by decide)) (po 0 (by decide)) (by decide)) f50
    have f71 : M69 (P 3) = some (.inl (D.1 102, 16, .inl (A 3))) := by rw [eM69]; exact hm_up_o (hm_neO (po 3 (by decide)) (po 0 (by decide)) (by decide)) f51
    have f72 : M69 (P 4) = some (.inl (D.1 102, 16, .inl (A 4))) := by rw [eM69]; exact hm_up_o (hm_neO (po 4 (by decide)) (po 0 (by decide)) (by decide)) f52
    have f73 : M69 (P 5) = some (.inl (D.1 101, 16, .inl (A 5))) := by rw [eM69]; exact hm_up_o (hm_neO (po 5 (by decide)) (po 0 (by decide)) (by decide)) f53
    have f74 : M69 (P 7) = some (.inl (D.1 102, 120, .inl (A 7))) := by rw [eM69]; exact hm_up_o (hm_neO (po 7 (by decide)) (po 0 (by decide)) (by decide)) f54
    have f75 : M69 (P 8) = some (.inl (D.1 102, 120, .inl (A 8))) := by rw [eM69]; exact hm_up_o (hm_neO (po 8 (by decide)) (po 0 (by decide)) (by decide)) f55
    have f76 : M69 (P 9) = some (.inl (D.1 102, 120, .inl (A 9))) := by rw [eM69]; exact hm_up_o (hm_neO (po 9 (by decide)) (po 0 (by decide)) (by decide)) f56
    have f77 : M69 (P 10) = some (.inl (D.1 102, 5760, .inl (A 10))) := by rw [eM69]; exact hm_up_o (hm_neO (po 10 (by decide)) (po 0 (by decide)) (by decide)) f57
    have f78 : M69 (P 11) = some (.inl (D.1 102, 48, .inl (A 11))) := by rw [eM69]; exact hm_up_o (hm_neO (po 11 (by decide)) (po 0 (by decide)) (by decide)) f58
    have f79 : M69 (P 14) = some (.inl (D.1 103, 6, .inr (.inl (L 14)))) := by rw [eM69]; exact hm_up_o (hm_neO (po 14 (by decide)) (po 0 (by decide)) (by decide)) f59
    have f80 : M69 (P 15) = some (.inl (D.1 103, 6, .inr (.inl (L 15)))) := by rw [eM69]; exact hm_up_o (hm_neO (po 15 (by decide)) (po 0 (by decide)) (by decide)) f60
    have f81 : M69 (P 16) = some (.inl (D.1 101, 16, .inl (A 16))) := by rw [eM69]; exact hm_up_o (hm_neO (po 16 (by decide)) (po 0 (by decide)) (by decide)) f61
    have f82 : M69 (P 17) = some (.inl (D.1 101, 16, .inl (A 17))) := by rw [eM69]; exact hm_up_o (hm_neO (po 17 (by decide)) (po 0 (by decide)) (by decide)) f62
    have f83 : M69 (P 19) = some (.inl (D.1 101, 2601, .inl (A 19))) := by rw [eM69]; exact hm_up_o (hm_neO (po 19 (by decide)) (po 0 (by decide)) (by decide)) f63
    have f84 : M69 (P 20) = some (.inl (D.1 102, 52, .inl (A 20))) := by rw [eM69]; exact hm_up_o (hm_neO (po 20 (by decide)) (po 0 (by decide)) (by decide)) f64
    have f85 : M69 (P 21) = some (.inl (D.1 102, 52, .inl (A 21))) := by rw [eM69]; exact hm_up_o (hm_neO (po 21 (by decide)) (po 0 (by decide)) (by decide)) f65
    have f86 : M69 (P 0) = some (.inr (6, [.int (nI 0), .ref (P 1), .int (nI 0), .ref (P 3), .ref (P 4), .ref (P 5), .int (I 6), .ref (P 7), .ref (P 8), .ref (P 9), .ref (P 10), .ref (P 11), .int (I 12), .int (I 13), .ref (P 14), .ref (P 15), .ref (P 16), .ref (P 17), .int (nI (er42 + 1)), .ref (P 19), .ref (P 20), .ref (P 21)])) := by rw [eM69]; exact hm_up_s
    refine lv_iload_n hx hb dd_MO_header_123 rfl (lv_at hl 0 rfl) ?_
    refine hn_if_eq (tgt := 135) hx hb (by omega) dd_MO_header_124 (by decide) (fun c87 => ?_) (fun c87 => absurd c87 (by omega))
    refine lv_iconst (v := (-1)) hx hb dd_MO_header_135 (by decide +kernel) ?_
    refine lv_istore (lv' := [(6, .int (-1)), (3, .int (nI 0)), (4, .long (-1)), (1, .long r42), (0, .ref (P 0))]) hx hb dd_MO_header_136 hl (by decide) rfl (fun ls hl => ?_)
    refine lv_iload_n hx hb dd_MO_header_138 rfl (lv_at hl 1 rfl) ?_
    refine hn_if_eq (tgt := 157) hx hb (by omega) dd_MO_header_139 (by decide) (fun c88 => ?_) (fun c88 => absurd c88 (by omega))
    refine lv_iconst (v := nI 0) hx hb dd_MO_header_157 (by decide +kernel) ?_
    have kk89 : hm_k M43 M43 [(P 0)] := hm_krf
    have kk90 : hm_k M43 M49 [(P 0)] := hm_ku kk89 (Or.inr (by simp)) eM49
    have kk91 : hm_k M43 M69 [(P 0)] := hm_ku kk90 (Or.inr (by simp)) eM69
    exact hm_Ei (v := nI 0) hx hb hr rfl hS hP (⟨bz_0 (by rw [hd_b, hpr]; rfl), (va_up (va_up (va_up I 0 (nI 0)) 2 (nI 0)) 18 (nI (er42 + 1))), A, L, ⟨f86, f70, f71, f72, f73, f74, f75, f76, f77, f78, f79, f80, f81, f82, f83, f84, f85, po, pb⟩, rfl, ⟨tpS_0, hX, hQ, hB, hK, by rw [hd_h, hpr]; exact hH, hFo, hPs⟩, (hF46).trans (cz_F.k0 kk91 (hm_a1 ⟨by rw [po 0 (by decide)]; unfold pm; omega, _, f86⟩))⟩) hlocks (by omega) (by omega) dd_MO_header_158
  · have hnm : 1 ≤ er42 - 0 ∧ er42 - 0 < 7 := by
      by_cases h9 : 1 ≤ er42 - 0 ∧ er42 - 0 < 7
      · exact h9
      · exact absurd (by rw [hvr42, if_neg h9]) (lc_ne c48)
    refine lv_aload_n hx hb dd_MO_header_27 rfl (lv_at hl 1 rfl) ?_
    refine hm_get (ci := 6) (C := rn_MO) (T := ft_MO) (N := 22) hx hb hts fi_MO hown hE.K hP g47_0 rfl 18 (by decide) (hts _ tw_1004) (fun _ h9 => h9) rfl dd_MO_header_28 ?_
    refine lv_aload_n hx hb dd_MO_header_31 rfl (lv_at hl 1 rfl) ?_
    refine hm_get (ci := 6) (C := rn_MO) (T := ft_MO) (N := 22) hx hb hts fi_MO hown hE.K hP g47_0 rfl 2 (by decide) (hts _ tw_988) (fun _ h9 => h9) rfl dd_MO_header_32 ?_
    refine W.eq (g2 := F0 m 35 ls [.int (nI t.length), .int (nI er42)]) (by rw [ti1]) ?_
    refine hn_icmp_ge (tgt := 56) hx hb (by omega) (by omega) dd_MO_header_35 (by decide) (fun c92 => ?_) (fun c92 => ?_)
    · have hpr := hd_1 hnr42 (Or.inr (Or.inl (by omega)))
      refine lv_iconst (v := nI 0) hx hb dd_MO_header_56 (by decide +kernel) ?_
      refine lv_istore_n (lv' := [(3, .int (nI 0)), (1, .long r42), (0, .ref (P 0))]) hx hb dd_MO_header_57 rfl hl (by decide) rfl (fun ls hl => ?_)
      refine lv_aload_n hx hb dd_MO_header_58 rfl (lv_at hl 2 rfl) ?_
      refine lv_dup hx hb dd_MO_header_59 rfl ?_
      refine hm_get (ci := 6) (C := rn_MO) (T := ft_MO) (N := 22) hx hb hts fi_MO hown hE.K hP g47_0 rfl 18 (by decide) (hts _ tw_1004) (fun _ h9 => h9) rfl dd_MO_header_60 ?_
      refine lv_iconst (v := nI 1) hx hb dd_MO_header_63 (by decide +kernel) ?_
      refine hn_iadd hx hb dd_MO_header_64 ?_
      refine hm_put (ci := 6) (v := .int (nI (er42 + 1))) (ty := .int) (C := rn_MO) (T := ft_MO) (N := 22) hx hb hts fi_MO fy_MO fo_MO fn_MO hown hE.K hP hS (pb 0 (by decide)) g47_0 rfl 18 (by decide) (hts _ tw_1004) (fun _ h9 => h9) rfl (by decide +kernel) rfl rfl (Nat.le_of_ble_eq_true rfl) dd_MO_header_65 (fun H locs hP hS => ?_)
      have hP : hm_P D cl_W (hm_up M43 (P 0) (.inr (6, [.int (nI 0), .ref (P 1), .int (I 2), .ref (P 3), .ref (P 4), .ref (P 5), .int (I 6), .ref (P 7), .ref (P 8), .ref (P 9), .ref (P 10), .ref (P 11), .int (I 12), .int (I 13), .ref (P 14), .ref (P 15), .ref (P 16), .ref (P 17), .int (nI (er42 + 1)), .ref (P 19), .ref (P 20), .ref (P 21)]))) H := hP
      obtain ⟨M93, eM93⟩ : ∃ z, z = hm_up M43 (P 0) (.inr (6, [.int (nI 0), .ref (P 1), .int (I 2), .ref (P 3), .ref (P 4), .ref (P 5), .int (I 6), .ref (P 7), .ref (P 8), .ref (P 9), .ref (P 10), .ref (P 11), .int (I 12), .int (I 13), .ref (P 14), .ref (P 15), .ref (P 16), .ref (P 17), .int (nI (er42 + 1)), .ref (P 19), .ref (P 20), .ref (P 21)])) := ⟨_, rfl⟩
      rw [← eM93] at hP
      have f94 : M93 (P 1) = some (.inl (D.1 102, 48, .inl (A 1))) := by rw [eM93]; exact hm_up_o (hm_neO (po 1 (by decide)) (po 0 (by decide)) (by decide)) g47_1
      have f95 : M93 (P 3) = some (.inl (D.1 102, 16, .inl (A 3))) := by rw [eM93]; exact hm_up_o (hm_neO (po 3 (by decide)) (po 0 (by decide)) (by decide)) g47_3
      have f96 : M93 (P 4) = some (.inl (D.1 102, 16, .inl (A 4))) := by rw [eM93]; exact hm_up_o (hm_neO (po 4 (by decide)) (po 0 (by decide)) (by decide)) g47_4
      have f97 : M93 (P 5) = some (.inl (D.1 101, 16, .inl (A 5))) := by rw [eM93]; exact hm_up_o (hm_neO (po 5 (by decide)) (po 0 (by decide)) (by decide)) g47_5
      have f98 : M93 (P 7) = some (.inl (D.1 102, 120, .inl (A 7))) := by rw [eM93]; exact hm_up_o (hm_neO (po 7 (by decide)) (po 0 (by decide)) (by decide)) g47_7
      have f99 : M93 (P 8) = some (.inl (D.1 102, 120, .inl (A 8))) := by rw [eM93]; exact hm_up_o (hm_neO (po 8 (by decide)) (po 0 (by decide)) (by decide)) g47_8
      have f100 : M93 (P 9) = some (.inl (D.1 102, 120, .inl (A 9))) := by rw [eM93]; exact hm_up_o (hm_neO (po 9 (by decide)) (po 0 (by decide)) (by decide)) g47_9
      have f101 : M93 (P 10) = some (.inl (D.1 102, 5760, .inl (A 10))) := by rw [eM93]; exact hm_up_o (hm_neO (po 10 (by decide)) (po 0 (by decide)) (by decide)) g47_10
      have f102 : M93 (P 11) = some (.inl (D.1 102, 48, .inl (A 11))) := by rw [eM93]; exact hm_up_o (hm_neO (po 11 (by decide)) (po 0 (by decide)) (by decide)) g47_11
      have f103 : M93 (P 14) = some (.inl (D.1 103, 6, .inr (.inl (L 14)))) := by rw [eM93]; exact hm_up_o (hm_neO (po 14 (by decide)) (po 0 (by decide)) (by decide)) g47_14
      have f104 : M93 (P 15) = some (.inl (D.1 103, 6, .inr (.inl (L 15)))) := by rw [eM93]; exact hm_up_o (hm_neO (po 15 (by decide)) (po 0 (by decide)) (by decide)) g47_15
      have f105 : M93 (P 16) = some (.inl (D.1 101, 16, .inl (A 16))) := by rw [eM93]; exact hm_up_o (hm_neO (po 16 (by decide)) (po 0 (by decide)) (by decide)) g47_16
      have f106 : M93 (P 17) = some (.inl (D.1 101, 16, .inl (A 17))) := by rw [eM93]; exact hm_up_o (hm_neO (po 17 (by decide)) (po 0 (by decide)) (by decide)) g47_17
      have f107 : M93 (P 19) = some (.inl (D.1 101, 2601, .inl (A 19))) := by rw [eM93]; exact hm_up_o (hm_neO (po 19 (by decide)) (po 0 (by decide)) (by decide)) g47_19
      have f108 : M93 (P 20) = some (.inl (D.1 102, 52, .inl (A 20))) := by rw [eM93]; exact hm_up_o (hm_neO (po 20 (by decide)) (po 0 (by decide)) (by decide)) g47_20
      have f109 : M93 (P 21) = some (.inl (D.1 102, 52, .inl (A 21))) := by rw [eM93]; exact hm_up_o (hm_neO (po 21 (by decide)) (po 0 (by decide)) (by decide)) g47_21
      have f110 : M93 (P 0) = some (.inr (6, [.int (nI 0), .ref (P 1), .int (I 2), .ref (P 3), .ref (P 4), .ref (P 5), .int (I 6), .ref (P 7), .ref (P 8), .ref (P 9), .ref (P 10), .ref (P 11), .int (I 12), .int (I 13), .ref (P 14), .ref (P 15), .ref (P 16), .ref (P 17), .int (nI (er42 + 1)), .ref (P 19), .ref (P 20), .ref (P 21)])) := by rw [eM93]; exact hm_up_s
      refine lv_iload_n hx hb dd_MO_header_68 rfl (lv_at hl 0 rfl) ?_
      refine hn_if_eq (tgt := 83) hx hb (by omega) dd_MO_header_69 (by decide) (fun c111 => ?_) (fun c111 => absurd c111 (by omega))
      refine lv_ldc2 (v := -1) hx hb hown (hts _ tw_1122) dd_MO_header_83 ?_
      refine lv_lstore (lv' := [(4, .long (-1)), (3, .int (nI 0)), (1, .long r42), (0, .ref (P 0))]) hx hb dd_MO_header_86 hl (by decide) rfl (fun ls hl => ?_)
      refine lv_iload_n hx hb dd_MO_header_88 rfl (lv_at hl 1 rfl) ?_
      refine hn_if_eq (tgt := 116) hx hb (by omega) dd_MO_header_89 (by decide) (fun c112 => ?_) (fun c112 => absurd c112 (by omega))
      refine lv_iconst (v := nI 0) hx hb dd_MO_header_116 (by decide +kernel) ?_
      refine lv_istore_n (lv' := [(3, .int (nI 0)), (4, .long (-1)), (1, .long r42), (0, .ref (P 0))]) hx hb dd_MO_header_117 rfl hl (by decide) rfl (fun ls hl => ?_)
      refine lv_aload_n hx hb dd_MO_header_118 rfl (lv_at hl 3 rfl) ?_
      refine lv_iconst (v := nI 0) hx hb dd_MO_header_119 (by decide +kernel) ?_
      refine hm_put (ci := 6) (v := .int (nI 0)) (ty := .int) (C := rn_MO) (T := ft_MO) (N := 22) hx hb hts fi_MO fy_MO fo_MO fn_MO hown hE.K hP hS (pb 0 (by decide)) f110 rfl 2 (by decide) (hts _ tw_988) (fun _ h9 => h9) rfl (by decide +kernel) rfl rfl (Nat.le_of_ble_eq_true rfl) dd_MO_header_120 (fun H locs hP hS => ?_)
      have hP : hm_P D cl_W (hm_up M93 (P 0) (.inr (6, [.int (nI 0), .ref (P 1), .int (nI 0), .ref (P 3), .ref (P 4), .ref (P 5), .int (I 6), .ref (P 7), .ref (P 8), .ref (P 9), .ref (P 10), .ref (P 11), .int (I 12), .int (I 13), .ref (P 14), .ref (P 15), .ref (P 16), .ref (P 17), .int (nI (er42 + 1)), .ref (P 19), .ref (P 20), .ref (P 21)]))) H := hP
      obtain ⟨M113, eM113⟩ : ∃ z, z = hm_up M93 (P 0) (.inr (6, [.int (nI 0), .ref (P 1), .int (nI 0), .ref (P 3), .ref (P 4), .ref (P 5), .int (I 6), .ref (P 7), .ref (P 8), .ref (P 9), .ref (P 10), .ref (P 11), .int (I 12), .int (I 13), .ref (P 14), .ref (P 15), .ref (P 16), .ref (P 17), .int (nI (er42 + 1)), .ref (P 19), .ref (P 20), .ref (P 21)])) := ⟨_, rfl⟩
      rw [← eM113] at hP
      have f114 : M113 (P 1) = some (.inl (D.1 102, 48, .inl (A 1))) := by rw [eM113]; exact hm_up_o (hm_neO (po 1 (by decide)) (po 0 (by decide)) (by decide)) f94
      have f115 : M113 (P 3) = some (.inl (D.1 102, 16, .inl (A 3))) := by rw [eM113]; exact hm_up_o (hm_neO (po 3 (by decide)) (po 0 (by decide)) (by decide)) f95
      have f116 : M113 (P 4) = some (.inl (D.1 102, 16, .inl (A 4))) := by rw [eM113]; exact hm_up_o (hm_neO (po 4 (by decide)) (po 0 (by decide)) (by decide)) f96
      have f117 : M113 (P 5) = some (.inl (D.1 101, 16, .inl (A 5))) := by rw [eM113]; exact hm_up_o (hm_neO (po 5 (by decide)) (po 0 (by decide)) (by decide)) f97
      have f118 : M113 (P 7) = some (.inl (D.1 102, 120, .inl (A 7))) := by rw [eM113]; exact hm_up_o (hm_neO (po 7 (by decide)) (po 0 (by decide)) (by decide)) f98
      have f119 : M113 (P 8) = some (.inl (D.1 102, 120, .inl (A 8))) := by rw [eM113]; exact hm_up_o (hm_neO (po 8 (by decide)) (po 0 (by decide)) (by decide)) f99
      have f120 : M113 (P 9) = some (.inl (D.1 102, 120, .inl (A 9))) := by rw [eM113]; exact hm_up_o (hm_neO (po 9 (by decide)) (po 0 (by decide)) (by decide)) f100
      have f121 : M113 (P 10) = some (.inl (D.1 102, 5760, .inl (A 10))) := by rw [eM113]; exact hm_up_o (hm_neO (po 10 (by decide)) (po 0 (by decide)) (by decide)) f101
      have f122 : M113 (P 11) = some (.inl (D.1 102, 48, .inl (A 11))) := by rw [eM113]; exact hm_up_o (hm_neO (po 11 (by decide)) (po 0 (by decide)) (by decide)) f102
      have f123 : M113 (P 14) = some (.inl (D.1 103, 6, .inr (.inl (L 14)))) := by rw [eM113]; exact hm_up_o (hm_neO (po 14 (by decide)) (po 0 (by decide)) (by decide)) f103
      have f124 : M113 (P 15) = some (.inl (D.1 103, 6, .inr (.inl (L 15)))) := by rw [eM113]; exact hm_up_o (hm_neO (po 15 (by decide)) (po 0 (by decide)) (by decide)) f104
      have f125 : M113 (P 16) = some (.inl (D.1 101, 16, .inl (A 16))) := by rw [eM113]; exact hm_up_o (hm_neO (po 16 (by decide)) (po 0 (by decide)) (by decide)) f105
      have f126 : M113 (P 17) = some (.inl (D.1 101, 16, .inl (A 17))) := by rw [eM113]; exact hm_up_o (hm_neO (po 17 (by decide)) (po 0 (by decide)) (by decide)) f106
      have f127 : M113 (P 19) = some (.inl (D.1 101, 2601, .inl (A 19))) := by rw [eM113]; exact hm_up_o (hm_neO (po 19 (by decide)) (po 0 (by decide)) (by decide)) f107
      have f128 : M113 (P 20) = some (.inl (D.1 102, 52, .inl (A 20))) := by rw [eM113]; exact hm_up_o (hm_neO (po 20 (by decide)) (po 0 (by decide)) (by decide)) f108
      have f129 : M113 (P 21) = some (.inl (D.1 102, 52, .inl (A 21))) := by rw [eM113]; exact hm_up_o (hm_neO (po 21 (by decide)) (po 0 (by decide)) (by decide)) f109
      have f130 : M113 (P 0) = some (.inr (6, [.int (nI 0), .ref (P 1), .int (nI 0), .ref (P 3), .ref (P 4), .ref (P 5), .int (I 6), .ref (P 7), .ref (P 8), .ref (P 9), .ref (P 10), .ref (P 11), .int (I 12), .int (I 13), .ref (P 14), .ref (P 15), .ref (P 16), .ref (P 17), .int (nI (er42 + 1)), .ref (P 19), .ref (P 20), .ref (P 21)])) := by rw [eM113]; exact hm_up_s
      refine lv_iload_n hx hb dd_MO_header_123 rfl (lv_at hl 0 rfl) ?_
      refine hn_if_eq (tgt := 135) hx hb (by omega) dd_MO_header_124 (by decide) (fun c131 => ?_) (fun c131 => absurd c131 (by omega))
      refine lv_iconst (v := (-1)) hx hb dd_MO_header_135 (by decide +kernel) ?_
      refine lv_istore (lv' := [(6, .int (-1)), (3, .int (nI 0)), (4, .long (-1)), (1, .long r42), (0, .ref (P 0))]) hx hb dd_MO_header_136 hl (by decide) rfl (fun ls hl => ?_)
      refine lv_iload_n hx hb dd_MO_header_138 rfl (lv_at hl 1 rfl) ?_
      refine hn_if_eq (tgt := 157) hx hb (by omega) dd_MO_header_139 (by decide) (fun c132 => ?_) (fun c132 => absurd c132 (by omega))
      refine lv_iconst (v := nI 0) hx hb dd_MO_header_157 (by decide +kernel) ?_
      have kk133 : hm_k M43 M43 [(P 0)] := hm_krf
      have kk134 : hm_k M43 M93 [(P 0)] := hm_ku kk133 (Or.inr (by simp)) eM93
      have kk135 : hm_k M43 M113 [(P 0)] := hm_ku kk134 (Or.inr (by simp)) eM113
      exact hm_Ei (v := nI 0) hx hb hr rfl hS hP (⟨bz_0 (by rw [hd_b, hpr]; rfl), (va_up (va_up (va_up I 0 (nI 0)) 2 (nI 0)) 18 (nI (er42 + 1))), A, L, ⟨f130, f114, f115, f116, f117, f118, f119, f120, f121, f122, f123, f124, f125, f126, f127, f128, f129, po, pb⟩, rfl, ⟨tpS_0, hX, hQ, hB, hK, by rw [hd_h, hpr]; exact hH, hFo, hPs⟩, (hF46).trans (cz_F.k0 kk135 (hm_a1 ⟨by rw [po 0 (by decide)]; unfold pm; omega, _, f130⟩))⟩) hlocks (by omega) (by omega) dd_MO_header_158
    · refine lv_aload_n hx hb dd_MO_header_38 rfl (lv_at hl 1 rfl) ?_
      refine hm_get (ci := 6) (C := rn_MO) (T := ft_MO) (N := 22) hx hb hts fi_MO hown hE.K hP g47_0 rfl 1 (by decide) (hts _ tw_987) (fun _ h9 => h9) rfl dd_MO_header_39 ?_
      refine lv_aload_n hx hb dd_MO_header_42 rfl (lv_at hl 1 rfl) ?_
      refine hm_get (ci := 6) (C := rn_MO) (T := ft_MO) (N := 22) hx hb hts fi_MO hown hE.K hP g47_0 rfl 18 (by decide) (hts _ tw_1004) (fun _ h9 => h9) rfl dd_MO_header_43 ?_
      refine hm_iald (j := er42) hx hb hE.K hP 2 g47_1 rfl (vp_in_nI (by omega) (by omega)) (nI_clamp (by omega)) dd_MO_header_46 ?_
      refine W.eq (g2 := F0 m 47 ls [.int (nI (t.getD er42 0))]) (by rw [ti2 er42 (by omega)]) ?_
      refine lv_bipush (v := nI 61) hx hb dd_MO_header_47 (by decide +kernel) ?_
      refine hn_icmp_ne (tgt := 56) hx hb (by omega) (by omega) dd_MO_header_49 (by decide) (fun c136 => ?_) (fun c136 => ?_)
      · have c61 := c136
        have hpr := hd_1 hnr42 (Or.inr (Or.inr c61))
        refine lv_iconst (v := nI 0) hx hb dd_MO_header_56 (by decide +kernel) ?_
        refine lv_istore_n (lv' := [(3, .int (nI 0)), (1, .long r42), (0, .ref (P 0))]) hx hb dd_MO_header_57 rfl hl (by decide) rfl (fun ls hl => ?_)
        refine lv_aload_n hx hb dd_MO_header_58 rfl (lv_at hl 2 rfl) ?_
        refine lv_dup hx hb dd_MO_header_59 rfl ?_
        refine hm_get (ci := 6) (C := rn_MO) (T := ft_MO) (N := 22) hx hb hts fi_MO hown hE.K hP g47_0 rfl 18 (by decide) (hts _ tw_1004) (fun _ h9 => h9) rfl dd_MO_header_60 ?_
        refine lv_iconst (v := nI 1) hx hb dd_MO_header_63 (by decide +kernel) ?_
        refine hn_iadd hx hb dd_MO_header_64 ?_
        refine hm_put (ci := 6) (v := .int (nI (er42 + 1))) (ty := .int) (C := rn_MO) (T := ft_MO) (N := 22) hx hb hts fi_MO fy_MO fo_MO fn_MO hown hE.K hP hS (pb 0 (by decide)) g47_0 rfl 18 (by decide) (hts _ tw_1004) (fun _ h9 => h9) rfl (by decide +kernel) rfl rfl (Nat.le_of_ble_eq_true rfl) dd_MO_header_65 (fun H locs hP hS => ?_)
        have hP : hm_P D cl_W (hm_up M43 (P 0) (.inr (6, [.int (nI 0), .ref (P 1), .int (I 2), .ref (P 3), .ref (P 4), .ref (P 5), .int (I 6), .ref (P 7), .ref (P 8), .ref (P 9), .ref (P 10), .ref (P 11), .int (I 12), .int (I 13), .ref (P 14), .ref (P 15), .ref (P 16), .ref (P 17), .int (nI (er42 + 1)), .ref (P 19), .ref (P 20), .ref (P 21)]))) H := hP
        obtain ⟨M137, eM137⟩ : ∃ z, z = hm_up M43 (P 0) (.inr (6, [.int (nI 0), .ref (P 1), .int (I 2), .ref (P 3), .ref (P 4), .ref (P 5), .int (I 6), .ref (P 7), .ref (P 8), .ref (P 9), .ref (P 10), .ref (P 11), .int (I 12), .int (I 13), .ref (P 14), .ref (P 15), .ref (P 16), .ref (P 17), .int (nI (er42 + 1)), .ref (P 19), .ref (P 20), .ref (P 21)])) := ⟨_, rfl⟩
        rw [← eM137] at hP
        have f138 : M137 (P 1) = some (.inl (D.1 102, 48, .inl (A 1))) := by rw [eM137]; exact hm_up_o (hm_neO (po 1 (by decide)) (po 0 (by decide)) (by decide)) g47_1
        have f139 : M137 (P 3) = some (.inl (D.1 102, 16, .inl (A 3))) := by rw [eM137]; exact hm_up_o (hm_neO (po 3 (by decide)) (po 0 (by decide)) (by decide)) g47_3
        have f140 : M137 (P 4) = some (.inl (D.1 102, 16, .inl (A 4))) := by rw [eM137]; exact hm_up_o (hm_neO (po 4 (by decide)) (po 0 (by decide)) (by decide)) g47_4
        have f141 : M137 (P 5) = some (.inl (D.1 101, 16, .inl (A 5))) := by rw [eM137]; exact hm_up_o (hm_neO (po 5 (by decide)) (po 0 (by decide)) (by decide)) g47_5
        have f142 : M137 (P 7) = some (.inl (D.1 102, 120, .inl (A 7))) := by rw [eM137]; exact hm_up_o (hm_neO (po 7 (by decide)) (po 0 (by decide)) (by decide)) g47_7
        have f143 : M137 (P 8) = some (.inl (D.1 102, 120, .inl (A 8))) := by rw [eM137]; exact hm_up_o (hm_neO (po 8 (by decide)) (po 0 (by decide)) (by decide)) g47_8
        have f144 : M137 (P 9) = some (.inl (D.1 102, 120, .inl (A 9))) := by rw [eM137]; exact hm_up_o (hm_neO (po 9 (by decide)) (po 0 (by decide)) (by decide)) g47_9
        have f145 : M137 (P 10) = some (.inl (D.1 102, 5760, .inl (A 10))) := by rw [eM137]; exact hm_up_o (hm_neO (po 10 (by decide)) (po 0 (by decide)) (by decide)) g47_10
        have f146 : M137 (P 11) = some (.inl (D.1 102, 48, .inl (A 11))) := by rw [eM137]; exact hm_up_o (hm_neO (po 11 (by decide)) (po 0 (by decide)) (by decide)) g47_11
        have f147 : M137 (P 14) = some (.inl (D.1 103, 6, .inr (.inl (L 14)))) := by rw [eM137]; exact hm_up_o (hm_neO (po 14 (by decide)) (po 0 (by decide)) (by decide)) g47_14
        have f148 : M137 (P 15) = some (.inl (D.1 103, 6, .inr (.inl (L 15)))) := by rw [eM137]; exact hm_up_o (hm_neO (po 15 (by decide)) (po 0 (by decide)) (by decide)) g47_15
        have f149 : M137 (P 16) = some (.inl (D.1 101, 16, .inl (A 16))) := by rw [eM137]; exact hm_up_o (hm_neO (po 16 (by decide)) (po 0 (by decide)) (by decide)) g47_16
        have f150 : M137 (P 17) = some (.inl (D.1 101, 16, .inl (A 17))) := by rw [eM137]; exact hm_up_o (hm_neO (po 17 (by decide)) (po 0 (by decide)) (by decide)) g47_17
        have f151 : M137 (P 19) = some (.inl (D.1 101, 2601, .inl (A 19))) := by rw [eM137]; exact hm_up_o (hm_neO (po 19 (by decide)) (po 0 (by decide)) (by decide)) g47_19
        have f152 : M137 (P 20) = some (.inl (D.1 102, 52, .inl (A 20))) := by rw [eM137]; exact hm_up_o (hm_neO (po 20 (by decide)) (po 0 (by decide)) (by decide)) g47_20
        have f153 : M137 (P 21) = some (.inl (D.1 102, 52, .inl (A 21))) := by rw [eM137]; exact hm_up_o (hm_neO (po 21 (by decide)) (po 0 (by decide)) (by decide)) g47_21
        have f154 : M137 (P 0) = some (.inr (6, [.int (nI 0), .ref (P 1), .int (I 2), .ref (P 3), .ref (P 4), .ref (P 5), .int (I 6), .ref (P 7), .ref (P 8), .ref (P 9), .ref (P 10), .ref (P 11), .int (I 12), .int (I 13), .ref (P 14), .ref (P 15), .ref (P 16), .ref (P 17), .int (nI (er42 + 1)), .ref (P 19), .ref (P 20), .ref (P 21)])) := by rw [eM137]; exact hm_up_s
        refine lv_iload_n hx hb dd_MO_header_68 rfl (lv_at hl 0 rfl) ?_
        refine hn_if_eq (tgt := 83) hx hb (by omega) dd_MO_header_69 (by decide) (fun c155 => ?_) (fun c155 => absurd c155 (by omega))
        refine lv_ldc2 (v := -1) hx hb hown (hts _ tw_1122) dd_MO_header_83 ?_
        refine lv_lstore (lv' := [(4, .long (-1)), (3, .int (nI 0)), (1, .long r42), (0, .ref (P 0))]) hx hb dd_MO_header_86 hl (by decide) rfl (fun ls hl => ?_)
        refine lv_iload_n hx hb dd_MO_header_88 rfl (lv_at hl 1 rfl) ?_
        refine hn_if_eq (tgt := 116) hx hb (by omega) dd_MO_header_89 (by decide) (fun c156 => ?_) (fun c156 => absurd c156 (by omega))
        refine lv_iconst (v := nI 0) hx hb dd_MO_header_116 (by decide +kernel) ?_
        refine lv_istore_n (lv' := [(3, .int (nI 0)), (4, .long (-1)), (1, .long r42), (0, .ref (P 0))]) hx hb dd_MO_header_117 rfl hl (by decide) rfl (fun ls hl => ?_)
        refine lv_aload_n hx hb dd_MO_header_118 rfl (lv_at hl 3 rfl) ?_
        refine lv_iconst (v := nI 0) hx hb dd_MO_header_119 (by decide +kernel) ?_
        refine hm_put (ci := 6) (v := .int (nI 0)) (ty := .int) (C := rn_MO) (T := ft_MO) (N := 22) hx hb hts fi_MO fy_MO fo_MO fn_MO hown hE.K hP hS (pb 0 (by decide)) f154 rfl 2 (by decide) (hts _ tw_988) (fun _ h9 => h9) rfl (by decide +kernel) rfl rfl (Nat.le_of_ble_eq_true rfl) dd_MO_header_120 (fun H locs hP hS => ?_)
        have hP : hm_P D cl_W (hm_up M137 (P 0) (.inr (6, [.int (nI 0), .ref (P 1), .int (nI 0), .ref (P 3), .ref (P 4), .ref (P 5), .int (I 6), .ref (P 7), .ref (P 8), .ref (P 9), .ref (P 10), .ref (P 11), .int (I 12), .int (I 13), .ref (P 14), .ref (P 15), .ref (P 16), .ref (P 17), .int (nI (er42 + 1)), .ref (P 19), .ref (P 20), .ref (P 21)]))) H := hP
        obtain ⟨M157, eM157⟩ : ∃ z, z = hm_up M137 (P 0) (.inr (6, [.int (nI 0), .ref (P 1), .int (nI 0), .ref (P 3), .ref (P 4), .ref (P 5), .int (I 6), .ref (P 7), .ref (P 8), .ref (P 9), .ref (P 10), .ref (P 11), .int (I 12), .int (I 13), .ref (P 14), .ref (P 15), .ref (P 16), .ref (P 17), .int (nI (er42 + 1)), .ref (P 19), .ref (P 20), .ref (P 21)])) := ⟨_, rfl⟩
        rw [← eM157] at hP
        have f158 : M157 (P 1) = some (.inl (D.1 102, 48, .inl (A 1))) := by rw [eM157]; exact hm_up_o (hm_neO (po 1 (by decide)) (po 0 (by decide)) (by decide)) f138
        have f159 : M157 (P 3) = some (.inl (D.1 102, 16, .inl (A 3))) := by rw [eM157]; exact hm_up_o (hm_neO (po 3 (by decide)) (po 0 (by decide)) (by decide)) f139
        have f160 : M157 (P 4) = some (.inl (D.1 102, 16, .inl (A 4))) := by rw [eM157]; exact hm_up_o (hm_neO (po 4 (by decide)) (po 0 (by decide)) (by decide)) f140
        have f161 : M157 (P 5) = some (.inl (D.1 101, 16, .inl (A 5))) := by rw [eM157]; exact hm_up_o (hm_neO (po 5 (by decide)) (po 0 (by decide)) (by decide)) f141
        have f162 : M157 (P 7) = some (.inl (D.1 102, 120, .inl (A 7))) := by rw [eM157]; exact hm_up_o (hm_neO (po 7 (by decide)) (po 0 (by decide)) (by decide)) f142
        have f163 : M157 (P 8) = some (.inl (D.1 102, 120, .inl (A 8))) := by rw [eM157]; exact hm_up_o (hm_neO (po 8 (by decide)) (po 0 (by decide)) (by decide)) f143
        have f164 : M157 (P 9) = some (.inl (D.1 102, 120, .inl (A 9))) := by rw [eM157]; exact hm_up_o (hm_neO (po 9 (by decide)) (po 0 (by decide)) (by decide)) f144
        have f165 : M157 (P 10) = some (.inl (D.1 102, 5760, .inl (A 10))) := by rw [eM157]; exact hm_up_o (hm_neO (po 10 (by decide)) (po 0 (by decide)) (by decide)) f145
        have f166 : M157 (P 11) = some (.inl (D.1 102, 48, .inl (A 11))) := by rw [eM157]; exact hm_up_o (hm_neO (po 11 (by decide)) (po 0 (by decide)) (by decide)) f146
        have f167 : M157 (P 14) = some (.inl (D.1 103, 6, .inr (.inl (L 14)))) := by rw [eM157]; exact hm_up_o (hm_neO (po 14 (by decide)) (po 0 (by decide)) (by decide)) f147
        have f168 : M157 (P 15) = some (.inl (D.1 103, 6, .inr (.inl (L 15)))) := by rw [eM157]; exact hm_up_o (hm_neO (po 15 (by decide)) (po 0 (by decide)) (by decide)) f148
        have f169 : M157 (P 16) = some (.inl (D.1 101, 16, .inl (A 16))) := by rw [eM157]; exact hm_up_o (hm_neO (po 16 (by decide)) (po 0 (by decide)) (by decide)) f149
        have f170 : M157 (P 17) = some (.inl (D.1 101, 16, .inl (A 17))) := by rw [eM157]; exact hm_up_o (hm_neO (po 17 (by decide)) (po 0 (by decide)) (by decide)) f150
        have f171 : M157 (P 19) = some (.inl (D.1 101, 2601, .inl (A 19))) := by rw [eM157]; exact hm_up_o (hm_neO (po 19 (by decide)) (po 0 (by decide)) (by decide)) f151
        have f172 : M157 (P 20) = some (.inl (D.1 102, 52, .inl (A 20))) := by rw [eM157]; exact hm_up_o (hm_neO (po 20 (by decide)) (po 0 (by decide)) (by decide)) f152
        have f173 : M157 (P 21) = some (.inl (D.1 102, 52, .inl (A 21))) := by rw [eM157]; exact hm_up_o (hm_neO (po 21 (by decide)) (po 0 (by decide)) (by decide)) f153
        have f174 : M157 (P 0) = some (.inr (6, [.int (nI 0), .ref (P 1), .int (nI 0), .ref (P 3), .ref (P 4), .ref (P 5), .int (I 6), .ref (P 7), .ref (P 8), .ref (P 9), .ref (P 10), .ref (P 11), .int (I 12), .int (I 13), .ref (P 14), .ref (P 15), .ref (P 16), .ref (P 17), .int (nI (er42 + 1)), .ref (P 19), .ref (P 20), .ref (P 21)])) := by rw [eM157]; exact hm_up_s
        refine lv_iload_n hx hb dd_MO_header_123 rfl (lv_at hl 0 rfl) ?_
        refine hn_if_eq (tgt := 135) hx hb (by omega) dd_MO_header_124 (by decide) (fun c175 => ?_) (fun c175 => absurd c175 (by omega))
        refine lv_iconst (v := (-1)) hx hb dd_MO_header_135 (by decide +kernel) ?_
        refine lv_istore (lv' := [(6, .int (-1)), (3, .int (nI 0)), (4, .long (-1)), (1, .long r42), (0, .ref (P 0))]) hx hb dd_MO_header_136 hl (by decide) rfl (fun ls hl => ?_)
        refine lv_iload_n hx hb dd_MO_header_138 rfl (lv_at hl 1 rfl) ?_
        refine hn_if_eq (tgt := 157) hx hb (by omega) dd_MO_header_139 (by decide) (fun c176 => ?_) (fun c176 => absurd c176 (by omega))
        refine lv_iconst (v := nI 0) hx hb dd_MO_header_157 (by decide +kernel) ?_
        have kk177 : hm_k M43 M43 [(P 0)] := hm_krf
        have kk178 : hm_k M43 M137 [(P 0)] := hm_ku kk177 (Or.inr (by simp)) eM137
        have kk179 : hm_k M43 M157 [(P 0)] := hm_ku kk178 (Or.inr (by simp)) eM157
        exact hm_Ei (v := nI 0) hx hb hr rfl hS hP (⟨bz_0 (by rw [hd_b, hpr]; rfl), (va_up (va_up (va_up I 0 (nI 0)) 2 (nI 0)) 18 (nI (er42 + 1))), A, L, ⟨f174, f158, f159, f160, f161, f162, f163, f164, f165, f166, f167, f168, f169, f170, f171, f172, f173, po, pb⟩, rfl, ⟨tpS_0, hX, hQ, hB, hK, by rw [hd_h, hpr]; exact hH, hFo, hPs⟩, (hF46).trans (cz_F.k0 kk179 (hm_a1 ⟨by rw [po 0 (by decide)]; unfold pm; omega, _, f174⟩))⟩) hlocks (by omega) (by omega) dd_MO_header_158
      · have c61 := c136
        refine lv_iconst (v := nI 1) hx hb dd_MO_header_52 (by decide +kernel) ?_
        refine lv_goto (tgt := 57) hx hb dd_MO_header_53 (by decide) ?_
        refine lv_istore_n (lv' := [(3, .int (nI 1)), (1, .long r42), (0, .ref (P 0))]) hx hb dd_MO_header_57 rfl hl (by decide) rfl (fun ls hl => ?_)
        refine lv_aload_n hx hb dd_MO_header_58 rfl (lv_at hl 2 rfl) ?_
        refine lv_dup hx hb dd_MO_header_59 rfl ?_
        refine hm_get (ci := 6) (C := rn_MO) (T := ft_MO) (N := 22) hx hb hts fi_MO hown hE.K hP g47_0 rfl 18 (by decide) (hts _ tw_1004) (fun _ h9 => h9) rfl dd_MO_header_60 ?_
        refine lv_iconst (v := nI 1) hx hb dd_MO_header_63 (by decide +kernel) ?_
        refine hn_iadd hx hb dd_MO_header_64 ?_
        refine hm_put (ci := 6) (v := .int (nI (er42 + 1))) (ty := .int) (C := rn_MO) (T := ft_MO) (N := 22) hx hb hts fi_MO fy_MO fo_MO fn_MO hown hE.K hP hS (pb 0 (by decide)) g47_0 rfl 18 (by decide) (hts _ tw_1004) (fun _ h9 => h9) rfl (by decide +kernel) rfl rfl (Nat.le_of_ble_eq_true rfl) dd_MO_header_65 (fun H locs hP hS => ?_)
        have hP : hm_P D cl_W (hm_up M43 (P 0) (.inr (6, [.int (nI 0), .ref (P 1), .int (I 2), .ref (P 3), .ref (P 4), .ref (P 5), .int (I 6), .ref (P 7), .ref (P 8), .ref (P 9), .ref (P 10), .ref (P 11), .int (I 12), .int (I 13), .ref (P 14), .ref (P 15), .ref (P 16), .ref (P 17), .int (nI (er42 + 1)), .ref (P 19), .ref (P 20), .ref (P 21)]))) H := hP
        obtain ⟨M180, eM180⟩ : ∃ z, z = hm_up M43 (P 0) (.inr (6, [.int (nI 0), .ref (P 1), .int (I 2), .ref (P 3), .ref (P 4), .ref (P 5), .int (I 6), .ref (P 7), .ref (P 8), .ref (P 9), .ref (P 10), .ref (P 11), .int (I 12), .int (I 13), .ref (P 14), .ref (P 15), .ref (P 16), .ref (P 17), .int (nI (er42 + 1)), .ref (P 19), .ref (P 20), .ref (P 21)])) := ⟨_, rfl⟩
        rw [← eM180] at hP
        have f181 : M180 (P 1) = some (.inl (D.1 102, 48, .inl (A 1))) := by rw [eM180]; exact hm_up_o (hm_neO (po 1 (by decide)) (po 0 (by decide)) (by decide)) g47_1
        have f182 : M180 (P 3) = some (.inl (D.1 102, 16, .inl (A 3))) := by rw [eM180]; exact hm_up_o (hm_neO (po 3 (by decide)) (po 0 (by decide)) (by decide)) g47_3
        have f183 : M180 (P 4) = some (.inl (D.1 102, 16, .inl (A 4))) := by rw [eM180]; exact hm_up_o (hm_neO (po 4 (by decide)) (po 0 (by decide)) (by decide)) g47_4
        have f184 : M180 (P 5) = some (.inl (D.1 101, 16, .inl (A 5))) := by rw [eM180]; exact hm_up_o (hm_neO (po 5 (by decide)) (po 0 (by decide)) (by decide)) g47_5
        have f185 : M180 (P 7) = some (.inl (D.1 102, 120, .inl (A 7))) := by rw [eM180]; exact hm_up_o (hm_neO (po 7 (by decide)) (po 0 (by decide)) (by decide)) g47_7
        have f186 : M180 (P 8) = some (.inl (D.1 102, 120, .inl (A 8))) := by rw [eM180]; exact hm_up_o (hm_neO (po 8 (by decide)) (po 0 (by decide)) (by decide)) g47_8
        have f187 : M180 (P 9) = some (.inl (D.1 102, 120, .inl (A 9))) := by rw [eM180]; exact hm_up_o (hm_neO (po 9 (by decide)) (po 0 (by decide)) (by decide)) g47_9
        have f188 : M180 (P 10) = some (.inl (D.1 102, 5760, .inl (A 10))) := by rw [eM180]; exact hm_up_o (hm_neO (po 10 (by decide)) (po 0 (by decide)) (by decide)) g47_10
        have f189 : M180 (P 11) = some (.inl (D.1 102, 48, .inl (A 11))) := by rw [eM180]; exact hm_up_o (hm_neO (po 11 (by decide)) (po 0 (by decide)) (by decide)) g47_11
        have f190 : M180 (P 14) = some (.inl (D.1 103, 6, .inr (.inl (L 14)))) := by rw [eM180]; exact hm_up_o (hm_neO (po 14 (by decide)) (po 0 (by decide)) (by decide)) g47_14
        have f191 : M180 (P 15) = some (.inl (D.1 103, 6, .inr (.inl (L 15)))) := by rw [eM180]; exact hm_up_o (hm_neO (po 15 (by decide)) (po 0 (by decide)) (by decide)) g47_15
        have f192 : M180 (P 16) = some (.inl (D.1 101, 16, .inl (A 16))) := by rw [eM180]; exact hm_up_o (hm_neO (po 16 (by decide)) (po 0 (by decide)) (by decide)) g47_16
        have f193 : M180 (P 17) = some (.inl (D.1 101, 16, .inl (A 17))) := by rw [eM180]; exact hm_up_o (hm_neO (po 17 (by decide)) (po 0 (by decide)) (by decide)) g47_17
        have f194 : M180 (P 19) = some (.inl (D.1 101, 2601, .inl (A 19))) := by rw [eM180]; exact hm_up_o (hm_neO (po 19 (by decide)) (po 0 (by decide)) (by decide)) g47_19
        have f195 : M180 (P 20) = some (.inl (D.1 102, 52, .inl (A 20))) := by rw [eM180]; exact hm_up_o (hm_neO (po 20 (by decide)) (po 0 (by decide)) (by decide)) g47_20
        have f196 : M180 (P 21) = some (.inl (D.1 102, 52, .inl (A 21))) := by rw [eM180]; exact hm_up_o (hm_neO (po 21 (by decide)) (po 0 (by decide)) (by decide)) g47_21
        have f197 : M180 (P 0) = some (.inr (6, [.int (nI 0), .ref (P 1), .int (I 2), .ref (P 3), .ref (P 4), .ref (P 5), .int (I 6), .ref (P 7), .ref (P 8), .ref (P 9), .ref (P 10), .ref (P 11), .int (I 12), .int (I 13), .ref (P 14), .ref (P 15), .ref (P 16), .ref (P 17), .int (nI (er42 + 1)), .ref (P 19), .ref (P 20), .ref (P 21)])) := by rw [eM180]; exact hm_up_s
        refine lv_iload_n hx hb dd_MO_header_68 rfl (lv_at hl 0 rfl) ?_
        refine hn_if_eq (tgt := 83) hx hb (by omega) dd_MO_header_69 (by decide) (fun c198 => absurd c198 (by omega)) (fun c198 => ?_)
        refine lv_aload_n hx hb dd_MO_header_72 rfl (lv_at hl 2 rfl) ?_
        refine lv_aload_n hx hb dd_MO_header_73 rfl (lv_at hl 2 rfl) ?_
        refine hm_get (ci := 6) (C := rn_MO) (T := ft_MO) (N := 22) hx hb hts fi_MO hown hE.K hP f197 rfl 2 (by decide) (hts _ tw_988) (fun _ h9 => h9) rfl dd_MO_header_74 ?_
        refine W.eq (g2 := F0 m 77 ls [.int (nI t.length), .ref (P 0)]) (by rw [ti1]) ?_
        have kk200 : hm_k M43 M43 [(P 0)] := hm_krf
        have kk201 : hm_k M43 M180 [(P 0)] := hm_ku kk200 (Or.inr (by simp)) eM180
        have hF202 : cz_F O M O M180 pm := (hF46).trans (cz_F.k0 kk201 (hm_a1 ⟨by rw [po 0 (by decide)]; unfold pm; omega, _, f197⟩))
        have hd199 : mo_D B D P O M180 (va_up (va_up I 0 (nI 0)) 18 (nI (er42 + 1))) A L := ⟨f197, f181, f182, f183, f184, f185, f186, f187, f188, f189, f190, f191, f192, f193, f194, f195, f196, po, pb⟩
        refine hm_cl hS (hm_rV 1 (As := [.int (nI t.length)]) (rest := []) ⟨hx, hb, hml, hown, hts⟩ hE hS hP (kc_MO_readValue l B D G M180 P O (va_up (va_up I 0 (nI 0)) 18 (nI (er42 + 1))) A L hd199 t hT (er42 + 1) (by omega) rfl) rfl f197 tw_1126 tw_1123 tw_1125 tw_26 tw_46 (by decide +kernel) rfl rfl ⟨by show 2 + 1 ≤ R.frames; omega, by show 8 + (5 + 11) + 40 ≤ R.locals; omega⟩ rfl hl.1 rfl (Nat.le_of_ble_eq_true rfl) dd_MO_header_77 ⟨by omega, by omega⟩) (fun r203 M204 H locs hw205 hP hS => ?_)
        refine W.widen (k := 0) (n := 0) (by omega) (by omega) ?_
        obtain ⟨er203, hnr203, hvr203, hd206, hF207⟩ := hw205
        have hF207 := hF202.trans hF207
        obtain ⟨g208_0, g208_1, g208_3, g208_4, g208_5, g208_7, g208_8, g208_9, g208_10, g208_11, g208_14, g208_15, g208_16, g208_17, g208_19, g208_20, g208_21, -, -⟩ := id hd206
        have g208_0 : M204 (P 0) = some (.inr (6, [.int (nI 0), .ref (P 1), .int (I 2), .ref (P 3), .ref (P 4), .ref (P 5), .int (I 6), .ref (P 7), .ref (P 8), .ref (P 9), .ref (P 10), .ref (P 11), .int (I 12), .int (I 13), .ref (P 14), .ref (P 15), .ref (P 16), .ref (P 17), .int (nI er203), .ref (P 19), .ref (P 20), .ref (P 21)])) := g208_0
        have hb1r203 := hnr203.1
        have hb2r203 := hnr203.2.1
        have hp2 := hd_2 hnr42 (by omega) c61 hnr203
        refine lv_goto (tgt := 86) hx hb dd_MO_header_80 (by decide) ?_
        refine lv_lstore (lv' := [(4, .long r203), (3, .int (nI 1)), (1, .long r42), (0, .ref (P 0))]) hx hb dd_MO_header_86 hl (by decide) rfl (fun ls hl => ?_)
        refine lv_iload_n hx hb dd_MO_header_88 rfl (lv_at hl 1 rfl) ?_
        refine hn_if_eq (tgt := 116) hx hb (by omega) dd_MO_header_89 (by decide) (fun c209 => absurd c209 (by omega)) (fun c209 => ?_)
        refine lv_lload hx hb dd_MO_header_92 (lv_at hl 0 rfl) ?_
        refine lv_ldc2 (v := -1) hx hb hown (hts _ tw_1122) dd_MO_header_94 ?_
        refine W.lcmp hx hb dd_MO_header_97 ?_
        refine hi_if_eq (tgt := 116) hx hb dd_MO_header_98 (by decide) (fun c210 => ?_) (fun c210 => ?_)
        · have hvl : ¬ er203 - (er42 + 1) < 7 := fun h9 => by
            have h8 := lc_eq c210
            rw [hvr203, if_pos h9] at h8
            exact cd_ne (fun c hc => (rn_r hnr203 (fun _ => pt_r) c hc).2) (by rw [rn_len hnr203]; omega) h8
          have hpr : pr_ok t true = false := by rw [hp2.1, decide_eq_false hvl, Bool.false_and, Bool.and_false]
          refine lv_iconst (v := nI 0) hx hb dd_MO_header_116 (by decide +kernel) ?_
          refine lv_istore_n (lv' := [(3, .int (nI 0)), (4, .long r203), (1, .long r42), (0, .ref (P 0))]) hx hb dd_MO_header_117 rfl hl (by decide) rfl (fun ls hl => ?_)
          refine lv_aload_n hx hb dd_MO_header_118 rfl (lv_at hl 3 rfl) ?_
          refine lv_iconst (v := nI 0) hx hb dd_MO_header_119 (by decide +kernel) ?_
          refine hm_put (ci := 6) (v := .int (nI 0)) (ty := .int) (C := rn_MO) (T := ft_MO) (N := 22) hx hb hts fi_MO fy_MO fo_MO fn_MO hown hE.K hP hS (pb 0 (by decide)) g208_0 rfl 2 (by decide) (hts _ tw_988) (fun _ h9 => h9) rfl (by decide +kernel) rfl rfl (Nat.le_of_ble_eq_true rfl) dd_MO_header_120 (fun H locs hP hS => ?_)
          have hP : hm_P D cl_W (hm_up M204 (P 0) (.inr (6, [.int (nI 0), .ref (P 1), .int (nI 0), .ref (P 3), .ref (P 4), .ref (P 5), .int (I 6), .ref (P 7), .ref (P 8), .ref (P 9), .ref (P 10), .ref (P 11), .int (I 12), .int (I 13), .ref (P 14), .ref (P 15), .ref (P 16), .ref (P 17), .int (nI er203), .ref (P 19), .ref (P 20), .ref (P 21)]))) H := hP
          obtain ⟨M211, eM211⟩ : ∃ z, z = hm_up M204 (P 0) (.inr (6, [.int (nI 0), .ref (P 1), .int (nI 0), .ref (P 3), .ref (P 4), .ref (P 5), .int (I 6), .ref (P 7), .ref (P 8), .ref (P 9), .ref (P 10), .ref (P 11), .int (I 12), .int (I 13), .ref (P 14), .ref (P 15), .ref (P 16), .ref (P 17), .int (nI er203), .ref (P 19), .ref (P 20), .ref (P 21)])) := ⟨_, rfl⟩
          rw [← eM211] at hP
          have f212 : M211 (P 1) = some (.inl (D.1 102, 48, .inl (A 1))) := by rw [eM211]; exact hm_up_o (hm_neO (po 1 (by decide)) (po 0 (by decide)) (by decide)) g208_1
          have f213 : M211 (P 3) = some (.inl (D.1 102, 16, .inl (A 3))) := by rw [eM211]; exact hm_up_o (hm_neO (po 3 (by decide)) (po 0 (by decide)) (by decide)) g208_3
          have f214 : M211 (P 4) = some (.inl (D.1 102, 16, .inl (A 4))) := by rw [eM211]; exact hm_up_o (hm_neO (po 4 (by decide)) (po 0 (by decide)) (by decide)) g208_4
          have f215 : M211 (P 5) = some (.inl (D.1 101, 16, .inl (A 5))) := by rw [eM211]; exact hm_up_o (hm_neO (po 5 (by decide)) (po 0 (by decide)) (by decide)) g208_5
          have f216 : M211 (P 7) = some (.inl (D.1 102, 120, .inl (A 7))) := by rw [eM211]; exact hm_up_o (hm_neO (po 7 (by decide)) (po 0 (by decide)) (by decide)) g208_7
          have f217 : M211 (P 8) = some (.inl (D.1 102, 120, .inl (A 8))) := by rw [eM211]; exact hm_up_o (hm_neO (po 8 (by decide)) (po 0 (by decide)) (by decide)) g208_8
          have f218 : M211 (P 9) = some (.inl (D.1 102, 120, .inl (A 9))) := by rw [eM211]; exact hm_up_o (hm_neO (po 9 (by decide)) (po 0 (by decide)) (by decide)) g208_9
          have f219 : M211 (P 10) = some (.inl (D.1 102, 5760, .inl (A 10))) := by rw [eM211]; exact hm_up_o (hm_neO (po 10 (by decide)) (po 0 (by decide)) (by decide)) g208_10
          have f220 : M211 (P 11) = some (.inl (D.1 102, 48, .inl (A 11))) := by rw [eM211]; exact hm_up_o (hm_neO (po 11 (by decide)) (po 0 (by decide)) (by decide)) g208_11
          have f221 : M211 (P 14) = some (.inl (D.1 103, 6, .inr (.inl (L 14)))) := by rw [eM211]; exact hm_up_o (hm_neO (po 14 (by decide)) (po 0 (by decide)) (by decide)) g208_14
          have f222 : M211 (P 15) = some (.inl (D.1 103, 6, .inr (.inl (L 15)))) := by rw [eM211]; exact hm_up_o (hm_neO (po 15 (by decide)) (po 0 (by decide)) (by decide)) g208_15
          have f223 : M211 (P 16) = some (.inl (D.1 101, 16, .inl (A 16))) := by rw [eM211]; exact hm_up_o (hm_neO (po 16 (by decide)) (po 0 (by decide)) (by decide)) g208_16
          have f224 : M211 (P 17) = some (.inl (D.1 101, 16, .inl (A 17))) := by rw [eM211]; exact hm_up_o (hm_neO (po 17 (by decide)) (po 0 (by decide)) (by decide)) g208_17
          have f225 : M211 (P 19) = some (.inl (D.1 101, 2601, .inl (A 19))) := by rw [eM211]; exact hm_up_o (hm_neO (po 19 (by decide)) (po 0 (by decide)) (by decide)) g208_19
          have f226 : M211 (P 20) = some (.inl (D.1 102, 52, .inl (A 20))) := by rw [eM211]; exact hm_up_o (hm_neO (po 20 (by decide)) (po 0 (by decide)) (by decide)) g208_20
          have f227 : M211 (P 21) = some (.inl (D.1 102, 52, .inl (A 21))) := by rw [eM211]; exact hm_up_o (hm_neO (po 21 (by decide)) (po 0 (by decide)) (by decide)) g208_21
          have f228 : M211 (P 0) = some (.inr (6, [.int (nI 0), .ref (P 1), .int (nI 0), .ref (P 3), .ref (P 4), .ref (P 5), .int (I 6), .ref (P 7), .ref (P 8), .ref (P 9), .ref (P 10), .ref (P 11), .int (I 12), .int (I 13), .ref (P 14), .ref (P 15), .ref (P 16), .ref (P 17), .int (nI er203), .ref (P 19), .ref (P 20), .ref (P 21)])) := by rw [eM211]; exact hm_up_s
          refine lv_iload_n hx hb dd_MO_header_123 rfl (lv_at hl 0 rfl) ?_
          refine hn_if_eq (tgt := 135) hx hb (by omega) dd_MO_header_124 (by decide) (fun c229 => ?_) (fun c229 => absurd c229 (by omega))
          refine lv_iconst (v := (-1)) hx hb dd_MO_header_135 (by decide +kernel) ?_
          refine lv_istore (lv' := [(6, .int (-1)), (3, .int (nI 0)), (4, .long r203), (1, .long r42), (0, .ref (P 0))]) hx hb dd_MO_header_136 hl (by decide) rfl (fun ls hl => ?_)
          refine lv_iload_n hx hb dd_MO_header_138 rfl (lv_at hl 1 rfl) ?_
          refine hn_if_eq (tgt := 157) hx hb (by omega) dd_MO_header_139 (by decide) (fun c230 => ?_) (fun c230 => absurd c230 (by omega))
          refine lv_iconst (v := nI 0) hx hb dd_MO_header_157 (by decide +kernel) ?_
          have kk231 : hm_k M204 M204 [(P 0)] := hm_krf
          have kk232 : hm_k M204 M211 [(P 0)] := hm_ku kk231 (Or.inr (by simp)) eM211
          exact hm_Ei (v := nI 0) hx hb hr rfl hS hP (⟨bz_0 (by rw [hd_b, hpr]; rfl), (va_up (va_up (va_up I 0 (nI 0)) 2 (nI 0)) 18 (nI er203)), A, L, ⟨f228, f212, f213, f214, f215, f216, f217, f218, f219, f220, f221, f222, f223, f224, f225, f226, f227, po, pb⟩, rfl, ⟨tpS_0, hX, hQ, hB, hK, by rw [hd_h, hpr]; exact hH, hFo, hPs⟩, (hF207).trans (cz_F.k0 kk232 (hm_a1 ⟨by rw [po 0 (by decide)]; unfold pm; omega, _, f228⟩))⟩) hlocks (by omega) (by omega) dd_MO_header_158
        · have hvl : er203 - (er42 + 1) < 7 := by
            by_cases h9 : er203 - (er42 + 1) < 7
            · exact h9
            · exact absurd (by rw [hvr203, if_neg h9]) (lc_ne c210)
          refine lv_aload_n hx hb dd_MO_header_101 rfl (lv_at hl 3 rfl) ?_
          refine hm_get (ci := 6) (C := rn_MO) (T := ft_MO) (N := 22) hx hb hts fi_MO hown hE.K hP g208_0 rfl 18 (by decide) (hts _ tw_1004) (fun _ h9 => h9) rfl dd_MO_header_102 ?_
          refine lv_aload_n hx hb dd_MO_header_105 rfl (lv_at hl 3 rfl) ?_
          refine hm_get (ci := 6) (C := rn_MO) (T := ft_MO) (N := 22) hx hb hts fi_MO hown hE.K hP g208_0 rfl 2 (by decide) (hts _ tw_988) (fun _ h9 => h9) rfl dd_MO_header_106 ?_
          refine W.eq (g2 := F0 m 109 ls [.int (nI t.length), .int (nI er203)]) (by rw [ti1]) ?_
          refine hn_icmp_ne (tgt := 116) hx hb (by omega) (by omega) dd_MO_header_109 (by decide) (fun c233 => ?_) (fun c233 => ?_)
          · have hpr : pr_ok t true = false := by rw [hp2.1, decide_eq_false (show ¬ _ = t.length by omega), Bool.and_false, Bool.and_false]
            refine lv_iconst (v := nI 0) hx hb dd_MO_header_116 (by decide +kernel) ?_
            refine lv_istore_n (lv' := [(3, .int (nI 0)), (4, .long r203), (1, .long r42), (0, .ref (P 0))]) hx hb dd_MO_header_117 rfl hl (by decide) rfl (fun ls hl => ?_)
            refine lv_aload_n hx hb dd_MO_header_118 rfl (lv_at hl 3 rfl) ?_
            refine lv_iconst (v := nI 0) hx hb dd_MO_header_119 (by decide +kernel) ?_
            refine hm_put (ci := 6) (v := .int (nI 0)) (ty := .int) (C := rn_MO) (T := ft_MO) (N := 22) hx hb hts fi_MO fy_MO fo_MO fn_MO hown hE.K hP hS (pb 0 (by decide)) g208_0 rfl 2 (by decide) (hts _ tw_988) (fun _ h9 => h9) rfl (by decide +kernel) rfl rfl (Nat.le_of_ble_eq_true rfl) dd_MO_header_120 (fun H locs hP hS => ?_)
            have hP : hm_P D cl_W (hm_up M204 (P 0) (.inr (6, [.int (nI 0), .ref (P 1), .int (nI 0), .ref (P 3), .ref (P 4), .ref (P 5), .int (I 6), .ref (P 7), .ref (P 8), .ref (P 9), .ref (P 10), .ref (P 11), .int (I 12), .int (I 13), .ref (P 14), .ref (P 15), .ref (P 16), .ref (P 17), .int (nI er203), .ref (P 19), .ref (P 20), .ref (P 21)]))) H := hP
            obtain ⟨M234, eM234⟩ : ∃ z, z = hm_up M204 (P 0) (.inr (6, [.int (nI 0), .ref (P 1), .int (nI 0), .ref (P 3), .ref (P 4), .ref (P 5), .int (I 6), .ref (P 7), .ref (P 8), .ref (P 9), .ref (P 10), .ref (P 11), .int (I 12), .int (I 13), .ref (P 14), .ref (P 15), .ref (P 16), .ref (P 17), .int (nI er203), .ref (P 19), .ref (P 20), .ref (P 21)])) := ⟨_, rfl⟩
            rw [← eM234] at hP
            have f235 : M234 (P 1) = some (.inl (D.1 102, 48, .inl (A 1))) := by rw [eM234]; exact hm_up_o (hm_neO (po 1 (by decide)) (po 0 (by decide)) (by decide)) g208_1
            have f236 : M234 (P 3) = some (.inl (D.1 102, 16, .inl (A 3))) := by rw [eM234]; exact hm_up_o (hm_neO (po 3 (by decide)) (po 0 (by decide)) (by decide)) g208_3
            have f237 : M234 (P 4) = some (.inl (D.1 102, 16, .inl (A 4))) := by rw [eM234]; exact hm_up_o (hm_neO (po 4 (by decide)) (po 0 (by decide)) (by decide)) g208_4
            have f238 : M234 (P 5) = some (.inl (D.1 101, 16, .inl (A 5))) := by rw [eM234]; exact hm_up_o (hm_neO (po 5 (by decide)) (po 0 (by decide)) (by decide)) g208_5
            have f239 : M234 (P 7) = some (.inl (D.1 102, 120, .inl (A 7))) := by rw [eM234]; exact hm_up_o (hm_neO (po 7 (by decide)) (po 0 (by decide)) (by decide)) g208_7
            have f240 : M234 (P 8) = some (.inl (D.1 102, 120, .inl (A 8))) := by rw [eM234]; exact hm_up_o (hm_neO (po 8 (by decide)) (po 0 (by decide)) (by decide)) g208_8
            have f241 : M234 (P 9) = some (.inl (D.1 102, 120, .inl (A 9))) := by rw [eM234]; exact hm_up_o (hm_neO (po 9 (by decide)) (po 0 (by decide)) (by decide)) g208_9
            have f242 : M234 (P 10) = some (.inl (D.1 102, 5760, .inl (A 10))) := by rw [eM234]; exact hm_up_o (hm_neO (po 10 (by decide)) (po 0 (by decide)) (by decide)) g208_10
            have f243 : M234 (P 11) = some (.inl (D.1 102, 48, .inl (A 11))) := by rw [eM234]; exact hm_up_o (hm_neO (po 11 (by decide)) (po 0 (by decide)) (by decide)) g208_11
            have f244 : M234 (P 14) = some (.inl (D.1 103, 6, .inr (.inl (L 14)))) := by rw [eM234]; exact hm_up_o (hm_neO (po 14 (by decide)) (po 0 (by decide)) (by decide)) g208_14
            have f245 : M234 (P 15) = some (.inl (D.1 103, 6, .inr (.inl (L 15)))) := by rw [eM234]; exact hm_up_o (hm_neO (po 15 (by decide)) (po 0 (by decide)) (by decide)) g208_15
            have f246 : M234 (P 16) = some (.inl (D.1 101, 16, .inl (A 16))) := by rw [eM234]; exact hm_up_o (hm_neO (po 16 (by decide)) (po 0 (by decide)) (by decide)) g208_16
            have f247 : M234 (P 17) = some (.inl (D.1 101, 16, .inl (A 17))) := by rw [eM234]; exact hm_up_o (hm_neO (po 17 (by decide)) (po 0 (by decide)) (by decide)) g208_17
            have f248 : M234 (P 19) = some (.inl (D.1 101, 2601, .inl (A 19))) := by rw [eM234]; exact hm_up_o (hm_neO (po 19 (by decide)) (po 0 (by decide)) (by decide)) g208_19
            have f249 : M234 (P 20) = some (.inl (D.1 102, 52, .inl (A 20))) := by rw [eM234]; exact hm_up_o (hm_neO (po 20 (by decide)) (po 0 (by decide)) (by decide)) g208_20
            have f250 : M234 (P 21) = some (.inl (D.1 102, 52, .inl (A 21))) := by rw [eM234]; exact hm_up_o (hm_neO (po 21 (by decide)) (po 0 (by decide)) (by decide)) g208_21
            have f251 : M234 (P 0) = some (.inr (6, [.int (nI 0), .ref (P 1), .int (nI 0), .ref (P 3), .ref (P 4), .ref (P 5), .int (I 6), .ref (P 7), .ref (P 8), .ref (P 9), .ref (P 10), .ref (P 11), .int (I 12), .int (I 13), .ref (P 14), .ref (P 15), .ref (P 16), .ref (P 17), .int (nI er203), .ref (P 19), .ref (P 20), .ref (P 21)])) := by rw [eM234]; exact hm_up_s
            refine lv_iload_n hx hb dd_MO_header_123 rfl (lv_at hl 0 rfl) ?_
            refine hn_if_eq (tgt := 135) hx hb (by omega) dd_MO_header_124 (by decide) (fun c252 => ?_) (fun c252 => absurd c252 (by omega))
            refine lv_iconst (v := (-1)) hx hb dd_MO_header_135 (by decide +kernel) ?_
            refine lv_istore (lv' := [(6, .int (-1)), (3, .int (nI 0)), (4, .long r203), (1, .long r42), (0, .ref (P 0))]) hx hb dd_MO_header_136 hl (by decide) rfl (fun ls hl => ?_)
            refine lv_iload_n hx hb dd_MO_header_138 rfl (lv_at hl 1 rfl) ?_
            refine hn_if_eq (tgt := 157) hx hb (by omega) dd_MO_header_139 (by decide) (fun c253 => ?_) (fun c253 => absurd c253 (by omega))
            refine lv_iconst (v := nI 0) hx hb dd_MO_header_157 (by decide +kernel) ?_
            have kk254 : hm_k M204 M204 [(P 0)] := hm_krf
            have kk255 : hm_k M204 M234 [(P 0)] := hm_ku kk254 (Or.inr (by simp)) eM234
            exact hm_Ei (v := nI 0) hx hb hr rfl hS hP (⟨bz_0 (by rw [hd_b, hpr]; rfl), (va_up (va_up (va_up I 0 (nI 0)) 2 (nI 0)) 18 (nI er203)), A, L, ⟨f251, f235, f236, f237, f238, f239, f240, f241, f242, f243, f244, f245, f246, f247, f248, f249, f250, po, pb⟩, rfl, ⟨tpS_0, hX, hQ, hB, hK, by rw [hd_h, hpr]; exact hH, hFo, hPs⟩, (hF207).trans (cz_F.k0 kk255 (hm_a1 ⟨by rw [po 0 (by decide)]; unfold pm; omega, _, f251⟩))⟩) hlocks (by omega) (by omega) dd_MO_header_158
          · have hpr : pr_ok t true = true := by rw [hp2.1, decide_eq_true hnm, decide_eq_true hvl, decide_eq_true (show _ = t.length by omega)]; rfl
            refine lv_iconst (v := nI 1) hx hb dd_MO_header_112 (by decide +kernel) ?_
            refine lv_goto (tgt := 117) hx hb dd_MO_header_113 (by decide) ?_
            refine lv_istore_n (lv' := [(3, .int (nI 1)), (4, .long r203), (1, .long r42), (0, .ref (P 0))]) hx hb dd_MO_header_117 rfl hl (by decide) rfl (fun ls hl => ?_)
            refine lv_aload_n hx hb dd_MO_header_118 rfl (lv_at hl 3 rfl) ?_
            refine lv_iconst (v := nI 0) hx hb dd_MO_header_119 (by decide +kernel) ?_
            refine hm_put (ci := 6) (v := .int (nI 0)) (ty := .int) (C := rn_MO) (T := ft_MO) (N := 22) hx hb hts fi_MO fy_MO fo_MO fn_MO hown hE.K hP hS (pb 0 (by decide)) g208_0 rfl 2 (by decide) (hts _ tw_988) (fun _ h9 => h9) rfl (by decide +kernel) rfl rfl (Nat.le_of_ble_eq_true rfl) dd_MO_header_120 (fun H locs hP hS => ?_)
            have hP : hm_P D cl_W (hm_up M204 (P 0) (.inr (6, [.int (nI 0), .ref (P 1), .int (nI 0), .ref (P 3), .ref (P 4), .ref (P 5), .int (I 6), .ref (P 7), .ref (P 8), .ref (P 9), .ref (P 10), .ref (P 11), .int (I 12), .int (I 13), .ref (P 14), .ref (P 15), .ref (P 16), .ref (P 17), .int (nI er203), .ref (P 19), .ref (P 20), .ref (P 21)]))) H := hP
            obtain ⟨M256, eM256⟩ : ∃ z, z = hm_up M204 (P 0) (.inr (6, [.int (nI 0), .ref (P 1), .int (nI 0), .ref (P 3), .ref (P 4), .ref (P 5), .int (I 6), .ref (P 7), .ref (P 8), .ref (P 9), .ref (P 10), .ref (P 11), .int (I 12), .int (I 13), .ref (P 14), .ref (P 15), .ref (P 16), .ref (P 17), .int (nI er203), .ref (P 19), .ref (P 20), .ref (P 21)])) := ⟨_, rfl⟩
            rw [← eM256] at hP
            have f257 : M256 (P 1) = some (.inl (D.1 102, 48, .inl (A 1))) := by rw [eM256]; exact hm_up_o (hm_neO (po 1 (by decide)) (po 0 (by decide)) (by decide)) g208_1
            have f258 : M256 (P 3) = some (.inl (D.1 102, 16, .inl (A 3))) := by rw [eM256]; exact hm_up_o (hm_neO (po 3 (by decide)) (po 0 (by decide)) (by decide)) g208_3
            have f259 : M256 (P 4) = some (.inl (D.1 102, 16, .inl (A 4))) := by rw [eM256]; exact hm_up_o (hm_neO (po 4 (by decide)) (po 0 (by decide)) (by decide)) g208_4
            have f260 : M256 (P 5) = some (.inl (D.1 101, 16, .inl (A 5))) := by rw [eM256]; exact hm_up_o (hm_neO (po 5 (by decide)) (po 0 (by decide)) (by decide)) g208_5
            have f261 : M256 (P 7) = some (.inl (D.1 102, 120, .inl (A 7))) := by rw [eM256]; exact hm_up_o (hm_neO (po 7 (by decide)) (po 0 (by decide)) (by decide)) g208_7
            have f262 : M256 (P 8) = some (.inl (D.1 102, 120, .inl (A 8))) := by rw [eM256]; exact hm_up_o (hm_neO (po 8 (by decide)) (po 0 (by decide)) (by decide)) g208_8
            have f263 : M256 (P 9) = some (.inl (D.1 102, 120, .inl (A 9))) := by rw [eM256]; exact hm_up_o (hm_neO (po 9 (by decide)) (po 0 (by decide)) (by decide)) g208_9
            have f264 : M256 (P 10) = some (.inl (D.1 102, 5760, .inl (A 10))) := by rw [eM256]; exact hm_up_o (hm_neO (po 10 (by decide)) (po 0 (by decide)) (by decide)) g208_10
            have f265 : M256 (P 11) = some (.inl (D.1 102, 48, .inl (A 11))) := by rw [eM256]; exact hm_up_o (hm_neO (po 11 (by decide)) (po 0 (by decide)) (by decide)) g208_11
            have f266 : M256 (P 14) = some (.inl (D.1 103, 6, .inr (.inl (L 14)))) := by rw [eM256]; exact hm_up_o (hm_neO (po 14 (by decide)) (po 0 (by decide)) (by decide)) g208_14
            have f267 : M256 (P 15) = some (.inl (D.1 103, 6, .inr (.inl (L 15)))) := by rw [eM256]; exact hm_up_o (hm_neO (po 15 (by decide)) (po 0 (by decide)) (by decide)) g208_15
            have f268 : M256 (P 16) = some (.inl (D.1 101, 16, .inl (A 16))) := by rw [eM256]; exact hm_up_o (hm_neO (po 16 (by decide)) (po 0 (by decide)) (by decide)) g208_16
            have f269 : M256 (P 17) = some (.inl (D.1 101, 16, .inl (A 17))) := by rw [eM256]; exact hm_up_o (hm_neO (po 17 (by decide)) (po 0 (by decide)) (by decide)) g208_17
            have f270 : M256 (P 19) = some (.inl (D.1 101, 2601, .inl (A 19))) := by rw [eM256]; exact hm_up_o (hm_neO (po 19 (by decide)) (po 0 (by decide)) (by decide)) g208_19
            have f271 : M256 (P 20) = some (.inl (D.1 102, 52, .inl (A 20))) := by rw [eM256]; exact hm_up_o (hm_neO (po 20 (by decide)) (po 0 (by decide)) (by decide)) g208_20
            have f272 : M256 (P 21) = some (.inl (D.1 102, 52, .inl (A 21))) := by rw [eM256]; exact hm_up_o (hm_neO (po 21 (by decide)) (po 0 (by decide)) (by decide)) g208_21
            have f273 : M256 (P 0) = some (.inr (6, [.int (nI 0), .ref (P 1), .int (nI 0), .ref (P 3), .ref (P 4), .ref (P 5), .int (I 6), .ref (P 7), .ref (P 8), .ref (P 9), .ref (P 10), .ref (P 11), .int (I 12), .int (I 13), .ref (P 14), .ref (P 15), .ref (P 16), .ref (P 17), .int (nI er203), .ref (P 19), .ref (P 20), .ref (P 21)])) := by rw [eM256]; exact hm_up_s
            refine lv_iload_n hx hb dd_MO_header_123 rfl (lv_at hl 0 rfl) ?_
            refine hn_if_eq (tgt := 135) hx hb (by omega) dd_MO_header_124 (by decide) (fun c274 => absurd c274 (by omega)) (fun c274 => ?_)
            refine lv_aload_n hx hb dd_MO_header_127 rfl (lv_at hl 3 rfl) ?_
            refine lv_lload_n hx hb dd_MO_header_128 rfl (lv_at hl 2 rfl) ?_
            have hnmo : nm_ok (tx_sl t 0 er42) = true := by
              have h9 := hpr
              rw [pr_ok, hp2.2.1, Bool.and_eq_true] at h9
              exact h9.1
            have hvlo : vl_ok (tx_sl t (er42 + 1) t.length) = true := by rw [vl_ok, tx_sl_len (Nat.le_refl _), decide_eq_true (by omega), tx_all (Nat.le_refl _) (fun j h8 h9 => hnr203.2.2.1 j h8 (by omega))]; rfl
            have hvn : r42 = cd (tx_sl t 0 er42) := by rw [hvr42, if_pos hnm]
            have hvv : r203 = cd (tx_sl t (er42 + 1) t.length) := by rw [hvr203, if_pos hvl, show er203 = t.length by omega]
            refine W.eq (g2 := F0 m 129 ls [.long (cd (tx_sl t 0 er42)), .ref (P 0)]) (by rw [hvn]) ?_
            have hl : lv_has ls 7 [(3, .int (nI 1)), (4, .long (cd (tx_sl t (er42 + 1) t.length))), (1, .long (cd (tx_sl t 0 er42))), (0, .ref (P 0))] := by rw [← hvn, ← hvv]; exact hl
            have hd275 : mo_D B D P O M256 (va_up (va_up (va_up I 0 (nI 0)) 2 (nI 0)) 18 (nI er203)) A L := ⟨f273, f257, f258, f259, f260, f261, f262, f263, f264, f265, f266, f267, f268, f269, f270, f271, f272, po, pb⟩
            refine hm_ci hS (hm_rV 1 (As := [.long (cd (tx_sl t 0 er42))]) (rest := []) ⟨hx, hb, hml, hown, hts⟩ hE hS hP (kc_MO_headerOf l B D G M256 P O (va_up (va_up (va_up I 0 (nI 0)) 2 (nI 0)) 18 (nI er203)) A L hd275 hs hH (tx_sl t 0 er42) hnmo) rfl f273 tw_1149 tw_1146 tw_1148 tw_28 tw_46 (by decide +kernel) rfl rfl ⟨by show 0 + 1 ≤ R.frames; omega, by show 8 + (4 + 11) + 0 ≤ R.locals; omega⟩ rfl hl.1 rfl (Nat.le_of_ble_eq_true rfl) dd_MO_header_129 ⟨by omega, by omega⟩) (fun r276 M277 H locs hw278 hP hS => ?_)
            refine W.widen (k := 0) (n := 0) (by omega) (by omega) ?_
            obtain ⟨hrM277, eM277⟩ := hw278
            rw [eM277] at hP
            rcases hrM277 with ⟨i9, g9, rfl, hg1, hg2, hg3⟩ | ⟨rfl, hg4⟩
            · have hil := (List.getElem?_eq_some_iff.mp hg1).1
              refine lv_goto (tgt := 136) hx hb dd_MO_header_132 (by decide) ?_
              refine lv_istore (lv' := [(6, .int (nI i9)), (3, .int (nI 1)), (4, .long (cd (tx_sl t (er42 + 1) t.length))), (1, .long (cd (tx_sl t 0 er42))), (0, .ref (P 0))]) hx hb dd_MO_header_136 hl (by decide) rfl (fun ls hl => ?_)
              refine lv_iload_n hx hb dd_MO_header_138 rfl (lv_at hl 1 rfl) ?_
              refine hn_if_eq (tgt := 157) hx hb (by omega) dd_MO_header_139 (by decide) (fun c279 => absurd c279 (by omega)) (fun c279 => ?_)
              refine lv_iload hx hb dd_MO_header_142 (lv_at hl 0 rfl) ?_
              refine lv_iconst (v := (-1)) hx hb dd_MO_header_144 (by decide +kernel) ?_
              refine hi_icmp_ne (tgt := 159) hx hb dd_MO_header_145 (by decide) (fun c280 => ?_) (fun c280 => ?_)
              · refine lv_iload hx hb dd_MO_header_159 (lv_at hl 0 rfl) ?_
                refine lv_iconst (v := (-1)) hx hb dd_MO_header_161 (by decide +kernel) ?_
                refine hi_icmp_ne (tgt := 181) hx hb dd_MO_header_162 (by decide) (fun c281 => ?_) (fun c281 => ?_)
                · refine lv_aload_n hx hb dd_MO_header_181 rfl (lv_at hl 4 rfl) ?_
                  refine hm_get (ci := 6) (C := rn_MO) (T := ft_MO) (N := 22) hx hb hts fi_MO hown hE.K hP f273 rfl 14 (by decide) (hts _ tw_1000) (fun _ h9 => h9) rfl dd_MO_header_182 ?_
                  refine lv_iload hx hb dd_MO_header_185 (lv_at hl 0 rfl) ?_
                  refine lv_lload_n hx hb dd_MO_header_187 rfl (lv_at hl 3 rfl) ?_
                  refine hm_last (j := i9) hx hb hE.K hP hS (pb 14 (by decide)) 3 f266 rfl (vp_in_nI (by omega) (by omega)) (nI_clamp (by omega)) dd_MO_header_188 (fun H locs hP hS => ?_)
                  obtain ⟨M282, eM282⟩ : ∃ z, z = hm_up M256 (P 14) (.inl (D.1 103, 6, .inr (.inl (vp_updL (L 14) i9 (cd (tx_sl t 0 er42)))))) := ⟨_, rfl⟩
                  rw [← eM282] at hP
                  have f283 : M282 (P 0) = some (.inr (6, [.int (nI 0), .ref (P 1), .int (nI 0), .ref (P 3), .ref (P 4), .ref (P 5), .int (I 6), .ref (P 7), .ref (P 8), .ref (P 9), .ref (P 10), .ref (P 11), .int (I 12), .int (I 13), .ref (P 14), .ref (P 15), .ref (P 16), .ref (P 17), .int (nI er203), .ref (P 19), .ref (P 20), .ref (P 21)])) := by rw [eM282]; exact hm_up_o (hm_neO (po 0 (by decide)) (po 14 (by decide)) (by decide)) f273
                  have f284 : M282 (P 1) = some (.inl (D.1 102, 48, .inl (A 1))) := by rw [eM282]; exact hm_up_o (hm_neO (po 1 (by decide)) (po 14 (by decide)) (by decide)) f257
                  have f285 : M282 (P 3) = some (.inl (D.1 102, 16, .inl (A 3))) := by rw [eM282]; exact hm_up_o (hm_neO (po 3 (by decide)) (po 14 (by decide)) (by decide)) f258
                  have f286 : M282 (P 4) = some (.inl (D.1 102, 16, .inl (A 4))) := by rw [eM282]; exact hm_up_o (hm_neO (po 4 (by decide)) (po 14 (by decide)) (by decide)) f259
                  have f287 : M282 (P 5) = some (.inl (D.1 101, 16, .inl (A 5))) := by rw [eM282]; exact hm_up_o (hm_neO (po 5 (by decide)) (po 14 (by decide)) (by decide)) f260
                  have f288 : M282 (P 7) = some (.inl (D.1 102, 120, .inl (A 7))) := by rw [eM282]; exact hm_up_o (hm_neO (po 7 (by decide)) (po 14 (by decide)) (by decide)) f261
                  have f289 : M282 (P 8) = some (.inl (D.1 102, 120, .inl (A 8))) := by rw [eM282]; exact hm_up_o (hm_neO (po 8 (by decide)) (po 14 (by decide)) (by decide)) f262
                  have f290 : M282 (P 9) = some (.inl (D.1 102, 120, .inl (A 9))) := by rw [eM282]; exact hm_up_o (hm_neO (po 9 (by decide)) (po 14 (by decide)) (by decide)) f263
                  have f291 : M282 (P 10) = some (.inl (D.1 102, 5760, .inl (A 10))) := by rw [eM282]; exact hm_up_o (hm_neO (po 10 (by decide)) (po 14 (by decide)) (by decide)) f264
                  have f292 : M282 (P 11) = some (.inl (D.1 102, 48, .inl (A 11))) := by rw [eM282]; exact hm_up_o (hm_neO (po 11 (by decide)) (po 14 (by decide)) (by decide)) f265
                  have f293 : M282 (P 15) = some (.inl (D.1 103, 6, .inr (.inl (L 15)))) := by rw [eM282]; exact hm_up_o (hm_neO (po 15 (by decide)) (po 14 (by decide)) (by decide)) f267
                  have f294 : M282 (P 16) = some (.inl (D.1 101, 16, .inl (A 16))) := by rw [eM282]; exact hm_up_o (hm_neO (po 16 (by decide)) (po 14 (by decide)) (by decide)) f268
                  have f295 : M282 (P 17) = some (.inl (D.1 101, 16, .inl (A 17))) := by rw [eM282]; exact hm_up_o (hm_neO (po 17 (by decide)) (po 14 (by decide)) (by decide)) f269
                  have f296 : M282 (P 19) = some (.inl (D.1 101, 2601, .inl (A 19))) := by rw [eM282]; exact hm_up_o (hm_neO (po 19 (by decide)) (po 14 (by decide)) (by decide)) f270
                  have f297 : M282 (P 20) = some (.inl (D.1 102, 52, .inl (A 20))) := by rw [eM282]; exact hm_up_o (hm_neO (po 20 (by decide)) (po 14 (by decide)) (by decide)) f271
                  have f298 : M282 (P 21) = some (.inl (D.1 102, 52, .inl (A 21))) := by rw [eM282]; exact hm_up_o (hm_neO (po 21 (by decide)) (po 14 (by decide)) (by decide)) f272
                  have f299 : M282 (P 14) = some (.inl (D.1 103, 6, .inr (.inl (vp_updL (L 14) i9 (cd (tx_sl t 0 er42)))))) := by rw [eM282]; exact hm_up_s
                  refine lv_aload_n hx hb dd_MO_header_189 rfl (lv_at hl 4 rfl) ?_
                  refine hm_get (ci := 6) (C := rn_MO) (T := ft_MO) (N := 22) hx hb hts fi_MO hown hE.K hP f283 rfl 15 (by decide) (hts _ tw_1001) (fun _ h9 => h9) rfl dd_MO_header_190 ?_
                  refine lv_iload hx hb dd_MO_header_193 (lv_at hl 0 rfl) ?_
                  refine lv_lload hx hb dd_MO_header_195 (lv_at hl 2 rfl) ?_
                  refine hm_last (j := i9) hx hb hE.K hP hS (pb 15 (by decide)) 3 f293 rfl (vp_in_nI (by omega) (by omega)) (nI_clamp (by omega)) dd_MO_header_197 (fun H locs hP hS => ?_)
                  obtain ⟨M300, eM300⟩ : ∃ z, z = hm_up M282 (P 15) (.inl (D.1 103, 6, .inr (.inl (vp_updL (L 15) i9 (cd (tx_sl t (er42 + 1) t.length)))))) := ⟨_, rfl⟩
                  rw [← eM300] at hP
                  have f301 : M300 (P 0) = some (.inr (6, [.int (nI 0), .ref (P 1), .int (nI 0), .ref (P 3), .ref (P 4), .ref (P 5), .int (I 6), .ref (P 7), .ref (P 8), .ref (P 9), .ref (P 10), .ref (P 11), .int (I 12), .int (I 13), .ref (P 14), .ref (P 15), .ref (P 16), .ref (P 17), .int (nI er203), .ref (P 19), .ref (P 20), .ref (P 21)])) := by rw [eM300]; exact hm_up_o (hm_neO (po 0 (by decide)) (po 15 (by decide)) (by decide)) f283
                  have f302 : M300 (P 1) = some (.inl (D.1 102, 48, .inl (A 1))) := by rw [eM300]; exact hm_up_o (hm_neO (po 1 (by decide)) (po 15 (by decide)) (by decide)) f284
                  have f303 : M300 (P 3) = some (.inl (D.1 102, 16, .inl (A 3))) := by rw [eM300]; exact hm_up_o (hm_neO (po 3 (by decide)) (po 15 (by decide)) (by decide)) f285
                  have f304 : M300 (P 4) = some (.inl (D.1 102, 16, .inl (A 4))) := by rw [eM300]; exact hm_up_o (hm_neO (po 4 (by decide)) (po 15 (by decide)) (by decide)) f286
                  have f305 : M300 (P 5) = some (.inl (D.1 101, 16, .inl (A 5))) := by rw [eM300]; exact hm_up_o (hm_neO (po 5 (by decide)) (po 15 (by decide)) (by decide)) f287
                  have f306 : M300 (P 7) = some (.inl (D.1 102, 120, .inl (A 7))) := by rw [eM300]; exact hm_up_o (hm_neO (po 7 (by decide)) (po 15 (by decide)) (by decide)) f288
                  have f307 : M300 (P 8) = some (.inl (D.1 102, 120, .inl (A 8))) := by rw [eM300]; exact hm_up_o (hm_neO (po 8 (by decide)) (po 15 (by decide)) (by decide)) f289
                  have f308 : M300 (P 9) = some (.inl (D.1 102, 120, .inl (A 9))) := by rw [eM300]; exact hm_up_o (hm_neO (po 9 (by decide)) (po 15 (by decide)) (by decide)) f290
                  have f309 : M300 (P 10) = some (.inl (D.1 102, 5760, .inl (A 10))) := by rw [eM300]; exact hm_up_o (hm_neO (po 10 (by decide)) (po 15 (by decide)) (by decide)) f291
                  have f310 : M300 (P 11) = some (.inl (D.1 102, 48, .inl (A 11))) := by rw [eM300]; exact hm_up_o (hm_neO (po 11 (by decide)) (po 15 (by decide)) (by decide)) f292
                  have f311 : M300 (P 14) = some (.inl (D.1 103, 6, .inr (.inl (vp_updL (L 14) i9 (cd (tx_sl t 0 er42)))))) := by rw [eM300]; exact hm_up_o (hm_neO (po 14 (by decide)) (po 15 (by decide)) (by decide)) f299
                  have f312 : M300 (P 16) = some (.inl (D.1 101, 16, .inl (A 16))) := by rw [eM300]; exact hm_up_o (hm_neO (po 16 (by decide)) (po 15 (by decide)) (by decide)) f294
                  have f313 : M300 (P 17) = some (.inl (D.1 101, 16, .inl (A 17))) := by rw [eM300]; exact hm_up_o (hm_neO (po 17 (by decide)) (po 15 (by decide)) (by decide)) f295
                  have f314 : M300 (P 19) = some (.inl (D.1 101, 2601, .inl (A 19))) := by rw [eM300]; exact hm_up_o (hm_neO (po 19 (by decide)) (po 15 (by decide)) (by decide)) f296
                  have f315 : M300 (P 20) = some (.inl (D.1 102, 52, .inl (A 20))) := by rw [eM300]; exact hm_up_o (hm_neO (po 20 (by decide)) (po 15 (by decide)) (by decide)) f297
                  have f316 : M300 (P 21) = some (.inl (D.1 102, 52, .inl (A 21))) := by rw [eM300]; exact hm_up_o (hm_neO (po 21 (by decide)) (po 15 (by decide)) (by decide)) f298
                  have f317 : M300 (P 15) = some (.inl (D.1 103, 6, .inr (.inl (vp_updL (L 15) i9 (cd (tx_sl t (er42 + 1) t.length)))))) := by rw [eM300]; exact hm_up_s
                  refine lv_iconst (v := nI 1) hx hb dd_MO_header_198 (by decide +kernel) ?_
                  have kk318 : hm_k M204 M204 [(P 0), (P 14), (P 15)] := hm_krf
                  have kk319 : hm_k M204 M256 [(P 0), (P 14), (P 15)] := hm_ku kk318 (Or.inr (by simp)) eM256
                  have kk320 : hm_k M204 M282 [(P 0), (P 14), (P 15)] := hm_ku kk319 (Or.inr (by simp)) eM282
                  have kk321 : hm_k M204 M300 [(P 0), (P 14), (P 15)] := hm_ku kk320 (Or.inr (by simp)) eM300
                  exact hm_Ei (v := nI 1) hx hb hr rfl hS hP (⟨bz_1 (by rw [hd_b, hpr, hp2.2.1, pu_b, pu_yes hg1 hg2]; rfl), (va_up (va_up (va_up I 0 (nI 0)) 2 (nI 0)) 18 (nI er203)), A, (va_up (va_up L 14 (vp_updL (L 14) i9 (cd (tx_sl t 0 er42)))) 15 (vp_updL (L 15) i9 (cd (tx_sl t (er42 + 1) t.length)))), ⟨f301, f302, f303, f304, f305, f306, f307, f308, f309, f310, f311, f317, f312, f313, f314, f315, f316, po, pb⟩, rfl, ⟨tpS_0, hX, hQ, hB, hK, by rw [hd_h, if_pos hpr, hp2.2.1, hp2.2.2, pu_r, pu_yes hg1 hg2, if_pos rfl, pu_set hs i9 g9 hg1 hg2 hg3]; rw [hg2]; exact hdS_set hH hil hnmo hvlo, hFo, hPs⟩, (hF207).trans (cz_F.k0 kk321 (hm_a3 ⟨by rw [po 0 (by decide)]; unfold pm; omega, _, f301⟩ ⟨by rw [po 14 (by decide)]; unfold pm; omega, _, f311⟩ ⟨by rw [po 15 (by decide)]; unfold pm; omega, _, f317⟩))⟩) hlocks (by omega) (by omega) dd_MO_header_199
                · have c162 := c281
                  refine lv_aload_n hx hb dd_MO_header_165 rfl (lv_at hl 4 rfl) ?_
                  refine hm_get (ci := 6) (C := rn_MO) (T := ft_MO) (N := 22) hx hb hts fi_MO hown hE.K hP f273 rfl 13 (by decide) (hts _ tw_999) (fun _ h9 => h9) rfl dd_MO_header_166 ?_
                  refine W.eq (g2 := F0 m 169 ls [.int (nI hs.length)]) (by rw [hi1]) ?_
                  refine lv_istore (lv' := [(6, .int (nI hs.length)), (3, .int (nI 1)), (4, .long (cd (tx_sl t (er42 + 1) t.length))), (1, .long (cd (tx_sl t 0 er42))), (0, .ref (P 0))]) hx hb dd_MO_header_169 hl (by decide) rfl (fun ls hl => ?_)
                  refine lv_aload_n hx hb dd_MO_header_171 rfl (lv_at hl 4 rfl) ?_
                  refine lv_dup hx hb dd_MO_header_172 rfl ?_
                  refine hm_get (ci := 6) (C := rn_MO) (T := ft_MO) (N := 22) hx hb hts fi_MO hown hE.K hP f273 rfl 13 (by decide) (hts _ tw_999) (fun _ h9 => h9) rfl dd_MO_header_173 ?_
                  refine W.eq (g2 := F0 m 176 ls [.int (nI hs.length), .ref (P 0)]) (by rw [hi1]) ?_
                  refine lv_iconst (v := nI 1) hx hb dd_MO_header_176 (by decide +kernel) ?_
                  refine hn_iadd hx hb dd_MO_header_177 ?_
                  refine hm_put (ci := 6) (v := .int (nI (hs.length + 1))) (ty := .int) (C := rn_MO) (T := ft_MO) (N := 22) hx hb hts fi_MO fy_MO fo_MO fn_MO hown hE.K hP hS (pb 0 (by decide)) f273 rfl 13 (by decide) (hts _ tw_999) (fun _ h9 => h9) rfl (by decide +kernel) rfl rfl (Nat.le_of_ble_eq_true rfl) dd_MO_header_178 (fun H locs hP hS => ?_)
                  have hP : hm_P D cl_W (hm_up M256 (P 0) (.inr (6, [.int (nI 0), .ref (P 1), .int (nI 0), .ref (P 3), .ref (P 4), .ref (P 5), .int (I 6), .ref (P 7), .ref (P 8), .ref (P 9), .ref (P 10), .ref (P 11), .int (I 12), .int (nI (hs.length + 1)), .ref (P 14), .ref (P 15), .ref (P 16), .ref (P 17), .int (nI er203), .ref (P 19), .ref (P 20), .ref (P 21)]))) H := hP
                  obtain ⟨M322, eM322⟩ : ∃ z, z = hm_up M256 (P 0) (.inr (6, [.int (nI 0), .ref (P 1), .int (nI 0), .ref (P 3), .ref (P 4), .ref (P 5), .int (I 6), .ref (P 7), .ref (P 8), .ref (P 9), .ref (P 10), .ref (P 11), .int (I 12), .int (nI (hs.length + 1)), .ref (P 14), .ref (P 15), .ref (P 16), .ref (P 17), .int (nI er203), .ref (P 19), .ref (P 20), .ref (P 21)])) := ⟨_, rfl⟩
                  rw [← eM322] at hP
                  have f323 : M322 (P 1) = some (.inl (D.1 102, 48, .inl (A 1))) := by rw [eM322]; exact hm_up_o (hm_neO (po 1 (by decide)) (po 0 (by decide)) (by decide)) f257
                  have f324 : M322 (P 3) = some (.inl (D.1 102, 16, .inl (A 3))) := by rw [eM322]; exact hm_up_o (hm_neO (po 3 (by decide)) (po 0 (by decide)) (by decide)) f258
                  have f325 : M322 (P 4) = some (.inl (D.1 102, 16, .inl (A 4))) := by rw [eM322]; exact hm_up_o (hm_neO (po 4 (by decide)) (po 0 (by decide)) (by decide)) f259
                  have f326 : M322 (P 5) = some (.inl (D.1 101, 16, .inl (A 5))) := by rw [eM322]; exact hm_up_o (hm_neO (po 5 (by decide)) (po 0 (by decide)) (by decide)) f260
                  have f327 : M322 (P 7) = some (.inl (D.1 102, 120, .inl (A 7))) := by rw [eM322]; exact hm_up_o (hm_neO (po 7 (by decide)) (po 0 (by decide)) (by decide)) f261
                  have f328 : M322 (P 8) = some (.inl (D.1 102, 120, .inl (A 8))) := by rw [eM322]; exact hm_up_o (hm_neO (po 8 (by decide)) (po 0 (by decide)) (by decide)) f262
                  have f329 : M322 (P 9) = some (.inl (D.1 102, 120, .inl (A 9))) := by rw [eM322]; exact hm_up_o (hm_neO (po 9 (by decide)) (po 0 (by decide)) (by decide)) f263
                  have f330 : M322 (P 10) = some (.inl (D.1 102, 5760, .inl (A 10))) := by rw [eM322]; exact hm_up_o (hm_neO (po 10 (by decide)) (po 0 (by decide)) (by decide)) f264
                  have f331 : M322 (P 11) = some (.inl (D.1 102, 48, .inl (A 11))) := by rw [eM322]; exact hm_up_o (hm_neO (po 11 (by decide)) (po 0 (by decide)) (by decide)) f265
                  have f332 : M322 (P 14) = some (.inl (D.1 103, 6, .inr (.inl (L 14)))) := by rw [eM322]; exact hm_up_o (hm_neO (po 14 (by decide)) (po 0 (by decide)) (by decide)) f266
                  have f333 : M322 (P 15) = some (.inl (D.1 103, 6, .inr (.inl (L 15)))) := by rw [eM322]; exact hm_up_o (hm_neO (po 15 (by decide)) (po 0 (by decide)) (by decide)) f267
                  have f334 : M322 (P 16) = some (.inl (D.1 101, 16, .inl (A 16))) := by rw [eM322]; exact hm_up_o (hm_neO (po 16 (by decide)) (po 0 (by decide)) (by decide)) f268
                  have f335 : M322 (P 17) = some (.inl (D.1 101, 16, .inl (A 17))) := by rw [eM322]; exact hm_up_o (hm_neO (po 17 (by decide)) (po 0 (by decide)) (by decide)) f269
                  have f336 : M322 (P 19) = some (.inl (D.1 101, 2601, .inl (A 19))) := by rw [eM322]; exact hm_up_o (hm_neO (po 19 (by decide)) (po 0 (by decide)) (by decide)) f270
                  have f337 : M322 (P 20) = some (.inl (D.1 102, 52, .inl (A 20))) := by rw [eM322]; exact hm_up_o (hm_neO (po 20 (by decide)) (po 0 (by decide)) (by decide)) f271
                  have f338 : M322 (P 21) = some (.inl (D.1 102, 52, .inl (A 21))) := by rw [eM322]; exact hm_up_o (hm_neO (po 21 (by decide)) (po 0 (by decide)) (by decide)) f272
                  have f339 : M322 (P 0) = some (.inr (6, [.int (nI 0), .ref (P 1), .int (nI 0), .ref (P 3), .ref (P 4), .ref (P 5), .int (I 6), .ref (P 7), .ref (P 8), .ref (P 9), .ref (P 10), .ref (P 11), .int (I 12), .int (nI (hs.length + 1)), .ref (P 14), .ref (P 15), .ref (P 16), .ref (P 17), .int (nI er203), .ref (P 19), .ref (P 20), .ref (P 21)])) := by rw [eM322]; exact hm_up_s
                  refine lv_aload_n hx hb dd_MO_header_181 rfl (lv_at hl 4 rfl) ?_
                  refine hm_get (ci := 6) (C := rn_MO) (T := ft_MO) (N := 22) hx hb hts fi_MO hown hE.K hP f339 rfl 14 (by decide) (hts _ tw_1000) (fun _ h9 => h9) rfl dd_MO_header_182 ?_
                  refine lv_iload hx hb dd_MO_header_185 (lv_at hl 0 rfl) ?_
                  refine lv_lload_n hx hb dd_MO_header_187 rfl (lv_at hl 3 rfl) ?_
                  refine hm_last (j := hs.length) hx hb hE.K hP hS (pb 14 (by decide)) 3 f332 rfl (vp_in_nI (by omega) (by omega)) (nI_clamp (by omega)) dd_MO_header_188 (fun H locs hP hS => ?_)
                  obtain ⟨M340, eM340⟩ : ∃ z, z = hm_up M322 (P 14) (.inl (D.1 103, 6, .inr (.inl (vp_updL (L 14) hs.length (cd (tx_sl t 0 er42)))))) := ⟨_, rfl⟩
                  rw [← eM340] at hP
                  have f341 : M340 (P 0) = some (.inr (6, [.int (nI 0), .ref (P 1), .int (nI 0), .ref (P 3), .ref (P 4), .ref (P 5), .int (I 6), .ref (P 7), .ref (P 8), .ref (P 9), .ref (P 10), .ref (P 11), .int (I 12), .int (nI (hs.length + 1)), .ref (P 14), .ref (P 15), .ref (P 16), .ref (P 17), .int (nI er203), .ref (P 19), .ref (P 20), .ref (P 21)])) := by rw [eM340]; exact hm_up_o (hm_neO (po 0 (by decide)) (po 14 (by decide)) (by decide)) f339
                  have f342 : M340 (P 1) = some (.inl (D.1 102, 48, .inl (A 1))) := by rw [eM340]; exact hm_up_o (hm_neO (po 1 (by decide)) (po 14 (by decide)) (by decide)) f323
                  have f343 : M340 (P 3) = some (.inl (D.1 102, 16, .inl (A 3))) := by rw [eM340]; exact hm_up_o (hm_neO (po 3 (by decide)) (po 14 (by decide)) (by decide)) f324
                  have f344 : M340 (P 4) = some (.inl (D.1 102, 16, .inl (A 4))) := by rw [eM340]; exact hm_up_o (hm_neO (po 4 (by decide)) (po 14 (by decide)) (by decide)) f325
                  have f345 : M340 (P 5) = some (.inl (D.1 101, 16, .inl (A 5))) := by rw [eM340]; exact hm_up_o (hm_neO (po 5 (by decide)) (po 14 (by decide)) (by decide)) f326
                  have f346 : M340 (P 7) = some (.inl (D.1 102, 120, .inl (A 7))) := by rw [eM340]; exact hm_up_o (hm_neO (po 7 (by decide)) (po 14 (by decide)) (by decide)) f327
                  have f347 : M340 (P 8) = some (.inl (D.1 102, 120, .inl (A 8))) := by rw [eM340]; exact hm_up_o (hm_neO (po 8 (by decide)) (po 14 (by decide)) (by decide)) f328
                  have f348 : M340 (P 9) = some (.inl (D.1 102, 120, .inl (A 9))) := by rw [eM340]; exact hm_up_o (hm_neO (po 9 (by decide)) (po 14 (by decide)) (by decide)) f329
                  have f349 : M340 (P 10) = some (.inl (D.1 102, 5760, .inl (A 10))) := by rw [eM340]; exact hm_up_o (hm_neO (po 10 (by decide)) (po 14 (by decide)) (by decide)) f330
                  have f350 : M340 (P 11) = some (.inl (D.1 102, 48, .inl (A 11))) := by rw [eM340]; exact hm_up_o (hm_neO (po 11 (by decide)) (po 14 (by decide)) (by decide)) f331
                  have f351 : M340 (P 15) = some (.inl (D.1 103, 6, .inr (.inl (L 15)))) := by rw [eM340]; exact hm_up_o (hm_neO (po 15 (by decide)) (po 14 (by decide)) (by decide)) f333
                  have f352 : M340 (P 16) = some (.inl (D.1 101, 16, .inl (A 16))) := by rw [eM340]; exact hm_up_o (hm_neO (po 16 (by decide)) (po 14 (by decide)) (by decide)) f334
                  have f353 : M340 (P 17) = some (.inl (D.1 101, 16, .inl (A 17))) := by rw [eM340]; exact hm_up_o (hm_neO (po 17 (by decide)) (po 14 (by decide)) (by decide)) f335
                  have f354 : M340 (P 19) = some (.inl (D.1 101, 2601, .inl (A 19))) := by rw [eM340]; exact hm_up_o (hm_neO (po 19 (by decide)) (po 14 (by decide)) (by decide)) f336
                  have f355 : M340 (P 20) = some (.inl (D.1 102, 52, .inl (A 20))) := by rw [eM340]; exact hm_up_o (hm_neO (po 20 (by decide)) (po 14 (by decide)) (by decide)) f337
                  have f356 : M340 (P 21) = some (.inl (D.1 102, 52, .inl (A 21))) := by rw [eM340]; exact hm_up_o (hm_neO (po 21 (by decide)) (po 14 (by decide)) (by decide)) f338
                  have f357 : M340 (P 14) = some (.inl (D.1 103, 6, .inr (.inl (vp_updL (L 14) hs.length (cd (tx_sl t 0 er42)))))) := by rw [eM340]; exact hm_up_s
                  refine lv_aload_n hx hb dd_MO_header_189 rfl (lv_at hl 4 rfl) ?_
                  refine hm_get (ci := 6) (C := rn_MO) (T := ft_MO) (N := 22) hx hb hts fi_MO hown hE.K hP f341 rfl 15 (by decide) (hts _ tw_1001) (fun _ h9 => h9) rfl dd_MO_header_190 ?_
                  refine lv_iload hx hb dd_MO_header_193 (lv_at hl 0 rfl) ?_
                  refine lv_lload hx hb dd_MO_header_195 (lv_at hl 2 rfl) ?_
                  refine hm_last (j := hs.length) hx hb hE.K hP hS (pb 15 (by decide)) 3 f351 rfl (vp_in_nI (by omega) (by omega)) (nI_clamp (by omega)) dd_MO_header_197 (fun H locs hP hS => ?_)
                  obtain ⟨M358, eM358⟩ : ∃ z, z = hm_up M340 (P 15) (.inl (D.1 103, 6, .inr (.inl (vp_updL (L 15) hs.length (cd (tx_sl t (er42 + 1) t.length)))))) := ⟨_, rfl⟩
                  rw [← eM358] at hP
                  have f359 : M358 (P 0) = some (.inr (6, [.int (nI 0), .ref (P 1), .int (nI 0), .ref (P 3), .ref (P 4), .ref (P 5), .int (I 6), .ref (P 7), .ref (P 8), .ref (P 9), .ref (P 10), .ref (P 11), .int (I 12), .int (nI (hs.length + 1)), .ref (P 14), .ref (P 15), .ref (P 16), .ref (P 17), .int (nI er203), .ref (P 19), .ref (P 20), .ref (P 21)])) := by rw [eM358]; exact hm_up_o (hm_neO (po 0 (by decide)) (po 15 (by decide)) (by decide)) f341
                  have f360 : M358 (P 1) = some (.inl (D.1 102, 48, .inl (A 1))) := by rw [eM358]; exact hm_up_o (hm_neO (po 1 (by decide)) (po 15 (by decide)) (by decide)) f342
                  have f361 : M358 (P 3) = some (.inl (D.1 102, 16, .inl (A 3))) := by rw [eM358]; exact hm_up_o (hm_neO (po 3 (by decide)) (po 15 (by decide)) (by decide)) f343
                  have f362 : M358 (P 4) = some (.inl (D.1 102, 16, .inl (A 4))) := by rw [eM358]; exact hm_up_o (hm_neO (po 4 (by decide)) (po 15 (by decide)) (by decide)) f344
                  have f363 : M358 (P 5) = some (.inl (D.1 101, 16, .inl (A 5))) := by rw [eM358]; exact hm_up_o (hm_neO (po 5 (by decide)) (po 15 (by decide)) (by decide)) f345
                  have f364 : M358 (P 7) = some (.inl (D.1 102, 120, .inl (A 7))) := by rw [eM358]; exact hm_up_o (hm_neO (po 7 (by decide)) (po 15 (by decide)) (by decide)) f346
                  have f365 : M358 (P 8) = some (.inl (D.1 102, 120, .inl (A 8))) := by rw [eM358]; exact hm_up_o (hm_neO (po 8 (by decide)) (po 15 (by decide)) (by decide)) f347
                  have f366 : M358 (P 9) = some (.inl (D.1 102, 120, .inl (A 9))) := by rw [eM358]; exact hm_up_o (hm_neO (po 9 (by decide)) (po 15 (by decide)) (by decide)) f348
                  have f367 : M358 (P 10) = some (.inl (D.1 102, 5760, .inl (A 10))) := by rw [eM358]; exact hm_up_o (hm_neO (po 10 (by decide)) (po 15 (by decide)) (by decide)) f349
                  have f368 : M358 (P 11) = some (.inl (D.1 102, 48, .inl (A 11))) := by rw [eM358]; exact hm_up_o (hm_neO (po 11 (by decide)) (po 15 (by decide)) (by decide)) f350
                  have f369 : M358 (P 14) = some (.inl (D.1 103, 6, .inr (.inl (vp_updL (L 14) hs.length (cd (tx_sl t 0 er42)))))) := by rw [eM358]; exact hm_up_o (hm_neO (po 14 (by decide)) (po 15 (by decide)) (by decide)) f357
                  have f370 : M358 (P 16) = some (.inl (D.1 101, 16, .inl (A 16))) := by rw [eM358]; exact hm_up_o (hm_neO (po 16 (by decide)) (po 15 (by decide)) (by decide)) f352
                  have f371 : M358 (P 17) = some (.inl (D.1 101, 16, .inl (A 17))) := by rw [eM358]; exact hm_up_o (hm_neO (po 17 (by decide)) (po 15 (by decide)) (by decide)) f353
                  have f372 : M358 (P 19) = some (.inl (D.1 101, 2601, .inl (A 19))) := by rw [eM358]; exact hm_up_o (hm_neO (po 19 (by decide)) (po 15 (by decide)) (by decide)) f354
                  have f373 : M358 (P 20) = some (.inl (D.1 102, 52, .inl (A 20))) := by rw [eM358]; exact hm_up_o (hm_neO (po 20 (by decide)) (po 15 (by decide)) (by decide)) f355
                  have f374 : M358 (P 21) = some (.inl (D.1 102, 52, .inl (A 21))) := by rw [eM358]; exact hm_up_o (hm_neO (po 21 (by decide)) (po 15 (by decide)) (by decide)) f356
                  have f375 : M358 (P 15) = some (.inl (D.1 103, 6, .inr (.inl (vp_updL (L 15) hs.length (cd (tx_sl t (er42 + 1) t.length)))))) := by rw [eM358]; exact hm_up_s
                  refine lv_iconst (v := nI 1) hx hb dd_MO_header_198 (by decide +kernel) ?_
                  exact hm_Ei (v := nI 1) hx hb hr rfl hS hP (absurd c162 (by rw [nI_toInt (by omega), tm1]; omega)) hlocks (by omega) (by omega) dd_MO_header_199
              · have c145 := c280
                refine lv_aload_n hx hb dd_MO_header_148 rfl (lv_at hl 4 rfl) ?_
                refine hm_get (ci := 6) (C := rn_MO) (T := ft_MO) (N := 22) hx hb hts fi_MO hown hE.K hP f273 rfl 13 (by decide) (hts _ tw_999) (fun _ h9 => h9) rfl dd_MO_header_149 ?_
                refine W.eq (g2 := F0 m 152 ls [.int (nI hs.length)]) (by rw [hi1]) ?_
                refine lv_bipush (v := nI 6) hx hb dd_MO_header_152 (by decide +kernel) ?_
                refine hn_icmp_ne (tgt := 159) hx hb (by omega) (by omega) dd_MO_header_154 (by decide) (fun c376 => ?_) (fun c376 => ?_)
                · refine lv_iload hx hb dd_MO_header_159 (lv_at hl 0 rfl) ?_
                  refine lv_iconst (v := (-1)) hx hb dd_MO_header_161 (by decide +kernel) ?_
                  refine hi_icmp_ne (tgt := 181) hx hb dd_MO_header_162 (by decide) (fun c377 => ?_) (fun c377 => ?_)
                  · refine lv_aload_n hx hb dd_MO_header_181 rfl (lv_at hl 4 rfl) ?_
                    refine hm_get (ci := 6) (C := rn_MO) (T := ft_MO) (N := 22) hx hb hts fi_MO hown hE.K hP f273 rfl 14 (by decide) (hts _ tw_1000) (fun _ h9 => h9) rfl dd_MO_header_182 ?_
                    refine lv_iload hx hb dd_MO_header_185 (lv_at hl 0 rfl) ?_
                    refine lv_lload_n hx hb dd_MO_header_187 rfl (lv_at hl 3 rfl) ?_
                    refine hm_last (j := i9) hx hb hE.K hP hS (pb 14 (by decide)) 3 f266 rfl (vp_in_nI (by omega) (by omega)) (nI_clamp (by omega)) dd_MO_header_188 (fun H locs hP hS => ?_)
                    obtain ⟨M378, eM378⟩ : ∃ z, z = hm_up M256 (P 14) (.inl (D.1 103, 6, .inr (.inl (vp_updL (L 14) i9 (cd (tx_sl t 0 er42)))))) := ⟨_, rfl⟩
                    rw [← eM378] at hP
                    have f379 : M378 (P 0) = some (.inr (6, [.int (nI 0), .ref (P 1), .int (nI 0), .ref (P 3), .ref (P 4), .ref (P 5), .int (I 6), .ref (P 7), .ref (P 8), .ref (P 9), .ref (P 10), .ref (P 11), .int (I 12), .int (I 13), .ref (P 14), .ref (P 15), .ref (P 16), .ref (P 17), .int (nI er203), .ref (P 19), .ref (P 20), .ref (P 21)])) := by rw [eM378]; exact hm_up_o (hm_neO (po 0 (by decide)) (po 14 (by decide)) (by decide)) f273
                    have f380 : M378 (P 1) = some (.inl (D.1 102, 48, .inl (A 1))) := by rw [eM378]; exact hm_up_o (hm_neO (po 1 (by decide)) (po 14 (by decide)) (by decide)) f257
                    have f381 : M378 (P 3) = some (.inl (D.1 102, 16, .inl (A 3))) := by rw [eM378]; exact hm_up_o (hm_neO (po 3 (by decide)) (po 14 (by decide)) (by decide)) f258
                    have f382 : M378 (P 4) = some (.inl (D.1 102, 16, .inl (A 4))) := by rw [eM378]; exact hm_up_o (hm_neO (po 4 (by decide)) (po 14 (by decide)) (by decide)) f259
                    have f383 : M378 (P 5) = some (.inl (D.1 101, 16, .inl (A 5))) := by rw [eM378]; exact hm_up_o (hm_neO (po 5 (by decide)) (po 14 (by decide)) (by decide)) f260
                    have f384 : M378 (P 7) = some (.inl (D.1 102, 120, .inl (A 7))) := by rw [eM378]; exact hm_up_o (hm_neO (po 7 (by decide)) (po 14 (by decide)) (by decide)) f261
                    have f385 : M378 (P 8) = some (.inl (D.1 102, 120, .inl (A 8))) := by rw [eM378]; exact hm_up_o (hm_neO (po 8 (by decide)) (po 14 (by decide)) (by decide)) f262
                    have f386 : M378 (P 9) = some (.inl (D.1 102, 120, .inl (A 9))) := by rw [eM378]; exact hm_up_o (hm_neO (po 9 (by decide)) (po 14 (by decide)) (by decide)) f263
                    have f387 : M378 (P 10) = some (.inl (D.1 102, 5760, .inl (A 10))) := by rw [eM378]; exact hm_up_o (hm_neO (po 10 (by decide)) (po 14 (by decide)) (by decide)) f264
                    have f388 : M378 (P 11) = some (.inl (D.1 102, 48, .inl (A 11))) := by rw [eM378]; exact hm_up_o (hm_neO (po 11 (by decide)) (po 14 (by decide)) (by decide)) f265
                    have f389 : M378 (P 15) = some (.inl (D.1 103, 6, .inr (.inl (L 15)))) := by rw [eM378]; exact hm_up_o (hm_neO (po 15 (by decide)) (po 14 (by decide)) (by decide)) f267
                    have f390 : M378 (P 16) = some (.inl (D.1 101, 16, .inl (A 16))) := by rw [eM378]; exact hm_up_o (hm_neO (po 16 (by decide)) (po 14 (by decide)) (by decide)) f268
                    have f391 : M378 (P 17) = some (.inl (D.1 101, 16, .inl (A 17))) := by rw [eM378]; exact hm_up_o (hm_neO (po 17 (by decide)) (po 14 (by decide)) (by decide)) f269
                    have f392 : M378 (P 19) = some (.inl (D.1 101, 2601, .inl (A 19))) := by rw [eM378]; exact hm_up_o (hm_neO (po 19 (by decide)) (po 14 (by decide)) (by decide)) f270
                    have f393 : M378 (P 20) = some (.inl (D.1 102, 52, .inl (A 20))) := by rw [eM378]; exact hm_up_o (hm_neO (po 20 (by decide)) (po 14 (by decide)) (by decide)) f271
                    have f394 : M378 (P 21) = some (.inl (D.1 102, 52, .inl (A 21))) := by rw [eM378]; exact hm_up_o (hm_neO (po 21 (by decide)) (po 14 (by decide)) (by decide)) f272
                    have f395 : M378 (P 14) = some (.inl (D.1 103, 6, .inr (.inl (vp_updL (L 14) i9 (cd (tx_sl t 0 er42)))))) := by rw [eM378]; exact hm_up_s
                    refine lv_aload_n hx hb dd_MO_header_189 rfl (lv_at hl 4 rfl) ?_
                    refine hm_get (ci := 6) (C := rn_MO) (T := ft_MO) (N := 22) hx hb hts fi_MO hown hE.K hP f379 rfl 15 (by decide) (hts _ tw_1001) (fun _ h9 => h9) rfl dd_MO_header_190 ?_
                    refine lv_iload hx hb dd_MO_header_193 (lv_at hl 0 rfl) ?_
                    refine lv_lload hx hb dd_MO_header_195 (lv_at hl 2 rfl) ?_
                    refine hm_last (j := i9) hx hb hE.K hP hS (pb 15 (by decide)) 3 f389 rfl (vp_in_nI (by omega) (by omega)) (nI_clamp (by omega)) dd_MO_header_197 (fun H locs hP hS => ?_)
                    obtain ⟨M396, eM396⟩ : ∃ z, z = hm_up M378 (P 15) (.inl (D.1 103, 6, .inr (.inl (vp_updL (L 15) i9 (cd (tx_sl t (er42 + 1) t.length)))))) := ⟨_, rfl⟩
                    rw [← eM396] at hP
                    have f397 : M396 (P 0) = some (.inr (6, [.int (nI 0), .ref (P 1), .int (nI 0), .ref (P 3), .ref (P 4), .ref (P 5), .int (I 6), .ref (P 7), .ref (P 8), .ref (P 9), .ref (P 10), .ref (P 11), .int (I 12), .int (I 13), .ref (P 14), .ref (P 15), .ref (P 16), .ref (P 17), .int (nI er203), .ref (P 19), .ref (P 20), .ref (P 21)])) := by rw [eM396]; exact hm_up_o (hm_neO (po 0 (by decide)) (po 15 (by decide)) (by decide)) f379
                    have f398 : M396 (P 1) = some (.inl (D.1 102, 48, .inl (A 1))) := by rw [eM396]; exact hm_up_o (hm_neO (po 1 (by decide)) (po 15 (by decide)) (by decide)) f380
                    have f399 : M396 (P 3) = some (.inl (D.1 102, 16, .inl (A 3))) := by rw [eM396]; exact hm_up_o (hm_neO (po 3 (by decide)) (po 15 (by decide)) (by decide)) f381
                    have f400 : M396 (P 4) = some (.inl (D.1 102, 16, .inl (A 4))) := by rw [eM396]; exact hm_up_o (hm_neO (po 4 (by decide)) (po 15 (by decide)) (by decide)) f382
                    have f401 : M396 (P 5) = some (.inl (D.1 101, 16, .inl (A 5))) := by rw [eM396]; exact hm_up_o (hm_neO (po 5 (by decide)) (po 15 (by decide)) (by decide)) f383
                    have f402 : M396 (P 7) = some (.inl (D.1 102, 120, .inl (A 7))) := by rw [eM396]; exact hm_up_o (hm_neO (po 7 (by decide)) (po 15 (by decide)) (by decide)) f384
                    have f403 : M396 (P 8) = some (.inl (D.1 102, 120, .inl (A 8))) := by rw [eM396]; exact hm_up_o (hm_neO (po 8 (by decide)) (po 15 (by decide)) (by decide)) f385
                    have f404 : M396 (P 9) = some (.inl (D.1 102, 120, .inl (A 9))) := by rw [eM396]; exact hm_up_o (hm_neO (po 9 (by decide)) (po 15 (by decide)) (by decide)) f386
                    have f405 : M396 (P 10) = some (.inl (D.1 102, 5760, .inl (A 10))) := by rw [eM396]; exact hm_up_o (hm_neO (po 10 (by decide)) (po 15 (by decide)) (by decide)) f387
                    have f406 : M396 (P 11) = some (.inl (D.1 102, 48, .inl (A 11))) := by rw [eM396]; exact hm_up_o (hm_neO (po 11 (by decide)) (po 15 (by decide)) (by decide)) f388
                    have f407 : M396 (P 14) = some (.inl (D.1 103, 6, .inr (.inl (vp_updL (L 14) i9 (cd (tx_sl t 0 er42)))))) := by rw [eM396]; exact hm_up_o (hm_neO (po 14 (by decide)) (po 15 (by decide)) (by decide)) f395
                    have f408 : M396 (P 16) = some (.inl (D.1 101, 16, .inl (A 16))) := by rw [eM396]; exact hm_up_o (hm_neO (po 16 (by decide)) (po 15 (by decide)) (by decide)) f390
                    have f409 : M396 (P 17) = some (.inl (D.1 101, 16, .inl (A 17))) := by rw [eM396]; exact hm_up_o (hm_neO (po 17 (by decide)) (po 15 (by decide)) (by decide)) f391
                    have f410 : M396 (P 19) = some (.inl (D.1 101, 2601, .inl (A 19))) := by rw [eM396]; exact hm_up_o (hm_neO (po 19 (by decide)) (po 15 (by decide)) (by decide)) f392
                    have f411 : M396 (P 20) = some (.inl (D.1 102, 52, .inl (A 20))) := by rw [eM396]; exact hm_up_o (hm_neO (po 20 (by decide)) (po 15 (by decide)) (by decide)) f393
                    have f412 : M396 (P 21) = some (.inl (D.1 102, 52, .inl (A 21))) := by rw [eM396]; exact hm_up_o (hm_neO (po 21 (by decide)) (po 15 (by decide)) (by decide)) f394
                    have f413 : M396 (P 15) = some (.inl (D.1 103, 6, .inr (.inl (vp_updL (L 15) i9 (cd (tx_sl t (er42 + 1) t.length)))))) := by rw [eM396]; exact hm_up_s
                    refine lv_iconst (v := nI 1) hx hb dd_MO_header_198 (by decide +kernel) ?_
                    have kk414 : hm_k M204 M204 [(P 0), (P 14), (P 15)] := hm_krf
                    have kk415 : hm_k M204 M256 [(P 0), (P 14), (P 15)] := hm_ku kk414 (Or.inr (by simp)) eM256
                    have kk416 : hm_k M204 M378 [(P 0), (P 14), (P 15)] := hm_ku kk415 (Or.inr (by simp)) eM378
                    have kk417 : hm_k M204 M396 [(P 0), (P 14), (P 15)] := hm_ku kk416 (Or.inr (by simp)) eM396
                    exact hm_Ei (v := nI 1) hx hb hr rfl hS hP (⟨bz_1 (by rw [hd_b, hpr, hp2.2.1, pu_b, pu_yes hg1 hg2]; rfl), (va_up (va_up (va_up I 0 (nI 0)) 2 (nI 0)) 18 (nI er203)), A, (va_up (va_up L 14 (vp_updL (L 14) i9 (cd (tx_sl t 0 er42)))) 15 (vp_updL (L 15) i9 (cd (tx_sl t (er42 + 1) t.length)))), ⟨f397, f398, f399, f400, f401, f402, f403, f404, f405, f406, f407, f413, f408, f409, f410, f411, f412, po, pb⟩, rfl, ⟨tpS_0, hX, hQ, hB, hK, by rw [hd_h, if_pos hpr, hp2.2.1, hp2.2.2, pu_r, pu_yes hg1 hg2, if_pos rfl, pu_set hs i9 g9 hg1 hg2 hg3]; rw [hg2]; exact hdS_set hH hil hnmo hvlo, hFo, hPs⟩, (hF207).trans (cz_F.k0 kk417 (hm_a3 ⟨by rw [po 0 (by decide)]; unfold pm; omega, _, f397⟩ ⟨by rw [po 14 (by decide)]; unfold pm; omega, _, f407⟩ ⟨by rw [po 15 (by decide)]; unfold pm; omega, _, f413⟩))⟩) hlocks (by omega) (by omega) dd_MO_header_199
                  · have c162 := c377
                    refine lv_aload_n hx hb dd_MO_header_165 rfl (lv_at hl 4 rfl) ?_
                    refine hm_get (ci := 6) (C := rn_MO) (T := ft_MO) (N := 22) hx hb hts fi_MO hown hE.K hP f273 rfl 13 (by decide) (hts _ tw_999) (fun _ h9 => h9) rfl dd_MO_header_166 ?_
                    refine W.eq (g2 := F0 m 169 ls [.int (nI hs.length)]) (by rw [hi1]) ?_
                    refine lv_istore (lv' := [(6, .int (nI hs.length)), (3, .int (nI 1)), (4, .long (cd (tx_sl t (er42 + 1) t.length))), (1, .long (cd (tx_sl t 0 er42))), (0, .ref (P 0))]) hx hb dd_MO_header_169 hl (by decide) rfl (fun ls hl => ?_)
                    refine lv_aload_n hx hb dd_MO_header_171 rfl (lv_at hl 4 rfl) ?_
                    refine lv_dup hx hb dd_MO_header_172 rfl ?_
                    refine hm_get (ci := 6) (C := rn_MO) (T := ft_MO) (N := 22) hx hb hts fi_MO hown hE.K hP f273 rfl 13 (by decide) (hts _ tw_999) (fun _ h9 => h9) rfl dd_MO_header_173 ?_
                    refine W.eq (g2 := F0 m 176 ls [.int (nI hs.length), .ref (P 0)]) (by rw [hi1]) ?_
                    refine lv_iconst (v := nI 1) hx hb dd_MO_header_176 (by decide +kernel) ?_
                    refine hn_iadd hx hb dd_MO_header_177 ?_
                    refine hm_put (ci := 6) (v := .int (nI (hs.length + 1))) (ty := .int) (C := rn_MO) (T := ft_MO) (N := 22) hx hb hts fi_MO fy_MO fo_MO fn_MO hown hE.K hP hS (pb 0 (by decide)) f273 rfl 13 (by decide) (hts _ tw_999) (fun _ h9 => h9) rfl (by decide +kernel) rfl rfl (Nat.le_of_ble_eq_true rfl) dd_MO_header_178 (fun H locs hP hS => ?_)
                    have hP : hm_P D cl_W (hm_up M256 (P 0) (.inr (6, [.int (nI 0), .ref (P 1), .int (nI 0), .ref (P 3), .ref (P 4), .ref (P 5), .int (I 6), .ref (P 7), .ref (P 8), .ref (P 9), .ref (P 10), .ref (P 11), .int (I 12), .int (nI (hs.length + 1)), .ref (P 14), .ref (P 15), .ref (P 16), .ref (P 17), .int (nI er203), .ref (P 19), .ref (P 20), .ref (P 21)]))) H := hP
                    obtain ⟨M418, eM418⟩ : ∃ z, z = hm_up M256 (P 0) (.inr (6, [.int (nI 0), .ref (P 1), .int (nI 0), .ref (P 3), .ref (P 4), .ref (P 5), .int (I 6), .ref (P 7), .ref (P 8), .ref (P 9), .ref (P 10), .ref (P 11), .int (I 12), .int (nI (hs.length + 1)), .ref (P 14), .ref (P 15), .ref (P 16), .ref (P 17), .int (nI er203), .ref (P 19), .ref (P 20), .ref (P 21)])) := ⟨_, rfl⟩
                    rw [← eM418] at hP
                    have f419 : M418 (P 1) = some (.inl (D.1 102, 48, .inl (A 1))) := by rw [eM418]; exact hm_up_o (hm_neO (po 1 (by decide)) (po 0 (by decide)) (by decide)) f257
                    have f420 : M418 (P 3) = some (.inl (D.1 102, 16, .inl (A 3))) := by rw [eM418]; exact hm_up_o (hm_neO (po 3 (by decide)) (po 0 (by decide)) (by decide)) f258
                    have f421 : M418 (P 4) = some (.inl (D.1 102, 16, .inl (A 4))) := by rw [eM418]; exact hm_up_o (hm_neO (po 4 (by decide)) (po 0 (by decide)) (by decide)) f259
                    have f422 : M418 (P 5) = some (.inl (D.1 101, 16, .inl (A 5))) := by rw [eM418]; exact hm_up_o (hm_neO (po 5 (by decide)) (po 0 (by decide)) (by decide)) f260
                    have f423 : M418 (P 7) = some (.inl (D.1 102, 120, .inl (A 7))) := by rw [eM418]; exact hm_up_o (hm_neO (po 7 (by decide)) (po 0 (by decide)) (by decide)) f261
                    have f424 : M418 (P 8) = some (.inl (D.1 102, 120, .inl (A 8))) := by rw [eM418]; exact hm_up_o (hm_neO (po 8 (by decide)) (po 0 (by decide)) (by decide)) f262
                    have f425 : M418 (P 9) = some (.inl (D.1 102, 120, .inl (A 9))) := by rw [eM418]; exact hm_up_o (hm_neO (po 9 (by decide)) (po 0 (by decide)) (by decide)) f263
                    have f426 : M418 (P 10) = some (.inl (D.1 102, 5760, .inl (A 10))) := by rw [eM418]; exact hm_up_o (hm_neO (po 10 (by decide)) (po 0 (by decide)) (by decide)) f264
                    have f427 : M418 (P 11) = some (.inl (D.1 102, 48, .inl (A 11))) := by rw [eM418]; exact hm_up_o (hm_neO (po 11 (by decide)) (po 0 (by decide)) (by decide)) f265
                    have f428 : M418 (P 14) = some (.inl (D.1 103, 6, .inr (.inl (L 14)))) := by rw [eM418]; exact hm_up_o (hm_neO (po 14 (by decide)) (po 0 (by decide)) (by decide)) f266
                    have f429 : M418 (P 15) = some (.inl (D.1 103, 6, .inr (.inl (L 15)))) := by rw [eM418]; exact hm_up_o (hm_neO (po 15 (by decide)) (po 0 (by decide)) (by decide)) f267
                    have f430 : M418 (P 16) = some (.inl (D.1 101, 16, .inl (A 16))) := by rw [eM418]; exact hm_up_o (hm_neO (po 16 (by decide)) (po 0 (by decide)) (by decide)) f268
                    have f431 : M418 (P 17) = some (.inl (D.1 101, 16, .inl (A 17))) := by rw [eM418]; exact hm_up_o (hm_neO (po 17 (by decide)) (po 0 (by decide)) (by decide)) f269
                    have f432 : M418 (P 19) = some (.inl (D.1 101, 2601, .inl (A 19))) := by rw [eM418]; exact hm_up_o (hm_neO (po 19 (by decide)) (po 0 (by decide)) (by decide)) f270
                    have f433 : M418 (P 20) = some (.inl (D.1 102, 52, .inl (A 20))) := by rw [eM418]; exact hm_up_o (hm_neO (po 20 (by decide)) (po 0 (by decide)) (by decide)) f271
                    have f434 : M418 (P 21) = some (.inl (D.1 102, 52, .inl (A 21))) := by rw [eM418]; exact hm_up_o (hm_neO (po 21 (by decide)) (po 0 (by decide)) (by decide)) f272
                    have f435 : M418 (P 0) = some (.inr (6, [.int (nI 0), .ref (P 1), .int (nI 0), .ref (P 3), .ref (P 4), .ref (P 5), .int (I 6), .ref (P 7), .ref (P 8), .ref (P 9), .ref (P 10), .ref (P 11), .int (I 12), .int (nI (hs.length + 1)), .ref (P 14), .ref (P 15), .ref (P 16), .ref (P 17), .int (nI er203), .ref (P 19), .ref (P 20), .ref (P 21)])) := by rw [eM418]; exact hm_up_s
                    refine lv_aload_n hx hb dd_MO_header_181 rfl (lv_at hl 4 rfl) ?_
                    refine hm_get (ci := 6) (C := rn_MO) (T := ft_MO) (N := 22) hx hb hts fi_MO hown hE.K hP f435 rfl 14 (by decide) (hts _ tw_1000) (fun _ h9 => h9) rfl dd_MO_header_182 ?_
                    refine lv_iload hx hb dd_MO_header_185 (lv_at hl 0 rfl) ?_
                    refine lv_lload_n hx hb dd_MO_header_187 rfl (lv_at hl 3 rfl) ?_
                    refine hm_last (j := hs.length) hx hb hE.K hP hS (pb 14 (by decide)) 3 f428 rfl (vp_in_nI (by omega) (by omega)) (nI_clamp (by omega)) dd_MO_header_188 (fun H locs hP hS => ?_)
                    obtain ⟨M436, eM436⟩ : ∃ z, z = hm_up M418 (P 14) (.inl (D.1 103, 6, .inr (.inl (vp_updL (L 14) hs.length (cd (tx_sl t 0 er42)))))) := ⟨_, rfl⟩
                    rw [← eM436] at hP
                    have f437 : M436 (P 0) = some (.inr (6, [.int (nI 0), .ref (P 1), .int (nI 0), .ref (P 3), .ref (P 4), .ref (P 5), .int (I 6), .ref (P 7), .ref (P 8), .ref (P 9), .ref (P 10), .ref (P 11), .int (I 12), .int (nI (hs.length + 1)), .ref (P 14), .ref (P 15), .ref (P 16), .ref (P 17), .int (nI er203), .ref (P 19), .ref (P 20), .ref (P 21)])) := by rw [eM436]; exact hm_up_o (hm_neO (po 0 (by decide)) (po 14 (by decide)) (by decide)) f435
                    have f438 : M436 (P 1) = some (.inl (D.1 102, 48, .inl (A 1))) := by rw [eM436]; exact hm_up_o (hm_neO (po 1 (by decide)) (po 14 (by decide)) (by decide)) f419
                    have f439 : M436 (P 3) = some (.inl (D.1 102, 16, .inl (A 3))) := by rw [eM436]; exact hm_up_o (hm_neO (po 3 (by decide)) (po 14 (by decide)) (by decide)) f420
                    have f440 : M436 (P 4) = some (.inl (D.1 102, 16, .inl (A 4))) := by rw [eM436]; exact hm_up_o (hm_neO (po 4 (by decide)) (po 14 (by decide)) (by decide)) f421
                    have f441 : M436 (P 5) = some (.inl (D.1 101, 16, .inl (A 5))) := by rw [eM436]; exact hm_up_o (hm_neO (po 5 (by decide)) (po 14 (by decide)) (by decide)) f422
                    have f442 : M436 (P 7) = some (.inl (D.1 102, 120, .inl (A 7))) := by rw [eM436]; exact hm_up_o (hm_neO (po 7 (by decide)) (po 14 (by decide)) (by decide)) f423
                    have f443 : M436 (P 8) = some (.inl (D.1 102, 120, .inl (A 8))) := by rw [eM436]; exact hm_up_o (hm_neO (po 8 (by decide)) (po 14 (by decide)) (by decide)) f424
                    have f444 : M436 (P 9) = some (.inl (D.1 102, 120, .inl (A 9))) := by rw [eM436]; exact hm_up_o (hm_neO (po 9 (by decide)) (po 14 (by decide)) (by decide)) f425
                    have f445 : M436 (P 10) = some (.inl (D.1 102, 5760, .inl (A 10))) := by rw [eM436]; exact hm_up_o (hm_neO (po 10 (by decide)) (po 14 (by decide)) (by decide)) f426
                    have f446 : M436 (P 11) = some (.inl (D.1 102, 48, .inl (A 11))) := by rw [eM436]; exact hm_up_o (hm_neO (po 11 (by decide)) (po 14 (by decide)) (by decide)) f427
                    have f447 : M436 (P 15) = some (.inl (D.1 103, 6, .inr (.inl (L 15)))) := by rw [eM436]; exact hm_up_o (hm_neO (po 15 (by decide)) (po 14 (by decide)) (by decide)) f429
                    have f448 : M436 (P 16) = some (.inl (D.1 101, 16, .inl (A 16))) := by rw [eM436]; exact hm_up_o (hm_neO (po 16 (by decide)) (po 14 (by decide)) (by decide)) f430
                    have f449 : M436 (P 17) = some (.inl (D.1 101, 16, .inl (A 17))) := by rw [eM436]; exact hm_up_o (hm_neO (po 17 (by decide)) (po 14 (by decide)) (by decide)) f431
                    have f450 : M436 (P 19) = some (.inl (D.1 101, 2601, .inl (A 19))) := by rw [eM436]; exact hm_up_o (hm_neO (po 19 (by decide)) (po 14 (by decide)) (by decide)) f432
                    have f451 : M436 (P 20) = some (.inl (D.1 102, 52, .inl (A 20))) := by rw [eM436]; exact hm_up_o (hm_neO (po 20 (by decide)) (po 14 (by decide)) (by decide)) f433
                    have f452 : M436 (P 21) = some (.inl (D.1 102, 52, .inl (A 21))) := by rw [eM436]; exact hm_up_o (hm_neO (po 21 (by decide)) (po 14 (by decide)) (by decide)) f434
                    have f453 : M436 (P 14) = some (.inl (D.1 103, 6, .inr (.inl (vp_updL (L 14) hs.length (cd (tx_sl t 0 er42)))))) := by rw [eM436]; exact hm_up_s
                    refine lv_aload_n hx hb dd_MO_header_189 rfl (lv_at hl 4 rfl) ?_
                    refine hm_get (ci := 6) (C := rn_MO) (T := ft_MO) (N := 22) hx hb hts fi_MO hown hE.K hP f437 rfl 15 (by decide) (hts _ tw_1001) (fun _ h9 => h9) rfl dd_MO_header_190 ?_
                    refine lv_iload hx hb dd_MO_header_193 (lv_at hl 0 rfl) ?_
                    refine lv_lload hx hb dd_MO_header_195 (lv_at hl 2 rfl) ?_
                    refine hm_last (j := hs.length) hx hb hE.K hP hS (pb 15 (by decide)) 3 f447 rfl (vp_in_nI (by omega) (by omega)) (nI_clamp (by omega)) dd_MO_header_197 (fun H locs hP hS => ?_)
                    obtain ⟨M454, eM454⟩ : ∃ z, z = hm_up M436 (P 15) (.inl (D.1 103, 6, .inr (.inl (vp_updL (L 15) hs.length (cd (tx_sl t (er42 + 1) t.length)))))) := ⟨_, rfl⟩
                    rw [← eM454] at hP
                    have f455 : M454 (P 0) = some (.inr (6, [.int (nI 0), .ref (P 1), .int (nI 0), .ref (P 3), .ref (P 4), .ref (P 5), .int (I 6), .ref (P 7), .ref (P 8), .ref (P 9), .ref (P 10), .ref (P 11), .int (I 12), .int (nI (hs.length + 1)), .ref (P 14), .ref (P 15), .ref (P 16), .ref (P 17), .int (nI er203), .ref (P 19), .ref (P 20), .ref (P 21)])) := by rw [eM454]; exact hm_up_o (hm_neO (po 0 (by decide)) (po 15 (by decide)) (by decide)) f437
                    have f456 : M454 (P 1) = some (.inl (D.1 102, 48, .inl (A 1))) := by rw [eM454]; exact hm_up_o (hm_neO (po 1 (by decide)) (po 15 (by decide)) (by decide)) f438
                    have f457 : M454 (P 3) = some (.inl (D.1 102, 16, .inl (A 3))) := by rw [eM454]; exact hm_up_o (hm_neO (po 3 (by decide)) (po 15 (by decide)) (by decide)) f439
                    have f458 : M454 (P 4) = some (.inl (D.1 102, 16, .inl (A 4))) := by rw [eM454]; exact hm_up_o (hm_neO (po 4 (by decide)) (po 15 (by decide)) (by decide)) f440
                    have f459 : M454 (P 5) = some (.inl (D.1 101, 16, .inl (A 5))) := by rw [eM454]; exact hm_up_o (hm_neO (po 5 (by decide)) (po 15 (by decide)) (by decide)) f441
                    have f460 : M454 (P 7) = some (.inl (D.1 102, 120, .inl (A 7))) := by rw [eM454]; exact hm_up_o (hm_neO (po 7 (by decide)) (po 15 (by decide)) (by decide)) f442
                    have f461 : M454 (P 8) = some (.inl (D.1 102, 120, .inl (A 8))) := by rw [eM454]; exact hm_up_o (hm_neO (po 8 (by decide)) (po 15 (by decide)) (by decide)) f443
                    have f462 : M454 (P 9) = some (.inl (D.1 102, 120, .inl (A 9))) := by rw [eM454]; exact hm_up_o (hm_neO (po 9 (by decide)) (po 15 (by decide)) (by decide)) f444
                    have f463 : M454 (P 10) = some (.inl (D.1 102, 5760, .inl (A 10))) := by rw [eM454]; exact hm_up_o (hm_neO (po 10 (by decide)) (po 15 (by decide)) (by decide)) f445
                    have f464 : M454 (P 11) = some (.inl (D.1 102, 48, .inl (A 11))) := by rw [eM454]; exact hm_up_o (hm_neO (po 11 (by decide)) (po 15 (by decide)) (by decide)) f446
                    have f465 : M454 (P 14) = some (.inl (D.1 103, 6, .inr (.inl (vp_updL (L 14) hs.length (cd (tx_sl t 0 er42)))))) := by rw [eM454]; exact hm_up_o (hm_neO (po 14 (by decide)) (po 15 (by decide)) (by decide)) f453
                    have f466 : M454 (P 16) = some (.inl (D.1 101, 16, .inl (A 16))) := by rw [eM454]; exact hm_up_o (hm_neO (po 16 (by decide)) (po 15 (by decide)) (by decide)) f448
                    have f467 : M454 (P 17) = some (.inl (D.1 101, 16, .inl (A 17))) := by rw [eM454]; exact hm_up_o (hm_neO (po 17 (by decide)) (po 15 (by decide)) (by decide)) f449
                    have f468 : M454 (P 19) = some (.inl (D.1 101, 2601, .inl (A 19))) := by rw [eM454]; exact hm_up_o (hm_neO (po 19 (by decide)) (po 15 (by decide)) (by decide)) f450
                    have f469 : M454 (P 20) = some (.inl (D.1 102, 52, .inl (A 20))) := by rw [eM454]; exact hm_up_o (hm_neO (po 20 (by decide)) (po 15 (by decide)) (by decide)) f451
                    have f470 : M454 (P 21) = some (.inl (D.1 102, 52, .inl (A 21))) := by rw [eM454]; exact hm_up_o (hm_neO (po 21 (by decide)) (po 15 (by decide)) (by decide)) f452
                    have f471 : M454 (P 15) = some (.inl (D.1 103, 6, .inr (.inl (vp_updL (L 15) hs.length (cd (tx_sl t (er42 + 1) t.length)))))) := by rw [eM454]; exact hm_up_s
                    refine lv_iconst (v := nI 1) hx hb dd_MO_header_198 (by decide +kernel) ?_
                    exact hm_Ei (v := nI 1) hx hb hr rfl hS hP (absurd c162 (by rw [nI_toInt (by omega), tm1]; omega)) hlocks (by omega) (by omega) dd_MO_header_199
                · refine lv_iconst (v := nI 0) hx hb dd_MO_header_157 (by decide +kernel) ?_
                  exact hm_Ei (v := nI 0) hx hb hr rfl hS hP (absurd c145 (by rw [nI_toInt (by omega), tm1]; omega)) hlocks (by omega) (by omega) dd_MO_header_158
            · refine lv_goto (tgt := 136) hx hb dd_MO_header_132 (by decide) ?_
              refine lv_istore (lv' := [(6, .int (-1)), (3, .int (nI 1)), (4, .long (cd (tx_sl t (er42 + 1) t.length))), (1, .long (cd (tx_sl t 0 er42))), (0, .ref (P 0))]) hx hb dd_MO_header_136 hl (by decide) rfl (fun ls hl => ?_)
              refine lv_iload_n hx hb dd_MO_header_138 rfl (lv_at hl 1 rfl) ?_
              refine hn_if_eq (tgt := 157) hx hb (by omega) dd_MO_header_139 (by decide) (fun c472 => absurd c472 (by omega)) (fun c472 => ?_)
              refine lv_iload hx hb dd_MO_header_142 (lv_at hl 0 rfl) ?_
              refine lv_iconst (v := (-1)) hx hb dd_MO_header_144 (by decide +kernel) ?_
              refine hi_icmp_ne (tgt := 159) hx hb dd_MO_header_145 (by decide) (fun c473 => absurd c473 (by decide)) (fun c473 => ?_)
              have c145 := c473
              refine lv_aload_n hx hb dd_MO_header_148 rfl (lv_at hl 4 rfl) ?_
              refine hm_get (ci := 6) (C := rn_MO) (T := ft_MO) (N := 22) hx hb hts fi_MO hown hE.K hP f273 rfl 13 (by decide) (hts _ tw_999) (fun _ h9 => h9) rfl dd_MO_header_149 ?_
              refine W.eq (g2 := F0 m 152 ls [.int (nI hs.length)]) (by rw [hi1]) ?_
              refine lv_bipush (v := nI 6) hx hb dd_MO_header_152 (by decide +kernel) ?_
              refine hn_icmp_ne (tgt := 159) hx hb (by omega) (by omega) dd_MO_header_154 (by decide) (fun c474 => ?_) (fun c474 => ?_)
              · refine lv_iload hx hb dd_MO_header_159 (lv_at hl 0 rfl) ?_
                refine lv_iconst (v := (-1)) hx hb dd_MO_header_161 (by decide +kernel) ?_
                refine hi_icmp_ne (tgt := 181) hx hb dd_MO_header_162 (by decide) (fun c475 => absurd c475 (by decide)) (fun c475 => ?_)
                have c162 := c475
                refine lv_aload_n hx hb dd_MO_header_165 rfl (lv_at hl 4 rfl) ?_
                refine hm_get (ci := 6) (C := rn_MO) (T := ft_MO) (N := 22) hx hb hts fi_MO hown hE.K hP f273 rfl 13 (by decide) (hts _ tw_999) (fun _ h9 => h9) rfl dd_MO_header_166 ?_
                refine W.eq (g2 := F0 m 169 ls [.int (nI hs.length)]) (by rw [hi1]) ?_
                refine lv_istore (lv' := [(6, .int (nI hs.length)), (3, .int (nI 1)), (4, .long (cd (tx_sl t (er42 + 1) t.length))), (1, .long (cd (tx_sl t 0 er42))), (0, .ref (P 0))]) hx hb dd_MO_header_169 hl (by decide) rfl (fun ls hl => ?_)
                refine lv_aload_n hx hb dd_MO_header_171 rfl (lv_at hl 4 rfl) ?_
                refine lv_dup hx hb dd_MO_header_172 rfl ?_
                refine hm_get (ci := 6) (C := rn_MO) (T := ft_MO) (N := 22) hx hb hts fi_MO hown hE.K hP f273 rfl 13 (by decide) (hts _ tw_999) (fun _ h9 => h9) rfl dd_MO_header_173 ?_
                refine W.eq (g2 := F0 m 176 ls [.int (nI hs.length), .ref (P 0)]) (by rw [hi1]) ?_
                refine lv_iconst (v := nI 1) hx hb dd_MO_header_176 (by decide +kernel) ?_
                refine hn_iadd hx hb dd_MO_header_177 ?_
                refine hm_put (ci := 6) (v := .int (nI (hs.length + 1))) (ty := .int) (C := rn_MO) (T := ft_MO) (N := 22) hx hb hts fi_MO fy_MO fo_MO fn_MO hown hE.K hP hS (pb 0 (by decide)) f273 rfl 13 (by decide) (hts _ tw_999) (fun _ h9 => h9) rfl (by decide +kernel) rfl rfl (Nat.le_of_ble_eq_true rfl) dd_MO_header_178 (fun H locs hP hS => ?_)
                have hP : hm_P D cl_W (hm_up M256 (P 0) (.inr (6, [.int (nI 0), .ref (P 1), .int (nI 0), .ref (P 3), .ref (P 4), .ref (P 5), .int (I 6), .ref (P 7), .ref (P 8), .ref (P 9), .ref (P 10), .ref (P 11), .int (I 12), .int (nI (hs.length + 1)), .ref (P 14), .ref (P 15), .ref (P 16), .ref (P 17), .int (nI er203), .ref (P 19), .ref (P 20), .ref (P 21)]))) H := hP
                obtain ⟨M476, eM476⟩ : ∃ z, z = hm_up M256 (P 0) (.inr (6, [.int (nI 0), .ref (P 1), .int (nI 0), .ref (P 3), .ref (P 4), .ref (P 5), .int (I 6), .ref (P 7), .ref (P 8), .ref (P 9), .ref (P 10), .ref (P 11), .int (I 12), .int (nI (hs.length + 1)), .ref (P 14), .ref (P 15), .ref (P 16), .ref (P 17), .int (nI er203), .ref (P 19), .ref (P 20), .ref (P 21)])) := ⟨_, rfl⟩
                rw [← eM476] at hP
                have f477 : M476 (P 1) = some (.inl (D.1 102, 48, .inl (A 1))) := by rw [eM476]; exact hm_up_o (hm_neO (po 1 (by decide)) (po 0 (by decide)) (by decide)) f257
                have f478 : M476 (P 3) = some (.inl (D.1 102, 16, .inl (A 3))) := by rw [eM476]; exact hm_up_o (hm_neO (po 3 (by decide)) (po 0 (by decide)) (by decide)) f258
                have f479 : M476 (P 4) = some (.inl (D.1 102, 16, .inl (A 4))) := by rw [eM476]; exact hm_up_o (hm_neO (po 4 (by decide)) (po 0 (by decide)) (by decide)) f259
                have f480 : M476 (P 5) = some (.inl (D.1 101, 16, .inl (A 5))) := by rw [eM476]; exact hm_up_o (hm_neO (po 5 (by decide)) (po 0 (by decide)) (by decide)) f260
                have f481 : M476 (P 7) = some (.inl (D.1 102, 120, .inl (A 7))) := by rw [eM476]; exact hm_up_o (hm_neO (po 7 (by decide)) (po 0 (by decide)) (by decide)) f261
                have f482 : M476 (P 8) = some (.inl (D.1 102, 120, .inl (A 8))) := by rw [eM476]; exact hm_up_o (hm_neO (po 8 (by decide)) (po 0 (by decide)) (by decide)) f262
                have f483 : M476 (P 9) = some (.inl (D.1 102, 120, .inl (A 9))) := by rw [eM476]; exact hm_up_o (hm_neO (po 9 (by decide)) (po 0 (by decide)) (by decide)) f263
                have f484 : M476 (P 10) = some (.inl (D.1 102, 5760, .inl (A 10))) := by rw [eM476]; exact hm_up_o (hm_neO (po 10 (by decide)) (po 0 (by decide)) (by decide)) f264
                have f485 : M476 (P 11) = some (.inl (D.1 102, 48, .inl (A 11))) := by rw [eM476]; exact hm_up_o (hm_neO (po 11 (by decide)) (po 0 (by decide)) (by decide)) f265
                have f486 : M476 (P 14) = some (.inl (D.1 103, 6, .inr (.inl (L 14)))) := by rw [eM476]; exact hm_up_o (hm_neO (po 14 (by decide)) (po 0 (by decide)) (by decide)) f266
                have f487 : M476 (P 15) = some (.inl (D.1 103, 6, .inr (.inl (L 15)))) := by rw [eM476]; exact hm_up_o (hm_neO (po 15 (by decide)) (po 0 (by decide)) (by decide)) f267
                have f488 : M476 (P 16) = some (.inl (D.1 101, 16, .inl (A 16))) := by rw [eM476]; exact hm_up_o (hm_neO (po 16 (by decide)) (po 0 (by decide)) (by decide)) f268
                have f489 : M476 (P 17) = some (.inl (D.1 101, 16, .inl (A 17))) := by rw [eM476]; exact hm_up_o (hm_neO (po 17 (by decide)) (po 0 (by decide)) (by decide)) f269
                have f490 : M476 (P 19) = some (.inl (D.1 101, 2601, .inl (A 19))) := by rw [eM476]; exact hm_up_o (hm_neO (po 19 (by decide)) (po 0 (by decide)) (by decide)) f270
                have f491 : M476 (P 20) = some (.inl (D.1 102, 52, .inl (A 20))) := by rw [eM476]; exact hm_up_o (hm_neO (po 20 (by decide)) (po 0 (by decide)) (by decide)) f271
                have f492 : M476 (P 21) = some (.inl (D.1 102, 52, .inl (A 21))) := by rw [eM476]; exact hm_up_o (hm_neO (po 21 (by decide)) (po 0 (by decide)) (by decide)) f272
                have f493 : M476 (P 0) = some (.inr (6, [.int (nI 0), .ref (P 1), .int (nI 0), .ref (P 3), .ref (P 4), .ref (P 5), .int (I 6), .ref (P 7), .ref (P 8), .ref (P 9), .ref (P 10), .ref (P 11), .int (I 12), .int (nI (hs.length + 1)), .ref (P 14), .ref (P 15), .ref (P 16), .ref (P 17), .int (nI er203), .ref (P 19), .ref (P 20), .ref (P 21)])) := by rw [eM476]; exact hm_up_s
                refine lv_aload_n hx hb dd_MO_header_181 rfl (lv_at hl 4 rfl) ?_
                refine hm_get (ci := 6) (C := rn_MO) (T := ft_MO) (N := 22) hx hb hts fi_MO hown hE.K hP f493 rfl 14 (by decide) (hts _ tw_1000) (fun _ h9 => h9) rfl dd_MO_header_182 ?_
                refine lv_iload hx hb dd_MO_header_185 (lv_at hl 0 rfl) ?_
                refine lv_lload_n hx hb dd_MO_header_187 rfl (lv_at hl 3 rfl) ?_
                refine hm_last (j := hs.length) hx hb hE.K hP hS (pb 14 (by decide)) 3 f486 rfl (vp_in_nI (by omega) (by omega)) (nI_clamp (by omega)) dd_MO_header_188 (fun H locs hP hS => ?_)
                obtain ⟨M494, eM494⟩ : ∃ z, z = hm_up M476 (P 14) (.inl (D.1 103, 6, .inr (.inl (vp_updL (L 14) hs.length (cd (tx_sl t 0 er42)))))) := ⟨_, rfl⟩
                rw [← eM494] at hP
                have f495 : M494 (P 0) = some (.inr (6, [.int (nI 0), .ref (P 1), .int (nI 0), .ref (P 3), .ref (P 4), .ref (P 5), .int (I 6), .ref (P 7), .ref (P 8), .ref (P 9), .ref (P 10), .ref (P 11), .int (I 12), .int (nI (hs.length + 1)), .ref (P 14), .ref (P 15), .ref (P 16), .ref (P 17), .int (nI er203), .ref (P 19), .ref (P 20), .ref (P 21)])) := by rw [eM494]; exact hm_up_o (hm_neO (po 0 (by decide)) (po 14 (by decide)) (by decide)) f493
                have f496 : M494 (P 1) = some (.inl (D.1 102, 48, .inl (A 1))) := by rw [eM494]; exact hm_up_o (hm_neO (po 1 (by decide)) (po 14 (by decide)) (by decide)) f477
                have f497 : M494 (P 3) = some (.inl (D.1 102, 16, .inl (A 3))) := by rw [eM494]; exact hm_up_o (hm_neO (po 3 (by decide)) (po 14 (by decide)) (by decide)) f478
                have f498 : M494 (P 4) = some (.inl (D.1 102, 16, .inl (A 4))) := by rw [eM494]; exact hm_up_o (hm_neO (po 4 (by decide)) (po 14 (by decide)) (by decide)) f479
                have f499 : M494 (P 5) = some (.inl (D.1 101, 16, .inl (A 5))) := by rw [eM494]; exact hm_up_o (hm_neO (po 5 (by decide)) (po 14 (by decide)) (by decide)) f480
                have f500 : M494 (P 7) = some (.inl (D.1 102, 120, .inl (A 7))) := by rw [eM494]; exact hm_up_o (hm_neO (po 7 (by decide)) (po 14 (by decide)) (by decide)) f481
                have f501 : M494 (P 8) = some (.inl (D.1 102, 120, .inl (A 8))) := by rw [eM494]; exact hm_up_o (hm_neO (po 8 (by decide)) (po 14 (by decide)) (by decide)) f482
                have f502 : M494 (P 9) = some (.inl (D.1 102, 120, .inl (A 9))) := by rw [eM494]; exact hm_up_o (hm_neO (po 9 (by decide)) (po 14 (by decide)) (by decide)) f483
                have f503 : M494 (P 10) = some (.inl (D.1 102, 5760, .inl (A 10))) := by rw [eM494]; exact hm_up_o (hm_neO (po 10 (by decide)) (po 14 (by decide)) (by decide)) f484
                have f504 : M494 (P 11) = some (.inl (D.1 102, 48, .inl (A 11))) := by rw [eM494]; exact hm_up_o (hm_neO (po 11 (by decide)) (po 14 (by decide)) (by decide)) f485
                have f505 : M494 (P 15) = some (.inl (D.1 103, 6, .inr (.inl (L 15)))) := by rw [eM494]; exact hm_up_o (hm_neO (po 15 (by decide)) (po 14 (by decide)) (by decide)) f487
                have f506 : M494 (P 16) = some (.inl (D.1 101, 16, .inl (A 16))) := by rw [eM494]; exact hm_up_o (hm_neO (po 16 (by decide)) (po 14 (by decide)) (by decide)) f488
                have f507 : M494 (P 17) = some (.inl (D.1 101, 16, .inl (A 17))) := by rw [eM494]; exact hm_up_o (hm_neO (po 17 (by decide)) (po 14 (by decide)) (by decide)) f489
                have f508 : M494 (P 19) = some (.inl (D.1 101, 2601, .inl (A 19))) := by rw [eM494]; exact hm_up_o (hm_neO (po 19 (by decide)) (po 14 (by decide)) (by decide)) f490
                have f509 : M494 (P 20) = some (.inl (D.1 102, 52, .inl (A 20))) := by rw [eM494]; exact hm_up_o (hm_neO (po 20 (by decide)) (po 14 (by decide)) (by decide)) f491
                have f510 : M494 (P 21) = some (.inl (D.1 102, 52, .inl (A 21))) := by rw [eM494]; exact hm_up_o (hm_neO (po 21 (by decide)) (po 14 (by decide)) (by decide)) f492
                have f511 : M494 (P 14) = some (.inl (D.1 103, 6, .inr (.inl (vp_updL (L 14) hs.length (cd (tx_sl t 0 er42)))))) := by rw [eM494]; exact hm_up_s
                refine lv_aload_n hx hb dd_MO_header_189 rfl (lv_at hl 4 rfl) ?_
                refine hm_get (ci := 6) (C := rn_MO) (T := ft_MO) (N := 22) hx hb hts fi_MO hown hE.K hP f495 rfl 15 (by decide) (hts _ tw_1001) (fun _ h9 => h9) rfl dd_MO_header_190 ?_
                refine lv_iload hx hb dd_MO_header_193 (lv_at hl 0 rfl) ?_
                refine lv_lload hx hb dd_MO_header_195 (lv_at hl 2 rfl) ?_
                refine hm_last (j := hs.length) hx hb hE.K hP hS (pb 15 (by decide)) 3 f505 rfl (vp_in_nI (by omega) (by omega)) (nI_clamp (by omega)) dd_MO_header_197 (fun H locs hP hS => ?_)
                obtain ⟨M512, eM512⟩ : ∃ z, z = hm_up M494 (P 15) (.inl (D.1 103, 6, .inr (.inl (vp_updL (L 15) hs.length (cd (tx_sl t (er42 + 1) t.length)))))) := ⟨_, rfl⟩
                rw [← eM512] at hP
                have f513 : M512 (P 0) = some (.inr (6, [.int (nI 0), .ref (P 1), .int (nI 0), .ref (P 3), .ref (P 4), .ref (P 5), .int (I 6), .ref (P 7), .ref (P 8), .ref (P 9), .ref (P 10), .ref (P 11), .int (I 12), .int (nI (hs.length + 1)), .ref (P 14), .ref (P 15), .ref (P 16), .ref (P 17), .int (nI er203), .ref (P 19), .ref (P 20), .ref (P 21)])) := by rw [eM512]; exact hm_up_o (hm_neO (po 0 (by decide)) (po 15 (by decide)) (by decide)) f495
                have f514 : M512 (P 1) = some (.inl (D.1 102, 48, .inl (A 1))) := by rw [eM512]; exact hm_up_o (hm_neO (po 1 (by decide)) (po 15 (by decide)) (by decide)) f496
                have f515 : M512 (P 3) = some (.inl (D.1 102, 16, .inl (A 3))) := by rw [eM512]; exact hm_up_o (hm_neO (po 3 (by decide)) (po 15 (by decide)) (by decide)) f497
                have f516 : M512 (P 4) = some (.inl (D.1 102, 16, .inl (A 4))) := by rw [eM512]; exact hm_up_o (hm_neO (po 4 (by decide)) (po 15 (by decide)) (by decide)) f498
                have f517 : M512 (P 5) = some (.inl (D.1 101, 16, .inl (A 5))) := by rw [eM512]; exact hm_up_o (hm_neO (po 5 (by decide)) (po 15 (by decide)) (by decide)) f499
                have f518 : M512 (P 7) = some (.inl (D.1 102, 120, .inl (A 7))) := by rw [eM512]; exact hm_up_o (hm_neO (po 7 (by decide)) (po 15 (by decide)) (by decide)) f500
                have f519 : M512 (P 8) = some (.inl (D.1 102, 120, .inl (A 8))) := by rw [eM512]; exact hm_up_o (hm_neO (po 8 (by decide)) (po 15 (by decide)) (by decide)) f501
                have f520 : M512 (P 9) = some (.inl (D.1 102, 120, .inl (A 9))) := by rw [eM512]; exact hm_up_o (hm_neO (po 9 (by decide)) (po 15 (by decide)) (by decide)) f502
                have f521 : M512 (P 10) = some (.inl (D.1 102, 5760, .inl (A 10))) := by rw [eM512]; exact hm_up_o (hm_neO (po 10 (by decide)) (po 15 (by decide)) (by decide)) f503
                have f522 : M512 (P 11) = some (.inl (D.1 102, 48, .inl (A 11))) := by rw [eM512]; exact hm_up_o (hm_neO (po 11 (by decide)) (po 15 (by decide)) (by decide)) f504
                have f523 : M512 (P 14) = some (.inl (D.1 103, 6, .inr (.inl (vp_updL (L 14) hs.length (cd (tx_sl t 0 er42)))))) := by rw [eM512]; exact hm_up_o (hm_neO (po 14 (by decide)) (po 15 (by decide)) (by decide)) f511
                have f524 : M512 (P 16) = some (.inl (D.1 101, 16, .inl (A 16))) := by rw [eM512]; exact hm_up_o (hm_neO (po 16 (by decide)) (po 15 (by decide)) (by decide)) f506
                have f525 : M512 (P 17) = some (.inl (D.1 101, 16, .inl (A 17))) := by rw [eM512]; exact hm_up_o (hm_neO (po 17 (by decide)) (po 15 (by decide)) (by decide)) f507
                have f526 : M512 (P 19) = some (.inl (D.1 101, 2601, .inl (A 19))) := by rw [eM512]; exact hm_up_o (hm_neO (po 19 (by decide)) (po 15 (by decide)) (by decide)) f508
                have f527 : M512 (P 20) = some (.inl (D.1 102, 52, .inl (A 20))) := by rw [eM512]; exact hm_up_o (hm_neO (po 20 (by decide)) (po 15 (by decide)) (by decide)) f509
                have f528 : M512 (P 21) = some (.inl (D.1 102, 52, .inl (A 21))) := by rw [eM512]; exact hm_up_o (hm_neO (po 21 (by decide)) (po 15 (by decide)) (by decide)) f510
                have f529 : M512 (P 15) = some (.inl (D.1 103, 6, .inr (.inl (vp_updL (L 15) hs.length (cd (tx_sl t (er42 + 1) t.length)))))) := by rw [eM512]; exact hm_up_s
                refine lv_iconst (v := nI 1) hx hb dd_MO_header_198 (by decide +kernel) ?_
                have kk530 : hm_k M204 M204 [(P 0), (P 14), (P 15)] := hm_krf
                have kk531 : hm_k M204 M256 [(P 0), (P 14), (P 15)] := hm_ku kk530 (Or.inr (by simp)) eM256
                have kk532 : hm_k M204 M476 [(P 0), (P 14), (P 15)] := hm_ku kk531 (Or.inr (by simp)) eM476
                have kk533 : hm_k M204 M494 [(P 0), (P 14), (P 15)] := hm_ku kk532 (Or.inr (by simp)) eM494
                have kk534 : hm_k M204 M512 [(P 0), (P 14), (P 15)] := hm_ku kk533 (Or.inr (by simp)) eM512
                exact hm_Ei (v := nI 1) hx hb hr rfl hS hP (⟨bz_1 (by rw [hd_b, hpr, hp2.2.1, pu_b, decide_eq_true (show hs.length < 6 by omega)]; simp), (va_up (va_up (va_up (va_up I 0 (nI 0)) 2 (nI 0)) 13 (nI (hs.length + 1))) 18 (nI er203)), A, (va_up (va_up L 14 (vp_updL (L 14) hs.length (cd (tx_sl t 0 er42)))) 15 (vp_updL (L 15) hs.length (cd (tx_sl t (er42 + 1) t.length)))), ⟨f513, f514, f515, f516, f517, f518, f519, f520, f521, f522, f523, f529, f524, f525, f526, f527, f528, po, pb⟩, rfl, ⟨tpS_0, hX, hQ, hB, hK, by rw [hd_h, if_pos hpr, hp2.2.1, hp2.2.2, pu_r, pu_no hg4, if_neg (by decide), if_pos (by omega)]; exact hdS_add (by rw [← hi1]; exact hH) (by omega) hnmo hvlo, hFo, hPs⟩, (hF207).trans (cz_F.k0 kk534 (hm_a3 ⟨by rw [po 0 (by decide)]; unfold pm; omega, _, f513⟩ ⟨by rw [po 14 (by decide)]; unfold pm; omega, _, f523⟩ ⟨by rw [po 15 (by decide)]; unfold pm; omega, _, f529⟩))⟩) hlocks (by omega) (by omega) dd_MO_header_199
              · refine lv_iconst (v := nI 0) hx hb dd_MO_header_157 (by decide +kernel) ?_
                have kk535 : hm_k M204 M204 [(P 0)] := hm_krf
                have kk536 : hm_k M204 M256 [(P 0)] := hm_ku kk535 (Or.inr (by simp)) eM256
                exact hm_Ei (v := nI 0) hx hb hr rfl hS hP (⟨bz_0 (by rw [hd_b, hp2.2.1, pu_b, pu_no hg4, decide_eq_false (by omega)]; simp), (va_up (va_up (va_up I 0 (nI 0)) 2 (nI 0)) 18 (nI er203)), A, L, ⟨f273, f257, f258, f259, f260, f261, f262, f263, f264, f265, f266, f267, f268, f269, f270, f271, f272, po, pb⟩, rfl, ⟨tpS_0, hX, hQ, hB, hK, by rw [hd_h, if_pos hpr, hp2.2.1, pu_r, pu_no hg4, if_neg (by decide), if_neg (by omega)]; exact hH, hFo, hPs⟩, (hF207).trans (cz_F.k0 kk536 (hm_a1 ⟨by rw [po 0 (by decide)]; unfold pm; omega, _, f273⟩))⟩) hlocks (by omega) (by omega) dd_MO_header_158
