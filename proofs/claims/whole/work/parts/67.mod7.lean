/-! the headers that a rule asks for, as the model reads them -/
theorem mt_0 {t : List Nat} {n a : Nat} (ha : a < t.length) (h : rs_i t n a = true) : t.getD a 0 = 44 := by
  by_cases e : t.getD a 0 = 44
  · exact e
  · rw [rs_lt ha e] at h; cases h
theorem mt_n {t : List Nat} {n a e : Nat} (ha : a < t.length) (h : rs_i t n a = true) (hr : rn_E ch_small t (a + 1) e) : 1 ≤ e - (a + 1) ∧ e - (a + 1) < 7 := by
  by_cases h9 : 1 ≤ e - (a + 1) ∧ e - (a + 1) < 7
  · exact h9
  · rw [rs_0 ha (mt_0 ha h) hr h9] at h; cases h
theorem mt_1 {t : List Nat} {n a e : Nat} (ha : a < t.length) (h : rs_i t n a = true) (hr : rn_E ch_small t (a + 1) e) (hno : ¬ (e < t.length ∧ t.getD e 0 = 61)) : wd_from 44 t (a + 1) = tx_sl t (a + 1) e :: wd_from 44 t (e + 1) ∧ pr_nm (tx_sl t (a + 1) e) = tx_sl t (a + 1) e ∧ pr_vl (tx_sl t (a + 1) e) = [] ∧ rs_i t (n + 1) e = true := by
  have hc := mt_0 ha h
  have h1 := rs_1 (n := n) ha hc hr hno
  rw [h, eq_comm, Bool.and_eq_true, Bool.and_eq_true] at h1
  obtain ⟨-, -, h2⟩ := h1
  have h3 : e = t.length ∨ t.getD e 0 = 44 := by
    by_cases h9 : e < t.length
    · exact Or.inr (mt_0 h9 h2)
    · exact Or.inl (by have := hr.2.1; omega)
  have hq := rs_nm2 hr (Nat.le_refl e) hr.2.1
  have h4 := hq.2 (Or.inl rfl)
  refine ⟨wd_step hr.1 hr.2.1 (fun j h5 h6 h7 => ?_) h3, h4.1, by rw [h4.2, tx_nil (by omega) hr.2.1], h2⟩
  have := hr.2.2.1 j h5 h6
  rw [h7, sm_44] at this; cases this
theorem mt_2 {t : List Nat} {n a e x : Nat} (ha : a < t.length) (h : rs_i t n a = true) (hr : rn_E ch_small t (a + 1) e) (he : e < t.length) (h6 : t.getD e 0 = 61) (hx : rn_E ch_part t (e + 1) x) : wd_from 44 t (a + 1) = tx_sl t (a + 1) x :: wd_from 44 t (x + 1) ∧ pr_nm (tx_sl t (a + 1) x) = tx_sl t (a + 1) e ∧ pr_vl (tx_sl t (a + 1) x) = 61 :: tx_sl t (e + 1) x ∧ rs_i t (n + 1) x = true ∧ x - (e + 1) < 7 := by
  have hc := mt_0 ha h
  have h1 := rs_2 (n := n) ha hc hr he h6 hx
  rw [h, eq_comm, Bool.and_eq_true, Bool.and_eq_true, Bool.and_eq_true] at h1
  obtain ⟨-, -, h5, h2⟩ := h1
  have h3 : x = t.length ∨ t.getD x 0 = 44 := by
    by_cases h9 : x < t.length
    · exact Or.inr (mt_0 h9 h2)
    · exact Or.inl (by have := hx.2.1; omega)
  have hxe := hx.1
  have hq := rs_nm2 hr (show e ≤ x by omega) hx.2.1
  have h4 := hq.2 (Or.inr h6)
  refine ⟨wd_step (by have := hr.1; omega) hx.2.1 (fun j h7 h8 h9 => ?_) h3, h4.1, by rw [h4.2, tx_sl_hd (by omega) hx.2.1, h6], h2, of_decide_eq_true h5⟩
  by_cases q : j < e
  · have := hr.2.2.1 j h7 q
    rw [h9, sm_44] at this; cases this
  · by_cases q2 : j = e
    · rw [q2, h6] at h9; exact absurd h9 (by decide)
    · have := hx.2.2.1 j (by omega) h8
      rw [h9, pt_44] at this; cases this
theorem ff_y {hs : List (List Nat × List Nat)} {nm : List Nat} : ∀ {i : Nat} {g : List Nat × List Nat}, hs[i]? = some g → g.1 = nm → (∀ j, j < i → ∀ g2, hs[j]? = some g2 → ¬ g2.1 = nm) → hs.find? (fun h => decide (h.1 = nm)) = some g := by
  induction hs with
  | nil => intro i g h; simp at h
  | cons c hs ih =>
    intro i g h hn hb
    cases i with
    | zero =>
      simp at h
      subst h
      rw [List.find?_cons_of_pos (by simpa using hn)]
    | succ i =>
      rw [List.find?_cons_of_neg (by simpa using hb 0 (by omega) c rfl)]
      exact ih (by simpa using h) hn (fun j hj g2 hg => hb (j + 1) (by omega) g2 (by simpa using hg))
theorem ff_n {hs : List (List Nat × List Nat)} {nm : List Nat} (h : ∀ g ∈ hs, ¬ g.1 = nm) : hs.find? (fun h => decide (h.1 = nm)) = none := by
  rw [List.find?_eq_none]
  intro g hg h9
  exact h g hg (of_decide_eq_true h9)
theorem rn_nm {t : List Nat} {a e : Nat} (h : rn_E ch_small t a e) (hl : 1 ≤ e - a ∧ e - a < 7) : nm_ok (tx_sl t a e) = true := by
  rw [nm_ok, tx_sl_len h.2.1, decide_eq_true (by omega), tx_all h.2.1 h.2.2.1]; rfl
theorem rn_vl {t : List Nat} {a e : Nat} (h : rn_E ch_part t a e) (hl : e - a < 7) : vl_ok (tx_sl t a e) = true := by
  rw [vl_ok, tx_sl_len h.2.1, decide_eq_true (by omega), tx_all h.2.1 h.2.2.1]; rfl
theorem ru_all {t : List Nat} (h : ru_ok t = true) : 3 ≤ t.length ∧ rs_i t 0 3 = true ∧ ((t.take 3 = [97, 108, 108]) ↔ t.getD 1 0 = 108) := by
  rw [ru_ok, Bool.and_eq_true] at h
  have hl : 3 ≤ t.length := by
    by_cases h9 : t.length ≤ 2
    · rw [ru_hd2 h9] at h; exact absurd h.1 (by decide)
    · omega
  refine ⟨hl, h.2, ?_⟩
  have h1 := h.1
  rw [ru_hd3 (by omega)] at h1
  have h2 := of_decide_eq_true h1
  match t, hl with
  | a :: b :: c :: r, _ =>
    have h2 : (a = 97 ∧ b = 108 ∧ c = 108) ∨ (a = 97 ∧ b = 110 ∧ c = 121) := h2
    show [a, b, c] = [97, 108, 108] ↔ b = 108
    constructor
    · intro h9; simp at h9; exact h9.2.1
    · intro h9
      rcases h2 with ⟨q1, q2, q3⟩ | ⟨q1, q2, q3⟩
      · rw [q1, q2, q3]
      · omega

set_option maxHeartbeats 4000000 in
set_option maxRecDepth 100000 in
theorem kc_MO_isMet (l : Launch) (B : Nat) (D : va_G) (G : Nat → Nat) (M : hm_M) (P O : Nat → Nat) (I : Nat → Int32) (A : Nat → Nat → Int32) (L : Nat → Nat → Int64) (hD : mo_D B D P O M I A L) (bs : List bd_T) (hB : bdS (I 6) (A 7) (A 8) (A 9) (A 10) bs) (hs : List (List Nat × List Nat)) (hH : hdS (I 13) (L 14) (L 15) hs) (k9 : Nat) (b : bd_T) (hb1 : bs[k9]? = some b) (hru : ru_ok b.2.2.2 = true) : Met l yy_MO_isMet ws_MO_isMet ({ frames := 2, cells := 0, slots := 0, locals := 40 }) (hm_Pc B D G M [.ref (P 0), .int (nI k9)]) (hm_Ni B D (fun r M1 => r = nI (bz (ru_met hs b.2.2.2)) ∧ M1 = M)) (0) (0) (hm_A B) := by
  refine Met.ofW (cc := cd_MO_isMet) (maxL := 12) (ret := ((some FieldType.boolean))) (by decide) rfl ?_
  intro p e s m args below meth c s₁ B0 hml hv
  obtain ⟨rfl, hE, hP⟩ := hv
  have hx := B0.exec
  have hb := B0.bytes
  have hr := B0.returns
  have hts : ∀ w ∈ tb_G, w.before _ s = true := fun w h => atoms_spec (ws := ws_MO_isMet) B0.pre w (List.mem_cons_of_mem _ h)
  have hown : s.vm.findClass "RouteDeskModel" = some m.cls := findClass_of_methodNamed B0.named
  have hlocks := B0.notSynchronized
  have hRf : (headSpec ws_MO_isMet { frames := 2, cells := 0, slots := 0, locals := 40 }).room.frames = 2 := rfl
  have hRl : (headSpec ws_MO_isMet { frames := 2, cells := 0, slots := 0, locals := 40 }).room.locals = 40 := rfl
  have hRc : (headSpec ws_MO_isMet { frames := 2, cells := 0, slots := 0, locals := 40 }).room.cells = 0 := rfl
  have hRs : (headSpec ws_MO_isMet { frames := 2, cells := 0, slots := 0, locals := 40 }).room.slots = 0 := rfl
  generalize (headSpec ws_MO_isMet { frames := 2, cells := 0, slots := 0, locals := 40 }).room = R at hRf hRl hRc hRs ⊢
  have hS : va_S (hm_A B) s.heap s.heap [] := va_S.rf
  have hl := lv_entry ([.ref (P 0), .int (nI k9)]) (n := 12) (Nat.le_of_ble_eq_true rfl)
  rw [lg_entry_eq]
  generalize (lg_sl ([.ref (P 0), .int (nI k9)]) ++ List.replicate (12 - (lg_sl ([.ref (P 0), .int (nI k9)])).length) Slot.unset).toArray = ls at hl ⊢
  have hl : lv_has ls 12 [(0, .ref (P 0)), (1, .int (nI k9))] := hl
  have t16 : (nI 16).toInt = 16 := by decide
  have tm1 : (-1 : Int32).toInt = -1 := by decide
  have t0 : (nI 0).toInt = 0 := by decide
  have t2 : (nI 2).toInt = 2 := by decide
  have t3 : (nI 3).toInt = 3 := by decide
  have t1 : (nI 1).toInt = 1 := by decide
  have t4 : (nI 4).toInt = 4 := by decide
  obtain ⟨p0, p1, p3, p4, p5, p7, p8, p9, p10, p11, p14, p15, p16, p17, p19, p20, p21, po, pb⟩ := id hD
  obtain ⟨bi1, bi2, bi3⟩ := id hB
  obtain ⟨hi1, hi2, hi3⟩ := id hH
  obtain ⟨bf1, bf2, ⟨bt1, bt2, bt3, bt4⟩, bf4, bf5⟩ := bi3 k9 b hb1
  have hk120 := (List.getElem?_eq_some_iff.mp hb1).1
  have hru3 := ru_all hru
  have hru4 := hru3.1
  have hx1 := tx_lt bt4 1
  have J21 : ∀ (al : Bool), (al = decide (b.2.2.2.getD 1 0 = 108)) → ∀ (H : Heap) (locs : List Loc) (ls : Array Slot), hm_P D cl_W M H → va_S (hm_A B) s.heap H locs → lv_has ls 12 [(0, .ref (P 0)), (1, .int (nI k9))] → W p l e R s m ([.ref (P 0), .int (nI k9)] : List Value).toArray below meth c H locs (0) (0) (MQ below (hm_Ni B D (fun r M1 => r = nI (bz (ru_met hs b.2.2.2)) ∧ M1 = M)) ([.ref (P 0), .int (nI k9)] : List Value).toArray s (0) (0) (hm_A B)) (F0 m 21 ls [.int (nI (bz al))]) := by
    intro al hal H locs ls hP hS hl
    refine lv_istore_n (lv' := [(2, .int (nI (bz al))), (0, .ref (P 0)), (1, .int (nI k9))]) hx hb dd_MO_isMet_21 rfl hl (by decide) rfl (fun ls hl => ?_)
    refine lv_iconst (v := nI 3) hx hb dd_MO_isMet_22 (by decide +kernel) ?_
    refine lv_istore_n (lv' := [(3, .int (nI 3)), (2, .int (nI (bz al))), (0, .ref (P 0)), (1, .int (nI k9))]) hx hb dd_MO_isMet_23 rfl hl (by decide) rfl (fun ls hl => ?_)
    refine lv_iconst (v := nI 0) hx hb dd_MO_isMet_24 (by decide +kernel) ?_
    refine lv_istore (lv' := [(4, .int (nI 0)), (3, .int (nI 3)), (2, .int (nI (bz al))), (0, .ref (P 0)), (1, .int (nI k9))]) hx hb dd_MO_isMet_25 hl (by decide) rfl (fun ls hl => ?_)
    refine lv_iconst (v := nI 1) hx hb dd_MO_isMet_27 (by decide +kernel) ?_
    refine lv_istore (lv' := [(5, .int (nI 1)), (4, .int (nI 0)), (3, .int (nI 3)), (2, .int (nI (bz al))), (0, .ref (P 0)), (1, .int (nI k9))]) hx hb dd_MO_isMet_28 hl (by decide) rfl (fun ls hl => ?_)
    have lp30 : ∀ (n9 : Nat) (a : Nat) (n : Nat) (so : Bool) (ea : Bool), (a ≤ b.2.2.2.length) → (rs_i b.2.2.2 n a = true) → ((wd_from 44 b.2.2.2 4).any (hd_met hs) = (so || (wd_from 44 b.2.2.2 (a + 1)).any (hd_met hs))) → ((wd_from 44 b.2.2.2 4).all (hd_met hs) = (ea && (wd_from 44 b.2.2.2 (a + 1)).all (hd_met hs))) → b.2.2.2.length - a < n9 → ∀ (H : Heap) (locs : List Loc) (ls : Array Slot), hm_P D cl_W M H → va_S (hm_A B) s.heap H locs → lv_has ls 12 [(0, .ref (P 0)), (1, .int (nI k9)), (2, .int (nI (bz al))), (3, .int (nI a)), (4, .int (nI (bz so))), (5, .int (nI (bz ea)))] → W p l e R s m ([.ref (P 0), .int (nI k9)] : List Value).toArray below meth c H locs (0) (0) (MQ below (hm_Ni B D (fun r M1 => r = nI (bz (ru_met hs b.2.2.2)) ∧ M1 = M)) ([.ref (P 0), .int (nI k9)] : List Value).toArray s (0) (0) (hm_A B)) (F0 m 30 ls []) := by
      intro n9
      induction n9 with
      | zero => intro a n so ea ha hri hso hea hm; exact absurd hm (Nat.not_lt_zero _)
      | succ n9 ih30 =>
        intro a n so ea ha hri hso hea hm H locs ls hP hS hl
        refine lv_iload_n hx hb dd_MO_isMet_30 rfl (lv_at hl 3 rfl) ?_
        refine lv_aload_n hx hb dd_MO_isMet_31 rfl (lv_at hl 0 rfl) ?_
        refine hm_get (ci := 6) (C := rn_MO) (T := ft_MO) (N := 22) hx hb hts fi_MO hown hE.K hP p0 rfl 9 (by decide) (hts _ tw_995) (fun _ h9 => h9) rfl dd_MO_isMet_32 ?_
        refine lv_iload_n hx hb dd_MO_isMet_35 rfl (lv_at hl 1 rfl) ?_
        refine hm_iald (j := k9) hx hb hE.K hP 2 p9 rfl (vp_in_nI (by omega) (by omega)) (nI_clamp (by omega)) dd_MO_isMet_36 ?_
        refine W.eq (g2 := F0 m 37 ls [.int (nI b.2.2.2.length), .int (nI a)]) (by rw [bt1]) ?_
        refine hn_icmp_ge (tgt := 267) hx hb (by omega) (by omega) dd_MO_isMet_37 (by decide) (fun c1 => ?_) (fun c1 => ?_)
        · refine lv_iload_n hx hb dd_MO_isMet_267 rfl (lv_at hl 2 rfl) ?_
          refine hn_if_eq (tgt := 276) hx hb (bz_b _) dd_MO_isMet_268 (by decide) (fun c2 => ?_) (fun c2 => ?_)
          · have hal0 := bz_f c2
            refine lv_iload hx hb dd_MO_isMet_276 (lv_at hl 4 rfl) ?_
            exact hm_Ei (v := nI (bz so)) hx hb hr (bz_n _) hS hP (⟨by rw [ru_met, if_neg (fun h9 => by rw [decide_eq_true (hru3.2.2.mp h9), hal0] at hal; cases hal), hso, wd_end _ _ (by omega)]; simp, rfl⟩) hlocks (by omega) (by omega) dd_MO_isMet_278
          · have hal1 := bz_t c2
            refine lv_iload hx hb dd_MO_isMet_271 (lv_at hl 5 rfl) ?_
            refine lv_goto (tgt := 278) hx hb dd_MO_isMet_273 (by decide) ?_
            exact hm_Ei (v := nI (bz ea)) hx hb hr (bz_n _) hS hP (⟨by rw [ru_met, if_pos (hru3.2.2.mpr (of_decide_eq_true (hal.symm.trans hal1))), hea, wd_end _ _ (by omega)]; simp, rfl⟩) hlocks (by omega) (by omega) dd_MO_isMet_278
        · have J230 : ∀ (e3 : Nat) (mt : Bool), (a < e3 ∧ e3 ≤ b.2.2.2.length) → (rs_i b.2.2.2 (n + 1) e3 = true) → (∃ w, wd_from 44 b.2.2.2 (a + 1) = w :: wd_from 44 b.2.2.2 (e3 + 1) ∧ hd_met hs w = mt) → ∀ (H : Heap) (locs : List Loc) (ls : Array Slot), hm_P D cl_W M H → va_S (hm_A B) s.heap H locs → lv_has ls 12 [(0, .ref (P 0)), (1, .int (nI k9)), (2, .int (nI (bz al))), (3, .int (nI e3)), (4, .int (nI (bz so))), (5, .int (nI (bz ea))), (9, .int (nI (bz mt)))] → W p l e R s m ([.ref (P 0), .int (nI k9)] : List Value).toArray below meth c H locs (0) (0) (MQ below (hm_Ni B D (fun r M1 => r = nI (bz (ru_met hs b.2.2.2)) ∧ M1 = M)) ([.ref (P 0), .int (nI k9)] : List Value).toArray s (0) (0) (hm_A B)) (F0 m 230 ls []) := by
            intro e3 mt he3 hri3 hw3 H locs ls hP hS hl
            refine lv_iload hx hb dd_MO_isMet_230 (lv_at hl 4 rfl) ?_
            refine hn_if_ne (tgt := 240) hx hb (bz_b _) dd_MO_isMet_232 (by decide) (fun c3 => ?_) (fun c3 => ?_)
            · have hs1 := bz_t c3
              refine lv_iconst (v := nI 1) hx hb dd_MO_isMet_240 (by decide +kernel) ?_
              refine lv_goto (tgt := 245) hx hb dd_MO_isMet_241 (by decide) ?_
              refine lv_istore (lv' := [(4, .int (nI 1)), (0, .ref (P 0)), (1, .int (nI k9)), (2, .int (nI (bz al))), (3, .int (nI e3)), (5, .int (nI (bz ea))), (9, .int (nI (bz mt)))]) hx hb dd_MO_isMet_245 hl (by decide) rfl (fun ls hl => ?_)
              refine lv_iload hx hb dd_MO_isMet_247 (lv_at hl 5 rfl) ?_
              refine hn_if_eq (tgt := 261) hx hb (bz_b _) dd_MO_isMet_249 (by decide) (fun c4 => ?_) (fun c4 => ?_)
              · have he1q := bz_f c4
                refine lv_iconst (v := nI 0) hx hb dd_MO_isMet_261 (by decide +kernel) ?_
                refine lv_istore (lv' := [(5, .int (nI 0)), (4, .int (nI 1)), (0, .ref (P 0)), (1, .int (nI k9)), (2, .int (nI (bz al))), (3, .int (nI e3)), (9, .int (nI (bz mt)))]) hx hb dd_MO_isMet_262 hl (by decide) rfl (fun ls hl => ?_)
                refine lv_goto (tgt := 30) hx hb dd_MO_isMet_264 (by decide) ?_
                exact ih30 e3 (n + 1) true false (he3.2) (hri3) (by
                    obtain ⟨w9, hw9, hm9⟩ := hw3
                    rw [hso, hw9, List.any_cons, hm9, hs1]; simp) (by
                    obtain ⟨w9, hw9, hm9⟩ := hw3
                    rw [hea, hw9, List.all_cons, hm9, he1q]; simp) (by omega) _ _ _ hP hS (lv_sub hl [2, 3, 4, 5, 1, 0] rfl)
              · have he1q := bz_t c4
                refine lv_iload hx hb dd_MO_isMet_252 (lv_at hl 6 rfl) ?_
                refine hn_if_eq (tgt := 261) hx hb (bz_b _) dd_MO_isMet_254 (by decide) (fun c5 => ?_) (fun c5 => ?_)
                · have he2q := bz_f c5
                  refine lv_iconst (v := nI 0) hx hb dd_MO_isMet_261 (by decide +kernel) ?_
                  refine lv_istore (lv' := [(5, .int (nI 0)), (4, .int (nI 1)), (0, .ref (P 0)), (1, .int (nI k9)), (2, .int (nI (bz al))), (3, .int (nI e3)), (9, .int (nI (bz mt)))]) hx hb dd_MO_isMet_262 hl (by decide) rfl (fun ls hl => ?_)
                  refine lv_goto (tgt := 30) hx hb dd_MO_isMet_264 (by decide) ?_
                  exact ih30 e3 (n + 1) true false (he3.2) (hri3) (by
                      obtain ⟨w9, hw9, hm9⟩ := hw3
                      rw [hso, hw9, List.any_cons, hm9, hs1]; simp) (by
                      obtain ⟨w9, hw9, hm9⟩ := hw3
                      rw [hea, hw9, List.all_cons, hm9, he1q, he2q]; simp) (by omega) _ _ _ hP hS (lv_sub hl [2, 3, 4, 5, 1, 0] rfl)
                · have he2q := bz_t c5
                  refine lv_iconst (v := nI 1) hx hb dd_MO_isMet_257 (by decide +kernel) ?_
                  refine lv_goto (tgt := 262) hx hb dd_MO_isMet_258 (by decide) ?_
                  refine lv_istore (lv' := [(5, .int (nI 1)), (4, .int (nI 1)), (0, .ref (P 0)), (1, .int (nI k9)), (2, .int (nI (bz al))), (3, .int (nI e3)), (9, .int (nI (bz mt)))]) hx hb dd_MO_isMet_262 hl (by decide) rfl (fun ls hl => ?_)
                  refine lv_goto (tgt := 30) hx hb dd_MO_isMet_264 (by decide) ?_
                  exact ih30 e3 (n + 1) true true (he3.2) (hri3) (by
                      obtain ⟨w9, hw9, hm9⟩ := hw3
                      rw [hso, hw9, List.any_cons, hm9, hs1]; simp) (by
                      obtain ⟨w9, hw9, hm9⟩ := hw3
                      rw [hea, hw9, List.all_cons, hm9, he1q, he2q]; simp) (by omega) _ _ _ hP hS (lv_sub hl [2, 3, 4, 5, 1, 0] rfl)
            · have hs1 := bz_f c3
              refine lv_iload hx hb dd_MO_isMet_235 (lv_at hl 6 rfl) ?_
              refine hn_if_eq (tgt := 244) hx hb (bz_b _) dd_MO_isMet_237 (by decide) (fun c6 => ?_) (fun c6 => ?_)
              · have hs2 := bz_f c6
                refine lv_iconst (v := nI 0) hx hb dd_MO_isMet_244 (by decide +kernel) ?_
                refine lv_istore (lv' := [(4, .int (nI 0)), (0, .ref (P 0)), (1, .int (nI k9)), (2, .int (nI (bz al))), (3, .int (nI e3)), (5, .int (nI (bz ea))), (9, .int (nI (bz mt)))]) hx hb dd_MO_isMet_245 hl (by decide) rfl (fun ls hl => ?_)
                refine lv_iload hx hb dd_MO_isMet_247 (lv_at hl 5 rfl) ?_
                refine hn_if_eq (tgt := 261) hx hb (bz_b _) dd_MO_isMet_249 (by decide) (fun c7 => ?_) (fun c7 => ?_)
                · have he1q := bz_f c7
                  refine lv_iconst (v := nI 0) hx hb dd_MO_isMet_261 (by decide +kernel) ?_
                  refine lv_istore (lv' := [(5, .int (nI 0)), (4, .int (nI 0)), (0, .ref (P 0)), (1, .int (nI k9)), (2, .int (nI (bz al))), (3, .int (nI e3)), (9, .int (nI (bz mt)))]) hx hb dd_MO_isMet_262 hl (by decide) rfl (fun ls hl => ?_)
                  refine lv_goto (tgt := 30) hx hb dd_MO_isMet_264 (by decide) ?_
                  exact ih30 e3 (n + 1) false false (he3.2) (hri3) (by
                      obtain ⟨w9, hw9, hm9⟩ := hw3
                      rw [hso, hw9, List.any_cons, hm9, hs1, hs2]; simp) (by
                      obtain ⟨w9, hw9, hm9⟩ := hw3
                      rw [hea, hw9, List.all_cons, hm9, he1q]; simp) (by omega) _ _ _ hP hS (lv_sub hl [2, 3, 4, 5, 1, 0] rfl)
                · have he1q := bz_t c7
                  refine lv_iload hx hb dd_MO_isMet_252 (lv_at hl 6 rfl) ?_
                  refine hn_if_eq (tgt := 261) hx hb (bz_b _) dd_MO_isMet_254 (by decide) (fun c8 => ?_) (fun c8 => ?_)
                  · have he2q := bz_f c8
                    refine lv_iconst (v := nI 0) hx hb dd_MO_isMet_261 (by decide +kernel) ?_
                    refine lv_istore (lv' := [(5, .int (nI 0)), (4, .int (nI 0)), (0, .ref (P 0)), (1, .int (nI k9)), (2, .int (nI (bz al))), (3, .int (nI e3)), (9, .int (nI (bz mt)))]) hx hb dd_MO_isMet_262 hl (by decide) rfl (fun ls hl => ?_)
                    refine lv_goto (tgt := 30) hx hb dd_MO_isMet_264 (by decide) ?_
                    exact ih30 e3 (n + 1) false false (he3.2) (hri3) (by
                        obtain ⟨w9, hw9, hm9⟩ := hw3
                        rw [hso, hw9, List.any_cons, hm9, hs1, hs2]; simp) (by
                        obtain ⟨w9, hw9, hm9⟩ := hw3
                        rw [hea, hw9, List.all_cons, hm9, he1q, he2q]; simp) (by omega) _ _ _ hP hS (lv_sub hl [2, 3, 4, 5, 1, 0] rfl)
                  · have he2q := bz_t c8
                    refine lv_iconst (v := nI 1) hx hb dd_MO_isMet_257 (by decide +kernel) ?_
                    refine lv_goto (tgt := 262) hx hb dd_MO_isMet_258 (by decide) ?_
                    refine lv_istore (lv' := [(5, .int (nI 1)), (4, .int (nI 0)), (0, .ref (P 0)), (1, .int (nI k9)), (2, .int (nI (bz al))), (3, .int (nI e3)), (9, .int (nI (bz mt)))]) hx hb dd_MO_isMet_262 hl (by decide) rfl (fun ls hl => ?_)
                    refine lv_goto (tgt := 30) hx hb dd_MO_isMet_264 (by decide) ?_
                    exact ih30 e3 (n + 1) false true (he3.2) (hri3) (by
                        obtain ⟨w9, hw9, hm9⟩ := hw3
                        rw [hso, hw9, List.any_cons, hm9, hs1, hs2]; simp) (by
                        obtain ⟨w9, hw9, hm9⟩ := hw3
                        rw [hea, hw9, List.all_cons, hm9, he1q, he2q]; simp) (by omega) _ _ _ hP hS (lv_sub hl [2, 3, 4, 5, 1, 0] rfl)
              · have hs2 := bz_t c6
                refine lv_iconst (v := nI 1) hx hb dd_MO_isMet_240 (by decide +kernel) ?_
                refine lv_goto (tgt := 245) hx hb dd_MO_isMet_241 (by decide) ?_
                refine lv_istore (lv' := [(4, .int (nI 1)), (0, .ref (P 0)), (1, .int (nI k9)), (2, .int (nI (bz al))), (3, .int (nI e3)), (5, .int (nI (bz ea))), (9, .int (nI (bz mt)))]) hx hb dd_MO_isMet_245 hl (by decide) rfl (fun ls hl => ?_)
                refine lv_iload hx hb dd_MO_isMet_247 (lv_at hl 5 rfl) ?_
                refine hn_if_eq (tgt := 261) hx hb (bz_b _) dd_MO_isMet_249 (by decide) (fun c9 => ?_) (fun c9 => ?_)
                · have he1q := bz_f c9
                  refine lv_iconst (v := nI 0) hx hb dd_MO_isMet_261 (by decide +kernel) ?_
                  refine lv_istore (lv' := [(5, .int (nI 0)), (4, .int (nI 1)), (0, .ref (P 0)), (1, .int (nI k9)), (2, .int (nI (bz al))), (3, .int (nI e3)), (9, .int (nI (bz mt)))]) hx hb dd_MO_isMet_262 hl (by decide) rfl (fun ls hl => ?_)
                  refine lv_goto (tgt := 30) hx hb dd_MO_isMet_264 (by decide) ?_
                  exact ih30 e3 (n + 1) true false (he3.2) (hri3) (by
                      obtain ⟨w9, hw9, hm9⟩ := hw3
                      rw [hso, hw9, List.any_cons, hm9, hs1, hs2]; simp) (by
                      obtain ⟨w9, hw9, hm9⟩ := hw3
                      rw [hea, hw9, List.all_cons, hm9, he1q]; simp) (by omega) _ _ _ hP hS (lv_sub hl [2, 3, 4, 5, 1, 0] rfl)
                · have he1q := bz_t c9
                  refine lv_iload hx hb dd_MO_isMet_252 (lv_at hl 6 rfl) ?_
                  refine hn_if_eq (tgt := 261) hx hb (bz_b _) dd_MO_isMet_254 (by decide) (fun c10 => ?_) (fun c10 => ?_)
                  · have he2q := bz_f c10
                    refine lv_iconst (v := nI 0) hx hb dd_MO_isMet_261 (by decide +kernel) ?_
                    refine lv_istore (lv' := [(5, .int (nI 0)), (4, .int (nI 1)), (0, .ref (P 0)), (1, .int (nI k9)), (2, .int (nI (bz al))), (3, .int (nI e3)), (9, .int (nI (bz mt)))]) hx hb dd_MO_isMet_262 hl (by decide) rfl (fun ls hl => ?_)
                    refine lv_goto (tgt := 30) hx hb dd_MO_isMet_264 (by decide) ?_
                    exact ih30 e3 (n + 1) true false (he3.2) (hri3) (by
                        obtain ⟨w9, hw9, hm9⟩ := hw3
                        rw [hso, hw9, List.any_cons, hm9, hs1, hs2]; simp) (by
                        obtain ⟨w9, hw9, hm9⟩ := hw3
                        rw [hea, hw9, List.all_cons, hm9, he1q, he2q]; simp) (by omega) _ _ _ hP hS (lv_sub hl [2, 3, 4, 5, 1, 0] rfl)
                  · have he2q := bz_t c10
                    refine lv_iconst (v := nI 1) hx hb dd_MO_isMet_257 (by decide +kernel) ?_
                    refine lv_goto (tgt := 262) hx hb dd_MO_isMet_258 (by decide) ?_
                    refine lv_istore (lv' := [(5, .int (nI 1)), (4, .int (nI 1)), (0, .ref (P 0)), (1, .int (nI k9)), (2, .int (nI (bz al))), (3, .int (nI e3)), (9, .int (nI (bz mt)))]) hx hb dd_MO_isMet_262 hl (by decide) rfl (fun ls hl => ?_)
                    refine lv_goto (tgt := 30) hx hb dd_MO_isMet_264 (by decide) ?_
                    exact ih30 e3 (n + 1) true true (he3.2) (hri3) (by
                        obtain ⟨w9, hw9, hm9⟩ := hw3
                        rw [hso, hw9, List.any_cons, hm9, hs1, hs2]; simp) (by
                        obtain ⟨w9, hw9, hm9⟩ := hw3
                        rw [hea, hw9, List.all_cons, hm9, he1q, he2q]; simp) (by omega) _ _ _ hP hS (lv_sub hl [2, 3, 4, 5, 1, 0] rfl)
          refine lv_iinc (v := nI (a + 1)) (lv' := [(3, .int (nI (a + 1))), (0, .ref (P 0)), (1, .int (nI k9)), (2, .int (nI (bz al))), (4, .int (nI (bz so))), (5, .int (nI (bz ea)))]) hx hb dd_MO_isMet_40 hl (k := 3) rfl (nI_1 a) (by decide) rfl (fun ls hl => ?_)
          refine lv_lconst (v := 0) hx hb dd_MO_isMet_43 (by decide +kernel) ?_
          refine lv_lstore (lv' := [(6, .long 0), (3, .int (nI (a + 1))), (0, .ref (P 0)), (1, .int (nI k9)), (2, .int (nI (bz al))), (4, .int (nI (bz so))), (5, .int (nI (bz ea)))]) hx hb dd_MO_isMet_44 hl (by decide) rfl (fun ls hl => ?_)
          have lp46 : ∀ (n9 : Nat) (ee : Nat) (v : Int64), (a + 1 ≤ ee) → (ee ≤ b.2.2.2.length) → (∀ j, a + 1 ≤ j → j < ee → ch_small (b.2.2.2.getD j 0) = true) → (v = cd (tx_sl b.2.2.2 (a + 1) ee)) → b.2.2.2.length - ee < n9 → ∀ (H : Heap) (locs : List Loc) (ls : Array Slot), hm_P D cl_W M H → va_S (hm_A B) s.heap H locs → lv_has ls 12 [(0, .ref (P 0)), (1, .int (nI k9)), (2, .int (nI (bz al))), (3, .int (nI ee)), (4, .int (nI (bz so))), (5, .int (nI (bz ea))), (6, .long v)] → W p l e R s m ([.ref (P 0), .int (nI k9)] : List Value).toArray below meth c H locs (0) (0) (MQ below (hm_Ni B D (fun r M1 => r = nI (bz (ru_met hs b.2.2.2)) ∧ M1 = M)) ([.ref (P 0), .int (nI k9)] : List Value).toArray s (0) (0) (hm_A B)) (F0 m 46 ls []) := by
            intro n9
            induction n9 with
            | zero => intro ee v he1 he2 hrun hv hm; exact absurd hm (Nat.not_lt_zero _)
            | succ n9 ih46 =>
              intro ee v he1 he2 hrun hv hm H locs ls hP hS hl
              have hle := tx_lt bt4 ee
              refine lv_iload_n hx hb dd_MO_isMet_46 rfl (lv_at hl 3 rfl) ?_
              refine lv_aload_n hx hb dd_MO_isMet_47 rfl (lv_at hl 0 rfl) ?_
              refine hm_get (ci := 6) (C := rn_MO) (T := ft_MO) (N := 22) hx hb hts fi_MO hown hE.K hP p0 rfl 9 (by decide) (hts _ tw_995) (fun _ h9 => h9) rfl dd_MO_isMet_48 ?_
              refine lv_iload_n hx hb dd_MO_isMet_51 rfl (lv_at hl 1 rfl) ?_
              refine hm_iald (j := k9) hx hb hE.K hP 2 p9 rfl (vp_in_nI (by omega) (by omega)) (nI_clamp (by omega)) dd_MO_isMet_52 ?_
              refine W.eq (g2 := F0 m 53 ls [.int (nI b.2.2.2.length), .int (nI ee)]) (by rw [bt1]) ?_
              refine hn_icmp_ge (tgt := 99) hx hb (by omega) (by omega) dd_MO_isMet_53 (by decide) (fun c11 => ?_) (fun c11 => ?_)
              · have hrn : rn_E ch_small b.2.2.2 (a + 1) ee := ⟨he1, he2, hrun, fun h9 => absurd h9 (by omega)⟩
                have hnl := mt_n (by omega) hri hrn
                have hl : lv_has ls 12 [(0, .ref (P 0)), (1, .int (nI k9)), (2, .int (nI (bz al))), (3, .int (nI ee)), (4, .int (nI (bz so))), (5, .int (nI (bz ea))), (6, .long (cd (tx_sl b.2.2.2 (a + 1) ee)))] := by rw [← hv]; exact hl
                refine lv_aload_n hx hb dd_MO_isMet_99 rfl (lv_at hl 0 rfl) ?_
                refine lv_lload hx hb dd_MO_isMet_100 (lv_at hl 6 rfl) ?_
                have hd12 : mo_D B D P O M I A L := ⟨p0, p1, p3, p4, p5, p7, p8, p9, p10, p11, p14, p15, p16, p17, p19, p20, p21, po, pb⟩
                refine hm_ci hS (hm_rV 1 (As := [.long (cd (tx_sl b.2.2.2 (a + 1) ee))]) (rest := []) ⟨hx, hb, hml, hown, hts⟩ hE hS hP (kc_MO_headerOf l B D G M P O I A L hd12 hs hH (tx_sl b.2.2.2 (a + 1) ee) (rn_nm hrn hnl)) rfl p0 tw_1149 tw_1146 tw_1148 tw_28 tw_46 (by decide +kernel) rfl rfl ⟨by show 0 + 1 ≤ R.frames; omega, by show 8 + (4 + 11) + 0 ≤ R.locals; omega⟩ rfl hl.1 rfl (Nat.le_of_ble_eq_true rfl) dd_MO_isMet_102 ⟨by omega, by omega⟩) (fun r13 M14 H locs hw15 hP hS => ?_)
                refine W.widen (k := 0) (n := 0) (by omega) (by omega) ?_
                obtain ⟨hrM14, eM14⟩ := hw15
                rw [eM14] at hP
                rcases hrM14 with ⟨i9, g9, rfl, hg1, hg2, hg3⟩ | ⟨rfl, hg4⟩
                · have hil := (List.getElem?_eq_some_iff.mp hg1).1
                  refine lv_istore (lv' := [(8, .int (nI i9)), (0, .ref (P 0)), (1, .int (nI k9)), (2, .int (nI (bz al))), (3, .int (nI ee)), (4, .int (nI (bz so))), (5, .int (nI (bz ea))), (6, .long (cd (tx_sl b.2.2.2 (a + 1) ee)))]) hx hb dd_MO_isMet_105 hl (by decide) rfl (fun ls hl => ?_)
                  refine lv_iload hx hb dd_MO_isMet_107 (lv_at hl 0 rfl) ?_
                  refine lv_iconst (v := (-1)) hx hb dd_MO_isMet_109 (by decide +kernel) ?_
                  refine hi_icmp_eq (tgt := 117) hx hb dd_MO_isMet_110 (by decide) (fun c16 => ?_) (fun c16 => ?_)
                  · exact absurd c16 (by rw [nI_toInt (by omega), tm1]; omega)
                  · refine lv_iconst (v := nI 1) hx hb dd_MO_isMet_113 (by decide +kernel) ?_
                    refine lv_goto (tgt := 118) hx hb dd_MO_isMet_114 (by decide) ?_
                    refine lv_istore (lv' := [(9, .int (nI 1)), (8, .int (nI i9)), (0, .ref (P 0)), (1, .int (nI k9)), (2, .int (nI (bz al))), (3, .int (nI ee)), (4, .int (nI (bz so))), (5, .int (nI (bz ea))), (6, .long (cd (tx_sl b.2.2.2 (a + 1) ee)))]) hx hb dd_MO_isMet_118 hl (by decide) rfl (fun ls hl => ?_)
                    refine lv_iload_n hx hb dd_MO_isMet_120 rfl (lv_at hl 5 rfl) ?_
                    refine lv_aload_n hx hb dd_MO_isMet_121 rfl (lv_at hl 2 rfl) ?_
                    refine hm_get (ci := 6) (C := rn_MO) (T := ft_MO) (N := 22) hx hb hts fi_MO hown hE.K hP p0 rfl 9 (by decide) (hts _ tw_995) (fun _ h9 => h9) rfl dd_MO_isMet_122 ?_
                    refine lv_iload_n hx hb dd_MO_isMet_125 rfl (lv_at hl 3 rfl) ?_
                    refine hm_iald (j := k9) hx hb hE.K hP 2 p9 rfl (vp_in_nI (by omega) (by omega)) (nI_clamp (by omega)) dd_MO_isMet_126 ?_
                    refine W.eq (g2 := F0 m 127 ls [.int (nI b.2.2.2.length), .int (nI ee)]) (by rw [bt1]) ?_
                    refine hn_icmp_ge (tgt := 230) hx hb (by omega) (by omega) dd_MO_isMet_127 (by decide) (fun c17 => ?_) (fun c17 => ?_)
                    · have hm1 := mt_1 (by omega) hri hrn (fun h9 => absurd h9.1 (by omega))
                      exact J230 ee true (⟨by omega, he2⟩) (hm1.2.2.2) (⟨_, hm1.1, by rw [hd_met, hm1.2.1, ff_y hg1 hg2 hg3]; show (match pr_vl _ with | [] => true | _ :: r => decide (g9.2 = r)) = _; rw [hm1.2.2.1]⟩) _ _ _ hP hS (lv_sub hl [2, 3, 4, 5, 6, 7, 0] rfl)
                    · refine lv_aload_n hx hb dd_MO_isMet_130 rfl (lv_at hl 2 rfl) ?_
                      refine hm_get (ci := 6) (C := rn_MO) (T := ft_MO) (N := 22) hx hb hts fi_MO hown hE.K hP p0 rfl 10 (by decide) (hts _ tw_996) (fun _ h9 => h9) rfl dd_MO_isMet_131 ?_
                      refine lv_bipush (v := nI 48) hx hb dd_MO_isMet_134 (by decide +kernel) ?_
                      refine lv_iload_n hx hb dd_MO_isMet_136 rfl (lv_at hl 3 rfl) ?_
                      refine hn_imul hx hb dd_MO_isMet_137 ?_
                      refine lv_iload_n hx hb dd_MO_isMet_138 rfl (lv_at hl 5 rfl) ?_
                      refine hn_iadd hx hb dd_MO_isMet_139 ?_
                      refine hm_iald (j := (48 * k9) + ee) hx hb hE.K hP 2 p10 rfl (vp_in_nI (by omega) (by omega)) (nI_clamp (by omega)) dd_MO_isMet_140 ?_
                      refine W.eq (g2 := F0 m 141 ls [.int (nI (b.2.2.2.getD ee 0))]) (by rw [show A 10 ((48 * k9) + ee) = _ from bt2 ee (by omega)]) ?_
                      refine lv_bipush (v := nI 61) hx hb dd_MO_isMet_141 (by decide +kernel) ?_
                      refine hn_icmp_ne (tgt := 230) hx hb (by omega) (by omega) dd_MO_isMet_143 (by decide) (fun c18 => ?_) (fun c18 => ?_)
                      · have cq61 := c18
                        have hm1 := mt_1 (by omega) hri hrn (fun h9 => cq61 h9.2)
                        exact J230 ee true (⟨by omega, he2⟩) (hm1.2.2.2) (⟨_, hm1.1, by rw [hd_met, hm1.2.1, ff_y hg1 hg2 hg3]; show (match pr_vl _ with | [] => true | _ :: r => decide (g9.2 = r)) = _; rw [hm1.2.2.1]⟩) _ _ _ hP hS (lv_sub hl [2, 3, 4, 5, 6, 7, 0] rfl)
                      · have cq61 := c18
                        refine lv_lconst (v := 0) hx hb dd_MO_isMet_146 (by decide +kernel) ?_
                        refine lv_lstore (lv' := [(10, .long 0), (9, .int (nI 1)), (8, .int (nI i9)), (0, .ref (P 0)), (1, .int (nI k9)), (2, .int (nI (bz al))), (3, .int (nI ee)), (4, .int (nI (bz so))), (5, .int (nI (bz ea))), (6, .long (cd (tx_sl b.2.2.2 (a + 1) ee)))]) hx hb dd_MO_isMet_147 hl (by decide) rfl (fun ls hl => ?_)
                        refine lv_iinc (v := nI (ee + 1)) (lv' := [(3, .int (nI (ee + 1))), (10, .long 0), (9, .int (nI 1)), (8, .int (nI i9)), (0, .ref (P 0)), (1, .int (nI k9)), (2, .int (nI (bz al))), (4, .int (nI (bz so))), (5, .int (nI (bz ea))), (6, .long (cd (tx_sl b.2.2.2 (a + 1) ee)))]) hx hb dd_MO_isMet_149 hl (k := 6) rfl (nI_1 ee) (by decide) rfl (fun ls hl => ?_)
                        have lp152 : ∀ (n9 : Nat) (e2 : Nat) (v2 : Int64), (ee + 1 ≤ e2) → (e2 ≤ b.2.2.2.length) → (∀ j, ee + 1 ≤ j → j < e2 → ch_part (b.2.2.2.getD j 0) = true) → (v2 = cd (tx_sl b.2.2.2 (ee + 1) e2)) → b.2.2.2.length - e2 < n9 → ∀ (H : Heap) (locs : List Loc) (ls : Array Slot), hm_P D cl_W M H → va_S (hm_A B) s.heap H locs → lv_has ls 12 [(0, .ref (P 0)), (1, .int (nI k9)), (2, .int (nI (bz al))), (3, .int (nI e2)), (4, .int (nI (bz so))), (5, .int (nI (bz ea))), (8, .int (nI i9)), (9, .int (nI 1)), (10, .long v2)] → W p l e R s m ([.ref (P 0), .int (nI k9)] : List Value).toArray below meth c H locs (0) (0) (MQ below (hm_Ni B D (fun r M1 => r = nI (bz (ru_met hs b.2.2.2)) ∧ M1 = M)) ([.ref (P 0), .int (nI k9)] : List Value).toArray s (0) (0) (hm_A B)) (F0 m 152 ls []) := by
                          intro n9
                          induction n9 with
                          | zero => intro e2 v2 he21 he22 hrun2 hv2 hm; exact absurd hm (Nat.not_lt_zero _)
                          | succ n9 ih152 =>
                            intro e2 v2 he21 he22 hrun2 hv2 hm H locs ls hP hS hl
                            have hle2 := tx_lt bt4 e2
                            refine lv_iload_n hx hb dd_MO_isMet_152 rfl (lv_at hl 3 rfl) ?_
                            refine lv_aload_n hx hb dd_MO_isMet_153 rfl (lv_at hl 0 rfl) ?_
                            refine hm_get (ci := 6) (C := rn_MO) (T := ft_MO) (N := 22) hx hb hts fi_MO hown hE.K hP p0 rfl 9 (by decide) (hts _ tw_995) (fun _ h9 => h9) rfl dd_MO_isMet_154 ?_
                            refine lv_iload_n hx hb dd_MO_isMet_157 rfl (lv_at hl 1 rfl) ?_
                            refine hm_iald (j := k9) hx hb hE.K hP 2 p9 rfl (vp_in_nI (by omega) (by omega)) (nI_clamp (by omega)) dd_MO_isMet_158 ?_
                            refine W.eq (g2 := F0 m 159 ls [.int (nI b.2.2.2.length), .int (nI e2)]) (by rw [bt1]) ?_
                            refine hn_icmp_ge (tgt := 205) hx hb (by omega) (by omega) dd_MO_isMet_159 (by decide) (fun c19 => ?_) (fun c19 => ?_)
                            · have hrn2 : rn_E ch_part b.2.2.2 (ee + 1) e2 := ⟨he21, he22, hrun2, fun h9 => absurd h9 (by omega)⟩
                              have hm2 := mt_2 (by omega) hri hrn (by omega) cq61 hrn2
                              have hvlo := rn_vl hrn2 hm2.2.2.2.2
                              have hl : lv_has ls 12 [(0, .ref (P 0)), (1, .int (nI k9)), (2, .int (nI (bz al))), (3, .int (nI e2)), (4, .int (nI (bz so))), (5, .int (nI (bz ea))), (8, .int (nI i9)), (9, .int (nI 1)), (10, .long (cd (tx_sl b.2.2.2 (ee + 1) e2)))] := by rw [← hv2]; exact hl
                              refine lv_iload hx hb dd_MO_isMet_205 (lv_at hl 7 rfl) ?_
                              refine hn_if_eq (tgt := 227) hx hb (by omega) dd_MO_isMet_207 (by decide) (fun c20 => absurd c20 (by omega)) (fun c20 => ?_)
                              refine lv_aload_n hx hb dd_MO_isMet_210 rfl (lv_at hl 0 rfl) ?_
                              refine hm_get (ci := 6) (C := rn_MO) (T := ft_MO) (N := 22) hx hb hts fi_MO hown hE.K hP p0 rfl 15 (by decide) (hts _ tw_1001) (fun _ h9 => h9) rfl dd_MO_isMet_211 ?_
                              refine lv_iload hx hb dd_MO_isMet_214 (lv_at hl 6 rfl) ?_
                              refine hm_lald (j := i9) hx hb hE.K hP 3 p15 rfl (vp_in_nI (by omega) (by omega)) (nI_clamp (by omega)) dd_MO_isMet_216 ?_
                              refine W.eq (g2 := F0 m 217 ls [.long (cd g9.2)]) (by rw [(hi3 i9 g9 hg1).2.1]) ?_
                              refine lv_lload hx hb dd_MO_isMet_217 (lv_at hl 8 rfl) ?_
                              refine W.lcmp hx hb dd_MO_isMet_219 ?_
                              refine hi_if_ne (tgt := 227) hx hb dd_MO_isMet_220 (by decide) (fun c21 => ?_) (fun c21 => ?_)
                              · have hcv : ¬ g9.2 = tx_sl b.2.2.2 (ee + 1) e2 := fun q8 => lc_ne c21 ((cd_eq (vl_rr (hi3 i9 g9 hg1).2.2.2).1 (vl_rr hvlo).1 (vl_rr (hi3 i9 g9 hg1).2.2.2).2 (vl_rr hvlo).2).mpr q8)
                                refine lv_iconst (v := nI 0) hx hb dd_MO_isMet_227 (by decide +kernel) ?_
                                refine lv_istore (lv' := [(9, .int (nI 0)), (0, .ref (P 0)), (1, .int (nI k9)), (2, .int (nI (bz al))), (3, .int (nI e2)), (4, .int (nI (bz so))), (5, .int (nI (bz ea))), (8, .int (nI i9)), (10, .long (cd (tx_sl b.2.2.2 (ee + 1) e2)))]) hx hb dd_MO_isMet_228 hl (by decide) rfl (fun ls hl => ?_)
                                exact J230 e2 false (⟨by omega, he22⟩) (hm2.2.2.2.1) (⟨_, hm2.1, by rw [hd_met, hm2.2.1, ff_y hg1 hg2 hg3]; show (match pr_vl _ with | [] => true | _ :: r => decide (g9.2 = r)) = _; rw [hm2.2.2.1]; exact decide_eq_false hcv⟩) _ _ _ hP hS (lv_sub hl [1, 2, 3, 4, 5, 6, 0] rfl)
                              · have hcv : g9.2 = tx_sl b.2.2.2 (ee + 1) e2 := (cd_eq (vl_rr (hi3 i9 g9 hg1).2.2.2).1 (vl_rr hvlo).1 (vl_rr (hi3 i9 g9 hg1).2.2.2).2 (vl_rr hvlo).2).mp (lc_eq c21)
                                refine lv_iconst (v := nI 1) hx hb dd_MO_isMet_223 (by decide +kernel) ?_
                                refine lv_goto (tgt := 228) hx hb dd_MO_isMet_224 (by decide) ?_
                                refine lv_istore (lv' := [(9, .int (nI 1)), (0, .ref (P 0)), (1, .int (nI k9)), (2, .int (nI (bz al))), (3, .int (nI e2)), (4, .int (nI (bz so))), (5, .int (nI (bz ea))), (8, .int (nI i9)), (10, .long (cd (tx_sl b.2.2.2 (ee + 1) e2)))]) hx hb dd_MO_isMet_228 hl (by decide) rfl (fun ls hl => ?_)
                                exact J230 e2 true (⟨by omega, he22⟩) (hm2.2.2.2.1) (⟨_, hm2.1, by rw [hd_met, hm2.2.1, ff_y hg1 hg2 hg3]; show (match pr_vl _ with | [] => true | _ :: r => decide (g9.2 = r)) = _; rw [hm2.2.2.1]; exact decide_eq_true hcv⟩) _ _ _ hP hS (lv_sub hl [1, 2, 3, 4, 5, 6, 0] rfl)
                            · refine lv_aload_n hx hb dd_MO_isMet_162 rfl (lv_at hl 0 rfl) ?_
                              refine hm_get (ci := 6) (C := rn_MO) (T := ft_MO) (N := 22) hx hb hts fi_MO hown hE.K hP p0 rfl 10 (by decide) (hts _ tw_996) (fun _ h9 => h9) rfl dd_MO_isMet_163 ?_
                              refine lv_bipush (v := nI 48) hx hb dd_MO_isMet_166 (by decide +kernel) ?_
                              refine lv_iload_n hx hb dd_MO_isMet_168 rfl (lv_at hl 1 rfl) ?_
                              refine hn_imul hx hb dd_MO_isMet_169 ?_
                              refine lv_iload_n hx hb dd_MO_isMet_170 rfl (lv_at hl 3 rfl) ?_
                              refine hn_iadd hx hb dd_MO_isMet_171 ?_
                              refine hm_iald (j := (48 * k9) + e2) hx hb hE.K hP 2 p10 rfl (vp_in_nI (by omega) (by omega)) (nI_clamp (by omega)) dd_MO_isMet_172 ?_
                              refine W.eq (g2 := F0 m 173 ls [.int (nI (b.2.2.2.getD e2 0))]) (by rw [show A 10 ((48 * k9) + e2) = _ from bt2 e2 (by omega)]) ?_
                              refine hm_ci hS (hm_rS 1 (As := [.int (nI (b.2.2.2.getD e2 0))]) (rest := []) ⟨hx, hb, hml, hown, hts⟩ hE hS hP (kc_MO_isPart l B D G M (b.2.2.2.getD e2 0) (by omega)) tw_1129 tw_1127 tw_1128 tw_46 (by decide +kernel) rfl rfl ⟨by show 1 + 1 ≤ R.frames; omega, by show 8 + (1 + 11) + 20 ≤ R.locals; omega⟩ rfl hl.1 rfl (Nat.le_of_ble_eq_true rfl) dd_MO_isMet_173 ⟨by omega, by omega⟩) (fun r22 M23 H locs hw24 hP hS => ?_)
                              refine W.widen (k := 0) (n := 0) (by omega) (by omega) ?_
                              obtain ⟨rfl, eM23⟩ := hw24
                              rw [eM23] at hP
                              refine hn_if_eq (tgt := 205) hx hb (bz_b _) dd_MO_isMet_176 (by decide) (fun c25 => ?_) (fun c25 => ?_)
                              · have hce2 := bz_f c25
                                have hrn2 : rn_E ch_part b.2.2.2 (ee + 1) e2 := ⟨he21, he22, hrun2, fun _ => hce2⟩
                                have hm2 := mt_2 (by omega) hri hrn (by omega) cq61 hrn2
                                have hvlo := rn_vl hrn2 hm2.2.2.2.2
                                have hl : lv_has ls 12 [(0, .ref (P 0)), (1, .int (nI k9)), (2, .int (nI (bz al))), (3, .int (nI e2)), (4, .int (nI (bz so))), (5, .int (nI (bz ea))), (8, .int (nI i9)), (9, .int (nI 1)), (10, .long (cd (tx_sl b.2.2.2 (ee + 1) e2)))] := by rw [← hv2]; exact hl
                                refine lv_iload hx hb dd_MO_isMet_205 (lv_at hl 7 rfl) ?_
                                refine hn_if_eq (tgt := 227) hx hb (by omega) dd_MO_isMet_207 (by decide) (fun c26 => absurd c26 (by omega)) (fun c26 => ?_)
                                refine lv_aload_n hx hb dd_MO_isMet_210 rfl (lv_at hl 0 rfl) ?_
                                refine hm_get (ci := 6) (C := rn_MO) (T := ft_MO) (N := 22) hx hb hts fi_MO hown hE.K hP p0 rfl 15 (by decide) (hts _ tw_1001) (fun _ h9 => h9) rfl dd_MO_isMet_211 ?_
                                refine lv_iload hx hb dd_MO_isMet_214 (lv_at hl 6 rfl) ?_
                                refine hm_lald (j := i9) hx hb hE.K hP 3 p15 rfl (vp_in_nI (by omega) (by omega)) (nI_clamp (by omega)) dd_MO_isMet_216 ?_
                                refine W.eq (g2 := F0 m 217 ls [.long (cd g9.2)]) (by rw [(hi3 i9 g9 hg1).2.1]) ?_
                                refine lv_lload hx hb dd_MO_isMet_217 (lv_at hl 8 rfl) ?_
                                refine W.lcmp hx hb dd_MO_isMet_219 ?_
                                refine hi_if_ne (tgt := 227) hx hb dd_MO_isMet_220 (by decide) (fun c27 => ?_) (fun c27 => ?_)
                                · have hcv : ¬ g9.2 = tx_sl b.2.2.2 (ee + 1) e2 := fun q8 => lc_ne c27 ((cd_eq (vl_rr (hi3 i9 g9 hg1).2.2.2).1 (vl_rr hvlo).1 (vl_rr (hi3 i9 g9 hg1).2.2.2).2 (vl_rr hvlo).2).mpr q8)
                                  refine lv_iconst (v := nI 0) hx hb dd_MO_isMet_227 (by decide +kernel) ?_
                                  refine lv_istore (lv' := [(9, .int (nI 0)), (0, .ref (P 0)), (1, .int (nI k9)), (2, .int (nI (bz al))), (3, .int (nI e2)), (4, .int (nI (bz so))), (5, .int (nI (bz ea))), (8, .int (nI i9)), (10, .long (cd (tx_sl b.2.2.2 (ee + 1) e2)))]) hx hb dd_MO_isMet_228 hl (by decide) rfl (fun ls hl => ?_)
                                  exact J230 e2 false (⟨by omega, he22⟩) (hm2.2.2.2.1) (⟨_, hm2.1, by rw [hd_met, hm2.2.1, ff_y hg1 hg2 hg3]; show (match pr_vl _ with | [] => true | _ :: r => decide (g9.2 = r)) = _; rw [hm2.2.2.1]; exact decide_eq_false hcv⟩) _ _ _ hP hS (lv_sub hl [1, 2, 3, 4, 5, 6, 0] rfl)
                                · have hcv : g9.2 = tx_sl b.2.2.2 (ee + 1) e2 := (cd_eq (vl_rr (hi3 i9 g9 hg1).2.2.2).1 (vl_rr hvlo).1 (vl_rr (hi3 i9 g9 hg1).2.2.2).2 (vl_rr hvlo).2).mp (lc_eq c27)
                                  refine lv_iconst (v := nI 1) hx hb dd_MO_isMet_223 (by decide +kernel) ?_
                                  refine lv_goto (tgt := 228) hx hb dd_MO_isMet_224 (by decide) ?_
                                  refine lv_istore (lv' := [(9, .int (nI 1)), (0, .ref (P 0)), (1, .int (nI k9)), (2, .int (nI (bz al))), (3, .int (nI e2)), (4, .int (nI (bz so))), (5, .int (nI (bz ea))), (8, .int (nI i9)), (10, .long (cd (tx_sl b.2.2.2 (ee + 1) e2)))]) hx hb dd_MO_isMet_228 hl (by decide) rfl (fun ls hl => ?_)
                                  exact J230 e2 true (⟨by omega, he22⟩) (hm2.2.2.2.1) (⟨_, hm2.1, by rw [hd_met, hm2.2.1, ff_y hg1 hg2 hg3]; show (match pr_vl _ with | [] => true | _ :: r => decide (g9.2 = r)) = _; rw [hm2.2.2.1]; exact decide_eq_true hcv⟩) _ _ _ hP hS (lv_sub hl [1, 2, 3, 4, 5, 6, 0] rfl)
                              · have hce2 := bz_t c25
                                refine lv_lload hx hb dd_MO_isMet_179 (lv_at hl 8 rfl) ?_
                                refine lv_bipush (v := nI 8) hx hb dd_MO_isMet_181 (by decide +kernel) ?_
                                refine lv_lshl hx hb dd_MO_isMet_183 rfl ?_
                                refine lv_topl (fun w28 ew28 => ?_)
                                refine lv_aload_n hx hb dd_MO_isMet_184 rfl (lv_at hl 0 rfl) ?_
                                refine hm_get (ci := 6) (C := rn_MO) (T := ft_MO) (N := 22) hx hb hts fi_MO hown hE.K hP p0 rfl 10 (by decide) (hts _ tw_996) (fun _ h9 => h9) rfl dd_MO_isMet_185 ?_
                                refine lv_bipush (v := nI 48) hx hb dd_MO_isMet_188 (by decide +kernel) ?_
                                refine lv_iload_n hx hb dd_MO_isMet_190 rfl (lv_at hl 1 rfl) ?_
                                refine hn_imul hx hb dd_MO_isMet_191 ?_
                                refine lv_iload_n hx hb dd_MO_isMet_192 rfl (lv_at hl 3 rfl) ?_
                                refine hn_iadd hx hb dd_MO_isMet_193 ?_
                                refine hm_iald (j := (48 * k9) + e2) hx hb hE.K hP 2 p10 rfl (vp_in_nI (by omega) (by omega)) (nI_clamp (by omega)) dd_MO_isMet_194 ?_
                                refine W.eq (g2 := F0 m 195 ls [.int (nI (b.2.2.2.getD e2 0)), .long w28]) (by rw [show A 10 ((48 * k9) + e2) = _ from bt2 e2 (by omega)]) ?_
                                refine lv_i2l hx hb dd_MO_isMet_195 rfl ?_
                                refine lv_topl (fun w29 ew29 => ?_)
                                refine lv_lor hx hb dd_MO_isMet_196 ?_
                                refine lv_topl (fun w30 ew30 => ?_)
                                refine lv_lstore (lv' := [(10, .long w30), (0, .ref (P 0)), (1, .int (nI k9)), (2, .int (nI (bz al))), (3, .int (nI e2)), (4, .int (nI (bz so))), (5, .int (nI (bz ea))), (8, .int (nI i9)), (9, .int (nI 1))]) hx hb dd_MO_isMet_197 hl (by decide) rfl (fun ls hl => ?_)
                                refine lv_iinc (v := nI (e2 + 1)) (lv' := [(3, .int (nI (e2 + 1))), (10, .long w30), (0, .ref (P 0)), (1, .int (nI k9)), (2, .int (nI (bz al))), (4, .int (nI (bz so))), (5, .int (nI (bz ea))), (8, .int (nI i9)), (9, .int (nI 1))]) hx hb dd_MO_isMet_199 hl (k := 4) rfl (nI_1 e2) (by decide) rfl (fun ls hl => ?_)
                                refine lv_goto (tgt := 152) hx hb dd_MO_isMet_202 (by decide) ?_
                                exact ih152 (e2 + 1) w30 (by omega) (by omega) (fun j h8 h9 => by
                                    by_cases q : j = e2
                                    · subst q; exact hce2
                                    · exact hrun2 j h8 (by omega)) (by rw [ew30, ew28, ew29, hv2, tx_sn he21 (by omega)]; exact cd_st (by omega)) (by omega) _ _ _ hP hS (lv_sub hl [2, 3, 4, 0, 5, 6, 7, 8, 1] rfl)
                        exact lp152 _ (ee + 1) 0 (Nat.le_refl _) (by omega) (fun j h8 h9 => absurd h9 (by omega)) (by rw [tx_nl (by omega)]; rfl) (Nat.lt_succ_self _) _ _ _ hP hS (lv_sub hl [4, 5, 6, 0, 7, 8, 3, 2, 1] rfl)
                · refine lv_istore (lv' := [(8, .int (-1)), (0, .ref (P 0)), (1, .int (nI k9)), (2, .int (nI (bz al))), (3, .int (nI ee)), (4, .int (nI (bz so))), (5, .int (nI (bz ea))), (6, .long (cd (tx_sl b.2.2.2 (a + 1) ee)))]) hx hb dd_MO_isMet_105 hl (by decide) rfl (fun ls hl => ?_)
                  refine lv_iload hx hb dd_MO_isMet_107 (lv_at hl 0 rfl) ?_
                  refine lv_iconst (v := (-1)) hx hb dd_MO_isMet_109 (by decide +kernel) ?_
                  refine hi_icmp_eq (tgt := 117) hx hb dd_MO_isMet_110 (by decide) (fun c31 => ?_) (fun c31 => absurd c31 (by decide))
                  refine lv_iconst (v := nI 0) hx hb dd_MO_isMet_117 (by decide +kernel) ?_
                  refine lv_istore (lv' := [(9, .int (nI 0)), (8, .int (-1)), (0, .ref (P 0)), (1, .int (nI k9)), (2, .int (nI (bz al))), (3, .int (nI ee)), (4, .int (nI (bz so))), (5, .int (nI (bz ea))), (6, .long (cd (tx_sl b.2.2.2 (a + 1) ee)))]) hx hb dd_MO_isMet_118 hl (by decide) rfl (fun ls hl => ?_)
                  refine lv_iload_n hx hb dd_MO_isMet_120 rfl (lv_at hl 5 rfl) ?_
                  refine lv_aload_n hx hb dd_MO_isMet_121 rfl (lv_at hl 2 rfl) ?_
                  refine hm_get (ci := 6) (C := rn_MO) (T := ft_MO) (N := 22) hx hb hts fi_MO hown hE.K hP p0 rfl 9 (by decide) (hts _ tw_995) (fun _ h9 => h9) rfl dd_MO_isMet_122 ?_
                  refine lv_iload_n hx hb dd_MO_isMet_125 rfl (lv_at hl 3 rfl) ?_
                  refine hm_iald (j := k9) hx hb hE.K hP 2 p9 rfl (vp_in_nI (by omega) (by omega)) (nI_clamp (by omega)) dd_MO_isMet_126 ?_
                  refine W.eq (g2 := F0 m 127 ls [.int (nI b.2.2.2.length), .int (nI ee)]) (by rw [bt1]) ?_
                  refine hn_icmp_ge (tgt := 230) hx hb (by omega) (by omega) dd_MO_isMet_127 (by decide) (fun c32 => ?_) (fun c32 => ?_)
                  · have hm1 := mt_1 (by omega) hri hrn (fun h9 => absurd h9.1 (by omega))
                    exact J230 ee false (⟨by omega, he2⟩) (hm1.2.2.2) (⟨_, hm1.1, by rw [hd_met, hm1.2.1, ff_n hg4]⟩) _ _ _ hP hS (lv_sub hl [2, 3, 4, 5, 6, 7, 0] rfl)
                  · refine lv_aload_n hx hb dd_MO_isMet_130 rfl (lv_at hl 2 rfl) ?_
                    refine hm_get (ci := 6) (C := rn_MO) (T := ft_MO) (N := 22) hx hb hts fi_MO hown hE.K hP p0 rfl 10 (by decide) (hts _ tw_996) (fun _ h9 => h9) rfl dd_MO_isMet_131 ?_
                    refine lv_bipush (v := nI 48) hx hb dd_MO_isMet_134 (by decide +kernel) ?_
                    refine lv_iload_n hx hb dd_MO_isMet_136 rfl (lv_at hl 3 rfl) ?_
                    refine hn_imul hx hb dd_MO_isMet_137 ?_
                    refine lv_iload_n hx hb dd_MO_isMet_138 rfl (lv_at hl 5 rfl) ?_
                    refine hn_iadd hx hb dd_MO_isMet_139 ?_
                    refine hm_iald (j := (48 * k9) + ee) hx hb hE.K hP 2 p10 rfl (vp_in_nI (by omega) (by omega)) (nI_clamp (by omega)) dd_MO_isMet_140 ?_
                    refine W.eq (g2 := F0 m 141 ls [.int (nI (b.2.2.2.getD ee 0))]) (by rw [show A 10 ((48 * k9) + ee) = _ from bt2 ee (by omega)]) ?_
                    refine lv_bipush (v := nI 61) hx hb dd_MO_isMet_141 (by decide +kernel) ?_
                    refine hn_icmp_ne (tgt := 230) hx hb (by omega) (by omega) dd_MO_isMet_143 (by decide) (fun c33 => ?_) (fun c33 => ?_)
                    · have cq61 := c33
                      have hm1 := mt_1 (by omega) hri hrn (fun h9 => cq61 h9.2)
                      exact J230 ee false (⟨by omega, he2⟩) (hm1.2.2.2) (⟨_, hm1.1, by rw [hd_met, hm1.2.1, ff_n hg4]⟩) _ _ _ hP hS (lv_sub hl [2, 3, 4, 5, 6, 7, 0] rfl)
                    · have cq61 := c33
                      refine lv_lconst (v := 0) hx hb dd_MO_isMet_146 (by decide +kernel) ?_
                      refine lv_lstore (lv' := [(10, .long 0), (9, .int (nI 0)), (8, .int (-1)), (0, .ref (P 0)), (1, .int (nI k9)), (2, .int (nI (bz al))), (3, .int (nI ee)), (4, .int (nI (bz so))), (5, .int (nI (bz ea))), (6, .long (cd (tx_sl b.2.2.2 (a + 1) ee)))]) hx hb dd_MO_isMet_147 hl (by decide) rfl (fun ls hl => ?_)
                      refine lv_iinc (v := nI (ee + 1)) (lv' := [(3, .int (nI (ee + 1))), (10, .long 0), (9, .int (nI 0)), (8, .int (-1)), (0, .ref (P 0)), (1, .int (nI k9)), (2, .int (nI (bz al))), (4, .int (nI (bz so))), (5, .int (nI (bz ea))), (6, .long (cd (tx_sl b.2.2.2 (a + 1) ee)))]) hx hb dd_MO_isMet_149 hl (k := 6) rfl (nI_1 ee) (by decide) rfl (fun ls hl => ?_)
                      have lp152 : ∀ (n9 : Nat) (e2 : Nat) (v2 : Int64), (ee + 1 ≤ e2) → (e2 ≤ b.2.2.2.length) → (∀ j, ee + 1 ≤ j → j < e2 → ch_part (b.2.2.2.getD j 0) = true) → (v2 = cd (tx_sl b.2.2.2 (ee + 1) e2)) → b.2.2.2.length - e2 < n9 → ∀ (H : Heap) (locs : List Loc) (ls : Array Slot), hm_P D cl_W M H → va_S (hm_A B) s.heap H locs → lv_has ls 12 [(0, .ref (P 0)), (1, .int (nI k9)), (2, .int (nI (bz al))), (3, .int (nI e2)), (4, .int (nI (bz so))), (5, .int (nI (bz ea))), (8, .int (-1)), (9, .int (nI 0)), (10, .long v2)] → W p l e R s m ([.ref (P 0), .int (nI k9)] : List Value).toArray below meth c H locs (0) (0) (MQ below (hm_Ni B D (fun r M1 => r = nI (bz (ru_met hs b.2.2.2)) ∧ M1 = M)) ([.ref (P 0), .int (nI k9)] : List Value).toArray s (0) (0) (hm_A B)) (F0 m 152 ls []) := by
                        intro n9
                        induction n9 with
                        | zero => intro e2 v2 he21 he22 hrun2 hv2 hm; exact absurd hm (Nat.not_lt_zero _)
                        | succ n9 ih152 =>
                          intro e2 v2 he21 he22 hrun2 hv2 hm H locs ls hP hS hl
                          have hle2 := tx_lt bt4 e2
                          refine lv_iload_n hx hb dd_MO_isMet_152 rfl (lv_at hl 3 rfl) ?_
                          refine lv_aload_n hx hb dd_MO_isMet_153 rfl (lv_at hl 0 rfl) ?_
                          refine hm_get (ci := 6) (C := rn_MO) (T := ft_MO) (N := 22) hx hb hts fi_MO hown hE.K hP p0 rfl 9 (by decide) (hts _ tw_995) (fun _ h9 => h9) rfl dd_MO_isMet_154 ?_
                          refine lv_iload_n hx hb dd_MO_isMet_157 rfl (lv_at hl 1 rfl) ?_
                          refine hm_iald (j := k9) hx hb hE.K hP 2 p9 rfl (vp_in_nI (by omega) (by omega)) (nI_clamp (by omega)) dd_MO_isMet_158 ?_
                          refine W.eq (g2 := F0 m 159 ls [.int (nI b.2.2.2.length), .int (nI e2)]) (by rw [bt1]) ?_
                          refine hn_icmp_ge (tgt := 205) hx hb (by omega) (by omega) dd_MO_isMet_159 (by decide) (fun c34 => ?_) (fun c34 => ?_)
                          · have hrn2 : rn_E ch_part b.2.2.2 (ee + 1) e2 := ⟨he21, he22, hrun2, fun h9 => absurd h9 (by omega)⟩
                            have hm2 := mt_2 (by omega) hri hrn (by omega) cq61 hrn2
                            have hvlo := rn_vl hrn2 hm2.2.2.2.2
                            have hl : lv_has ls 12 [(0, .ref (P 0)), (1, .int (nI k9)), (2, .int (nI (bz al))), (3, .int (nI e2)), (4, .int (nI (bz so))), (5, .int (nI (bz ea))), (8, .int (-1)), (9, .int (nI 0)), (10, .long (cd (tx_sl b.2.2.2 (ee + 1) e2)))] := by rw [← hv2]; exact hl
                            refine lv_iload hx hb dd_MO_isMet_205 (lv_at hl 7 rfl) ?_
                            refine hn_if_eq (tgt := 227) hx hb (by omega) dd_MO_isMet_207 (by decide) (fun c35 => ?_) (fun c35 => absurd c35 (by omega))
                            refine lv_iconst (v := nI 0) hx hb dd_MO_isMet_227 (by decide +kernel) ?_
                            refine lv_istore (lv' := [(9, .int (nI 0)), (0, .ref (P 0)), (1, .int (nI k9)), (2, .int (nI (bz al))), (3, .int (nI e2)), (4, .int (nI (bz so))), (5, .int (nI (bz ea))), (8, .int (-1)), (10, .long (cd (tx_sl b.2.2.2 (ee + 1) e2)))]) hx hb dd_MO_isMet_228 hl (by decide) rfl (fun ls hl => ?_)
                            exact J230 e2 false (⟨by omega, he22⟩) (hm2.2.2.2.1) (⟨_, hm2.1, by rw [hd_met, hm2.2.1, ff_n hg4]⟩) _ _ _ hP hS (lv_sub hl [1, 2, 3, 4, 5, 6, 0] rfl)
                          · refine lv_aload_n hx hb dd_MO_isMet_162 rfl (lv_at hl 0 rfl) ?_
                            refine hm_get (ci := 6) (C := rn_MO) (T := ft_MO) (N := 22) hx hb hts fi_MO hown hE.K hP p0 rfl 10 (by decide) (hts _ tw_996) (fun _ h9 => h9) rfl dd_MO_isMet_163 ?_
                            refine lv_bipush (v := nI 48) hx hb dd_MO_isMet_166 (by decide +kernel) ?_
                            refine lv_iload_n hx hb dd_MO_isMet_168 rfl (lv_at hl 1 rfl) ?_
                            refine hn_imul hx hb dd_MO_isMet_169 ?_
                            refine lv_iload_n hx hb dd_MO_isMet_170 rfl (lv_at hl 3 rfl) ?_
                            refine hn_iadd hx hb dd_MO_isMet_171 ?_
                            refine hm_iald (j := (48 * k9) + e2) hx hb hE.K hP 2 p10 rfl (vp_in_nI (by omega) (by omega)) (nI_clamp (by omega)) dd_MO_isMet_172 ?_
                            refine W.eq (g2 := F0 m 173 ls [.int (nI (b.2.2.2.getD e2 0))]) (by rw [show A 10 ((48 * k9) + e2) = _ from bt2 e2 (by omega)]) ?_
                            refine hm_ci hS (hm_rS 1 (As := [.int (nI (b.2.2.2.getD e2 0))]) (rest := []) ⟨hx, hb, hml, hown, hts⟩ hE hS hP (kc_MO_isPart l B D G M (b.2.2.2.getD e2 0) (by omega)) tw_1129 tw_1127 tw_1128 tw_46 (by decide +kernel) rfl rfl ⟨by show 1 + 1 ≤ R.frames; omega, by show 8 + (1 + 11) + 20 ≤ R.locals; omega⟩ rfl hl.1 rfl (Nat.le_of_ble_eq_true rfl) dd_MO_isMet_173 ⟨by omega, by omega⟩) (fun r36 M37 H locs hw38 hP hS => ?_)
                            refine W.widen (k := 0) (n := 0) (by omega) (by omega) ?_
                            obtain ⟨rfl, eM37⟩ := hw38
                            rw [eM37] at hP
                            refine hn_if_eq (tgt := 205) hx hb (bz_b _) dd_MO_isMet_176 (by decide) (fun c39 => ?_) (fun c39 => ?_)
                            · have hce2 := bz_f c39
                              have hrn2 : rn_E ch_part b.2.2.2 (ee + 1) e2 := ⟨he21, he22, hrun2, fun _ => hce2⟩
                              have hm2 := mt_2 (by omega) hri hrn (by omega) cq61 hrn2
                              have hvlo := rn_vl hrn2 hm2.2.2.2.2
                              have hl : lv_has ls 12 [(0, .ref (P 0)), (1, .int (nI k9)), (2, .int (nI (bz al))), (3, .int (nI e2)), (4, .int (nI (bz so))), (5, .int (nI (bz ea))), (8, .int (-1)), (9, .int (nI 0)), (10, .long (cd (tx_sl b.2.2.2 (ee + 1) e2)))] := by rw [← hv2]; exact hl
                              refine lv_iload hx hb dd_MO_isMet_205 (lv_at hl 7 rfl) ?_
                              refine hn_if_eq (tgt := 227) hx hb (by omega) dd_MO_isMet_207 (by decide) (fun c40 => ?_) (fun c40 => absurd c40 (by omega))
                              refine lv_iconst (v := nI 0) hx hb dd_MO_isMet_227 (by decide +kernel) ?_
                              refine lv_istore (lv' := [(9, .int (nI 0)), (0, .ref (P 0)), (1, .int (nI k9)), (2, .int (nI (bz al))), (3, .int (nI e2)), (4, .int (nI (bz so))), (5, .int (nI (bz ea))), (8, .int (-1)), (10, .long (cd (tx_sl b.2.2.2 (ee + 1) e2)))]) hx hb dd_MO_isMet_228 hl (by decide) rfl (fun ls hl => ?_)
                              exact J230 e2 false (⟨by omega, he22⟩) (hm2.2.2.2.1) (⟨_, hm2.1, by rw [hd_met, hm2.2.1, ff_n hg4]⟩) _ _ _ hP hS (lv_sub hl [1, 2, 3, 4, 5, 6, 0] rfl)
                            · have hce2 := bz_t c39
                              refine lv_lload hx hb dd_MO_isMet_179 (lv_at hl 8 rfl) ?_
                              refine lv_bipush (v := nI 8) hx hb dd_MO_isMet_181 (by decide +kernel) ?_
                              refine lv_lshl hx hb dd_MO_isMet_183 rfl ?_
                              refine lv_topl (fun w41 ew41 => ?_)
                              refine lv_aload_n hx hb dd_MO_isMet_184 rfl (lv_at hl 0 rfl) ?_
                              refine hm_get (ci := 6) (C := rn_MO) (T := ft_MO) (N := 22) hx hb hts fi_MO hown hE.K hP p0 rfl 10 (by decide) (hts _ tw_996) (fun _ h9 => h9) rfl dd_MO_isMet_185 ?_
                              refine lv_bipush (v := nI 48) hx hb dd_MO_isMet_188 (by decide +kernel) ?_
                              refine lv_iload_n hx hb dd_MO_isMet_190 rfl (lv_at hl 1 rfl) ?_
                              refine hn_imul hx hb dd_MO_isMet_191 ?_
                              refine lv_iload_n hx hb dd_MO_isMet_192 rfl (lv_at hl 3 rfl) ?_
                              refine hn_iadd hx hb dd_MO_isMet_193 ?_
                              refine hm_iald (j := (48 * k9) + e2) hx hb hE.K hP 2 p10 rfl (vp_in_nI (by omega) (by omega)) (nI_clamp (by omega)) dd_MO_isMet_194 ?_
                              refine W.eq (g2 := F0 m 195 ls [.int (nI (b.2.2.2.getD e2 0)), .long w41]) (by rw [show A 10 ((48 * k9) + e2) = _ from bt2 e2 (by omega)]) ?_
                              refine lv_i2l hx hb dd_MO_isMet_195 rfl ?_
                              refine lv_topl (fun w42 ew42 => ?_)
                              refine lv_lor hx hb dd_MO_isMet_196 ?_
                              refine lv_topl (fun w43 ew43 => ?_)
                              refine lv_lstore (lv' := [(10, .long w43), (0, .ref (P 0)), (1, .int (nI k9)), (2, .int (nI (bz al))), (3, .int (nI e2)), (4, .int (nI (bz so))), (5, .int (nI (bz ea))), (8, .int (-1)), (9, .int (nI 0))]) hx hb dd_MO_isMet_197 hl (by decide) rfl (fun ls hl => ?_)
                              refine lv_iinc (v := nI (e2 + 1)) (lv' := [(3, .int (nI (e2 + 1))), (10, .long w43), (0, .ref (P 0)), (1, .int (nI k9)), (2, .int (nI (bz al))), (4, .int (nI (bz so))), (5, .int (nI (bz ea))), (8, .int (-1)), (9, .int (nI 0))]) hx hb dd_MO_isMet_199 hl (k := 4) rfl (nI_1 e2) (by decide) rfl (fun ls hl => ?_)
                              refine lv_goto (tgt := 152) hx hb dd_MO_isMet_202 (by decide) ?_
                              exact ih152 (e2 + 1) w43 (by omega) (by omega) (fun j h8 h9 => by
                                  by_cases q : j = e2
                                  · subst q; exact hce2
                                  · exact hrun2 j h8 (by omega)) (by rw [ew43, ew41, ew42, hv2, tx_sn he21 (by omega)]; exact cd_st (by omega)) (by omega) _ _ _ hP hS (lv_sub hl [2, 3, 4, 0, 5, 6, 7, 8, 1] rfl)
                      exact lp152 _ (ee + 1) 0 (Nat.le_refl _) (by omega) (fun j h8 h9 => absurd h9 (by omega)) (by rw [tx_nl (by omega)]; rfl) (Nat.lt_succ_self _) _ _ _ hP hS (lv_sub hl [4, 5, 6, 0, 7, 8, 3, 2, 1] rfl)
              · refine lv_aload_n hx hb dd_MO_isMet_56 rfl (lv_at hl 0 rfl) ?_
                refine hm_get (ci := 6) (C := rn_MO) (T := ft_MO) (N := 22) hx hb hts fi_MO hown hE.K hP p0 rfl 10 (by decide) (hts _ tw_996) (fun _ h9 => h9) rfl dd_MO_isMet_57 ?_
                refine lv_bipush (v := nI 48) hx hb dd_MO_isMet_60 (by decide +kernel) ?_
                refine lv_iload_n hx hb dd_MO_isMet_62 rfl (lv_at hl 1 rfl) ?_
                refine hn_imul hx hb dd_MO_isMet_63 ?_
                refine lv_iload_n hx hb dd_MO_isMet_64 rfl (lv_at hl 3 rfl) ?_
                refine hn_iadd hx hb dd_MO_isMet_65 ?_
                refine hm_iald (j := (48 * k9) + ee) hx hb hE.K hP 2 p10 rfl (vp_in_nI (by omega) (by omega)) (nI_clamp (by omega)) dd_MO_isMet_66 ?_
                refine W.eq (g2 := F0 m 67 ls [.int (nI (b.2.2.2.getD ee 0))]) (by rw [show A 10 ((48 * k9) + ee) = _ from bt2 ee (by omega)]) ?_
                refine hm_ci hS (hm_rS 1 (As := [.int (nI (b.2.2.2.getD ee 0))]) (rest := []) ⟨hx, hb, hml, hown, hts⟩ hE hS hP (kc_MO_isSmall l B D G M (b.2.2.2.getD ee 0) (by omega)) tw_1121 tw_1119 tw_1120 tw_46 (by decide +kernel) rfl rfl ⟨by show 0 + 1 ≤ R.frames; omega, by show 8 + (1 + 11) + 0 ≤ R.locals; omega⟩ rfl hl.1 rfl (Nat.le_of_ble_eq_true rfl) dd_MO_isMet_67 ⟨by omega, by omega⟩) (fun r44 M45 H locs hw46 hP hS => ?_)
                refine W.widen (k := 0) (n := 0) (by omega) (by omega) ?_
                obtain ⟨rfl, eM45⟩ := hw46
                rw [eM45] at hP
                refine hn_if_eq (tgt := 99) hx hb (bz_b _) dd_MO_isMet_70 (by decide) (fun c47 => ?_) (fun c47 => ?_)
                · have hce := bz_f c47
                  have hrn : rn_E ch_small b.2.2.2 (a + 1) ee := ⟨he1, he2, hrun, fun _ => hce⟩
                  have hnl := mt_n (by omega) hri hrn
                  have hl : lv_has ls 12 [(0, .ref (P 0)), (1, .int (nI k9)), (2, .int (nI (bz al))), (3, .int (nI ee)), (4, .int (nI (bz so))), (5, .int (nI (bz ea))), (6, .long (cd (tx_sl b.2.2.2 (a + 1) ee)))] := by rw [← hv]; exact hl
                  refine lv_aload_n hx hb dd_MO_isMet_99 rfl (lv_at hl 0 rfl) ?_
                  refine lv_lload hx hb dd_MO_isMet_100 (lv_at hl 6 rfl) ?_
                  have hd48 : mo_D B D P O M I A L := ⟨p0, p1, p3, p4, p5, p7, p8, p9, p10, p11, p14, p15, p16, p17, p19, p20, p21, po, pb⟩
                  refine hm_ci hS (hm_rV 1 (As := [.long (cd (tx_sl b.2.2.2 (a + 1) ee))]) (rest := []) ⟨hx, hb, hml, hown, hts⟩ hE hS hP (kc_MO_headerOf l B D G M P O I A L hd48 hs hH (tx_sl b.2.2.2 (a + 1) ee) (rn_nm hrn hnl)) rfl p0 tw_1149 tw_1146 tw_1148 tw_28 tw_46 (by decide +kernel) rfl rfl ⟨by show 0 + 1 ≤ R.frames; omega, by show 8 + (4 + 11) + 0 ≤ R.locals; omega⟩ rfl hl.1 rfl (Nat.le_of_ble_eq_true rfl) dd_MO_isMet_102 ⟨by omega, by omega⟩) (fun r49 M50 H locs hw51 hP hS => ?_)
                  refine W.widen (k := 0) (n := 0) (by omega) (by omega) ?_
                  obtain ⟨hrM50, eM50⟩ := hw51
                  rw [eM50] at hP
                  rcases hrM50 with ⟨i9, g9, rfl, hg1, hg2, hg3⟩ | ⟨rfl, hg4⟩
                  · have hil := (List.getElem?_eq_some_iff.mp hg1).1
                    refine lv_istore (lv' := [(8, .int (nI i9)), (0, .ref (P 0)), (1, .int (nI k9)), (2, .int (nI (bz al))), (3, .int (nI ee)), (4, .int (nI (bz so))), (5, .int (nI (bz ea))), (6, .long (cd (tx_sl b.2.2.2 (a + 1) ee)))]) hx hb dd_MO_isMet_105 hl (by decide) rfl (fun ls hl => ?_)
                    refine lv_iload hx hb dd_MO_isMet_107 (lv_at hl 0 rfl) ?_
                    refine lv_iconst (v := (-1)) hx hb dd_MO_isMet_109 (by decide +kernel) ?_
                    refine hi_icmp_eq (tgt := 117) hx hb dd_MO_isMet_110 (by decide) (fun c52 => ?_) (fun c52 => ?_)
                    · exact absurd c52 (by rw [nI_toInt (by omega), tm1]; omega)
                    · refine lv_iconst (v := nI 1) hx hb dd_MO_isMet_113 (by decide +kernel) ?_
                      refine lv_goto (tgt := 118) hx hb dd_MO_isMet_114 (by decide) ?_
                      refine lv_istore (lv' := [(9, .int (nI 1)), (8, .int (nI i9)), (0, .ref (P 0)), (1, .int (nI k9)), (2, .int (nI (bz al))), (3, .int (nI ee)), (4, .int (nI (bz so))), (5, .int (nI (bz ea))), (6, .long (cd (tx_sl b.2.2.2 (a + 1) ee)))]) hx hb dd_MO_isMet_118 hl (by decide) rfl (fun ls hl => ?_)
                      refine lv_iload_n hx hb dd_MO_isMet_120 rfl (lv_at hl 5 rfl) ?_
                      refine lv_aload_n hx hb dd_MO_isMet_121 rfl (lv_at hl 2 rfl) ?_
                      refine hm_get (ci := 6) (C := rn_MO) (T := ft_MO) (N := 22) hx hb hts fi_MO hown hE.K hP p0 rfl 9 (by decide) (hts _ tw_995) (fun _ h9 => h9) rfl dd_MO_isMet_122 ?_
                      refine lv_iload_n hx hb dd_MO_isMet_125 rfl (lv_at hl 3 rfl) ?_
                      refine hm_iald (j := k9) hx hb hE.K hP 2 p9 rfl (vp_in_nI (by omega) (by omega)) (nI_clamp (by omega)) dd_MO_isMet_126 ?_
                      refine W.eq (g2 := F0 m 127 ls [.int (nI b.2.2.2.length), .int (nI ee)]) (by rw [bt1]) ?_
                      refine hn_icmp_ge (tgt := 230) hx hb (by omega) (by omega) dd_MO_isMet_127 (by decide) (fun c53 => ?_) (fun c53 => ?_)
                      · have hm1 := mt_1 (by omega) hri hrn (fun h9 => absurd h9.1 (by omega))
                        exact J230 ee true (⟨by omega, he2⟩) (hm1.2.2.2) (⟨_, hm1.1, by rw [hd_met, hm1.2.1, ff_y hg1 hg2 hg3]; show (match pr_vl _ with | [] => true | _ :: r => decide (g9.2 = r)) = _; rw [hm1.2.2.1]⟩) _ _ _ hP hS (lv_sub hl [2, 3, 4, 5, 6, 7, 0] rfl)
                      · refine lv_aload_n hx hb dd_MO_isMet_130 rfl (lv_at hl 2 rfl) ?_
                        refine hm_get (ci := 6) (C := rn_MO) (T := ft_MO) (N := 22) hx hb hts fi_MO hown hE.K hP p0 rfl 10 (by decide) (hts _ tw_996) (fun _ h9 => h9) rfl dd_MO_isMet_131 ?_
                        refine lv_bipush (v := nI 48) hx hb dd_MO_isMet_134 (by decide +kernel) ?_
                        refine lv_iload_n hx hb dd_MO_isMet_136 rfl (lv_at hl 3 rfl) ?_
                        refine hn_imul hx hb dd_MO_isMet_137 ?_
                        refine lv_iload_n hx hb dd_MO_isMet_138 rfl (lv_at hl 5 rfl) ?_
                        refine hn_iadd hx hb dd_MO_isMet_139 ?_
                        refine hm_iald (j := (48 * k9) + ee) hx hb hE.K hP 2 p10 rfl (vp_in_nI (by omega) (by omega)) (nI_clamp (by omega)) dd_MO_isMet_140 ?_
                        refine W.eq (g2 := F0 m 141 ls [.int (nI (b.2.2.2.getD ee 0))]) (by rw [show A 10 ((48 * k9) + ee) = _ from bt2 ee (by omega)]) ?_
                        refine lv_bipush (v := nI 61) hx hb dd_MO_isMet_141 (by decide +kernel) ?_
                        refine hn_icmp_ne (tgt := 230) hx hb (by omega) (by omega) dd_MO_isMet_143 (by decide) (fun c54 => ?_) (fun c54 => ?_)
                        · have cq61 := c54
                          have hm1 := mt_1 (by omega) hri hrn (fun h9 => cq61 h9.2)
                          exact J230 ee true (⟨by omega, he2⟩) (hm1.2.2.2) (⟨_, hm1.1, by rw [hd_met, hm1.2.1, ff_y hg1 hg2 hg3]; show (match pr_vl _ with | [] => true | _ :: r => decide (g9.2 = r)) = _; rw [hm1.2.2.1]⟩) _ _ _ hP hS (lv_sub hl [2, 3, 4, 5, 6, 7, 0] rfl)
                        · have cq61 := c54
                          refine lv_lconst (v := 0) hx hb dd_MO_isMet_146 (by decide +kernel) ?_
                          refine lv_lstore (lv' := [(10, .long 0), (9, .int (nI 1)), (8, .int (nI i9)), (0, .ref (P 0)), (1, .int (nI k9)), (2, .int (nI (bz al))), (3, .int (nI ee)), (4, .int (nI (bz so))), (5, .int (nI (bz ea))), (6, .long (cd (tx_sl b.2.2.2 (a + 1) ee)))]) hx hb dd_MO_isMet_147 hl (by decide) rfl (fun ls hl => ?_)
                          refine lv_iinc (v := nI (ee + 1)) (lv' := [(3, .int (nI (ee + 1))), (10, .long 0), (9, .int (nI 1)), (8, .int (nI i9)), (0, .ref (P 0)), (1, .int (nI k9)), (2, .int (nI (bz al))), (4, .int (nI (bz so))), (5, .int (nI (bz ea))), (6, .long (cd (tx_sl b.2.2.2 (a + 1) ee)))]) hx hb dd_MO_isMet_149 hl (k := 6) rfl (nI_1 ee) (by decide) rfl (fun ls hl => ?_)
                          have lp152 : ∀ (n9 : Nat) (e2 : Nat) (v2 : Int64), (ee + 1 ≤ e2) → (e2 ≤ b.2.2.2.length) → (∀ j, ee + 1 ≤ j → j < e2 → ch_part (b.2.2.2.getD j 0) = true) → (v2 = cd (tx_sl b.2.2.2 (ee + 1) e2)) → b.2.2.2.length - e2 < n9 → ∀ (H : Heap) (locs : List Loc) (ls : Array Slot), hm_P D cl_W M H → va_S (hm_A B) s.heap H locs → lv_has ls 12 [(0, .ref (P 0)), (1, .int (nI k9)), (2, .int (nI (bz al))), (3, .int (nI e2)), (4, .int (nI (bz so))), (5, .int (nI (bz ea))), (8, .int (nI i9)), (9, .int (nI 1)), (10, .long v2)] → W p l e R s m ([.ref (P 0), .int (nI k9)] : List Value).toArray below meth c H locs (0) (0) (MQ below (hm_Ni B D (fun r M1 => r = nI (bz (ru_met hs b.2.2.2)) ∧ M1 = M)) ([.ref (P 0), .int (nI k9)] : List Value).toArray s (0) (0) (hm_A B)) (F0 m 152 ls []) := by
                            intro n9
                            induction n9 with
                            | zero => intro e2 v2 he21 he22 hrun2 hv2 hm; exact absurd hm (Nat.not_lt_zero _)
                            | succ n9 ih152 =>
                              intro e2 v2 he21 he22 hrun2 hv2 hm H locs ls hP hS hl
                              have hle2 := tx_lt bt4 e2
                              refine lv_iload_n hx hb dd_MO_isMet_152 rfl (lv_at hl 3 rfl) ?_
                              refine lv_aload_n hx hb dd_MO_isMet_153 rfl (lv_at hl 0 rfl) ?_
                              refine hm_get (ci := 6) (C := rn_MO) (T := ft_MO) (N := 22) hx hb hts fi_MO hown hE.K hP p0 rfl 9 (by decide) (hts _ tw_995) (fun _ h9 => h9) rfl dd_MO_isMet_154 ?_
                              refine lv_iload_n hx hb dd_MO_isMet_157 rfl (lv_at hl 1 rfl) ?_
                              refine hm_iald (j := k9) hx hb hE.K hP 2 p9 rfl (vp_in_nI (by omega) (by omega)) (nI_clamp (by omega)) dd_MO_isMet_158 ?_
                              refine W.eq (g2 := F0 m 159 ls [.int (nI b.2.2.2.length), .int (nI e2)]) (by rw [bt1]) ?_
                              refine hn_icmp_ge (tgt := 205) hx hb (by omega) (by omega) dd_MO_isMet_159 (by decide) (fun c55 => ?_) (fun c55 => ?_)
                              · have hrn2 : rn_E ch_part b.2.2.2 (ee + 1) e2 := ⟨he21, he22, hrun2, fun h9 => absurd h9 (by omega)⟩
                                have hm2 := mt_2 (by omega) hri hrn (by omega) cq61 hrn2
                                have hvlo := rn_vl hrn2 hm2.2.2.2.2
                                have hl : lv_has ls 12 [(0, .ref (P 0)), (1, .int (nI k9)), (2, .int (nI (bz al))), (3, .int (nI e2)), (4, .int (nI (bz so))), (5, .int (nI (bz ea))), (8, .int (nI i9)), (9, .int (nI 1)), (10, .long (cd (tx_sl b.2.2.2 (ee + 1) e2)))] := by rw [← hv2]; exact hl
                                refine lv_iload hx hb dd_MO_isMet_205 (lv_at hl 7 rfl) ?_
                                refine hn_if_eq (tgt := 227) hx hb (by omega) dd_MO_isMet_207 (by decide) (fun c56 => absurd c56 (by omega)) (fun c56 => ?_)
                                refine lv_aload_n hx hb dd_MO_isMet_210 rfl (lv_at hl 0 rfl) ?_
                                refine hm_get (ci := 6) (C := rn_MO) (T := ft_MO) (N := 22) hx hb hts fi_MO hown hE.K hP p0 rfl 15 (by decide) (hts _ tw_1001) (fun _ h9 => h9) rfl dd_MO_isMet_211 ?_
                                refine lv_iload hx hb dd_MO_isMet_214 (lv_at hl 6 rfl) ?_
                                refine hm_lald (j := i9) hx hb hE.K hP 3 p15 rfl (vp_in_nI (by omega) (by omega)) (nI_clamp (by omega)) dd_MO_isMet_216 ?_
                                refine W.eq (g2 := F0 m 217 ls [.long (cd g9.2)]) (by rw [(hi3 i9 g9 hg1).2.1]) ?_
                                refine lv_lload hx hb dd_MO_isMet_217 (lv_at hl 8 rfl) ?_
                                refine W.lcmp hx hb dd_MO_isMet_219 ?_
                                refine hi_if_ne (tgt := 227) hx hb dd_MO_isMet_220 (by decide) (fun c57 => ?_) (fun c57 => ?_)
                                · have hcv : ¬ g9.2 = tx_sl b.2.2.2 (ee + 1) e2 := fun q8 => lc_ne c57 ((cd_eq (vl_rr (hi3 i9 g9 hg1).2.2.2).1 (vl_rr hvlo).1 (vl_rr (hi3 i9 g9 hg1).2.2.2).2 (vl_rr hvlo).2).mpr q8)
                                  refine lv_iconst (v := nI 0) hx hb dd_MO_isMet_227 (by decide +kernel) ?_
                                  refine lv_istore (lv' := [(9, .int (nI 0)), (0, .ref (P 0)), (1, .int (nI k9)), (2, .int (nI (bz al))), (3, .int (nI e2)), (4, .int (nI (bz so))), (5, .int (nI (bz ea))), (8, .int (nI i9)), (10, .long (cd (tx_sl b.2.2.2 (ee + 1) e2)))]) hx hb dd_MO_isMet_228 hl (by decide) rfl (fun ls hl => ?_)
                                  exact J230 e2 false (⟨by omega, he22⟩) (hm2.2.2.2.1) (⟨_, hm2.1, by rw [hd_met, hm2.2.1, ff_y hg1 hg2 hg3]; show (match pr_vl _ with | [] => true | _ :: r => decide (g9.2 = r)) = _; rw [hm2.2.2.1]; exact decide_eq_false hcv⟩) _ _ _ hP hS (lv_sub hl [1, 2, 3, 4, 5, 6, 0] rfl)
                                · have hcv : g9.2 = tx_sl b.2.2.2 (ee + 1) e2 := (cd_eq (vl_rr (hi3 i9 g9 hg1).2.2.2).1 (vl_rr hvlo).1 (vl_rr (hi3 i9 g9 hg1).2.2.2).2 (vl_rr hvlo).2).mp (lc_eq c57)
                                  refine lv_iconst (v := nI 1) hx hb dd_MO_isMet_223 (by decide +kernel) ?_
                                  refine lv_goto (tgt := 228) hx hb dd_MO_isMet_224 (by decide) ?_
                                  refine lv_istore (lv' := [(9, .int (nI 1)), (0, .ref (P 0)), (1, .int (nI k9)), (2, .int (nI (bz al))), (3, .int (nI e2)), (4, .int (nI (bz so))), (5, .int (nI (bz ea))), (8, .int (nI i9)), (10, .long (cd (tx_sl b.2.2.2 (ee + 1) e2)))]) hx hb dd_MO_isMet_228 hl (by decide) rfl (fun ls hl => ?_)
                                  exact J230 e2 true (⟨by omega, he22⟩) (hm2.2.2.2.1) (⟨_, hm2.1, by rw [hd_met, hm2.2.1, ff_y hg1 hg2 hg3]; show (match pr_vl _ with | [] => true | _ :: r => decide (g9.2 = r)) = _; rw [hm2.2.2.1]; exact decide_eq_true hcv⟩) _ _ _ hP hS (lv_sub hl [1, 2, 3, 4, 5, 6, 0] rfl)
                              · refine lv_aload_n hx hb dd_MO_isMet_162 rfl (lv_at hl 0 rfl) ?_
                                refine hm_get (ci := 6) (C := rn_MO) (T := ft_MO) (N := 22) hx hb hts fi_MO hown hE.K hP p0 rfl 10 (by decide) (hts _ tw_996) (fun _ h9 => h9) rfl dd_MO_isMet_163 ?_
                                refine lv_bipush (v := nI 48) hx hb dd_MO_isMet_166 (by decide +kernel) ?_
                                refine lv_iload_n hx hb dd_MO_isMet_168 rfl (lv_at hl 1 rfl) ?_
                                refine hn_imul hx hb dd_MO_isMet_169 ?_
                                refine lv_iload_n hx hb dd_MO_isMet_170 rfl (lv_at hl 3 rfl) ?_
                                refine hn_iadd hx hb dd_MO_isMet_171 ?_
                                refine hm_iald (j := (48 * k9) + e2) hx hb hE.K hP 2 p10 rfl (vp_in_nI (by omega) (by omega)) (nI_clamp (by omega)) dd_MO_isMet_172 ?_
                                refine W.eq (g2 := F0 m 173 ls [.int (nI (b.2.2.2.getD e2 0))]) (by rw [show A 10 ((48 * k9) + e2) = _ from bt2 e2 (by omega)]) ?_
                                refine hm_ci hS (hm_rS 1 (As := [.int (nI (b.2.2.2.getD e2 0))]) (rest := []) ⟨hx, hb, hml, hown, hts⟩ hE hS hP (kc_MO_isPart l B D G M (b.2.2.2.getD e2 0) (by omega)) tw_1129 tw_1127 tw_1128 tw_46 (by decide +kernel) rfl rfl ⟨by show 1 + 1 ≤ R.frames; omega, by show 8 + (1 + 11) + 20 ≤ R.locals; omega⟩ rfl hl.1 rfl (Nat.le_of_ble_eq_true rfl) dd_MO_isMet_173 ⟨by omega, by omega⟩) (fun r58 M59 H locs hw60 hP hS => ?_)
                                refine W.widen (k := 0) (n := 0) (by omega) (by omega) ?_
                                obtain ⟨rfl, eM59⟩ := hw60
                                rw [eM59] at hP
                                refine hn_if_eq (tgt := 205) hx hb (bz_b _) dd_MO_isMet_176 (by decide) (fun c61 => ?_) (fun c61 => ?_)
                                · have hce2 := bz_f c61
                                  have hrn2 : rn_E ch_part b.2.2.2 (ee + 1) e2 := ⟨he21, he22, hrun2, fun _ => hce2⟩
                                  have hm2 := mt_2 (by omega) hri hrn (by omega) cq61 hrn2
                                  have hvlo := rn_vl hrn2 hm2.2.2.2.2
                                  have hl : lv_has ls 12 [(0, .ref (P 0)), (1, .int (nI k9)), (2, .int (nI (bz al))), (3, .int (nI e2)), (4, .int (nI (bz so))), (5, .int (nI (bz ea))), (8, .int (nI i9)), (9, .int (nI 1)), (10, .long (cd (tx_sl b.2.2.2 (ee + 1) e2)))] := by rw [← hv2]; exact hl
                                  refine lv_iload hx hb dd_MO_isMet_205 (lv_at hl 7 rfl) ?_
                                  refine hn_if_eq (tgt := 227) hx hb (by omega) dd_MO_isMet_207 (by decide) (fun c62 => absurd c62 (by omega)) (fun c62 => ?_)
                                  refine lv_aload_n hx hb dd_MO_isMet_210 rfl (lv_at hl 0 rfl) ?_
                                  refine hm_get (ci := 6) (C := rn_MO) (T := ft_MO) (N := 22) hx hb hts fi_MO hown hE.K hP p0 rfl 15 (by decide) (hts _ tw_1001) (fun _ h9 => h9) rfl dd_MO_isMet_211 ?_
                                  refine lv_iload hx hb dd_MO_isMet_214 (lv_at hl 6 rfl) ?_
                                  refine hm_lald (j := i9) hx hb hE.K hP 3 p15 rfl (vp_in_nI (by omega) (by omega)) (nI_clamp (by omega)) dd_MO_isMet_216 ?_
                                  refine W.eq (g2 := F0 m 217 ls [.long (cd g9.2)]) (by rw [(hi3 i9 g9 hg1).2.1]) ?_
                                  refine lv_lload hx hb dd_MO_isMet_217 (lv_at hl 8 rfl) ?_
                                  refine W.lcmp hx hb dd_MO_isMet_219 ?_
                                  refine hi_if_ne (tgt := 227) hx hb dd_MO_isMet_220 (by decide) (fun c63 => ?_) (fun c63 => ?_)
                                  · have hcv : ¬ g9.2 = tx_sl b.2.2.2 (ee + 1) e2 := fun q8 => lc_ne c63 ((cd_eq (vl_rr (hi3 i9 g9 hg1).2.2.2).1 (vl_rr hvlo).1 (vl_rr (hi3 i9 g9 hg1).2.2.2).2 (vl_rr hvlo).2).mpr q8)
                                    refine lv_iconst (v := nI 0) hx hb dd_MO_isMet_227 (by decide +kernel) ?_
                                    refine lv_istore (lv' := [(9, .int (nI 0)), (0, .ref (P 0)), (1, .int (nI k9)), (2, .int (nI (bz al))), (3, .int (nI e2)), (4, .int (nI (bz so))), (5, .int (nI (bz ea))), (8, .int (nI i9)), (10, .long (cd (tx_sl b.2.2.2 (ee + 1) e2)))]) hx hb dd_MO_isMet_228 hl (by decide) rfl (fun ls hl => ?_)
                                    exact J230 e2 false (⟨by omega, he22⟩) (hm2.2.2.2.1) (⟨_, hm2.1, by rw [hd_met, hm2.2.1, ff_y hg1 hg2 hg3]; show (match pr_vl _ with | [] => true | _ :: r => decide (g9.2 = r)) = _; rw [hm2.2.2.1]; exact decide_eq_false hcv⟩) _ _ _ hP hS (lv_sub hl [1, 2, 3, 4, 5, 6, 0] rfl)
                                  · have hcv : g9.2 = tx_sl b.2.2.2 (ee + 1) e2 := (cd_eq (vl_rr (hi3 i9 g9 hg1).2.2.2).1 (vl_rr hvlo).1 (vl_rr (hi3 i9 g9 hg1).2.2.2).2 (vl_rr hvlo).2).mp (lc_eq c63)
                                    refine lv_iconst (v := nI 1) hx hb dd_MO_isMet_223 (by decide +kernel) ?_
                                    refine lv_goto (tgt := 228) hx hb dd_MO_isMet_224 (by decide) ?_
                                    refine lv_istore (lv' := [(9, .int (nI 1)), (0, .ref (P 0)), (1, .int (nI k9)), (2, .int (nI (bz al))), (3, .int (nI e2)), (4, .int (nI (bz so))), (5, .int (nI (bz ea))), (8, .int (nI i9)), (10, .long (cd (tx_sl b.2.2.2 (ee + 1) e2)))]) hx hb dd_MO_isMet_228 hl (by decide) rfl (fun ls hl => ?_)
                                    exact J230 e2 true (⟨by omega, he22⟩) (hm2.2.2.2.1) (⟨_, hm2.1, by rw [hd_met, hm2.2.1, ff_y hg1 hg2 hg3]; show (match pr_vl _ with | [] => true | _ :: r => decide (g9.2 = r)) = _; rw [hm2.2.2.1]; exact decide_eq_true hcv⟩) _ _ _ hP hS (lv_sub hl [1, 2, 3, 4, 5, 6, 0] rfl)
                                · have hce2 := bz_t c61
                                  refine lv_lload hx hb dd_MO_isMet_179 (lv_at hl 8 rfl) ?_
                                  refine lv_bipush (v := nI 8) hx hb dd_MO_isMet_181 (by decide +kernel) ?_
                                  refine lv_lshl hx hb dd_MO_isMet_183 rfl ?_
                                  refine lv_topl (fun w64 ew64 => ?_)
                                  refine lv_aload_n hx hb dd_MO_isMet_184 rfl (lv_at hl 0 rfl) ?_
                                  refine hm_get (ci := 6) (C := rn_MO) (T := ft_MO) (N := 22) hx hb hts fi_MO hown hE.K hP p0 rfl 10 (by decide) (hts _ tw_996) (fun _ h9 => h9) rfl dd_MO_isMet_185 ?_
                                  refine lv_bipush (v := nI 48) hx hb dd_MO_isMet_188 (by decide +kernel) ?_
                                  refine lv_iload_n hx hb dd_MO_isMet_190 rfl (lv_at hl 1 rfl) ?_
                                  refine hn_imul hx hb dd_MO_isMet_191 ?_
                                  refine lv_iload_n hx hb dd_MO_isMet_192 rfl (lv_at hl 3 rfl) ?_
                                  refine hn_iadd hx hb dd_MO_isMet_193 ?_
                                  refine hm_iald (j := (48 * k9) + e2) hx hb hE.K hP 2 p10 rfl (vp_in_nI (by omega) (by omega)) (nI_clamp (by omega)) dd_MO_isMet_194 ?_
                                  refine W.eq (g2 := F0 m 195 ls [.int (nI (b.2.2.2.getD e2 0)), .long w64]) (by rw [show A 10 ((48 * k9) + e2) = _ from bt2 e2 (by omega)]) ?_
                                  refine lv_i2l hx hb dd_MO_isMet_195 rfl ?_
                                  refine lv_topl (fun w65 ew65 => ?_)
                                  refine lv_lor hx hb dd_MO_isMet_196 ?_
                                  refine lv_topl (fun w66 ew66 => ?_)
                                  refine lv_lstore (lv' := [(10, .long w66), (0, .ref (P 0)), (1, .int (nI k9)), (2, .int (nI (bz al))), (3, .int (nI e2)), (4, .int (nI (bz so))), (5, .int (nI (bz ea))), (8, .int (nI i9)), (9, .int (nI 1))]) hx hb dd_MO_isMet_197 hl (by decide) rfl (fun ls hl => ?_)
                                  refine lv_iinc (v := nI (e2 + 1)) (lv' := [(3, .int (nI (e2 + 1))), (10, .long w66), (0, .ref (P 0)), (1, .int (nI k9)), (2, .int (nI (bz al))), (4, .int (nI (bz so))), (5, .int (nI (bz ea))), (8, .int (nI i9)), (9, .int (nI 1))]) hx hb dd_MO_isMet_199 hl (k := 4) rfl (nI_1 e2) (by decide) rfl (fun ls hl => ?_)
                                  refine lv_goto (tgt := 152) hx hb dd_MO_isMet_202 (by decide) ?_
                                  exact ih152 (e2 + 1) w66 (by omega) (by omega) (fun j h8 h9 => by
                                      by_cases q : j = e2
                                      · subst q; exact hce2
                                      · exact hrun2 j h8 (by omega)) (by rw [ew66, ew64, ew65, hv2, tx_sn he21 (by omega)]; exact cd_st (by omega)) (by omega) _ _ _ hP hS (lv_sub hl [2, 3, 4, 0, 5, 6, 7, 8, 1] rfl)
                          exact lp152 _ (ee + 1) 0 (Nat.le_refl _) (by omega) (fun j h8 h9 => absurd h9 (by omega)) (by rw [tx_nl (by omega)]; rfl) (Nat.lt_succ_self _) _ _ _ hP hS (lv_sub hl [4, 5, 6, 0, 7, 8, 3, 2, 1] rfl)
                  · refine lv_istore (lv' := [(8, .int (-1)), (0, .ref (P 0)), (1, .int (nI k9)), (2, .int (nI (bz al))), (3, .int (nI ee)), (4, .int (nI (bz so))), (5, .int (nI (bz ea))), (6, .long (cd (tx_sl b.2.2.2 (a + 1) ee)))]) hx hb dd_MO_isMet_105 hl (by decide) rfl (fun ls hl => ?_)
                    refine lv_iload hx hb dd_MO_isMet_107 (lv_at hl 0 rfl) ?_
                    refine lv_iconst (v := (-1)) hx hb dd_MO_isMet_109 (by decide +kernel) ?_
                    refine hi_icmp_eq (tgt := 117) hx hb dd_MO_isMet_110 (by decide) (fun c67 => ?_) (fun c67 => absurd c67 (by decide))
                    refine lv_iconst (v := nI 0) hx hb dd_MO_isMet_117 (by decide +kernel) ?_
                    refine lv_istore (lv' := [(9, .int (nI 0)), (8, .int (-1)), (0, .ref (P 0)), (1, .int (nI k9)), (2, .int (nI (bz al))), (3, .int (nI ee)), (4, .int (nI (bz so))), (5, .int (nI (bz ea))), (6, .long (cd (tx_sl b.2.2.2 (a + 1) ee)))]) hx hb dd_MO_isMet_118 hl (by decide) rfl (fun ls hl => ?_)
                    refine lv_iload_n hx hb dd_MO_isMet_120 rfl (lv_at hl 5 rfl) ?_
                    refine lv_aload_n hx hb dd_MO_isMet_121 rfl (lv_at hl 2 rfl) ?_
                    refine hm_get (ci := 6) (C := rn_MO) (T := ft_MO) (N := 22) hx hb hts fi_MO hown hE.K hP p0 rfl 9 (by decide) (hts _ tw_995) (fun _ h9 => h9) rfl dd_MO_isMet_122 ?_
                    refine lv_iload_n hx hb dd_MO_isMet_125 rfl (lv_at hl 3 rfl) ?_
                    refine hm_iald (j := k9) hx hb hE.K hP 2 p9 rfl (vp_in_nI (by omega) (by omega)) (nI_clamp (by omega)) dd_MO_isMet_126 ?_
                    refine W.eq (g2 := F0 m 127 ls [.int (nI b.2.2.2.length), .int (nI ee)]) (by rw [bt1]) ?_
                    refine hn_icmp_ge (tgt := 230) hx hb (by omega) (by omega) dd_MO_isMet_127 (by decide) (fun c68 => ?_) (fun c68 => ?_)
                    · have hm1 := mt_1 (by omega) hri hrn (fun h9 => absurd h9.1 (by omega))
                      exact J230 ee false (⟨by omega, he2⟩) (hm1.2.2.2) (⟨_, hm1.1, by rw [hd_met, hm1.2.1, ff_n hg4]⟩) _ _ _ hP hS (lv_sub hl [2, 3, 4, 5, 6, 7, 0] rfl)
                    · refine lv_aload_n hx hb dd_MO_isMet_130 rfl (lv_at hl 2 rfl) ?_
                      refine hm_get (ci := 6) (C := rn_MO) (T := ft_MO) (N := 22) hx hb hts fi_MO hown hE.K hP p0 rfl 10 (by decide) (hts _ tw_996) (fun _ h9 => h9) rfl dd_MO_isMet_131 ?_
                      refine lv_bipush (v := nI 48) hx hb dd_MO_isMet_134 (by decide +kernel) ?_
                      refine lv_iload_n hx hb dd_MO_isMet_136 rfl (lv_at hl 3 rfl) ?_
                      refine hn_imul hx hb dd_MO_isMet_137 ?_
                      refine lv_iload_n hx hb dd_MO_isMet_138 rfl (lv_at hl 5 rfl) ?_
                      refine hn_iadd hx hb dd_MO_isMet_139 ?_
                      refine hm_iald (j := (48 * k9) + ee) hx hb hE.K hP 2 p10 rfl (vp_in_nI (by omega) (by omega)) (nI_clamp (by omega)) dd_MO_isMet_140 ?_
                      refine W.eq (g2 := F0 m 141 ls [.int (nI (b.2.2.2.getD ee 0))]) (by rw [show A 10 ((48 * k9) + ee) = _ from bt2 ee (by omega)]) ?_
                      refine lv_bipush (v := nI 61) hx hb dd_MO_isMet_141 (by decide +kernel) ?_
                      refine hn_icmp_ne (tgt := 230) hx hb (by omega) (by omega) dd_MO_isMet_143 (by decide) (fun c69 => ?_) (fun c69 => ?_)
                      · have cq61 := c69
                        have hm1 := mt_1 (by omega) hri hrn (fun h9 => cq61 h9.2)
                        exact J230 ee false (⟨by omega, he2⟩) (hm1.2.2.2) (⟨_, hm1.1, by rw [hd_met, hm1.2.1, ff_n hg4]⟩) _ _ _ hP hS (lv_sub hl [2, 3, 4, 5, 6, 7, 0] rfl)
                      · have cq61 := c69
                        refine lv_lconst (v := 0) hx hb dd_MO_isMet_146 (by decide +kernel) ?_
                        refine lv_lstore (lv' := [(10, .long 0), (9, .int (nI 0)), (8, .int (-1)), (0, .ref (P 0)), (1, .int (nI k9)), (2, .int (nI (bz al))), (3, .int (nI ee)), (4, .int (nI (bz so))), (5, .int (nI (bz ea))), (6, .long (cd (tx_sl b.2.2.2 (a + 1) ee)))]) hx hb dd_MO_isMet_147 hl (by decide) rfl (fun ls hl => ?_)
                        refine lv_iinc (v := nI (ee + 1)) (lv' := [(3, .int (nI (ee + 1))), (10, .long 0), (9, .int (nI 0)), (8, .int (-1)), (0, .ref (P 0)), (1, .int (nI k9)), (2, .int (nI (bz al))), (4, .int (nI (bz so))), (5, .int (nI (bz ea))), (6, .long (cd (tx_sl b.2.2.2 (a + 1) ee)))]) hx hb dd_MO_isMet_149 hl (k := 6) rfl (nI_1 ee) (by decide) rfl (fun ls hl => ?_)
                        have lp152 : ∀ (n9 : Nat) (e2 : Nat) (v2 : Int64), (ee + 1 ≤ e2) → (e2 ≤ b.2.2.2.length) → (∀ j, ee + 1 ≤ j → j < e2 → ch_part (b.2.2.2.getD j 0) = true) → (v2 = cd (tx_sl b.2.2.2 (ee + 1) e2)) → b.2.2.2.length - e2 < n9 → ∀ (H : Heap) (locs : List Loc) (ls : Array Slot), hm_P D cl_W M H → va_S (hm_A B) s.heap H locs → lv_has ls 12 [(0, .ref (P 0)), (1, .int (nI k9)), (2, .int (nI (bz al))), (3, .int (nI e2)), (4, .int (nI (bz so))), (5, .int (nI (bz ea))), (8, .int (-1)), (9, .int (nI 0)), (10, .long v2)] → W p l e R s m ([.ref (P 0), .int (nI k9)] : List Value).toArray below meth c H locs (0) (0) (MQ below (hm_Ni B D (fun r M1 => r = nI (bz (ru_met hs b.2.2.2)) ∧ M1 = M)) ([.ref (P 0), .int (nI k9)] : List Value).toArray s (0) (0) (hm_A B)) (F0 m 152 ls []) := by
                          intro n9
                          induction n9 with
                          | zero => intro e2 v2 he21 he22 hrun2 hv2 hm; exact absurd hm (Nat.not_lt_zero _)
                          | succ n9 ih152 =>
                            intro e2 v2 he21 he22 hrun2 hv2 hm H locs ls hP hS hl
                            have hle2 := tx_lt bt4 e2
                            refine lv_iload_n hx hb dd_MO_isMet_152 rfl (lv_at hl 3 rfl) ?_
                            refine lv_aload_n hx hb dd_MO_isMet_153 rfl (lv_at hl 0 rfl) ?_
                            refine hm_get (ci := 6) (C := rn_MO) (T := ft_MO) (N := 22) hx hb hts fi_MO hown hE.K hP p0 rfl 9 (by decide) (hts _ tw_995) (fun _ h9 => h9) rfl dd_MO_isMet_154 ?_
                            refine lv_iload_n hx hb dd_MO_isMet_157 rfl (lv_at hl 1 rfl) ?_
                            refine hm_iald (j := k9) hx hb hE.K hP 2 p9 rfl (vp_in_nI (by omega) (by omega)) (nI_clamp (by omega)) dd_MO_isMet_158 ?_
                            refine W.eq (g2 := F0 m 159 ls [.int (nI b.2.2.2.length), .int (nI e2)]) (by rw [bt1]) ?_
                            refine hn_icmp_ge (tgt := 205) hx hb (by omega) (by omega) dd_MO_isMet_159 (by decide) (fun c70 => ?_) (fun c70 => ?_)
                            · have hrn2 : rn_E ch_part b.2.2.2 (ee + 1) e2 := ⟨he21, he22, hrun2, fun h9 => absurd h9 (by omega)⟩
                              have hm2 := mt_2 (by omega) hri hrn (by omega) cq61 hrn2
                              have hvlo := rn_vl hrn2 hm2.2.2.2.2
                              have hl : lv_has ls 12 [(0, .ref (P 0)), (1, .int (nI k9)), (2, .int (nI (bz al))), (3, .int (nI e2)), (4, .int (nI (bz so))), (5, .int (nI (bz ea))), (8, .int (-1)), (9, .int (nI 0)), (10, .long (cd (tx_sl b.2.2.2 (ee + 1) e2)))] := by rw [← hv2]; exact hl
                              refine lv_iload hx hb dd_MO_isMet_205 (lv_at hl 7 rfl) ?_
                              refine hn_if_eq (tgt := 227) hx hb (by omega) dd_MO_isMet_207 (by decide) (fun c71 => ?_) (fun c71 => absurd c71 (by omega))
                              refine lv_iconst (v := nI 0) hx hb dd_MO_isMet_227 (by decide +kernel) ?_
                              refine lv_istore (lv' := [(9, .int (nI 0)), (0, .ref (P 0)), (1, .int (nI k9)), (2, .int (nI (bz al))), (3, .int (nI e2)), (4, .int (nI (bz so))), (5, .int (nI (bz ea))), (8, .int (-1)), (10, .long (cd (tx_sl b.2.2.2 (ee + 1) e2)))]) hx hb dd_MO_isMet_228 hl (by decide) rfl (fun ls hl => ?_)
                              exact J230 e2 false (⟨by omega, he22⟩) (hm2.2.2.2.1) (⟨_, hm2.1, by rw [hd_met, hm2.2.1, ff_n hg4]⟩) _ _ _ hP hS (lv_sub hl [1, 2, 3, 4, 5, 6, 0] rfl)
                            · refine lv_aload_n hx hb dd_MO_isMet_162 rfl (lv_at hl 0 rfl) ?_
                              refine hm_get (ci := 6) (C := rn_MO) (T := ft_MO) (N := 22) hx hb hts fi_MO hown hE.K hP p0 rfl 10 (by decide) (hts _ tw_996) (fun _ h9 => h9) rfl dd_MO_isMet_163 ?_
                              refine lv_bipush (v := nI 48) hx hb dd_MO_isMet_166 (by decide +kernel) ?_
                              refine lv_iload_n hx hb dd_MO_isMet_168 rfl (lv_at hl 1 rfl) ?_
                              refine hn_imul hx hb dd_MO_isMet_169 ?_
                              refine lv_iload_n hx hb dd_MO_isMet_170 rfl (lv_at hl 3 rfl) ?_
                              refine hn_iadd hx hb dd_MO_isMet_171 ?_
                              refine hm_iald (j := (48 * k9) + e2) hx hb hE.K hP 2 p10 rfl (vp_in_nI (by omega) (by omega)) (nI_clamp (by omega)) dd_MO_isMet_172 ?_
                              refine W.eq (g2 := F0 m 173 ls [.int (nI (b.2.2.2.getD e2 0))]) (by rw [show A 10 ((48 * k9) + e2) = _ from bt2 e2 (by omega)]) ?_
                              refine hm_ci hS (hm_rS 1 (As := [.int (nI (b.2.2.2.getD e2 0))]) (rest := []) ⟨hx, hb, hml, hown, hts⟩ hE hS hP (kc_MO_isPart l B D G M (b.2.2.2.getD e2 0) (by omega)) tw_1129 tw_1127 tw_1128 tw_46 (by decide +kernel) rfl rfl ⟨by show 1 + 1 ≤ R.frames; omega, by show 8 + (1 + 11) + 20 ≤ R.locals; omega⟩ rfl hl.1 rfl (Nat.le_of_ble_eq_true rfl) dd_MO_isMet_173 ⟨by omega, by omega⟩) (fun r72 M73 H locs hw74 hP hS => ?_)
                              refine W.widen (k := 0) (n := 0) (by omega) (by omega) ?_
                              obtain ⟨rfl, eM73⟩ := hw74
                              rw [eM73] at hP
                              refine hn_if_eq (tgt := 205) hx hb (bz_b _) dd_MO_isMet_176 (by decide) (fun c75 => ?_) (fun c75 => ?_)
                              · have hce2 := bz_f c75
                                have hrn2 : rn_E ch_part b.2.2.2 (ee + 1) e2 := ⟨he21, he22, hrun2, fun _ => hce2⟩
                                have hm2 := mt_2 (by omega) hri hrn (by omega) cq61 hrn2
                                have hvlo := rn_vl hrn2 hm2.2.2.2.2
                                have hl : lv_has ls 12 [(0, .ref (P 0)), (1, .int (nI k9)), (2, .int (nI (bz al))), (3, .int (nI e2)), (4, .int (nI (bz so))), (5, .int (nI (bz ea))), (8, .int (-1)), (9, .int (nI 0)), (10, .long (cd (tx_sl b.2.2.2 (ee + 1) e2)))] := by rw [← hv2]; exact hl
                                refine lv_iload hx hb dd_MO_isMet_205 (lv_at hl 7 rfl) ?_
                                refine hn_if_eq (tgt := 227) hx hb (by omega) dd_MO_isMet_207 (by decide) (fun c76 => ?_) (fun c76 => absurd c76 (by omega))
                                refine lv_iconst (v := nI 0) hx hb dd_MO_isMet_227 (by decide +kernel) ?_
                                refine lv_istore (lv' := [(9, .int (nI 0)), (0, .ref (P 0)), (1, .int (nI k9)), (2, .int (nI (bz al))), (3, .int (nI e2)), (4, .int (nI (bz so))), (5, .int (nI (bz ea))), (8, .int (-1)), (10, .long (cd (tx_sl b.2.2.2 (ee + 1) e2)))]) hx hb dd_MO_isMet_228 hl (by decide) rfl (fun ls hl => ?_)
                                exact J230 e2 false (⟨by omega, he22⟩) (hm2.2.2.2.1) (⟨_, hm2.1, by rw [hd_met, hm2.2.1, ff_n hg4]⟩) _ _ _ hP hS (lv_sub hl [1, 2, 3, 4, 5, 6, 0] rfl)
                              · have hce2 := bz_t c75
                                refine lv_lload hx hb dd_MO_isMet_179 (lv_at hl 8 rfl) ?_
                                refine lv_bipush (v := nI 8) hx hb dd_MO_isMet_181 (by decide +kernel) ?_
                                refine lv_lshl hx hb dd_MO_isMet_183 rfl ?_
                                refine lv_topl (fun w77 ew77 => ?_)
                                refine lv_aload_n hx hb dd_MO_isMet_184 rfl (lv_at hl 0 rfl) ?_
                                refine hm_get (ci := 6) (C := rn_MO) (T := ft_MO) (N := 22) hx hb hts fi_MO hown hE.K hP p0 rfl 10 (by decide) (hts _ tw_996) (fun _ h9 => h9) rfl dd_MO_isMet_185 ?_
                                refine lv_bipush (v := nI 48) hx hb dd_MO_isMet_188 (by decide +kernel) ?_
                                refine lv_iload_n hx hb dd_MO_isMet_190 rfl (lv_at hl 1 rfl) ?_
                                refine hn_imul hx hb dd_MO_isMet_191 ?_
                                refine lv_iload_n hx hb dd_MO_isMet_192 rfl (lv_at hl 3 rfl) ?_
                                refine hn_iadd hx hb dd_MO_isMet_193 ?_
                                refine hm_iald (j := (48 * k9) + e2) hx hb hE.K hP 2 p10 rfl (vp_in_nI (by omega) (by omega)) (nI_clamp (by omega)) dd_MO_isMet_194 ?_
                                refine W.eq (g2 := F0 m 195 ls [.int (nI (b.2.2.2.getD e2 0)), .long w77]) (by rw [show A 10 ((48 * k9) + e2) = _ from bt2 e2 (by omega)]) ?_
                                refine lv_i2l hx hb dd_MO_isMet_195 rfl ?_
                                refine lv_topl (fun w78 ew78 => ?_)
                                refine lv_lor hx hb dd_MO_isMet_196 ?_
                                refine lv_topl (fun w79 ew79 => ?_)
                                refine lv_lstore (lv' := [(10, .long w79), (0, .ref (P 0)), (1, .int (nI k9)), (2, .int (nI (bz al))), (3, .int (nI e2)), (4, .int (nI (bz so))), (5, .int (nI (bz ea))), (8, .int (-1)), (9, .int (nI 0))]) hx hb dd_MO_isMet_197 hl (by decide) rfl (fun ls hl => ?_)
                                refine lv_iinc (v := nI (e2 + 1)) (lv' := [(3, .int (nI (e2 + 1))), (10, .long w79), (0, .ref (P 0)), (1, .int (nI k9)), (2, .int (nI (bz al))), (4, .int (nI (bz so))), (5, .int (nI (bz ea))), (8, .int (-1)), (9, .int (nI 0))]) hx hb dd_MO_isMet_199 hl (k := 4) rfl (nI_1 e2) (by decide) rfl (fun ls hl => ?_)
                                refine lv_goto (tgt := 152) hx hb dd_MO_isMet_202 (by decide) ?_
                                exact ih152 (e2 + 1) w79 (by omega) (by omega) (fun j h8 h9 => by
                                    by_cases q : j = e2
                                    · subst q; exact hce2
                                    · exact hrun2 j h8 (by omega)) (by rw [ew79, ew77, ew78, hv2, tx_sn he21 (by omega)]; exact cd_st (by omega)) (by omega) _ _ _ hP hS (lv_sub hl [2, 3, 4, 0, 5, 6, 7, 8, 1] rfl)
                        exact lp152 _ (ee + 1) 0 (Nat.le_refl _) (by omega) (fun j h8 h9 => absurd h9 (by omega)) (by rw [tx_nl (by omega)]; rfl) (Nat.lt_succ_self _) _ _ _ hP hS (lv_sub hl [4, 5, 6, 0, 7, 8, 3, 2, 1] rfl)
                · have hce := bz_t c47
                  refine lv_lload hx hb dd_MO_isMet_73 (lv_at hl 6 rfl) ?_
                  refine lv_bipush (v := nI 8) hx hb dd_MO_isMet_75 (by decide +kernel) ?_
                  refine lv_lshl hx hb dd_MO_isMet_77 rfl ?_
                  refine lv_topl (fun w80 ew80 => ?_)
                  refine lv_aload_n hx hb dd_MO_isMet_78 rfl (lv_at hl 0 rfl) ?_
                  refine hm_get (ci := 6) (C := rn_MO) (T := ft_MO) (N := 22) hx hb hts fi_MO hown hE.K hP p0 rfl 10 (by decide) (hts _ tw_996) (fun _ h9 => h9) rfl dd_MO_isMet_79 ?_
                  refine lv_bipush (v := nI 48) hx hb dd_MO_isMet_82 (by decide +kernel) ?_
                  refine lv_iload_n hx hb dd_MO_isMet_84 rfl (lv_at hl 1 rfl) ?_
                  refine hn_imul hx hb dd_MO_isMet_85 ?_
                  refine lv_iload_n hx hb dd_MO_isMet_86 rfl (lv_at hl 3 rfl) ?_
                  refine hn_iadd hx hb dd_MO_isMet_87 ?_
                  refine hm_iald (j := (48 * k9) + ee) hx hb hE.K hP 2 p10 rfl (vp_in_nI (by omega) (by omega)) (nI_clamp (by omega)) dd_MO_isMet_88 ?_
                  refine W.eq (g2 := F0 m 89 ls [.int (nI (b.2.2.2.getD ee 0)), .long w80]) (by rw [show A 10 ((48 * k9) + ee) = _ from bt2 ee (by omega)]) ?_
                  refine lv_i2l hx hb dd_MO_isMet_89 rfl ?_
                  refine lv_topl (fun w81 ew81 => ?_)
                  refine lv_lor hx hb dd_MO_isMet_90 ?_
                  refine lv_topl (fun w82 ew82 => ?_)
                  refine lv_lstore (lv' := [(6, .long w82), (0, .ref (P 0)), (1, .int (nI k9)), (2, .int (nI (bz al))), (3, .int (nI ee)), (4, .int (nI (bz so))), (5, .int (nI (bz ea)))]) hx hb dd_MO_isMet_91 hl (by decide) rfl (fun ls hl => ?_)
                  refine lv_iinc (v := nI (ee + 1)) (lv' := [(3, .int (nI (ee + 1))), (6, .long w82), (0, .ref (P 0)), (1, .int (nI k9)), (2, .int (nI (bz al))), (4, .int (nI (bz so))), (5, .int (nI (bz ea)))]) hx hb dd_MO_isMet_93 hl (k := 4) rfl (nI_1 ee) (by decide) rfl (fun ls hl => ?_)
                  refine lv_goto (tgt := 46) hx hb dd_MO_isMet_96 (by decide) ?_
                  exact ih46 (ee + 1) w82 (by omega) (by omega) (fun j h8 h9 => by
                      by_cases q : j = ee
                      · subst q; exact hce
                      · exact hrun j h8 (by omega)) (by rw [ew82, ew80, ew81, hv, tx_sn he1 (by omega)]; exact cd_st (by omega)) (by omega) _ _ _ hP hS (lv_sub hl [2, 3, 4, 0, 5, 6, 1] rfl)
          exact lp46 _ (a + 1) 0 (Nat.le_refl _) (by omega) (fun j h8 h9 => absurd h9 (by omega)) (by rw [tx_nl (by omega)]; rfl) (Nat.lt_succ_self _) _ _ _ hP hS (lv_sub hl [2, 3, 4, 1, 5, 6, 0] rfl)
    exact lp30 _ 3 0 false true (hru3.1) (hru3.2.1) (rfl) (rfl) (Nat.lt_succ_self _) _ _ _ hP hS (lv_sub hl [4, 5, 3, 2, 1, 0] rfl)
  refine lv_aload_n hx hb dd_MO_isMet_0 rfl (lv_at hl 0 rfl) ?_
  refine hm_get (ci := 6) (C := rn_MO) (T := ft_MO) (N := 22) hx hb hts fi_MO hown hE.K hP p0 rfl 10 (by decide) (hts _ tw_996) (fun _ h9 => h9) rfl dd_MO_isMet_1 ?_
  refine lv_bipush (v := nI 48) hx hb dd_MO_isMet_4 (by decide +kernel) ?_
  refine lv_iload_n hx hb dd_MO_isMet_6 rfl (lv_at hl 1 rfl) ?_
  refine hn_imul hx hb dd_MO_isMet_7 ?_
  refine lv_iconst (v := nI 1) hx hb dd_MO_isMet_8 (by decide +kernel) ?_
  refine hn_iadd hx hb dd_MO_isMet_9 ?_
  refine hm_iald (j := (48 * k9) + 1) hx hb hE.K hP 2 p10 rfl (vp_in_nI (by omega) (by omega)) (nI_clamp (by omega)) dd_MO_isMet_10 ?_
  refine W.eq (g2 := F0 m 11 ls [.int (nI (b.2.2.2.getD 1 0))]) (by rw [show A 10 ((48 * k9) + 1) = _ from bt2 1 (by omega)]) ?_
  refine lv_bipush (v := nI 108) hx hb dd_MO_isMet_11 (by decide +kernel) ?_
  refine hn_icmp_ne (tgt := 20) hx hb (by omega) (by omega) dd_MO_isMet_13 (by decide) (fun c83 => ?_) (fun c83 => ?_)
  · refine lv_iconst (v := nI 0) hx hb dd_MO_isMet_20 (by decide +kernel) ?_
    exact J21 false ((decide_eq_false (by omega)).symm) _ _ _ hP hS (lv_sub hl [0, 1] rfl)
  · refine lv_iconst (v := nI 1) hx hb dd_MO_isMet_16 (by decide +kernel) ?_
    refine lv_goto (tgt := 21) hx hb dd_MO_isMet_17 (by decide) ?_
    exact J21 true ((decide_eq_true (by omega)).symm) _ _ _ hP hS (lv_sub hl [0, 1] rfl)
