/-! header, remove -/
theorem sub_tx {D : va_G} {G N O : Nat → Nat} {M M1 : hm_M} {a r i n : Nat} {t : List Nat} (hI : im_R D G N O M) (ht : tx_S D (cz_I O M) a t) (h : (r = a ∧ tx_sl t i n = t ∧ M1 = M) ∨ (tx_sl t i n = [] ∧ r = G 4 ∧ M1 = M) ∨ (tx_S D (hm_w M M1) r (tx_sl t i n) ∧ hm_k M M1 [])) : tx_S D (cz_I (cz_z O M (fun _ => 0)) M1) r (tx_sl t i n) ∧ hm_k M M1 [] := by
  have hm : ∀ {q : Nat} {t2 : List Nat}, tx_S D (cz_I O M) q t2 → tx_S D (cz_I (cz_z O M (fun _ => 0)) M) q t2 := fun h9 => tx_mono (fun q e hq => by
    obtain ⟨h1, h2⟩ := cz_I_i hq
    exact cz_I_m ((cz_z_o h2).trans h1) h2) h9
  rcases h with ⟨rfl, h2, rfl⟩ | ⟨h2, rfl, rfl⟩ | ⟨h2, h3⟩
  · exact ⟨by rw [h2]; exact hm ht, hm_krf⟩
  · exact ⟨by rw [h2]; exact hm hI.2.2.2.2.2, hm_krf⟩
  · exact ⟨cz_tx_w h2 (fun _ => rfl), h3⟩
def hd_b (t : List Nat) (hs : List (List Nat × List Nat)) : Bool := pr_ok t true && pu_b (pr_nm t) hs
def hd_h (t : List Nat) (hs : List (List Nat × List Nat)) : List (List Nat × List Nat) := if pr_ok t true = true then pu_r (pr_nm t) ((pr_vl t).drop 1) hs else hs
theorem pr_none {t : List Nat} (h : pr_vl t = []) : pr_ok t true = false := by
  rw [pr_ok, h]
  simp
theorem pr_need {t : List Nat} (h : pr_vl t ≠ []) : pr_ok t true = pr_ok t false := by
  unfold pr_ok
  cases e : pr_vl t with
  | nil => exact absurd e h
  | cons c r => rfl

set_option maxHeartbeats 4000000 in
set_option maxRecDepth 100000 in
theorem kc_RD_header (l : Launch) (B : Nat) (D : va_G) (G : Nat → Nat) (M : hm_M) (N O : Nat → Nat) (hI : im_R D G N O M) (t : List Nat) (hT : tp_R B D N O M t) (key : List Nat) (hs : List (List Nat × List Nat)) (hM : ms_R B D G N O M key hs) : Met l yy_RD_header ws_RD_header ({ frames := 8, cells := 8, slots := 600, locals := 194 }) (hm_Pc B D G M [.ref (N 0)]) (hm_Ni B D (fun r M1 => r = nI (bz (hd_b t hs)) ∧ ∃ O1, tp_R B D N O1 M1 [] ∧ ms_R B D G N O1 M1 key (hd_h t hs) ∧ cz_F O M O1 M1 (cg2 1 5))) (8) (600) (hm_A B) := by
  refine Met.ofW (cc := cd_RD_header) (maxL := 3) (ret := ((some FieldType.boolean))) (by decide) rfl ?_
  intro p e s m args below meth c s₁ B0 hml hv
  obtain ⟨rfl, hE, hP⟩ := hv
  have hx := B0.exec
  have hb := B0.bytes
  have hr := B0.returns
  have hts : ∀ w ∈ tb_G, w.before _ s = true := fun w h => atoms_spec (ws := ws_RD_header) B0.pre w (List.mem_cons_of_mem _ h)
  have hown : s.vm.findClass "RouteDesk" = some m.cls := findClass_of_methodNamed B0.named
  have hlocks := B0.notSynchronized
  have hRf : (headSpec ws_RD_header { frames := 8, cells := 8, slots := 600, locals := 194 }).room.frames = 8 := rfl
  have hRl : (headSpec ws_RD_header { frames := 8, cells := 8, slots := 600, locals := 194 }).room.locals = 194 := rfl
  have hRc : (headSpec ws_RD_header { frames := 8, cells := 8, slots := 600, locals := 194 }).room.cells = 8 := rfl
  have hRs : (headSpec ws_RD_header { frames := 8, cells := 8, slots := 600, locals := 194 }).room.slots = 600 := rfl
  generalize (headSpec ws_RD_header { frames := 8, cells := 8, slots := 600, locals := 194 }).room = R at hRf hRl hRc hRs ⊢
  have hS : va_S (hm_A B) s.heap s.heap [] := va_S.rf
  have hl := lv_entry ([.ref (N 0)]) (n := 3) (Nat.le_of_ble_eq_true rfl)
  rw [lg_entry_eq]
  generalize (lg_sl ([.ref (N 0)]) ++ List.replicate (3 - (lg_sl ([.ref (N 0)])).length) Slot.unset).toArray = ls at hl ⊢
  have hl : lv_has ls 3 [(0, .ref (N 0))] := hl
  have tl48 : t.length ≤ 48 := by
    obtain ⟨v9, g1, g2, g3, g4⟩ := hT
    exact g4
  obtain ⟨kk, d5, xs5, m1, m2, m3, m4, l1, l2, l3, l4, l5, l6, l7⟩ := id hM
  obtain ⟨n6, f6, mo6, ll1, ll2, ll3⟩ := id l1
  obtain ⟨vkk, hkk⟩ := tx_o (cz_tx m4)
  refine lv_aload_n hx hb dd_RD_header_0 rfl (lv_at hl 0 rfl) ?_
  refine hm_cr hS (hm_rV 0 (As := []) (rest := []) ⟨hx, hb, hml, hown, hts⟩ hE hS hP (kc_RD_takeTape l B D G M N O hI t hT) rfl hI.o tw_365 tw_362 tw_364 tw_3 tw_36 (by decide +kernel) rfl rfl ⟨by show 6 + 1 ≤ R.frames; omega, by show 8 + (2 + 11) + 151 ≤ R.locals; omega⟩ rfl hl.1 rfl (Nat.le_of_ble_eq_true rfl) dd_RD_header_1 ⟨by omega, by omega⟩) (fun r1 M2 H locs hw3 hP hS => ?_)
  refine W.widen (k := 2) (n := 104) (by omega) (by omega) ?_
  have hIo := hI
  obtain ⟨O, hT, htx, hFa⟩ := hw3
  have hI := hI.kept hFa (cg_0 (by decide))
  have hM := hM.kept hFa hIo (fun c h9 => cg_n h9 (by decide)) (cg_0 (by decide))
  obtain ⟨kk, d5, xs5, m1, m2, m3, m4, l1, l2, l3, l4, l5, l6, l7⟩ := id hM
  obtain ⟨n6, f6, mo6, ll1, ll2, ll3⟩ := id l1
  obtain ⟨vkk, hkk⟩ := tx_o (cz_tx m4)
  obtain ⟨vr1, hr1⟩ := tx_o (cz_tx htx)
  refine lv_astore_n (lv' := [(1, .ref r1), (0, .ref (N 0))]) hx hb dd_RD_header_4 rfl hl (by decide) rfl (fun ls hl => ?_)
  refine lv_aload_n hx hb dd_RD_header_5 rfl (lv_at hl 0 rfl) ?_
  refine lv_bipush (v := nI 61) hx hb dd_RD_header_6 (by decide +kernel) ?_
  refine lv_iconst (v := nI 0) hx hb dd_RD_header_8 (by decide +kernel) ?_
  refine lv_aload_n hx hb dd_RD_header_9 rfl (lv_at hl 0 rfl) ?_
  refine hm_ci hS (hm_rV 0 (As := []) (rest := [.int (nI 0), .int (nI 61), .ref r1]) ⟨hx, hb, hml, hown, hts⟩ hE hS hP (kc_ST_length l B D G M2 r1 t (cz_tx htx)) rfl hr1 tw_490 tw_612 tw_488 tw_489 tw_39 (by decide +kernel) rfl rfl ⟨by show 1 + 1 ≤ R.frames; omega, by show 8 + (1 + 11) + 20 ≤ R.locals; omega⟩ rfl hl.1 rfl (Nat.le_of_ble_eq_true rfl) dd_RD_header_10 ⟨by omega, by omega⟩) (fun r4 M5 H locs hw6 hP hS => ?_)
  refine W.widen (k := 2) (n := 104) (by omega) (by omega) ?_
  obtain ⟨rfl, eM5⟩ := hw6
  rw [eM5] at hP
  refine hm_ci hS (hm_rS 4 (As := [.ref r1, .int (nI 61), .int (nI 0), .int (nI t.length)]) (rest := []) ⟨hx, hb, hml, hown, hts⟩ hE hS hP (kc_TX_find l B D G M2 r1 t (cz_tx htx) 61 0 t.length (by omega) (Nat.zero_le _) (Nat.le_refl _)) tw_615 tw_613 tw_614 tw_62 (by decide +kernel) rfl rfl ⟨by show 4 + 1 ≤ R.frames; omega, by show 8 + (5 + 11) + 85 ≤ R.locals; omega⟩ rfl hl.1 rfl (Nat.le_of_ble_eq_true rfl) dd_RD_header_13 ⟨by omega, by omega⟩) (fun r7 M8 H locs hw9 hP hS => ?_)
  refine W.widen (k := 2) (n := 104) (by omega) (by omega) ?_
  obtain ⟨k, rfl, k1, k2, k3, k4, eM8⟩ := hw9
  rw [eM8] at hP
  have hpr := pr_take k1 k2 (Nat.le_refl _) k3 k4
  rw [tx_sl_all] at hpr
  refine lv_istore_n (lv' := [(2, .int (nI k)), (1, .ref r1), (0, .ref (N 0))]) hx hb dd_RD_header_16 rfl hl (by decide) rfl (fun ls hl => ?_)
  refine lv_iload_n hx hb dd_RD_header_17 rfl (lv_at hl 0 rfl) ?_
  refine lv_aload_n hx hb dd_RD_header_18 rfl (lv_at hl 1 rfl) ?_
  refine hm_ci hS (hm_rV 0 (As := []) (rest := [.int (nI k)]) ⟨hx, hb, hml, hown, hts⟩ hE hS hP (kc_ST_length l B D G M2 r1 t (cz_tx htx)) rfl hr1 tw_490 tw_612 tw_488 tw_489 tw_39 (by decide +kernel) rfl rfl ⟨by show 1 + 1 ≤ R.frames; omega, by show 8 + (1 + 11) + 20 ≤ R.locals; omega⟩ rfl hl.1 rfl (Nat.le_of_ble_eq_true rfl) dd_RD_header_19 ⟨by omega, by omega⟩) (fun r10 M11 H locs hw12 hP hS => ?_)
  refine W.widen (k := 2) (n := 104) (by omega) (by omega) ?_
  obtain ⟨rfl, eM11⟩ := hw12
  rw [eM11] at hP
  refine hn_icmp_ge (tgt := 37) hx hb (by omega) (by omega) dd_RD_header_22 (by decide) (fun c13 => ?_) (fun c13 => ?_)
  · have c2 := c13
    have c1 : pr_ok t true = false := pr_none (hpr.2.trans (List.length_eq_zero_iff.mp (by rw [tx_sl_len (Nat.le_refl _)]; omega)))
    refine lv_iconst (v := nI 0) hx hb dd_RD_header_37 (by decide +kernel) ?_
    exact hm_Ei (v := nI 0) hx hb hr rfl hS hP (⟨bz_0 (by rw [hd_b, c1]; rfl), O, hT, by rw [hd_h, if_neg (by rw [c1]; decide)]; exact hM, hFa.mono (fun _ => cg2_l)⟩) hlocks (by omega) (by omega) dd_RD_header_38
  · have c2 := c13
    have hkl : k < t.length := by omega
    have hpe : pr_ok t true = pr_ok t false := pr_need (fun e => by
      rw [hpr.2, tx_sl_hd hkl (Nat.le_refl _)] at e
      cases e)
    refine lv_aload_n hx hb dd_RD_header_25 rfl (lv_at hl 1 rfl) ?_
    refine lv_iconst (v := nI 0) hx hb dd_RD_header_26 (by decide +kernel) ?_
    refine lv_aload_n hx hb dd_RD_header_27 rfl (lv_at hl 1 rfl) ?_
    refine hm_ci hS (hm_rV 0 (As := []) (rest := [.int (nI 0), .ref r1]) ⟨hx, hb, hml, hown, hts⟩ hE hS hP (kc_ST_length l B D G M2 r1 t (cz_tx htx)) rfl hr1 tw_490 tw_612 tw_488 tw_489 tw_39 (by decide +kernel) rfl rfl ⟨by show 1 + 1 ≤ R.frames; omega, by show 8 + (1 + 11) + 20 ≤ R.locals; omega⟩ rfl hl.1 rfl (Nat.le_of_ble_eq_true rfl) dd_RD_header_28 ⟨by omega, by omega⟩) (fun r14 M15 H locs hw16 hP hS => ?_)
    refine W.widen (k := 2) (n := 104) (by omega) (by omega) ?_
    obtain ⟨rfl, eM15⟩ := hw16
    rw [eM15] at hP
    refine hm_ci hS (hm_rS 3 (As := [.ref r1, .int (nI 0), .int (nI t.length)]) (rest := []) ⟨hx, hb, hml, hown, hts⟩ hE hS hP (kc_HT_isNameOrPair l B D G M2 r1 t (cz_tx htx) 0 t.length (Nat.zero_le _) (Nat.le_refl _)) tw_633 tw_631 tw_632 tw_63 (by decide +kernel) rfl rfl ⟨by show 5 + 1 ≤ R.frames; omega, by show 8 + (4 + 11) + 109 ≤ R.locals; omega⟩ rfl hl.1 rfl (Nat.le_of_ble_eq_true rfl) dd_RD_header_31 ⟨by omega, by omega⟩) (fun r17 M18 H locs hw19 hP hS => ?_)
    refine W.widen (k := 2) (n := 104) (by omega) (by omega) ?_
    obtain ⟨rfl, eM18⟩ := hw19
    rw [eM18] at hP
    refine hn_if_ne (tgt := 39) hx hb (bz_b _) dd_RD_header_34 (by decide) (fun c20 => ?_) (fun c20 => ?_)
    · have c1 := bz_t c20
      rw [tx_sl_all, ← hpe] at c1
      refine lv_aload_n hx hb dd_RD_header_39 rfl (lv_at hl 2 rfl) ?_
      refine hm_get (ci := 0) (C := rn_RD) (T := ft_RD) (N := 6) hx hb hts fi_RD hown hE.K hP hI.o rfl 4 (by decide) (hts _ tw_188) (fun _ h9 => h9) rfl dd_RD_header_40 ?_
      refine lv_aload_n hx hb dd_RD_header_43 rfl (lv_at hl 1 rfl) ?_
      refine lv_iconst (v := nI 0) hx hb dd_RD_header_44 (by decide +kernel) ?_
      refine lv_iload_n hx hb dd_RD_header_45 rfl (lv_at hl 0 rfl) ?_
      refine hm_cr hS (hm_rV 2 (As := [.int (nI 0), .int (nI k)]) (rest := [.ref (N 5)]) ⟨hx, hb, hml, hown, hts⟩ hE hS hP (kc_ST_substring l B D G M2 r1 t (cz_tx htx) (by omega) 0 k (by omega) (by omega)) rfl hr1 tw_651 tw_648 tw_649 tw_650 tw_39 (by decide +kernel) rfl rfl ⟨by show 4 + 1 ≤ R.frames; omega, by show 8 + (5 + 11) + 108 ≤ R.locals; omega⟩ rfl hl.1 rfl (Nat.le_of_ble_eq_true rfl) dd_RD_header_46 ⟨by omega, by omega⟩) (fun r21 M22 H locs hw23 hP hS => ?_)
      refine W.widen (k := 4) (n := 208) (by omega) (by omega) ?_
      obtain ⟨hxn, hkn⟩ := sub_tx hI htx hw23
      have hFn : cz_F O M2 (cz_z O M2 (fun _ => 0)) M22 (fun _ => False) := cz_F.k hkn hm_a0
      generalize cz_z O M2 (fun _ => 0) = O at hxn hFn
      have htx := hFn.tx id htx
      have hIo := hI
      have hI := hI.kept hFn id
      have hM := hM.kept hFn hIo (fun _ _ => id) id
      have hT := hT.kept hFn (fun _ _ => id)
      obtain ⟨kk, d5, xs5, m1, m2, m3, m4, l1, l2, l3, l4, l5, l6, l7⟩ := id hM
      obtain ⟨n6, f6, mo6, ll1, ll2, ll3⟩ := id l1
      obtain ⟨vkk, hkk⟩ := tx_o (cz_tx m4)
      obtain ⟨vr1, hr1⟩ := tx_o (cz_tx htx)
      refine lv_aload_n hx hb dd_RD_header_49 rfl (lv_at hl 1 rfl) ?_
      refine lv_iload_n hx hb dd_RD_header_50 rfl (lv_at hl 0 rfl) ?_
      refine lv_iconst (v := nI 1) hx hb dd_RD_header_51 (by decide +kernel) ?_
      refine hn_iadd hx hb dd_RD_header_52 ?_
      refine lv_aload_n hx hb dd_RD_header_53 rfl (lv_at hl 1 rfl) ?_
      refine hm_ci hS (hm_rV 0 (As := []) (rest := [.int (nI (k + 1)), .ref r1, .ref r21, .ref (N 5)]) ⟨hx, hb, hml, hown, hts⟩ hE hS hP (kc_ST_length l B D G M22 r1 t (cz_tx htx)) rfl hr1 tw_490 tw_612 tw_488 tw_489 tw_39 (by decide +kernel) rfl rfl ⟨by show 1 + 1 ≤ R.frames; omega, by show 8 + (1 + 11) + 20 ≤ R.locals; omega⟩ rfl hl.1 rfl (Nat.le_of_ble_eq_true rfl) dd_RD_header_54 ⟨by omega, by omega⟩) (fun r24 M25 H locs hw26 hP hS => ?_)
      refine W.widen (k := 4) (n := 208) (by omega) (by omega) ?_
      obtain ⟨rfl, eM25⟩ := hw26
      rw [eM25] at hP
      refine hm_cr hS (hm_rV 2 (As := [.int (nI (k + 1)), .int (nI t.length)]) (rest := [.ref r21, .ref (N 5)]) ⟨hx, hb, hml, hown, hts⟩ hE hS hP (kc_ST_substring l B D G M22 r1 t (cz_tx htx) (by omega) (k + 1) t.length (by omega) (by omega)) rfl hr1 tw_651 tw_648 tw_649 tw_650 tw_39 (by decide +kernel) rfl rfl ⟨by show 4 + 1 ≤ R.frames; omega, by show 8 + (5 + 11) + 108 ≤ R.locals; omega⟩ rfl hl.1 rfl (Nat.le_of_ble_eq_true rfl) dd_RD_header_57 ⟨by omega, by omega⟩) (fun r27 M28 H locs hw29 hP hS => ?_)
      refine W.widen (k := 6) (n := 312) (by omega) (by omega) ?_
      obtain ⟨hxv, hkv⟩ := sub_tx hI htx hw29
      have hFv : cz_F O M22 (cz_z O M22 (fun _ => 0)) M28 (fun _ => False) := cz_F.k hkv hm_a0
      generalize cz_z O M22 (fun _ => 0) = O at hxv hFv
      have htx := hFv.tx id htx
      have hIo := hI
      have hI := hI.kept hFv id
      have hM := hM.kept hFv hIo (fun _ _ => id) id
      have hT := hT.kept hFv (fun _ _ => id)
      obtain ⟨kk, d5, xs5, m1, m2, m3, m4, l1, l2, l3, l4, l5, l6, l7⟩ := id hM
      obtain ⟨n6, f6, mo6, ll1, ll2, ll3⟩ := id l1
      obtain ⟨vkk, hkk⟩ := tx_o (cz_tx m4)
      have hxn := hFv.tx id hxn
      obtain ⟨vr1, hr1⟩ := tx_o (cz_tx htx)
      refine hm_ci hS (hm_rV 2 (As := [.ref r21, .ref r27]) (rest := []) ⟨hx, hb, hml, hown, hts⟩ hE hS hP (kc_MG_put l B D G M28 N O hI key hs kk d5 xs5 ⟨m1, m2, m3, m4, l1, l2, l3, l4, l5, l6, l7⟩ r21 r27 (tx_sl t 0 k) (tx_sl t (k + 1) t.length) hxn hxv) rfl m1 tw_675 tw_672 tw_673 tw_674 tw_44 (by decide +kernel) rfl rfl ⟨by show 7 + 1 ≤ R.frames; omega, by show 8 + (4 + 11) + 171 ≤ R.locals; omega⟩ rfl hl.1 rfl (Nat.le_of_ble_eq_true rfl) dd_RD_header_60 ⟨by omega, by omega⟩) (fun r30 M31 H locs hw32 hP hS => ?_)
      refine W.widen (k := 8) (n := 514) (by omega) (by omega) ?_
      obtain ⟨rfl, O8, z1, z2⟩ := hw32
      exact hm_Ei (v := nI (bz (pu_b (tx_sl t 0 k) hs))) hx hb hr (bz_n _) hS hP (by
          have hvl : (pr_vl t).drop 1 = tx_sl t (k + 1) t.length := by rw [hpr.2]; unfold tx_sl; rw [List.drop_drop]
          exact ⟨by rw [hd_b, c1, hpr.1]; rfl, O8, hT.kept z2 (fun c h9 => cg_n h9 (by decide)), by rw [hd_h, if_pos c1, hpr.1, hvl]; exact z1, ((hFa.mono (fun _ => cg2_l)).trans ((hFn.mono (fun _ h9 => h9.elim)).trans (hFv.mono (fun _ h9 => h9.elim)))).trans (z2.mono (fun _ => cg2_r))⟩) hlocks (by omega) (by omega) dd_RD_header_63
    · have c1 := bz_f c20
      rw [tx_sl_all, ← hpe] at c1
      refine lv_iconst (v := nI 0) hx hb dd_RD_header_37 (by decide +kernel) ?_
      exact hm_Ei (v := nI 0) hx hb hr rfl hS hP (⟨bz_0 (by rw [hd_b, c1]; rfl), O, hT, by rw [hd_h, if_neg (by rw [c1]; decide)]; exact hM, hFa.mono (fun _ => cg2_l)⟩) hlocks (by omega) (by omega) dd_RD_header_38
