/-! the model's type, of, total -/
theorem by_lsh (w : Int64) {k : Nat} (hk : k < 8) : ((w >>> ((nI (8 * k)).toInt64 &&& 63)) &&& 255).toInt32 = nI (by_at w k) := by
  apply Int32.toBitVec_inj.mp
  apply BitVec.eq_of_toNat_eq
  have h2 : (nI (by_at w k)).toBitVec.toNat = by_at w k := by
    have := by_lt w k
    show (Int32.ofNat (by_at w k)).toBitVec.toNat = _
    rw [Int32.toBitVec_ofNat', BitVec.toNat_ofNat]
    omega
  rw [h2, Int64.toBitVec_toInt32, BitVec.signExtend_eq_setWidth_of_le _ (by decide)]
  have h3 : ((nI (8 * k)).toInt64 &&& 63) = lN (8 * k) := wb_c (8 * k) (by omega)
  rw [h3]
  rw [Int64.toBitVec_and, Int64.toBitVec_shiftRight]
  have h4 : ((lN (8 * k)).toBitVec.smod 64) = BitVec.ofNat 64 (8 * k) := wb_sm (8 * k) (by omega)
  rw [h4]
  apply Nat.eq_of_testBit_eq
  intro i
  rw [BitVec.toNat_setWidth, BitVec.toNat_and]
  have h5 : (255 : Int64).toBitVec.toNat = 2 ^ 8 - 1 := by decide
  rw [h5, by_at]
  rw [show (w.toUInt64.toNat / 2 ^ (8 * k)) % 256 = (w.toUInt64.toNat / 2 ^ (8 * k)) % 2 ^ 8 by rfl]
  rw [Nat.and_two_pow_sub_one_eq_mod]
  have h6 : ∀ z : Nat, z % 2 ^ 8 % 2 ^ 32 = z % 2 ^ 8 := fun z => by omega
  rw [h6, Nat.testBit_mod_two_pow, Nat.testBit_mod_two_pow]
  by_cases hi : i < 8
  · simp only [hi, decide_true, Bool.true_and]
    rw [Nat.testBit_div_two_pow]
    rw [← BitVec.getLsbD, BitVec.sshiftRight_eq', BitVec.getLsbD_sshiftRight]
    rw [BitVec.toNat_ofNat, Nat.mod_eq_of_lt (show 8 * k < 2 ^ 64 by omega)]
    rw [decide_eq_false (show ¬ 64 ≤ i by omega), if_pos (by omega)]
    show _ = w.toBitVec.toNat.testBit _
    rw [BitVec.getLsbD, Nat.add_comm]; rfl
  · simp only [hi, decide_false, Bool.false_and]

set_option maxHeartbeats 4000000 in
set_option maxRecDepth 100000 in
theorem kc_MO_type (l : Launch) (B : Nat) (D : va_G) (G : Nat → Nat) (M : hm_M) (P O : Nat → Nat) (I : Nat → Int32) (A : Nat → Nat → Int32) (L : Nat → Nat → Int64) (hD : mo_D B D P O M I A L) (t : List Nat) (ex : Nat → Option (Int32 × Int32)) (qs : Nat → Bool) (bs : List bd_T) (key : List Nat) (hs : List (List Nat × List Nat)) (fo ps : Nat → Bool) (hZ : mo_S I A L t ex qs bs key hs fo ps) (w : Int64) (n : Int32) : Met l yy_MO_type ws_MO_type ({ frames := 0, cells := 0, slots := 0, locals := 0 }) (hm_Pc B D G M [.ref (P 0), .long w, .int n]) (hm_Ni B D (fun r M1 => r = nI (bz (ty_ok t.length w n)) ∧ ∃ I1 A1 L1, mo_D B D P O M1 I1 A1 L1 ∧ I1 0 = nI 0 ∧ mo_S I1 A1 L1 (ty_t t w n) ex qs bs key hs fo ps ∧ cz_F O M O M1 pm)) (0) (0) (hm_A B) := by
  refine Met.ofW (cc := cd_MO_type) (maxL := 6) (ret := ((some FieldType.boolean))) (by decide) rfl ?_
  intro p e s m args below meth c s₁ B0 hml hv
  obtain ⟨rfl, hE, hP⟩ := hv
  have hx := B0.exec
  have hb := B0.bytes
  have hr := B0.returns
  have hts : ∀ w ∈ tb_G, w.before _ s = true := fun w h => atoms_spec (ws := ws_MO_type) B0.pre w (List.mem_cons_of_mem _ h)
  have hown : s.vm.findClass "RouteDeskModel" = some m.cls := findClass_of_methodNamed B0.named
  have hlocks := B0.notSynchronized
  have hRf : (headSpec ws_MO_type { frames := 0, cells := 0, slots := 0, locals := 0 }).room.frames = 0 := rfl
  have hRl : (headSpec ws_MO_type { frames := 0, cells := 0, slots := 0, locals := 0 }).room.locals = 0 := rfl
  have hRc : (headSpec ws_MO_type { frames := 0, cells := 0, slots := 0, locals := 0 }).room.cells = 0 := rfl
  have hRs : (headSpec ws_MO_type { frames := 0, cells := 0, slots := 0, locals := 0 }).room.slots = 0 := rfl
  generalize (headSpec ws_MO_type { frames := 0, cells := 0, slots := 0, locals := 0 }).room = R at hRf hRl hRc hRs ⊢
  have hS : va_S (hm_A B) s.heap s.heap [] := va_S.rf
  have hl := lv_entry ([.ref (P 0), .long w, .int n]) (n := 6) (Nat.le_of_ble_eq_true rfl)
  rw [lg_entry_eq]
  generalize (lg_sl ([.ref (P 0), .long w, .int n]) ++ List.replicate (6 - (lg_sl ([.ref (P 0), .long w, .int n])).length) Slot.unset).toArray = ls at hl ⊢
  have hl : lv_has ls 6 [(0, .ref (P 0)), (1, .long w), (3, .int n)] := hl
  have t16 : (nI 16).toInt = 16 := by decide
  have tm1 : (-1 : Int32).toInt = -1 := by decide
  have t0 : (nI 0).toInt = 0 := by decide
  have t2 : (nI 2).toInt = 2 := by decide
  have t3 : (nI 3).toInt = 3 := by decide
  have t1 : (nI 1).toInt = 1 := by decide
  have t4 : (nI 4).toInt = 4 := by decide
  obtain ⟨p0, p1, p3, p4, p5, p7, p8, p9, p10, p11, p14, p15, p16, p17, p19, p20, p21, po, pb⟩ := id hD
  obtain ⟨hT, hX, hQ, hB, hK, hH, hFo, hPs⟩ := id hZ
  obtain ⟨ti1, ti2, ti3, ti4⟩ := id hT
  obtain ⟨bi1, bi2, bi3⟩ := id hB
  obtain ⟨ki1, ki2, ki3, ki4⟩ := id hK
  obtain ⟨hi1, hi2, hi3⟩ := id hH
  have t8 : (nI 8).toInt = 8 := by decide
  refine lv_aload_n hx hb dd_MO_type_0 rfl (lv_at hl 0 rfl) ?_
  refine lv_iconst (v := nI 0) hx hb dd_MO_type_1 (by decide +kernel) ?_
  refine hm_put (ci := 6) (v := .int (nI 0)) (ty := .int) (C := rn_MO) (T := ft_MO) (N := 22) hx hb hts fi_MO fy_MO fo_MO fn_MO hown hE.K hP hS (pb 0 (by decide)) p0 rfl 0 (by decide) (hts _ tw_986) (fun _ h9 => h9) rfl (by decide +kernel) rfl rfl (Nat.le_of_ble_eq_true rfl) dd_MO_type_2 (fun H locs hP hS => ?_)
  have hP : hm_P D cl_W (hm_up M (P 0) (.inr (6, [.int (nI 0), .ref (P 1), .int (I 2), .ref (P 3), .ref (P 4), .ref (P 5), .int (I 6), .ref (P 7), .ref (P 8), .ref (P 9), .ref (P 10), .ref (P 11), .int (I 12), .int (I 13), .ref (P 14), .ref (P 15), .ref (P 16), .ref (P 17), .int (I 18), .ref (P 19), .ref (P 20), .ref (P 21)]))) H := hP
  obtain ⟨M1, eM1⟩ : ∃ z, z = hm_up M (P 0) (.inr (6, [.int (nI 0), .ref (P 1), .int (I 2), .ref (P 3), .ref (P 4), .ref (P 5), .int (I 6), .ref (P 7), .ref (P 8), .ref (P 9), .ref (P 10), .ref (P 11), .int (I 12), .int (I 13), .ref (P 14), .ref (P 15), .ref (P 16), .ref (P 17), .int (I 18), .ref (P 19), .ref (P 20), .ref (P 21)])) := ⟨_, rfl⟩
  rw [← eM1] at hP
  have f2 : M1 (P 1) = some (.inl (D.1 102, 48, .inl (A 1))) := by rw [eM1]; exact hm_up_o (hm_neO (po 1 (by decide)) (po 0 (by decide)) (by decide)) p1
  have f3 : M1 (P 3) = some (.inl (D.1 102, 16, .inl (A 3))) := by rw [eM1]; exact hm_up_o (hm_neO (po 3 (by decide)) (po 0 (by decide)) (by decide)) p3
  have f4 : M1 (P 4) = some (.inl (D.1 102, 16, .inl (A 4))) := by rw [eM1]; exact hm_up_o (hm_neO (po 4 (by decide)) (po 0 (by decide)) (by decide)) p4
  have f5 : M1 (P 5) = some (.inl (D.1 101, 16, .inl (A 5))) := by rw [eM1]; exact hm_up_o (hm_neO (po 5 (by decide)) (po 0 (by decide)) (by decide)) p5
  have f6 : M1 (P 7) = some (.inl (D.1 102, 120, .inl (A 7))) := by rw [eM1]; exact hm_up_o (hm_neO (po 7 (by decide)) (po 0 (by decide)) (by decide)) p7
  have f7 : M1 (P 8) = some (.inl (D.1 102, 120, .inl (A 8))) := by rw [eM1]; exact hm_up_o (hm_neO (po 8 (by decide)) (po 0 (by decide)) (by decide)) p8
  have f8 : M1 (P 9) = some (.inl (D.1 102, 120, .inl (A 9))) := by rw [eM1]; exact hm_up_o (hm_neO (po 9 (by decide)) (po 0 (by decide)) (by decide)) p9
  have f9 : M1 (P 10) = some (.inl (D.1 102, 5760, .inl (A 10))) := by rw [eM1]; exact hm_up_o (hm_neO (po 10 (by decide)) (po 0 (by decide)) (by decide)) p10
  have f10 : M1 (P 11) = some (.inl (D.1 102, 48, .inl (A 11))) := by rw [eM1]; exact hm_up_o (hm_neO (po 11 (by decide)) (po 0 (by decide)) (by decide)) p11
  have f11 : M1 (P 14) = some (.inl (D.1 103, 6, .inr (.inl (L 14)))) := by rw [eM1]; exact hm_up_o (hm_neO (po 14 (by decide)) (po 0 (by decide)) (by decide)) p14
  have f12 : M1 (P 15) = some (.inl (D.1 103, 6, .inr (.inl (L 15)))) := by rw [eM1]; exact hm_up_o (hm_neO (po 15 (by decide)) (po 0 (by decide)) (by decide)) p15
  have f13 : M1 (P 16) = some (.inl (D.1 101, 16, .inl (A 16))) := by rw [eM1]; exact hm_up_o (hm_neO (po 16 (by decide)) (po 0 (by decide)) (by decide)) p16
  have f14 : M1 (P 17) = some (.inl (D.1 101, 16, .inl (A 17))) := by rw [eM1]; exact hm_up_o (hm_neO (po 17 (by decide)) (po 0 (by decide)) (by decide)) p17
  have f15 : M1 (P 19) = some (.inl (D.1 101, 2601, .inl (A 19))) := by rw [eM1]; exact hm_up_o (hm_neO (po 19 (by decide)) (po 0 (by decide)) (by decide)) p19
  have f16 : M1 (P 20) = some (.inl (D.1 102, 52, .inl (A 20))) := by rw [eM1]; exact hm_up_o (hm_neO (po 20 (by decide)) (po 0 (by decide)) (by decide)) p20
  have f17 : M1 (P 21) = some (.inl (D.1 102, 52, .inl (A 21))) := by rw [eM1]; exact hm_up_o (hm_neO (po 21 (by decide)) (po 0 (by decide)) (by decide)) p21
  have f18 : M1 (P 0) = some (.inr (6, [.int (nI 0), .ref (P 1), .int (I 2), .ref (P 3), .ref (P 4), .ref (P 5), .int (I 6), .ref (P 7), .ref (P 8), .ref (P 9), .ref (P 10), .ref (P 11), .int (I 12), .int (I 13), .ref (P 14), .ref (P 15), .ref (P 16), .ref (P 17), .int (I 18), .ref (P 19), .ref (P 20), .ref (P 21)])) := by rw [eM1]; exact hm_up_s
  refine lv_iload_n hx hb dd_MO_type_5 rfl (lv_at hl 2 rfl) ?_
  refine lv_iconst (v := nI 1) hx hb dd_MO_type_6 (by decide +kernel) ?_
  refine hi_icmp_lt (tgt := 27) hx hb dd_MO_type_7 (by decide) (fun c19 => ?_) (fun c19 => ?_)
  · refine lv_iconst (v := nI 0) hx hb dd_MO_type_27 (by decide +kernel) ?_
    have hno : ty_ok t.length w n = false := by
      rw [ty_ok, decide_eq_false (fun h9 => by
        obtain ⟨q1, q2, q3⟩ := h9
        omega)]; rfl
    have kk20 : hm_k M M [(P 0)] := hm_krf
    have kk21 : hm_k M M1 [(P 0)] := hm_ku kk20 (Or.inr (by simp)) eM1
    exact hm_Ei (v := nI 0) hx hb hr rfl hS hP (⟨bz_0 hno, (va_up I 0 (nI 0)), A, L, ⟨f18, f2, f3, f4, f5, f6, f7, f8, f9, f10, f11, f12, f13, f14, f15, f16, f17, po, pb⟩, rfl, ⟨by rw [ty_t, hno, if_neg (by decide)]; exact hT, hX, hQ, hB, hK, hH, hFo, hPs⟩, cz_F.k0 kk21 (hm_a1 ⟨by rw [po 0 (by decide)]; unfold pm; omega, _, f18⟩)⟩) hlocks (by omega) (by omega) dd_MO_type_28
  · refine lv_iload_n hx hb dd_MO_type_10 rfl (lv_at hl 2 rfl) ?_
    refine lv_bipush (v := nI 8) hx hb dd_MO_type_11 (by decide +kernel) ?_
    refine hi_icmp_gt (tgt := 27) hx hb dd_MO_type_13 (by decide) (fun c22 => ?_) (fun c22 => ?_)
    · refine lv_iconst (v := nI 0) hx hb dd_MO_type_27 (by decide +kernel) ?_
      have hno : ty_ok t.length w n = false := by
        rw [ty_ok, decide_eq_false (fun h9 => by
          obtain ⟨q1, q2, q3⟩ := h9
          omega)]; rfl
      have kk23 : hm_k M M [(P 0)] := hm_krf
      have kk24 : hm_k M M1 [(P 0)] := hm_ku kk23 (Or.inr (by simp)) eM1
      exact hm_Ei (v := nI 0) hx hb hr rfl hS hP (⟨bz_0 hno, (va_up I 0 (nI 0)), A, L, ⟨f18, f2, f3, f4, f5, f6, f7, f8, f9, f10, f11, f12, f13, f14, f15, f16, f17, po, pb⟩, rfl, ⟨by rw [ty_t, hno, if_neg (by decide)]; exact hT, hX, hQ, hB, hK, hH, hFo, hPs⟩, cz_F.k0 kk24 (hm_a1 ⟨by rw [po 0 (by decide)]; unfold pm; omega, _, f18⟩)⟩) hlocks (by omega) (by omega) dd_MO_type_28
    · obtain ⟨nn, hnn, en⟩ : ∃ nn : Nat, (1 ≤ nn ∧ nn ≤ 8) ∧ n = nI nn := ⟨n.toInt.toNat, by omega, hi_nI (by omega)⟩
      have hnT : n.toInt = nn := by rw [en]; exact nI_toInt (by omega)
      have hl : lv_has ls 6 [(0, .ref (P 0)), (1, .long w), (3, .int (nI nn))] := by rw [← en]; exact hl
      refine lv_aload_n hx hb dd_MO_type_16 rfl (lv_at hl 0 rfl) ?_
      refine hm_get (ci := 6) (C := rn_MO) (T := ft_MO) (N := 22) hx hb hts fi_MO hown hE.K hP f18 rfl 2 (by decide) (hts _ tw_988) (fun _ h9 => h9) rfl dd_MO_type_17 ?_
      refine W.eq (g2 := F0 m 20 ls [.int (nI t.length)]) (by rw [ti1]) ?_
      refine lv_iload_n hx hb dd_MO_type_20 rfl (lv_at hl 2 rfl) ?_
      refine hn_iadd hx hb dd_MO_type_21 ?_
      refine lv_bipush (v := nI 48) hx hb dd_MO_type_22 (by decide +kernel) ?_
      refine hn_icmp_le (tgt := 29) hx hb (by omega) (by omega) dd_MO_type_24 (by decide) (fun c25 => ?_) (fun c25 => ?_)
      · refine lv_iconst (v := nI 0) hx hb dd_MO_type_29 (by decide +kernel) ?_
        refine lv_istore (lv' := [(4, .int (nI 0)), (0, .ref (P 0)), (1, .long w), (3, .int (nI nn))]) hx hb dd_MO_type_30 hl (by decide) rfl (fun ls hl => ?_)
        have lp32 : ∀ (n9 : Nat) (k : Nat) (Mu32 : hm_M), (k ≤ nn) → (∀ j, j < k → 32 ≤ by_at w j ∧ by_at w j ≤ 126) → (mo_D B D P O Mu32 (va_up I 0 (nI 0)) A L) → (cz_F O M O Mu32 pm) → nn - k < n9 → ∀ (H : Heap) (locs : List Loc) (ls : Array Slot), hm_P D cl_W Mu32 H → va_S (hm_A B) s.heap H locs → lv_has ls 6 [(0, .ref (P 0)), (1, .long w), (3, .int (nI nn)), (4, .int (nI k))] → W p l e R s m ([.ref (P 0), .long w, .int n] : List Value).toArray below meth c H locs (0) (0) (MQ below (hm_Ni B D (fun r M1 => r = nI (bz (ty_ok t.length w n)) ∧ ∃ I1 A1 L1, mo_D B D P O M1 I1 A1 L1 ∧ I1 0 = nI 0 ∧ mo_S I1 A1 L1 (ty_t t w n) ex qs bs key hs fo ps ∧ cz_F O M O M1 pm)) ([.ref (P 0), .long w, .int n] : List Value).toArray s (0) (0) (hm_A B)) (F0 m 32 ls []) := by
          intro n9
          induction n9 with
          | zero => intro k Mu32 hk hok hd32 hF32 hm; exact absurd hm (Nat.not_lt_zero _)
          | succ n9 ih32 =>
            intro k Mu32 hk hok hd32 hF32 hm H locs ls hP hS hl
            obtain ⟨g26_0, g26_1, g26_3, g26_4, g26_5, g26_7, g26_8, g26_9, g26_10, g26_11, g26_14, g26_15, g26_16, g26_17, g26_19, g26_20, g26_21, -, -⟩ := id hd32
            have g26_0 : Mu32 (P 0) = some (.inr (6, [.int (nI 0), .ref (P 1), .int (I 2), .ref (P 3), .ref (P 4), .ref (P 5), .int (I 6), .ref (P 7), .ref (P 8), .ref (P 9), .ref (P 10), .ref (P 11), .int (I 12), .int (I 13), .ref (P 14), .ref (P 15), .ref (P 16), .ref (P 17), .int (I 18), .ref (P 19), .ref (P 20), .ref (P 21)])) := g26_0
            refine lv_iload hx hb dd_MO_type_32 (lv_at hl 3 rfl) ?_
            refine lv_iload_n hx hb dd_MO_type_34 rfl (lv_at hl 2 rfl) ?_
            refine hn_icmp_ge (tgt := 74) hx hb (by omega) (by omega) dd_MO_type_35 (by decide) (fun c27 => ?_) (fun c27 => ?_)
            · have hok9 : ∀ j, j < nn → 32 ≤ by_at w j ∧ by_at w j ≤ 126 := fun j hj => hok j (by omega)
              refine lv_iload_n hx hb dd_MO_type_74 rfl (lv_at hl 2 rfl) ?_
              refine lv_iconst (v := nI 1) hx hb dd_MO_type_75 (by decide +kernel) ?_
              refine hn_isub hx hb (by omega) dd_MO_type_76 ?_
              refine lv_istore (lv' := [(4, .int (nI (nn - 1))), (0, .ref (P 0)), (1, .long w), (3, .int (nI nn))]) hx hb dd_MO_type_77 hl (by decide) rfl (fun ls hl => ?_)
              have lp79 : ∀ (n9 : Nat) (kq : Nat) (y9 : Int32) (fk : Nat → Int32) (Mu79 : hm_M), (kq ≤ nn) → (y9.toInt = (kq : Int) - 1) → (∀ j, j < (t ++ ty_l w nn kq).length → fk j = nI ((t ++ ty_l w nn kq).getD j 0)) → (mo_D B D P O Mu79 (va_up (va_up I 0 (nI 0)) 2 (nI ((t ++ ty_l w nn kq).length))) (va_up A 1 fk) L) → (cz_F O M O Mu79 pm) → kq < n9 → ∀ (H : Heap) (locs : List Loc) (ls : Array Slot), hm_P D cl_W Mu79 H → va_S (hm_A B) s.heap H locs → lv_has ls 6 [(0, .ref (P 0)), (1, .long w), (3, .int (nI nn)), (4, .int y9)] → W p l e R s m ([.ref (P 0), .long w, .int n] : List Value).toArray below meth c H locs (0) (0) (MQ below (hm_Ni B D (fun r M1 => r = nI (bz (ty_ok t.length w n)) ∧ ∃ I1 A1 L1, mo_D B D P O M1 I1 A1 L1 ∧ I1 0 = nI 0 ∧ mo_S I1 A1 L1 (ty_t t w n) ex qs bs key hs fo ps ∧ cz_F O M O M1 pm)) ([.ref (P 0), .long w, .int n] : List Value).toArray s (0) (0) (hm_A B)) (F0 m 79 ls []) := by
                intro n9
                induction n9 with
                | zero => intro kq y9 fk Mu79 hkq hy9 hfk hd79 hF79 hm; exact absurd hm (Nat.not_lt_zero _)
                | succ n9 ih79 =>
                  intro kq y9 fk Mu79 hkq hy9 hfk hd79 hF79 hm H locs ls hP hS hl
                  obtain ⟨g28_0, g28_1, g28_3, g28_4, g28_5, g28_7, g28_8, g28_9, g28_10, g28_11, g28_14, g28_15, g28_16, g28_17, g28_19, g28_20, g28_21, -, -⟩ := id hd79
                  have g28_0 : Mu79 (P 0) = some (.inr (6, [.int (nI 0), .ref (P 1), .int (nI ((t ++ ty_l w nn kq).length)), .ref (P 3), .ref (P 4), .ref (P 5), .int (I 6), .ref (P 7), .ref (P 8), .ref (P 9), .ref (P 10), .ref (P 11), .int (I 12), .int (I 13), .ref (P 14), .ref (P 15), .ref (P 16), .ref (P 17), .int (I 18), .ref (P 19), .ref (P 20), .ref (P 21)])) := g28_0
                  have g28_1 : Mu79 (P 1) = some (.inl (D.1 102, 48, .inl fk)) := g28_1
                  have g28_3 : Mu79 (P 3) = some (.inl (D.1 102, 16, .inl (A 3))) := g28_3
                  have g28_4 : Mu79 (P 4) = some (.inl (D.1 102, 16, .inl (A 4))) := g28_4
                  have g28_5 : Mu79 (P 5) = some (.inl (D.1 101, 16, .inl (A 5))) := g28_5
                  have g28_7 : Mu79 (P 7) = some (.inl (D.1 102, 120, .inl (A 7))) := g28_7
                  have g28_8 : Mu79 (P 8) = some (.inl (D.1 102, 120, .inl (A 8))) := g28_8
                  have g28_9 : Mu79 (P 9) = some (.inl (D.1 102, 120, .inl (A 9))) := g28_9
                  have g28_10 : Mu79 (P 10) = some (.inl (D.1 102, 5760, .inl (A 10))) := g28_10
                  have g28_11 : Mu79 (P 11) = some (.inl (D.1 102, 48, .inl (A 11))) := g28_11
                  have g28_16 : Mu79 (P 16) = some (.inl (D.1 101, 16, .inl (A 16))) := g28_16
                  have g28_17 : Mu79 (P 17) = some (.inl (D.1 101, 16, .inl (A 17))) := g28_17
                  have g28_19 : Mu79 (P 19) = some (.inl (D.1 101, 2601, .inl (A 19))) := g28_19
                  have g28_20 : Mu79 (P 20) = some (.inl (D.1 102, 52, .inl (A 20))) := g28_20
                  have g28_21 : Mu79 (P 21) = some (.inl (D.1 102, 52, .inl (A 21))) := g28_21
                  have hlen9 : (t ++ ty_l w nn kq).length = t.length + (nn - kq) := by rw [List.length_append, ty_len]
                  refine lv_iload hx hb dd_MO_type_79 (lv_at hl 3 rfl) ?_
                  refine hi_if_lt (tgt := 121) hx hb dd_MO_type_81 (by decide) (fun c29 => ?_) (fun c29 => ?_)
                  · refine lv_iconst (v := nI 1) hx hb dd_MO_type_121 (by decide +kernel) ?_
                    have hk0 : kq = 0 := by omega
                    have hyes : ty_ok t.length w n = true := by
                      rw [ty_ok, decide_eq_true ⟨by omega, by omega, by omega⟩, Bool.true_and, List.all_eq_true]
                      intro j hj
                      rw [hnT] at hj
                      exact decide_eq_true (hok9 j (by have := List.mem_range.mp hj; omega))
                    exact hm_Ei (v := nI 1) hx hb hr rfl hS hP (⟨bz_1 hyes, (va_up (va_up I 0 (nI 0)) 2 (nI ((t ++ ty_l w nn kq).length))), (va_up A 1 fk), L, ⟨g28_0, g28_1, g28_3, g28_4, g28_5, g28_7, g28_8, g28_9, g28_10, g28_11, g28_14, g28_15, g28_16, g28_17, g28_19, g28_20, g28_21, po, pb⟩, rfl, ⟨by
                        rw [ty_t, hyes, if_pos rfl, hnT, show ty_l w ((nn : Int).toNat) 0 = ty_l w nn kq by rw [hk0]; rfl]
                        refine ⟨rfl, hfk, by rw [List.length_append, ty_len]; omega, fun c9 hc9 => ?_⟩
                        rcases List.mem_append.mp hc9 with h9 | h9
                        · exact ti4 c9 h9
                        · obtain ⟨j, hj, rfl⟩ := List.mem_map.mp h9
                          have h8 := List.mem_range.mp hj
                          have h8 : j < nn := by omega
                          have := hok9 (nn - 1 - j) (by omega)
                          show by_at w (nn - 1 - j) < 128
                          omega, hX, hQ, hB, hK, hH, hFo, hPs⟩, hF79⟩) hlocks (by omega) (by omega) dd_MO_type_122
                  · obtain rfl : y9 = nI (kq - 1) := by
                      have h9 := hi_nI (x := y9) (by omega)
                      rw [h9, show y9.toInt.toNat = kq - 1 by omega]
                    have hb9 := hok9 (kq - 1) (by omega)
                    refine lv_aload_n hx hb dd_MO_type_84 rfl (lv_at hl 0 rfl) ?_
                    refine hm_get (ci := 6) (C := rn_MO) (T := ft_MO) (N := 22) hx hb hts fi_MO hown hE.K hP g28_0 rfl 1 (by decide) (hts _ tw_987) (fun _ h9 => h9) rfl dd_MO_type_85 ?_
                    refine lv_aload_n hx hb dd_MO_type_88 rfl (lv_at hl 0 rfl) ?_
                    refine hm_get (ci := 6) (C := rn_MO) (T := ft_MO) (N := 22) hx hb hts fi_MO hown hE.K hP g28_0 rfl 2 (by decide) (hts _ tw_988) (fun _ h9 => h9) rfl dd_MO_type_89 ?_
                    refine lv_lload_n hx hb dd_MO_type_92 rfl (lv_at hl 1 rfl) ?_
                    refine lv_bipush (v := nI 8) hx hb dd_MO_type_93 (by decide +kernel) ?_
                    refine lv_iload hx hb dd_MO_type_95 (lv_at hl 3 rfl) ?_
                    refine hn_imul hx hb dd_MO_type_97 ?_
                    refine lv_lshr hx hb dd_MO_type_98 rfl ?_
                    refine lv_topl (fun w30 ew30 => ?_)
                    refine lv_ldc2 (v := 255) hx hb hown (hts _ tw_1062) dd_MO_type_99 ?_
                    refine lv_land hx hb dd_MO_type_102 ?_
                    refine lv_topl (fun w31 ew31 => ?_)
                    refine lv_l2i hx hb dd_MO_type_103 rfl ?_
                    refine lv_topi (fun x32 ex32 => ?_)
                    obtain rfl : x32 = nI (by_at w (kq - 1)) := by rw [ex32, ew31, ew30]; exact by_lsh w (by omega)
                    have hbl := by_lt w (kq - 1)
                    refine hm_iast (j := (t ++ ty_l w nn kq).length) hx hb hE.K hP hS (pb 1 (by decide)) 2 g28_1 rfl (vp_in_nI (by omega) (by omega)) (nI_clamp (by omega)) dd_MO_type_104 (fun H locs hP hS => ?_)
                    obtain ⟨M33, eM33⟩ : ∃ z, z = hm_up Mu79 (P 1) (.inl (D.1 102, 48, .inl (upd fk ((t ++ ty_l w nn kq).length) (nI (by_at w (kq - 1)))))) := ⟨_, rfl⟩
                    rw [← eM33] at hP
                    have f34 : M33 (P 0) = some (.inr (6, [.int (nI 0), .ref (P 1), .int (nI ((t ++ ty_l w nn kq).length)), .ref (P 3), .ref (P 4), .ref (P 5), .int (I 6), .ref (P 7), .ref (P 8), .ref (P 9), .ref (P 10), .ref (P 11), .int (I 12), .int (I 13), .ref (P 14), .ref (P 15), .ref (P 16), .ref (P 17), .int (I 18), .ref (P 19), .ref (P 20), .ref (P 21)])) := by rw [eM33]; exact hm_up_o (hm_neO (po 0 (by decide)) (po 1 (by decide)) (by decide)) g28_0
                    have f35 : M33 (P 3) = some (.inl (D.1 102, 16, .inl (A 3))) := by rw [eM33]; exact hm_up_o (hm_neO (po 3 (by decide)) (po 1 (by decide)) (by decide)) g28_3
                    have f36 : M33 (P 4) = some (.inl (D.1 102, 16, .inl (A 4))) := by rw [eM33]; exact hm_up_o (hm_neO (po 4 (by decide)) (po 1 (by decide)) (by decide)) g28_4
                    have f37 : M33 (P 5) = some (.inl (D.1 101, 16, .inl (A 5))) := by rw [eM33]; exact hm_up_o (hm_neO (po 5 (by decide)) (po 1 (by decide)) (by decide)) g28_5
                    have f38 : M33 (P 7) = some (.inl (D.1 102, 120, .inl (A 7))) := by rw [eM33]; exact hm_up_o (hm_neO (po 7 (by decide)) (po 1 (by decide)) (by decide)) g28_7
                    have f39 : M33 (P 8) = some (.inl (D.1 102, 120, .inl (A 8))) := by rw [eM33]; exact hm_up_o (hm_neO (po 8 (by decide)) (po 1 (by decide)) (by decide)) g28_8
                    have f40 : M33 (P 9) = some (.inl (D.1 102, 120, .inl (A 9))) := by rw [eM33]; exact hm_up_o (hm_neO (po 9 (by decide)) (po 1 (by decide)) (by decide)) g28_9
                    have f41 : M33 (P 10) = some (.inl (D.1 102, 5760, .inl (A 10))) := by rw [eM33]; exact hm_up_o (hm_neO (po 10 (by decide)) (po 1 (by decide)) (by decide)) g28_10
                    have f42 : M33 (P 11) = some (.inl (D.1 102, 48, .inl (A 11))) := by rw [eM33]; exact hm_up_o (hm_neO (po 11 (by decide)) (po 1 (by decide)) (by decide)) g28_11
                    have f43 : M33 (P 14) = some (.inl (D.1 103, 6, .inr (.inl (L 14)))) := by rw [eM33]; exact hm_up_o (hm_neO (po 14 (by decide)) (po 1 (by decide)) (by decide)) g28_14
                    have f44 : M33 (P 15) = some (.inl (D.1 103, 6, .inr (.inl (L 15)))) := by rw [eM33]; exact hm_up_o (hm_neO (po 15 (by decide)) (po 1 (by decide)) (by decide)) g28_15
                    have f45 : M33 (P 16) = some (.inl (D.1 101, 16, .inl (A 16))) := by rw [eM33]; exact hm_up_o (hm_neO (po 16 (by decide)) (po 1 (by decide)) (by decide)) g28_16
                    have f46 : M33 (P 17) = some (.inl (D.1 101, 16, .inl (A 17))) := by rw [eM33]; exact hm_up_o (hm_neO (po 17 (by decide)) (po 1 (by decide)) (by decide)) g28_17
                    have f47 : M33 (P 19) = some (.inl (D.1 101, 2601, .inl (A 19))) := by rw [eM33]; exact hm_up_o (hm_neO (po 19 (by decide)) (po 1 (by decide)) (by decide)) g28_19
                    have f48 : M33 (P 20) = some (.inl (D.1 102, 52, .inl (A 20))) := by rw [eM33]; exact hm_up_o (hm_neO (po 20 (by decide)) (po 1 (by decide)) (by decide)) g28_20
                    have f49 : M33 (P 21) = some (.inl (D.1 102, 52, .inl (A 21))) := by rw [eM33]; exact hm_up_o (hm_neO (po 21 (by decide)) (po 1 (by decide)) (by decide)) g28_21
                    have f50 : M33 (P 1) = some (.inl (D.1 102, 48, .inl (upd fk ((t ++ ty_l w nn kq).length) (nI (by_at w (kq - 1)))))) := by rw [eM33]; exact hm_up_s
                    refine lv_aload_n hx hb dd_MO_type_105 rfl (lv_at hl 0 rfl) ?_
                    refine lv_dup hx hb dd_MO_type_106 rfl ?_
                    refine hm_get (ci := 6) (C := rn_MO) (T := ft_MO) (N := 22) hx hb hts fi_MO hown hE.K hP f34 rfl 2 (by decide) (hts _ tw_988) (fun _ h9 => h9) rfl dd_MO_type_107 ?_
                    refine lv_iconst (v := nI 1) hx hb dd_MO_type_110 (by decide +kernel) ?_
                    refine hn_iadd hx hb dd_MO_type_111 ?_
                    refine hm_put (ci := 6) (v := .int (nI (((t ++ ty_l w nn kq).length) + 1))) (ty := .int) (C := rn_MO) (T := ft_MO) (N := 22) hx hb hts fi_MO fy_MO fo_MO fn_MO hown hE.K hP hS (pb 0 (by decide)) f34 rfl 2 (by decide) (hts _ tw_988) (fun _ h9 => h9) rfl (by decide +kernel) rfl rfl (Nat.le_of_ble_eq_true rfl) dd_MO_type_112 (fun H locs hP hS => ?_)
                    have hP : hm_P D cl_W (hm_up M33 (P 0) (.inr (6, [.int (nI 0), .ref (P 1), .int (nI (((t ++ ty_l w nn kq).length) + 1)), .ref (P 3), .ref (P 4), .ref (P 5), .int (I 6), .ref (P 7), .ref (P 8), .ref (P 9), .ref (P 10), .ref (P 11), .int (I 12), .int (I 13), .ref (P 14), .ref (P 15), .ref (P 16), .ref (P 17), .int (I 18), .ref (P 19), .ref (P 20), .ref (P 21)]))) H := hP
                    obtain ⟨M51, eM51⟩ : ∃ z, z = hm_up M33 (P 0) (.inr (6, [.int (nI 0), .ref (P 1), .int (nI (((t ++ ty_l w nn kq).length) + 1)), .ref (P 3), .ref (P 4), .ref (P 5), .int (I 6), .ref (P 7), .ref (P 8), .ref (P 9), .ref (P 10), .ref (P 11), .int (I 12), .int (I 13), .ref (P 14), .ref (P 15), .ref (P 16), .ref (P 17), .int (I 18), .ref (P 19), .ref (P 20), .ref (P 21)])) := ⟨_, rfl⟩
                    rw [← eM51] at hP
                    have f52 : M51 (P 1) = some (.inl (D.1 102, 48, .inl (upd fk ((t ++ ty_l w nn kq).length) (nI (by_at w (kq - 1)))))) := by rw [eM51]; exact hm_up_o (hm_neO (po 1 (by decide)) (po 0 (by decide)) (by decide)) f50
                    have f53 : M51 (P 3) = some (.inl (D.1 102, 16, .inl (A 3))) := by rw [eM51]; exact hm_up_o (hm_neO (po 3 (by decide)) (po 0 (by decide)) (by decide)) f35
                    have f54 : M51 (P 4) = some (.inl (D.1 102, 16, .inl (A 4))) := by rw [eM51]; exact hm_up_o (hm_neO (po 4 (by decide)) (po 0 (by decide)) (by decide)) f36
                    have f55 : M51 (P 5) = some (.inl (D.1 101, 16, .inl (A 5))) := by rw [eM51]; exact hm_up_o (hm_neO (po 5 (by decide)) (po 0 (by decide)) (by decide)) f37
                    have f56 : M51 (P 7) = some (.inl (D.1 102, 120, .inl (A 7))) := by rw [eM51]; exact hm_up_o (hm_neO (po 7 (by decide)) (po 0 (by decide)) (by decide)) f38
                    have f57 : M51 (P 8) = some (.inl (D.1 102, 120, .inl (A 8))) := by rw [eM51]; exact hm_up_o (hm_neO (po 8 (by decide)) (po 0 (by decide)) (by decide)) f39
                    have f58 : M51 (P 9) = some (.inl (D.1 102, 120, .inl (A 9))) := by rw [eM51]; exact hm_up_o (hm_neO (po 9 (by decide)) (po 0 (by decide)) (by decide)) f40
                    have f59 : M51 (P 10) = some (.inl (D.1 102, 5760, .inl (A 10))) := by rw [eM51]; exact hm_up_o (hm_neO (po 10 (by decide)) (po 0 (by decide)) (by decide)) f41
                    have f60 : M51 (P 11) = some (.inl (D.1 102, 48, .inl (A 11))) := by rw [eM51]; exact hm_up_o (hm_neO (po 11 (by decide)) (po 0 (by decide)) (by decide)) f42
                    have f61 : M51 (P 14) = some (.inl (D.1 103, 6, .inr (.inl (L 14)))) := by rw [eM51]; exact hm_up_o (hm_neO (po 14 (by decide)) (po 0 (by decide)) (by decide)) f43
                    have f62 : M51 (P 15) = some (.inl (D.1 103, 6, .inr (.inl (L 15)))) := by rw [eM51]; exact hm_up_o (hm_neO (po 15 (by decide)) (po 0 (by decide)) (by decide)) f44
                    have f63 : M51 (P 16) = some (.inl (D.1 101, 16, .inl (A 16))) := by rw [eM51]; exact hm_up_o (hm_neO (po 16 (by decide)) (po 0 (by decide)) (by decide)) f45
                    have f64 : M51 (P 17) = some (.inl (D.1 101, 16, .inl (A 17))) := by rw [eM51]; exact hm_up_o (hm_neO (po 17 (by decide)) (po 0 (by decide)) (by decide)) f46
                    have f65 : M51 (P 19) = some (.inl (D.1 101, 2601, .inl (A 19))) := by rw [eM51]; exact hm_up_o (hm_neO (po 19 (by decide)) (po 0 (by decide)) (by decide)) f47
                    have f66 : M51 (P 20) = some (.inl (D.1 102, 52, .inl (A 20))) := by rw [eM51]; exact hm_up_o (hm_neO (po 20 (by decide)) (po 0 (by decide)) (by decide)) f48
                    have f67 : M51 (P 21) = some (.inl (D.1 102, 52, .inl (A 21))) := by rw [eM51]; exact hm_up_o (hm_neO (po 21 (by decide)) (po 0 (by decide)) (by decide)) f49
                    have f68 : M51 (P 0) = some (.inr (6, [.int (nI 0), .ref (P 1), .int (nI (((t ++ ty_l w nn kq).length) + 1)), .ref (P 3), .ref (P 4), .ref (P 5), .int (I 6), .ref (P 7), .ref (P 8), .ref (P 9), .ref (P 10), .ref (P 11), .int (I 12), .int (I 13), .ref (P 14), .ref (P 15), .ref (P 16), .ref (P 17), .int (I 18), .ref (P 19), .ref (P 20), .ref (P 21)])) := by rw [eM51]; exact hm_up_s
                    obtain ⟨x69, ex69⟩ : ∃ y : Int32, y = nI (kq - 1) + (-1) := ⟨_, rfl⟩
                    refine lv_iinc (v := x69) (lv' := [(4, .int x69), (0, .ref (P 0)), (1, .long w), (3, .int (nI nn))]) hx hb dd_MO_type_115 hl (k := 3) rfl (by rw [ex69]; rfl) (by decide) rfl (fun ls hl => ?_)
                    refine lv_goto (tgt := 79) hx hb dd_MO_type_118 (by decide) ?_
                    have hts9 : (t ++ ty_l w nn (kq - 1)) = (t ++ ty_l w nn kq) ++ [by_at w (kq - 1)] := by rw [ty_s (by omega), show kq - 1 + 1 = kq by omega, ← List.append_assoc]
                    have f70 : M51 (P 0) = some (.inr (6, [.int (nI 0), .ref (P 1), .int (nI ((t ++ ty_l w nn (kq - 1)).length)), .ref (P 3), .ref (P 4), .ref (P 5), .int (I 6), .ref (P 7), .ref (P 8), .ref (P 9), .ref (P 10), .ref (P 11), .int (I 12), .int (I 13), .ref (P 14), .ref (P 15), .ref (P 16), .ref (P 17), .int (I 18), .ref (P 19), .ref (P 20), .ref (P 21)])) := f68.trans (by rw [hts9, List.length_append (bs := [by_at w (kq - 1)]), List.length_singleton])
                    have kk71 : hm_k Mu79 Mu79 [(P 0), (P 1)] := hm_krf
                    have kk72 : hm_k Mu79 M33 [(P 0), (P 1)] := hm_ku kk71 (Or.inr (by simp)) eM33
                    have kk73 : hm_k Mu79 M51 [(P 0), (P 1)] := hm_ku kk72 (Or.inr (by simp)) eM51
                    exact ih79 (kq - 1) x69 (upd fk ((t ++ ty_l w nn kq).length) (nI (by_at w (kq - 1)))) M51 (by omega) (by rw [ex69, hi_add (by rw [nI_toInt (by omega)]; show _ ≤ _ + (-1 : Int); omega) (by rw [nI_toInt (by omega)]; show _ + (-1 : Int) < _; omega), nI_toInt (by omega)]; show _ + (-1 : Int) = _; omega) (by rw [hts9]; exact ap_get hfk) (⟨f70, f52, f53, f54, f55, f56, f57, f58, f59, f60, f61, f62, f63, f64, f65, f66, f67, po, pb⟩) ((hF79).trans (cz_F.k0 kk73 (hm_a2 ⟨by rw [po 0 (by decide)]; unfold pm; omega, _, f70⟩ ⟨by rw [po 1 (by decide)]; unfold pm; omega, _, f52⟩))) (by omega) _ _ _ hP hS (lv_sub hl [1, 2, 3, 0] rfl)
              have f74 : Mu32 (P 0) = some (.inr (6, [.int (nI 0), .ref (P 1), .int (nI ((t ++ ty_l w nn nn).length)), .ref (P 3), .ref (P 4), .ref (P 5), .int (I 6), .ref (P 7), .ref (P 8), .ref (P 9), .ref (P 10), .ref (P 11), .int (I 12), .int (I 13), .ref (P 14), .ref (P 15), .ref (P 16), .ref (P 17), .int (I 18), .ref (P 19), .ref (P 20), .ref (P 21)])) := g26_0.trans (by rw [ti1, show (t ++ ty_l w nn nn).length = t.length by rw [List.length_append, ty_len, Nat.sub_self, Nat.add_zero]])
              exact lp79 _ nn (nI (nn - 1)) (A 1) Mu32 (Nat.le_refl _) (by rw [nI_toInt (by omega)]; omega) (by rw [show ty_l w nn nn = [] by unfold ty_l; rw [Nat.sub_self]; rfl, List.append_nil]; exact ti2) (⟨f74, g26_1, g26_3, g26_4, g26_5, g26_7, g26_8, g26_9, g26_10, g26_11, g26_14, g26_15, g26_16, g26_17, g26_19, g26_20, g26_21, po, pb⟩) (hF32) (Nat.lt_succ_self _) _ _ _ hP hS (lv_sub hl [1, 2, 3, 0] rfl)
            · refine lv_lload_n hx hb dd_MO_type_38 rfl (lv_at hl 1 rfl) ?_
              refine lv_bipush (v := nI 8) hx hb dd_MO_type_39 (by decide +kernel) ?_
              refine lv_iload hx hb dd_MO_type_41 (lv_at hl 3 rfl) ?_
              refine hn_imul hx hb dd_MO_type_43 ?_
              refine lv_lshr hx hb dd_MO_type_44 rfl ?_
              refine lv_topl (fun w75 ew75 => ?_)
              refine lv_ldc2 (v := 255) hx hb hown (hts _ tw_1062) dd_MO_type_45 ?_
              refine lv_land hx hb dd_MO_type_48 ?_
              refine lv_topl (fun w76 ew76 => ?_)
              refine lv_l2i hx hb dd_MO_type_49 rfl ?_
              refine lv_topi (fun x77 ex77 => ?_)
              obtain rfl : x77 = nI (by_at w k) := by rw [ex77, ew76, ew75]; exact by_lsh w (by omega)
              have hbl := by_lt w k
              refine lv_istore (lv' := [(5, .int (nI (by_at w k))), (0, .ref (P 0)), (1, .long w), (3, .int (nI nn)), (4, .int (nI k))]) hx hb dd_MO_type_50 hl (by decide) rfl (fun ls hl => ?_)
              refine lv_iload hx hb dd_MO_type_52 (lv_at hl 0 rfl) ?_
              refine lv_bipush (v := nI 32) hx hb dd_MO_type_54 (by decide +kernel) ?_
              refine hn_icmp_lt (tgt := 66) hx hb (by omega) (by omega) dd_MO_type_56 (by decide) (fun c78 => ?_) (fun c78 => ?_)
              · refine lv_iconst (v := nI 0) hx hb dd_MO_type_66 (by decide +kernel) ?_
                have hno : ty_ok t.length w n = false := by
                  rw [ty_ok, Bool.and_eq_false_iff]
                  refine Or.inr (List.all_eq_false.mpr ⟨k, List.mem_range.mpr (by rw [hnT]; omega), ?_⟩)
                  rw [decide_eq_false (fun h9 => by omega)]; decide
                exact hm_Ei (v := nI 0) hx hb hr rfl hS hP (⟨bz_0 hno, (va_up I 0 (nI 0)), A, L, ⟨g26_0, g26_1, g26_3, g26_4, g26_5, g26_7, g26_8, g26_9, g26_10, g26_11, g26_14, g26_15, g26_16, g26_17, g26_19, g26_20, g26_21, po, pb⟩, rfl, ⟨by rw [ty_t, hno, if_neg (by decide)]; exact hT, hX, hQ, hB, hK, hH, hFo, hPs⟩, hF32⟩) hlocks (by omega) (by omega) dd_MO_type_67
              · refine lv_iload hx hb dd_MO_type_59 (lv_at hl 0 rfl) ?_
                refine lv_bipush (v := nI 126) hx hb dd_MO_type_61 (by decide +kernel) ?_
                refine hn_icmp_le (tgt := 68) hx hb (by omega) (by omega) dd_MO_type_63 (by decide) (fun c79 => ?_) (fun c79 => ?_)
                · refine lv_iinc (v := nI (k + 1)) (lv' := [(4, .int (nI (k + 1))), (5, .int (nI (by_at w k))), (0, .ref (P 0)), (1, .long w), (3, .int (nI nn))]) hx hb dd_MO_type_68 hl (k := 4) rfl (nI_1 k) (by decide) rfl (fun ls hl => ?_)
                  refine lv_goto (tgt := 32) hx hb dd_MO_type_71 (by decide) ?_
                  exact ih32 (k + 1) Mu32 (by omega) (fun j hj => by
                      by_cases h9 : j = k
                      · subst h9; omega
                      · exact hok j (by omega)) (⟨g26_0, g26_1, g26_3, g26_4, g26_5, g26_7, g26_8, g26_9, g26_10, g26_11, g26_14, g26_15, g26_16, g26_17, g26_19, g26_20, g26_21, po, pb⟩) (hF32) (by omega) _ _ _ hP hS (lv_sub hl [2, 3, 4, 0] rfl)
                · refine lv_iconst (v := nI 0) hx hb dd_MO_type_66 (by decide +kernel) ?_
                  have hno : ty_ok t.length w n = false := by
                    rw [ty_ok, Bool.and_eq_false_iff]
                    refine Or.inr (List.all_eq_false.mpr ⟨k, List.mem_range.mpr (by rw [hnT]; omega), ?_⟩)
                    rw [decide_eq_false (fun h9 => by omega)]; decide
                  exact hm_Ei (v := nI 0) hx hb hr rfl hS hP (⟨bz_0 hno, (va_up I 0 (nI 0)), A, L, ⟨g26_0, g26_1, g26_3, g26_4, g26_5, g26_7, g26_8, g26_9, g26_10, g26_11, g26_14, g26_15, g26_16, g26_17, g26_19, g26_20, g26_21, po, pb⟩, rfl, ⟨by rw [ty_t, hno, if_neg (by decide)]; exact hT, hX, hQ, hB, hK, hH, hFo, hPs⟩, hF32⟩) hlocks (by omega) (by omega) dd_MO_type_67
        have kk80 : hm_k M M [(P 0)] := hm_krf
        have kk81 : hm_k M M1 [(P 0)] := hm_ku kk80 (Or.inr (by simp)) eM1
        exact lp32 _ 0 M1 (Nat.zero_le _) (fun j hj => absurd hj (Nat.not_lt_zero _)) (⟨f18, f2, f3, f4, f5, f6, f7, f8, f9, f10, f11, f12, f13, f14, f15, f16, f17, po, pb⟩) (cz_F.k0 kk81 (hm_a1 ⟨by rw [po 0 (by decide)]; unfold pm; omega, _, f18⟩)) (Nat.lt_succ_self _) _ _ _ hP hS (lv_sub hl [1, 2, 3, 0] rfl)
      · refine lv_iconst (v := nI 0) hx hb dd_MO_type_27 (by decide +kernel) ?_
        have hno : ty_ok t.length w n = false := by
          rw [ty_ok, decide_eq_false (fun h9 => by
            obtain ⟨q1, q2, q3⟩ := h9
            omega)]; rfl
        have kk82 : hm_k M M [(P 0)] := hm_krf
        have kk83 : hm_k M M1 [(P 0)] := hm_ku kk82 (Or.inr (by simp)) eM1
        exact hm_Ei (v := nI 0) hx hb hr rfl hS hP (⟨bz_0 hno, (va_up I 0 (nI 0)), A, L, ⟨f18, f2, f3, f4, f5, f6, f7, f8, f9, f10, f11, f12, f13, f14, f15, f16, f17, po, pb⟩, rfl, ⟨by rw [ty_t, hno, if_neg (by decide)]; exact hT, hX, hQ, hB, hK, hH, hFo, hPs⟩, cz_F.k0 kk83 (hm_a1 ⟨by rw [po 0 (by decide)]; unfold pm; omega, _, f18⟩)⟩) hlocks (by omega) (by omega) dd_MO_type_28
def of_P (x w : Int32) (b : bd_T) : Bool := (decide (w.toInt = 0) && bd_fr x b) || ((decide (w.toInt = 1) && bd_to x false b) || (decide (w.toInt = 2) && bd_to x true b))
theorem to_16 {x : Int32} (h : in16 x) : (nI 16 + x).toInt = 16 + x.toInt := by
  have t16 : (nI 16).toInt = 16 := by decide
  have := h.1
  have := h.2
  rw [hi_add (by omega) (by omega), t16]
theorem to_v {y : Int32} (q : Bool) (h : in16 y) : (to_I y q).toInt = y.toInt + 16 * bz q := by
  cases q
  · rw [to_I, if_neg (by decide)]; show _ = _ + 16 * 0; omega
  · rw [to_I, if_pos rfl, to_16 h]; show _ = _ + 16 * 1; omega
theorem to_bd {x : Int32} {d : bd_T} (q : Bool) (hx : in16 x) (hd : in16 d.2.1) : bd_to x q d = decide ((to_I d.2.1 d.2.2.1).toInt = (to_I x q).toInt) := by
  rw [to_v _ hx, to_v _ hd, bd_to]
  have := hx.1
  have := hx.2
  have := hd.1
  have := hd.2
  have b1 : bz q ≤ 1 := by cases q <;> decide
  have b2 : bz d.2.2.1 ≤ 1 := by cases d.2.2.1 <;> decide
  by_cases e : d.2.1 = x
  · rw [decide_eq_true e, Bool.true_and]
    by_cases f : d.2.2.1 = q
    · rw [f, e, decide_eq_true rfl]; simp
    · rw [decide_eq_false (fun h9 => f (bz_inj (by rw [e] at h9; omega)))]; simp [f]
  · rw [decide_eq_false e, decide_eq_false (fun h9 => e (Int32.toInt_inj.mp (by omega)))]; rfl
theorem of_Pd {x w : Int32} {d : bd_T} (hx : in16 x) (hd : in16 d.2.1) : of_P x w d = decide ((w.toInt = 0 ∧ d.1.toInt = x.toInt) ∨ (w.toInt = 1 ∧ (to_I d.2.1 d.2.2.1).toInt = x.toInt) ∨ (w.toInt = 2 ∧ (to_I d.2.1 d.2.2.1).toInt = (nI 16 + x).toInt)) := by
  rw [of_P, to_bd false hx hd, to_bd true hx hd, bd_fr]
  have e1 : to_I x false = x := rfl
  have e2 : to_I x true = nI 16 + x := rfl
  have e3 : decide (d.1 = x) = decide (d.1.toInt = x.toInt) := by
    by_cases e : d.1 = x
    · rw [e]; simp
    · rw [decide_eq_false e, decide_eq_false (fun h9 => e (Int32.toInt_inj.mp h9))]
  rw [e1, e2, e3]
  simp only [Bool.decide_or, Bool.decide_and]
theorem of_c {ex : Nat → Option (Int32 × Int32)} {qs : Nat → Bool} {bs : List bd_T} {x w : Int32} (hw : 0 ≤ w.toInt ∧ w.toInt < 3) (h : if w.toInt = 2 then qu_at qs x = true else (ex_at ex x).isSome = true) : of_r ex qs bs x w = nI (bs.countP (of_P x w)) := by
  have hc : ∀ P : bd_T → Bool, (∀ b, of_P x w b = P b) → bs.countP (of_P x w) = bs.countP P := fun P hP => by rw [show of_P x w = P from funext hP]
  rw [of_r]
  by_cases h2 : w.toInt = 2
  · rw [if_pos h2] at h ⊢
    rw [if_pos h, hc (bd_to x true) (fun b => by simp [of_P, h2])]
  · rw [if_neg h2] at h ⊢
    obtain ⟨e, he⟩ := Option.isSome_iff_exists.mp h
    rw [he]
    by_cases h0 : w.toInt = 0
    · show (if w.toInt = 0 then _ else _) = _
      rw [if_pos h0, hc (bd_fr x) (fun b => by simp [of_P, h0])]
    · have h1 : w.toInt = 1 := by omega
      show (if w.toInt = 0 then _ else _) = _
      rw [if_neg h0, if_pos h1, hc (bd_to x false) (fun b => by simp [of_P, h1])]
theorem exS_v {A : Nat → Nat → Int32} {ex : Nat → Option (Int32 × Int32)} {x : Int32} (h : exS (A 3) (A 4) ex) (hs : (ex_at ex x).isSome = true) : ∃ s o, ex_at ex x = some (s, o) ∧ A 3 x.toInt.toNat = s ∧ A 4 x.toInt.toNat = o ∧ 0 ≤ s.toInt ∧ s.toInt ≤ 3 := by
  have hin := ex_some hs
  rw [ex_in hin] at hs ⊢
  rcases h x.toInt.toNat (by have := hin.1; have := hin.2; omega) with ⟨h1, h2⟩ | h1
  · rw [h1] at hs; cases hs
  · exact h1
theorem qu_in {qs : Nat → Bool} {x : Int32} (h : qu_at qs x = true) : in16 x := by
  rw [qu_at, Bool.and_eq_true] at h
  exact of_decide_eq_true h.1

theorem of_x {ex : Nat → Option (Int32 × Int32)} {qs : Nat → Bool} {bs : List bd_T} {x w s o : Int32} (h : ex_at ex x = some (s, o)) (hw : ¬ w.toInt = 2) : of_r ex qs bs x w = if w.toInt = 0 then nI (bs.countP (bd_fr x)) else if w.toInt = 1 then nI (bs.countP (bd_to x false)) else if w.toInt = 3 then s else if w.toInt = 4 then o else -1 := by
  rw [of_r, if_neg hw, h]
theorem of_no {ex : Nat → Option (Int32 × Int32)} {qs : Nat → Bool} {bs : List bd_T} {x w : Int32} (h : if w.toInt = 2 then qu_at qs x = false else (ex_at ex x).isSome = false) : of_r ex qs bs x w = -1 := by
  rw [of_r]
  by_cases h2 : w.toInt = 2
  · rw [if_pos h2] at h ⊢; rw [h]; rfl
  · rw [if_neg h2] at h ⊢; rw [Option.isSome_eq_false_iff, Option.isNone_iff_eq_none] at h; rw [h]

set_option maxHeartbeats 4000000 in
set_option maxRecDepth 100000 in
theorem kc_MO_of (l : Launch) (B : Nat) (D : va_G) (G : Nat → Nat) (M : hm_M) (P O : Nat → Nat) (I : Nat → Int32) (A : Nat → Nat → Int32) (L : Nat → Nat → Int64) (hD : mo_D B D P O M I A L) (t : List Nat) (ex : Nat → Option (Int32 × Int32)) (qs : Nat → Bool) (bs : List bd_T) (key : List Nat) (hs : List (List Nat × List Nat)) (fo ps : Nat → Bool) (hZ : mo_S I A L t ex qs bs key hs fo ps) (x w : Int32) : Met l yy_MO_of ws_MO_of ({ frames := 1, cells := 0, slots := 0, locals := 21 }) (hm_Pc B D G M [.ref (P 0), .int x, .int w]) (hm_Ni B D (fun r M1 => r = of_r ex qs bs x w ∧ ∃ I1 A1 L1, mo_D B D P O M1 I1 A1 L1 ∧ I1 0 = nI 0 ∧ mo_S I1 A1 L1 t ex qs bs key hs fo ps ∧ cz_F O M O M1 pm)) (0) (0) (hm_A B) := by
  refine Met.ofW (cc := cd_MO_of) (maxL := 5) (ret := ((some FieldType.int))) (by decide) rfl ?_
  intro p e s m args below meth c s₁ B0 hml hv
  obtain ⟨rfl, hE, hP⟩ := hv
  have hx := B0.exec
  have hb := B0.bytes
  have hr := B0.returns
  have hts : ∀ w ∈ tb_G, w.before _ s = true := fun w h => atoms_spec (ws := ws_MO_of) B0.pre w (List.mem_cons_of_mem _ h)
  have hown : s.vm.findClass "RouteDeskModel" = some m.cls := findClass_of_methodNamed B0.named
  have hlocks := B0.notSynchronized
  have hRf : (headSpec ws_MO_of { frames := 1, cells := 0, slots := 0, locals := 21 }).room.frames = 1 := rfl
  have hRl : (headSpec ws_MO_of { frames := 1, cells := 0, slots := 0, locals := 21 }).room.locals = 21 := rfl
  have hRc : (headSpec ws_MO_of { frames := 1, cells := 0, slots := 0, locals := 21 }).room.cells = 0 := rfl
  have hRs : (headSpec ws_MO_of { frames := 1, cells := 0, slots := 0, locals := 21 }).room.slots = 0 := rfl
  generalize (headSpec ws_MO_of { frames := 1, cells := 0, slots := 0, locals := 21 }).room = R at hRf hRl hRc hRs ⊢
  have hS : va_S (hm_A B) s.heap s.heap [] := va_S.rf
  have hl := lv_entry ([.ref (P 0), .int x, .int w]) (n := 5) (Nat.le_of_ble_eq_true rfl)
  rw [lg_entry_eq]
  generalize (lg_sl ([.ref (P 0), .int x, .int w]) ++ List.replicate (5 - (lg_sl ([.ref (P 0), .int x, .int w])).length) Slot.unset).toArray = ls at hl ⊢
  have hl : lv_has ls 5 [(0, .ref (P 0)), (1, .int x), (2, .int w)] := hl
  have t16 : (nI 16).toInt = 16 := by decide
  have tm1 : (-1 : Int32).toInt = -1 := by decide
  have t0 : (nI 0).toInt = 0 := by decide
  have t2 : (nI 2).toInt = 2 := by decide
  have t3 : (nI 3).toInt = 3 := by decide
  have t1 : (nI 1).toInt = 1 := by decide
  have t4 : (nI 4).toInt = 4 := by decide
  obtain ⟨p0, p1, p3, p4, p5, p7, p8, p9, p10, p11, p14, p15, p16, p17, p19, p20, p21, po, pb⟩ := id hD
  obtain ⟨hT, hX, hQ, hB, hK, hH, hFo, hPs⟩ := id hZ
  obtain ⟨ti1, ti2, ti3, ti4⟩ := id hT
  obtain ⟨bi1, bi2, bi3⟩ := id hB
  obtain ⟨ki1, ki2, ki3, ki4⟩ := id hK
  obtain ⟨hi1, hi2, hi3⟩ := id hH
  refine lv_aload_n hx hb dd_MO_of_0 rfl (lv_at hl 0 rfl) ?_
  refine lv_iconst (v := nI 0) hx hb dd_MO_of_1 (by decide +kernel) ?_
  refine hm_put (ci := 6) (v := .int (nI 0)) (ty := .int) (C := rn_MO) (T := ft_MO) (N := 22) hx hb hts fi_MO fy_MO fo_MO fn_MO hown hE.K hP hS (pb 0 (by decide)) p0 rfl 0 (by decide) (hts _ tw_986) (fun _ h9 => h9) rfl (by decide +kernel) rfl rfl (Nat.le_of_ble_eq_true rfl) dd_MO_of_2 (fun H locs hP hS => ?_)
  have hP : hm_P D cl_W (hm_up M (P 0) (.inr (6, [.int (nI 0), .ref (P 1), .int (I 2), .ref (P 3), .ref (P 4), .ref (P 5), .int (I 6), .ref (P 7), .ref (P 8), .ref (P 9), .ref (P 10), .ref (P 11), .int (I 12), .int (I 13), .ref (P 14), .ref (P 15), .ref (P 16), .ref (P 17), .int (I 18), .ref (P 19), .ref (P 20), .ref (P 21)]))) H := hP
  obtain ⟨M1, eM1⟩ : ∃ z, z = hm_up M (P 0) (.inr (6, [.int (nI 0), .ref (P 1), .int (I 2), .ref (P 3), .ref (P 4), .ref (P 5), .int (I 6), .ref (P 7), .ref (P 8), .ref (P 9), .ref (P 10), .ref (P 11), .int (I 12), .int (I 13), .ref (P 14), .ref (P 15), .ref (P 16), .ref (P 17), .int (I 18), .ref (P 19), .ref (P 20), .ref (P 21)])) := ⟨_, rfl⟩
  rw [← eM1] at hP
  have f2 : M1 (P 1) = some (.inl (D.1 102, 48, .inl (A 1))) := by rw [eM1]; exact hm_up_o (hm_neO (po 1 (by decide)) (po 0 (by decide)) (by decide)) p1
  have f3 : M1 (P 3) = some (.inl (D.1 102, 16, .inl (A 3))) := by rw [eM1]; exact hm_up_o (hm_neO (po 3 (by decide)) (po 0 (by decide)) (by decide)) p3
  have f4 : M1 (P 4) = some (.inl (D.1 102, 16, .inl (A 4))) := by rw [eM1]; exact hm_up_o (hm_neO (po 4 (by decide)) (po 0 (by decide)) (by decide)) p4
  have f5 : M1 (P 5) = some (.inl (D.1 101, 16, .inl (A 5))) := by rw [eM1]; exact hm_up_o (hm_neO (po 5 (by decide)) (po 0 (by decide)) (by decide)) p5
  have f6 : M1 (P 7) = some (.inl (D.1 102, 120, .inl (A 7))) := by rw [eM1]; exact hm_up_o (hm_neO (po 7 (by decide)) (po 0 (by decide)) (by decide)) p7
  have f7 : M1 (P 8) = some (.inl (D.1 102, 120, .inl (A 8))) := by rw [eM1]; exact hm_up_o (hm_neO (po 8 (by decide)) (po 0 (by decide)) (by decide)) p8
  have f8 : M1 (P 9) = some (.inl (D.1 102, 120, .inl (A 9))) := by rw [eM1]; exact hm_up_o (hm_neO (po 9 (by decide)) (po 0 (by decide)) (by decide)) p9
  have f9 : M1 (P 10) = some (.inl (D.1 102, 5760, .inl (A 10))) := by rw [eM1]; exact hm_up_o (hm_neO (po 10 (by decide)) (po 0 (by decide)) (by decide)) p10
  have f10 : M1 (P 11) = some (.inl (D.1 102, 48, .inl (A 11))) := by rw [eM1]; exact hm_up_o (hm_neO (po 11 (by decide)) (po 0 (by decide)) (by decide)) p11
  have f11 : M1 (P 14) = some (.inl (D.1 103, 6, .inr (.inl (L 14)))) := by rw [eM1]; exact hm_up_o (hm_neO (po 14 (by decide)) (po 0 (by decide)) (by decide)) p14
  have f12 : M1 (P 15) = some (.inl (D.1 103, 6, .inr (.inl (L 15)))) := by rw [eM1]; exact hm_up_o (hm_neO (po 15 (by decide)) (po 0 (by decide)) (by decide)) p15
  have f13 : M1 (P 16) = some (.inl (D.1 101, 16, .inl (A 16))) := by rw [eM1]; exact hm_up_o (hm_neO (po 16 (by decide)) (po 0 (by decide)) (by decide)) p16
  have f14 : M1 (P 17) = some (.inl (D.1 101, 16, .inl (A 17))) := by rw [eM1]; exact hm_up_o (hm_neO (po 17 (by decide)) (po 0 (by decide)) (by decide)) p17
  have f15 : M1 (P 19) = some (.inl (D.1 101, 2601, .inl (A 19))) := by rw [eM1]; exact hm_up_o (hm_neO (po 19 (by decide)) (po 0 (by decide)) (by decide)) p19
  have f16 : M1 (P 20) = some (.inl (D.1 102, 52, .inl (A 20))) := by rw [eM1]; exact hm_up_o (hm_neO (po 20 (by decide)) (po 0 (by decide)) (by decide)) p20
  have f17 : M1 (P 21) = some (.inl (D.1 102, 52, .inl (A 21))) := by rw [eM1]; exact hm_up_o (hm_neO (po 21 (by decide)) (po 0 (by decide)) (by decide)) p21
  have f18 : M1 (P 0) = some (.inr (6, [.int (nI 0), .ref (P 1), .int (I 2), .ref (P 3), .ref (P 4), .ref (P 5), .int (I 6), .ref (P 7), .ref (P 8), .ref (P 9), .ref (P 10), .ref (P 11), .int (I 12), .int (I 13), .ref (P 14), .ref (P 15), .ref (P 16), .ref (P 17), .int (I 18), .ref (P 19), .ref (P 20), .ref (P 21)])) := by rw [eM1]; exact hm_up_s
  refine lv_iload_n hx hb dd_MO_of_5 rfl (lv_at hl 2 rfl) ?_
  refine lv_iconst (v := nI 2) hx hb dd_MO_of_6 (by decide +kernel) ?_
  refine hi_icmp_ne (tgt := 21) hx hb dd_MO_of_7 (by decide) (fun c19 => ?_) (fun c19 => ?_)
  · refine lv_aload_n hx hb dd_MO_of_21 rfl (lv_at hl 0 rfl) ?_
    refine lv_iload_n hx hb dd_MO_of_22 rfl (lv_at hl 1 rfl) ?_
    have hd20 : mo_D B D P O M1 (va_up I 0 (nI 0)) A L := ⟨f18, f2, f3, f4, f5, f6, f7, f8, f9, f10, f11, f12, f13, f14, f15, f16, f17, po, pb⟩
    refine hm_ci hS (hm_rV 1 (As := [.int x]) (rest := []) ⟨hx, hb, hml, hown, hts⟩ hE hS hP (kc_MO_isExchange l B D G M1 P O (va_up I 0 (nI 0)) A L hd20 x) rfl f18 tw_1078 tw_1075 tw_1077 tw_18 tw_46 (by decide +kernel) rfl rfl ⟨by show 0 + 1 ≤ R.frames; omega, by show 8 + (2 + 11) + 0 ≤ R.locals; omega⟩ rfl hl.1 rfl (Nat.le_of_ble_eq_true rfl) dd_MO_of_23 ⟨by omega, by omega⟩) (fun r21 M22 H locs hw23 hP hS => ?_)
    refine W.widen (k := 0) (n := 0) (by omega) (by omega) ?_
    obtain ⟨hrM22, eM22⟩ := hw23
    rw [eM22] at hP
    have hrM22 := hrM22.trans (by rw [exS_x (A := A) hX])
    obtain rfl : r21 = nI (bz (ex_at ex x).isSome) := hrM22
    refine hn_if_ne (tgt := 31) hx hb (bz_b _) dd_MO_of_26 (by decide) (fun c24 => ?_) (fun c24 => ?_)
    · have hxs := bz_t c24
      obtain ⟨s9, o9, hev⟩ := exS_v hX hxs
      have hin := ex_some hxs
      have hin1 := hin.1
      have hin2 := hin.2
      refine lv_iconst (v := nI 0) hx hb dd_MO_of_31 (by decide +kernel) ?_
      refine lv_istore_n (lv' := [(3, .int (nI 0)), (0, .ref (P 0)), (1, .int x), (2, .int w)]) hx hb dd_MO_of_32 rfl hl (by decide) rfl (fun ls hl => ?_)
      refine lv_iconst (v := nI 0) hx hb dd_MO_of_33 (by decide +kernel) ?_
      refine lv_istore (lv' := [(4, .int (nI 0)), (3, .int (nI 0)), (0, .ref (P 0)), (1, .int x), (2, .int w)]) hx hb dd_MO_of_34 hl (by decide) rfl (fun ls hl => ?_)
      have lp36 : ∀ (n9 : Nat) (k : Nat) (q9 : Nat) (Mu36 : hm_M), (k ≤ bs.length) → (q9 = (bs.take k).countP (of_P x w)) → (mo_D B D P O Mu36 (va_up I 0 (nI 0)) A L) → (cz_F O M O Mu36 pm) → bs.length - k < n9 → ∀ (H : Heap) (locs : List Loc) (ls : Array Slot), hm_P D cl_W Mu36 H → va_S (hm_A B) s.heap H locs → lv_has ls 5 [(0, .ref (P 0)), (1, .int x), (2, .int w), (3, .int (nI q9)), (4, .int (nI k))] → W p l e R s m ([.ref (P 0), .int x, .int w] : List Value).toArray below meth c H locs (0) (0) (MQ below (hm_Ni B D (fun r M1 => r = of_r ex qs bs x w ∧ ∃ I1 A1 L1, mo_D B D P O M1 I1 A1 L1 ∧ I1 0 = nI 0 ∧ mo_S I1 A1 L1 t ex qs bs key hs fo ps ∧ cz_F O M O M1 pm)) ([.ref (P 0), .int x, .int w] : List Value).toArray s (0) (0) (hm_A B)) (F0 m 36 ls []) := by
        intro n9
        induction n9 with
        | zero => intro k q9 Mu36 hk hq9 hd36 hF36 hm; exact absurd hm (Nat.not_lt_zero _)
        | succ n9 ih36 =>
          intro k q9 Mu36 hk hq9 hd36 hF36 hm H locs ls hP hS hl
          obtain ⟨g25_0, g25_1, g25_3, g25_4, g25_5, g25_7, g25_8, g25_9, g25_10, g25_11, g25_14, g25_15, g25_16, g25_17, g25_19, g25_20, g25_21, -, -⟩ := id hd36
          have g25_0 : Mu36 (P 0) = some (.inr (6, [.int (nI 0), .ref (P 1), .int (I 2), .ref (P 3), .ref (P 4), .ref (P 5), .int (I 6), .ref (P 7), .ref (P 8), .ref (P 9), .ref (P 10), .ref (P 11), .int (I 12), .int (I 13), .ref (P 14), .ref (P 15), .ref (P 16), .ref (P 17), .int (I 18), .ref (P 19), .ref (P 20), .ref (P 21)])) := g25_0
          have hq8 : q9 ≤ k := by rw [hq9]; exact ct_le
          refine lv_iload hx hb dd_MO_of_36 (lv_at hl 4 rfl) ?_
          refine lv_aload_n hx hb dd_MO_of_38 rfl (lv_at hl 0 rfl) ?_
          refine hm_get (ci := 6) (C := rn_MO) (T := ft_MO) (N := 22) hx hb hts fi_MO hown hE.K hP g25_0 rfl 6 (by decide) (hts _ tw_992) (fun _ h9 => h9) rfl dd_MO_of_39 ?_
          refine W.eq (g2 := F0 m 42 ls [.int (nI bs.length), .int (nI k)]) (by rw [bi1]) ?_
          refine hn_icmp_ge (tgt := 109) hx hb (by omega) (by omega) dd_MO_of_42 (by decide) (fun c26 => ?_) (fun c26 => ?_)
          · refine lv_iload_n hx hb dd_MO_of_109 rfl (lv_at hl 2 rfl) ?_
            refine hi_if_lt (tgt := 122) hx hb dd_MO_of_110 (by decide) (fun c27 => ?_) (fun c27 => ?_)
            · refine lv_iload_n hx hb dd_MO_of_122 rfl (lv_at hl 2 rfl) ?_
              refine lv_iconst (v := nI 3) hx hb dd_MO_of_123 (by decide +kernel) ?_
              refine hi_icmp_ne (tgt := 136) hx hb dd_MO_of_124 (by decide) (fun c28 => ?_) (fun c28 => ?_)
              · refine lv_iload_n hx hb dd_MO_of_136 rfl (lv_at hl 2 rfl) ?_
                refine lv_iconst (v := nI 4) hx hb dd_MO_of_137 (by decide +kernel) ?_
                refine hi_icmp_ne (tgt := 150) hx hb dd_MO_of_138 (by decide) (fun c29 => ?_) (fun c29 => ?_)
                · refine lv_iconst (v := (-1)) hx hb dd_MO_of_150 (by decide +kernel) ?_
                  have hofr := of_x (bs := bs) (qs := qs) (w := w) hev.1 (by omega)
                  exact hm_Ei (v := (-1)) hx hb hr rfl hS hP (⟨(by rw [hofr, if_neg (by omega), if_neg (by omega), if_neg (by omega), if_neg (by omega)]), (va_up I 0 (nI 0)), A, L, ⟨g25_0, g25_1, g25_3, g25_4, g25_5, g25_7, g25_8, g25_9, g25_10, g25_11, g25_14, g25_15, g25_16, g25_17, g25_19, g25_20, g25_21, po, pb⟩, rfl, ⟨hT, hX, hQ, hB, hK, hH, hFo, hPs⟩, hF36⟩) hlocks (by omega) (by omega) dd_MO_of_151
                · refine lv_aload_n hx hb dd_MO_of_141 rfl (lv_at hl 0 rfl) ?_
                  refine hm_get (ci := 6) (C := rn_MO) (T := ft_MO) (N := 22) hx hb hts fi_MO hown hE.K hP g25_0 rfl 4 (by decide) (hts _ tw_990) (fun _ h9 => h9) rfl dd_MO_of_142 ?_
                  refine lv_iload_n hx hb dd_MO_of_145 rfl (lv_at hl 1 rfl) ?_
                  refine hm_iald (j := x.toInt.toNat) hx hb hE.K hP 2 g25_4 rfl (hi_in (by omega) (by omega)) hi_clamp dd_MO_of_146 ?_
                  refine W.eq (g2 := F0 m 147 ls [.int o9]) (by rw [hev.2.2.1]) ?_
                  refine lv_goto (tgt := 151) hx hb dd_MO_of_147 (by decide) ?_
                  have hofr := of_x (bs := bs) (qs := qs) (w := w) hev.1 (by omega)
                  exact hm_Ei (v := o9) hx hb hr rfl hS hP (⟨(by rw [hofr, if_neg (by omega), if_neg (by omega), if_neg (by omega), if_pos (by omega)]), (va_up I 0 (nI 0)), A, L, ⟨g25_0, g25_1, g25_3, g25_4, g25_5, g25_7, g25_8, g25_9, g25_10, g25_11, g25_14, g25_15, g25_16, g25_17, g25_19, g25_20, g25_21, po, pb⟩, rfl, ⟨hT, hX, hQ, hB, hK, hH, hFo, hPs⟩, hF36⟩) hlocks (by omega) (by omega) dd_MO_of_151
              · refine lv_aload_n hx hb dd_MO_of_127 rfl (lv_at hl 0 rfl) ?_
                refine hm_get (ci := 6) (C := rn_MO) (T := ft_MO) (N := 22) hx hb hts fi_MO hown hE.K hP g25_0 rfl 3 (by decide) (hts _ tw_989) (fun _ h9 => h9) rfl dd_MO_of_128 ?_
                refine lv_iload_n hx hb dd_MO_of_131 rfl (lv_at hl 1 rfl) ?_
                refine hm_iald (j := x.toInt.toNat) hx hb hE.K hP 2 g25_3 rfl (hi_in (by omega) (by omega)) hi_clamp dd_MO_of_132 ?_
                refine W.eq (g2 := F0 m 133 ls [.int s9]) (by rw [hev.2.1]) ?_
                refine lv_goto (tgt := 151) hx hb dd_MO_of_133 (by decide) ?_
                have hofr := of_x (bs := bs) (qs := qs) (w := w) hev.1 (by omega)
                exact hm_Ei (v := s9) hx hb hr rfl hS hP (⟨(by rw [hofr, if_neg (by omega), if_neg (by omega), if_pos (by omega)]), (va_up I 0 (nI 0)), A, L, ⟨g25_0, g25_1, g25_3, g25_4, g25_5, g25_7, g25_8, g25_9, g25_10, g25_11, g25_14, g25_15, g25_16, g25_17, g25_19, g25_20, g25_21, po, pb⟩, rfl, ⟨hT, hX, hQ, hB, hK, hH, hFo, hPs⟩, hF36⟩) hlocks (by omega) (by omega) dd_MO_of_151
            · refine lv_iload_n hx hb dd_MO_of_113 rfl (lv_at hl 2 rfl) ?_
              refine lv_iconst (v := nI 3) hx hb dd_MO_of_114 (by decide +kernel) ?_
              refine hi_icmp_ge (tgt := 122) hx hb dd_MO_of_115 (by decide) (fun c30 => ?_) (fun c30 => ?_)
              · refine lv_iload_n hx hb dd_MO_of_122 rfl (lv_at hl 2 rfl) ?_
                refine lv_iconst (v := nI 3) hx hb dd_MO_of_123 (by decide +kernel) ?_
                refine hi_icmp_ne (tgt := 136) hx hb dd_MO_of_124 (by decide) (fun c31 => ?_) (fun c31 => ?_)
                · refine lv_iload_n hx hb dd_MO_of_136 rfl (lv_at hl 2 rfl) ?_
                  refine lv_iconst (v := nI 4) hx hb dd_MO_of_137 (by decide +kernel) ?_
                  refine hi_icmp_ne (tgt := 150) hx hb dd_MO_of_138 (by decide) (fun c32 => ?_) (fun c32 => ?_)
                  · refine lv_iconst (v := (-1)) hx hb dd_MO_of_150 (by decide +kernel) ?_
                    have hofr := of_x (bs := bs) (qs := qs) (w := w) hev.1 (by omega)
                    exact hm_Ei (v := (-1)) hx hb hr rfl hS hP (⟨(by rw [hofr, if_neg (by omega), if_neg (by omega), if_neg (by omega), if_neg (by omega)]), (va_up I 0 (nI 0)), A, L, ⟨g25_0, g25_1, g25_3, g25_4, g25_5, g25_7, g25_8, g25_9, g25_10, g25_11, g25_14, g25_15, g25_16, g25_17, g25_19, g25_20, g25_21, po, pb⟩, rfl, ⟨hT, hX, hQ, hB, hK, hH, hFo, hPs⟩, hF36⟩) hlocks (by omega) (by omega) dd_MO_of_151
                  · refine lv_aload_n hx hb dd_MO_of_141 rfl (lv_at hl 0 rfl) ?_
                    refine hm_get (ci := 6) (C := rn_MO) (T := ft_MO) (N := 22) hx hb hts fi_MO hown hE.K hP g25_0 rfl 4 (by decide) (hts _ tw_990) (fun _ h9 => h9) rfl dd_MO_of_142 ?_
                    refine lv_iload_n hx hb dd_MO_of_145 rfl (lv_at hl 1 rfl) ?_
                    refine hm_iald (j := x.toInt.toNat) hx hb hE.K hP 2 g25_4 rfl (hi_in (by omega) (by omega)) hi_clamp dd_MO_of_146 ?_
                    refine W.eq (g2 := F0 m 147 ls [.int o9]) (by rw [hev.2.2.1]) ?_
                    refine lv_goto (tgt := 151) hx hb dd_MO_of_147 (by decide) ?_
                    have hofr := of_x (bs := bs) (qs := qs) (w := w) hev.1 (by omega)
                    exact hm_Ei (v := o9) hx hb hr rfl hS hP (⟨(by rw [hofr, if_neg (by omega), if_neg (by omega), if_neg (by omega), if_pos (by omega)]), (va_up I 0 (nI 0)), A, L, ⟨g25_0, g25_1, g25_3, g25_4, g25_5, g25_7, g25_8, g25_9, g25_10, g25_11, g25_14, g25_15, g25_16, g25_17, g25_19, g25_20, g25_21, po, pb⟩, rfl, ⟨hT, hX, hQ, hB, hK, hH, hFo, hPs⟩, hF36⟩) hlocks (by omega) (by omega) dd_MO_of_151
                · refine lv_aload_n hx hb dd_MO_of_127 rfl (lv_at hl 0 rfl) ?_
                  refine hm_get (ci := 6) (C := rn_MO) (T := ft_MO) (N := 22) hx hb hts fi_MO hown hE.K hP g25_0 rfl 3 (by decide) (hts _ tw_989) (fun _ h9 => h9) rfl dd_MO_of_128 ?_
                  refine lv_iload_n hx hb dd_MO_of_131 rfl (lv_at hl 1 rfl) ?_
                  refine hm_iald (j := x.toInt.toNat) hx hb hE.K hP 2 g25_3 rfl (hi_in (by omega) (by omega)) hi_clamp dd_MO_of_132 ?_
                  refine W.eq (g2 := F0 m 133 ls [.int s9]) (by rw [hev.2.1]) ?_
                  refine lv_goto (tgt := 151) hx hb dd_MO_of_133 (by decide) ?_
                  have hofr := of_x (bs := bs) (qs := qs) (w := w) hev.1 (by omega)
                  exact hm_Ei (v := s9) hx hb hr rfl hS hP (⟨(by rw [hofr, if_neg (by omega), if_neg (by omega), if_pos (by omega)]), (va_up I 0 (nI 0)), A, L, ⟨g25_0, g25_1, g25_3, g25_4, g25_5, g25_7, g25_8, g25_9, g25_10, g25_11, g25_14, g25_15, g25_16, g25_17, g25_19, g25_20, g25_21, po, pb⟩, rfl, ⟨hT, hX, hQ, hB, hK, hH, hFo, hPs⟩, hF36⟩) hlocks (by omega) (by omega) dd_MO_of_151
              · refine lv_iload_n hx hb dd_MO_of_118 rfl (lv_at hl 3 rfl) ?_
                refine lv_goto (tgt := 151) hx hb dd_MO_of_119 (by decide) ?_
                exact hm_Ei (v := nI q9) hx hb hr rfl hS hP (⟨(by rw [of_c ⟨by omega, by omega⟩ (by first | (rw [if_pos (by omega)]; exact hqs) | (rw [if_neg (by omega)]; exact hxs)), hq9, List.take_of_length_le (by omega)]), (va_up I 0 (nI 0)), A, L, ⟨g25_0, g25_1, g25_3, g25_4, g25_5, g25_7, g25_8, g25_9, g25_10, g25_11, g25_14, g25_15, g25_16, g25_17, g25_19, g25_20, g25_21, po, pb⟩, rfl, ⟨hT, hX, hQ, hB, hK, hH, hFo, hPs⟩, hF36⟩) hlocks (by omega) (by omega) dd_MO_of_151
          · obtain ⟨b, hb1⟩ : ∃ b, bs[k]? = some b := ⟨_, List.getElem?_eq_getElem (by omega)⟩
            obtain ⟨bf1, bf2, bf3, bf4, bf5⟩ := bi3 k b hb1
            refine lv_iload_n hx hb dd_MO_of_45 rfl (lv_at hl 3 rfl) ?_
            refine lv_iload_n hx hb dd_MO_of_46 rfl (lv_at hl 2 rfl) ?_
            refine hi_if_ne (tgt := 61) hx hb dd_MO_of_47 (by decide) (fun c33 => ?_) (fun c33 => ?_)
            · refine lv_iload_n hx hb dd_MO_of_61 rfl (lv_at hl 2 rfl) ?_
              refine lv_iconst (v := nI 1) hx hb dd_MO_of_62 (by decide +kernel) ?_
              refine hi_icmp_ne (tgt := 77) hx hb dd_MO_of_63 (by decide) (fun c34 => ?_) (fun c34 => ?_)
              · refine lv_iload_n hx hb dd_MO_of_77 rfl (lv_at hl 2 rfl) ?_
                refine lv_iconst (v := nI 2) hx hb dd_MO_of_78 (by decide +kernel) ?_
                refine hi_icmp_ne (tgt := 100) hx hb dd_MO_of_79 (by decide) (fun c35 => ?_) (fun c35 => ?_)
                · have hPb : of_P x w b = false := by rw [of_Pd hin bf5]; exact decide_eq_false (by omega)
                  refine lv_iconst (v := nI 0) hx hb dd_MO_of_100 (by decide +kernel) ?_
                  refine hn_iadd hx hb dd_MO_of_101 ?_
                  refine lv_istore_n (lv' := [(3, .int (nI (q9 + 0))), (0, .ref (P 0)), (1, .int x), (2, .int w), (4, .int (nI k))]) hx hb dd_MO_of_102 rfl hl (by decide) rfl (fun ls hl => ?_)
                  refine lv_iinc (v := nI (k + 1)) (lv' := [(4, .int (nI (k + 1))), (3, .int (nI (q9 + 0))), (0, .ref (P 0)), (1, .int x), (2, .int w)]) hx hb dd_MO_of_103 hl (k := 4) rfl (nI_1 k) (by decide) rfl (fun ls hl => ?_)
                  refine lv_goto (tgt := 36) hx hb dd_MO_of_106 (by decide) ?_
                  exact ih36 (k + 1) (q9 + 0) Mu36 (by omega) (by rw [ct_step hb1, ← hq9, hPb]; rfl) (⟨g25_0, g25_1, g25_3, g25_4, g25_5, g25_7, g25_8, g25_9, g25_10, g25_11, g25_14, g25_15, g25_16, g25_17, g25_19, g25_20, g25_21, po, pb⟩) (hF36) (by omega) _ _ _ hP hS (lv_sub hl [2, 3, 4, 1, 0] rfl)
                · refine lv_aload_n hx hb dd_MO_of_82 rfl (lv_at hl 0 rfl) ?_
                  refine hm_get (ci := 6) (C := rn_MO) (T := ft_MO) (N := 22) hx hb hts fi_MO hown hE.K hP g25_0 rfl 8 (by decide) (hts _ tw_994) (fun _ h9 => h9) rfl dd_MO_of_83 ?_
                  refine lv_iload hx hb dd_MO_of_86 (lv_at hl 4 rfl) ?_
                  refine hm_iald (j := k) hx hb hE.K hP 2 g25_8 rfl (vp_in_nI (by omega) (by omega)) (nI_clamp (by omega)) dd_MO_of_88 ?_
                  refine W.eq (g2 := F0 m 89 ls [.int (to_I b.2.1 b.2.2.1), .int (nI q9)]) (by rw [bf2]) ?_
                  refine lv_bipush (v := nI 16) hx hb dd_MO_of_89 (by decide +kernel) ?_
                  refine lv_iload_n hx hb dd_MO_of_91 rfl (lv_at hl 1 rfl) ?_
                  refine lv_iadd hx hb dd_MO_of_92 ?_
                  refine lv_topi (fun x36 ex36 => ?_)
                  have hadd := congrArg Int32.toInt ex36
                  refine hi_icmp_ne (tgt := 100) hx hb dd_MO_of_93 (by decide) (fun c37 => ?_) (fun c37 => ?_)
                  · have hPb : of_P x w b = false := by rw [of_Pd hin bf5]; exact decide_eq_false (by omega)
                    refine lv_iconst (v := nI 0) hx hb dd_MO_of_100 (by decide +kernel) ?_
                    refine hn_iadd hx hb dd_MO_of_101 ?_
                    refine lv_istore_n (lv' := [(3, .int (nI (q9 + 0))), (0, .ref (P 0)), (1, .int x), (2, .int w), (4, .int (nI k))]) hx hb dd_MO_of_102 rfl hl (by decide) rfl (fun ls hl => ?_)
                    refine lv_iinc (v := nI (k + 1)) (lv' := [(4, .int (nI (k + 1))), (3, .int (nI (q9 + 0))), (0, .ref (P 0)), (1, .int x), (2, .int w)]) hx hb dd_MO_of_103 hl (k := 4) rfl (nI_1 k) (by decide) rfl (fun ls hl => ?_)
                    refine lv_goto (tgt := 36) hx hb dd_MO_of_106 (by decide) ?_
                    exact ih36 (k + 1) (q9 + 0) Mu36 (by omega) (by rw [ct_step hb1, ← hq9, hPb]; rfl) (⟨g25_0, g25_1, g25_3, g25_4, g25_5, g25_7, g25_8, g25_9, g25_10, g25_11, g25_14, g25_15, g25_16, g25_17, g25_19, g25_20, g25_21, po, pb⟩) (hF36) (by omega) _ _ _ hP hS (lv_sub hl [2, 3, 4, 1, 0] rfl)
                  · have hPb : of_P x w b = true := by rw [of_Pd hin bf5]; exact decide_eq_true (by omega)
                    refine lv_iconst (v := nI 1) hx hb dd_MO_of_96 (by decide +kernel) ?_
                    refine lv_goto (tgt := 101) hx hb dd_MO_of_97 (by decide) ?_
                    refine hn_iadd hx hb dd_MO_of_101 ?_
                    refine lv_istore_n (lv' := [(3, .int (nI (q9 + 1))), (0, .ref (P 0)), (1, .int x), (2, .int w), (4, .int (nI k))]) hx hb dd_MO_of_102 rfl hl (by decide) rfl (fun ls hl => ?_)
                    refine lv_iinc (v := nI (k + 1)) (lv' := [(4, .int (nI (k + 1))), (3, .int (nI (q9 + 1))), (0, .ref (P 0)), (1, .int x), (2, .int w)]) hx hb dd_MO_of_103 hl (k := 4) rfl (nI_1 k) (by decide) rfl (fun ls hl => ?_)
                    refine lv_goto (tgt := 36) hx hb dd_MO_of_106 (by decide) ?_
                    exact ih36 (k + 1) (q9 + 1) Mu36 (by omega) (by rw [ct_step hb1, ← hq9, hPb]; rfl) (⟨g25_0, g25_1, g25_3, g25_4, g25_5, g25_7, g25_8, g25_9, g25_10, g25_11, g25_14, g25_15, g25_16, g25_17, g25_19, g25_20, g25_21, po, pb⟩) (hF36) (by omega) _ _ _ hP hS (lv_sub hl [2, 3, 4, 1, 0] rfl)
              · refine lv_aload_n hx hb dd_MO_of_66 rfl (lv_at hl 0 rfl) ?_
                refine hm_get (ci := 6) (C := rn_MO) (T := ft_MO) (N := 22) hx hb hts fi_MO hown hE.K hP g25_0 rfl 8 (by decide) (hts _ tw_994) (fun _ h9 => h9) rfl dd_MO_of_67 ?_
                refine lv_iload hx hb dd_MO_of_70 (lv_at hl 4 rfl) ?_
                refine hm_iald (j := k) hx hb hE.K hP 2 g25_8 rfl (vp_in_nI (by omega) (by omega)) (nI_clamp (by omega)) dd_MO_of_72 ?_
                refine W.eq (g2 := F0 m 73 ls [.int (to_I b.2.1 b.2.2.1), .int (nI q9)]) (by rw [bf2]) ?_
                refine lv_iload_n hx hb dd_MO_of_73 rfl (lv_at hl 1 rfl) ?_
                refine hi_icmp_eq (tgt := 96) hx hb dd_MO_of_74 (by decide) (fun c38 => ?_) (fun c38 => ?_)
                · have hPb : of_P x w b = true := by rw [of_Pd hin bf5]; exact decide_eq_true (by omega)
                  refine lv_iconst (v := nI 1) hx hb dd_MO_of_96 (by decide +kernel) ?_
                  refine lv_goto (tgt := 101) hx hb dd_MO_of_97 (by decide) ?_
                  refine hn_iadd hx hb dd_MO_of_101 ?_
                  refine lv_istore_n (lv' := [(3, .int (nI (q9 + 1))), (0, .ref (P 0)), (1, .int x), (2, .int w), (4, .int (nI k))]) hx hb dd_MO_of_102 rfl hl (by decide) rfl (fun ls hl => ?_)
                  refine lv_iinc (v := nI (k + 1)) (lv' := [(4, .int (nI (k + 1))), (3, .int (nI (q9 + 1))), (0, .ref (P 0)), (1, .int x), (2, .int w)]) hx hb dd_MO_of_103 hl (k := 4) rfl (nI_1 k) (by decide) rfl (fun ls hl => ?_)
                  refine lv_goto (tgt := 36) hx hb dd_MO_of_106 (by decide) ?_
                  exact ih36 (k + 1) (q9 + 1) Mu36 (by omega) (by rw [ct_step hb1, ← hq9, hPb]; rfl) (⟨g25_0, g25_1, g25_3, g25_4, g25_5, g25_7, g25_8, g25_9, g25_10, g25_11, g25_14, g25_15, g25_16, g25_17, g25_19, g25_20, g25_21, po, pb⟩) (hF36) (by omega) _ _ _ hP hS (lv_sub hl [2, 3, 4, 1, 0] rfl)
                · refine lv_iload_n hx hb dd_MO_of_77 rfl (lv_at hl 2 rfl) ?_
                  refine lv_iconst (v := nI 2) hx hb dd_MO_of_78 (by decide +kernel) ?_
                  refine hi_icmp_ne (tgt := 100) hx hb dd_MO_of_79 (by decide) (fun c39 => ?_) (fun c39 => ?_)
                  · have hPb : of_P x w b = false := by rw [of_Pd hin bf5]; exact decide_eq_false (by omega)
                    refine lv_iconst (v := nI 0) hx hb dd_MO_of_100 (by decide +kernel) ?_
                    refine hn_iadd hx hb dd_MO_of_101 ?_
                    refine lv_istore_n (lv' := [(3, .int (nI (q9 + 0))), (0, .ref (P 0)), (1, .int x), (2, .int w), (4, .int (nI k))]) hx hb dd_MO_of_102 rfl hl (by decide) rfl (fun ls hl => ?_)
                    refine lv_iinc (v := nI (k + 1)) (lv' := [(4, .int (nI (k + 1))), (3, .int (nI (q9 + 0))), (0, .ref (P 0)), (1, .int x), (2, .int w)]) hx hb dd_MO_of_103 hl (k := 4) rfl (nI_1 k) (by decide) rfl (fun ls hl => ?_)
                    refine lv_goto (tgt := 36) hx hb dd_MO_of_106 (by decide) ?_
                    exact ih36 (k + 1) (q9 + 0) Mu36 (by omega) (by rw [ct_step hb1, ← hq9, hPb]; rfl) (⟨g25_0, g25_1, g25_3, g25_4, g25_5, g25_7, g25_8, g25_9, g25_10, g25_11, g25_14, g25_15, g25_16, g25_17, g25_19, g25_20, g25_21, po, pb⟩) (hF36) (by omega) _ _ _ hP hS (lv_sub hl [2, 3, 4, 1, 0] rfl)
                  · refine lv_aload_n hx hb dd_MO_of_82 rfl (lv_at hl 0 rfl) ?_
                    refine hm_get (ci := 6) (C := rn_MO) (T := ft_MO) (N := 22) hx hb hts fi_MO hown hE.K hP g25_0 rfl 8 (by decide) (hts _ tw_994) (fun _ h9 => h9) rfl dd_MO_of_83 ?_
                    refine lv_iload hx hb dd_MO_of_86 (lv_at hl 4 rfl) ?_
                    refine hm_iald (j := k) hx hb hE.K hP 2 g25_8 rfl (vp_in_nI (by omega) (by omega)) (nI_clamp (by omega)) dd_MO_of_88 ?_
                    refine W.eq (g2 := F0 m 89 ls [.int (to_I b.2.1 b.2.2.1), .int (nI q9)]) (by rw [bf2]) ?_
                    refine lv_bipush (v := nI 16) hx hb dd_MO_of_89 (by decide +kernel) ?_
                    refine lv_iload_n hx hb dd_MO_of_91 rfl (lv_at hl 1 rfl) ?_
                    refine lv_iadd hx hb dd_MO_of_92 ?_
                    refine lv_topi (fun x40 ex40 => ?_)
                    have hadd := congrArg Int32.toInt ex40
                    refine hi_icmp_ne (tgt := 100) hx hb dd_MO_of_93 (by decide) (fun c41 => ?_) (fun c41 => ?_)
                    · have hPb : of_P x w b = false := by rw [of_Pd hin bf5]; exact decide_eq_false (by omega)
                      refine lv_iconst (v := nI 0) hx hb dd_MO_of_100 (by decide +kernel) ?_
                      refine hn_iadd hx hb dd_MO_of_101 ?_
                      refine lv_istore_n (lv' := [(3, .int (nI (q9 + 0))), (0, .ref (P 0)), (1, .int x), (2, .int w), (4, .int (nI k))]) hx hb dd_MO_of_102 rfl hl (by decide) rfl (fun ls hl => ?_)
                      refine lv_iinc (v := nI (k + 1)) (lv' := [(4, .int (nI (k + 1))), (3, .int (nI (q9 + 0))), (0, .ref (P 0)), (1, .int x), (2, .int w)]) hx hb dd_MO_of_103 hl (k := 4) rfl (nI_1 k) (by decide) rfl (fun ls hl => ?_)
                      refine lv_goto (tgt := 36) hx hb dd_MO_of_106 (by decide) ?_
                      exact ih36 (k + 1) (q9 + 0) Mu36 (by omega) (by rw [ct_step hb1, ← hq9, hPb]; rfl) (⟨g25_0, g25_1, g25_3, g25_4, g25_5, g25_7, g25_8, g25_9, g25_10, g25_11, g25_14, g25_15, g25_16, g25_17, g25_19, g25_20, g25_21, po, pb⟩) (hF36) (by omega) _ _ _ hP hS (lv_sub hl [2, 3, 4, 1, 0] rfl)
                    · have hPb : of_P x w b = true := by rw [of_Pd hin bf5]; exact decide_eq_true (by omega)
                      refine lv_iconst (v := nI 1) hx hb dd_MO_of_96 (by decide +kernel) ?_
                      refine lv_goto (tgt := 101) hx hb dd_MO_of_97 (by decide) ?_
                      refine hn_iadd hx hb dd_MO_of_101 ?_
                      refine lv_istore_n (lv' := [(3, .int (nI (q9 + 1))), (0, .ref (P 0)), (1, .int x), (2, .int w), (4, .int (nI k))]) hx hb dd_MO_of_102 rfl hl (by decide) rfl (fun ls hl => ?_)
                      refine lv_iinc (v := nI (k + 1)) (lv' := [(4, .int (nI (k + 1))), (3, .int (nI (q9 + 1))), (0, .ref (P 0)), (1, .int x), (2, .int w)]) hx hb dd_MO_of_103 hl (k := 4) rfl (nI_1 k) (by decide) rfl (fun ls hl => ?_)
                      refine lv_goto (tgt := 36) hx hb dd_MO_of_106 (by decide) ?_
                      exact ih36 (k + 1) (q9 + 1) Mu36 (by omega) (by rw [ct_step hb1, ← hq9, hPb]; rfl) (⟨g25_0, g25_1, g25_3, g25_4, g25_5, g25_7, g25_8, g25_9, g25_10, g25_11, g25_14, g25_15, g25_16, g25_17, g25_19, g25_20, g25_21, po, pb⟩) (hF36) (by omega) _ _ _ hP hS (lv_sub hl [2, 3, 4, 1, 0] rfl)
            · refine lv_aload_n hx hb dd_MO_of_50 rfl (lv_at hl 0 rfl) ?_
              refine hm_get (ci := 6) (C := rn_MO) (T := ft_MO) (N := 22) hx hb hts fi_MO hown hE.K hP g25_0 rfl 7 (by decide) (hts _ tw_993) (fun _ h9 => h9) rfl dd_MO_of_51 ?_
              refine lv_iload hx hb dd_MO_of_54 (lv_at hl 4 rfl) ?_
              refine hm_iald (j := k) hx hb hE.K hP 2 g25_7 rfl (vp_in_nI (by omega) (by omega)) (nI_clamp (by omega)) dd_MO_of_56 ?_
              refine W.eq (g2 := F0 m 57 ls [.int b.1, .int (nI q9)]) (by rw [bf1]) ?_
              refine lv_iload_n hx hb dd_MO_of_57 rfl (lv_at hl 1 rfl) ?_
              refine hi_icmp_eq (tgt := 96) hx hb dd_MO_of_58 (by decide) (fun c42 => ?_) (fun c42 => ?_)
              · have hPb : of_P x w b = true := by rw [of_Pd hin bf5]; exact decide_eq_true (by omega)
                refine lv_iconst (v := nI 1) hx hb dd_MO_of_96 (by decide +kernel) ?_
                refine lv_goto (tgt := 101) hx hb dd_MO_of_97 (by decide) ?_
                refine hn_iadd hx hb dd_MO_of_101 ?_
                refine lv_istore_n (lv' := [(3, .int (nI (q9 + 1))), (0, .ref (P 0)), (1, .int x), (2, .int w), (4, .int (nI k))]) hx hb dd_MO_of_102 rfl hl (by decide) rfl (fun ls hl => ?_)
                refine lv_iinc (v := nI (k + 1)) (lv' := [(4, .int (nI (k + 1))), (3, .int (nI (q9 + 1))), (0, .ref (P 0)), (1, .int x), (2, .int w)]) hx hb dd_MO_of_103 hl (k := 4) rfl (nI_1 k) (by decide) rfl (fun ls hl => ?_)
                refine lv_goto (tgt := 36) hx hb dd_MO_of_106 (by decide) ?_
                exact ih36 (k + 1) (q9 + 1) Mu36 (by omega) (by rw [ct_step hb1, ← hq9, hPb]; rfl) (⟨g25_0, g25_1, g25_3, g25_4, g25_5, g25_7, g25_8, g25_9, g25_10, g25_11, g25_14, g25_15, g25_16, g25_17, g25_19, g25_20, g25_21, po, pb⟩) (hF36) (by omega) _ _ _ hP hS (lv_sub hl [2, 3, 4, 1, 0] rfl)
              · refine lv_iload_n hx hb dd_MO_of_61 rfl (lv_at hl 2 rfl) ?_
                refine lv_iconst (v := nI 1) hx hb dd_MO_of_62 (by decide +kernel) ?_
                refine hi_icmp_ne (tgt := 77) hx hb dd_MO_of_63 (by decide) (fun c43 => ?_) (fun c43 => ?_)
                · refine lv_iload_n hx hb dd_MO_of_77 rfl (lv_at hl 2 rfl) ?_
                  refine lv_iconst (v := nI 2) hx hb dd_MO_of_78 (by decide +kernel) ?_
                  refine hi_icmp_ne (tgt := 100) hx hb dd_MO_of_79 (by decide) (fun c44 => ?_) (fun c44 => ?_)
                  · have hPb : of_P x w b = false := by rw [of_Pd hin bf5]; exact decide_eq_false (by omega)
                    refine lv_iconst (v := nI 0) hx hb dd_MO_of_100 (by decide +kernel) ?_
                    refine hn_iadd hx hb dd_MO_of_101 ?_
                    refine lv_istore_n (lv' := [(3, .int (nI (q9 + 0))), (0, .ref (P 0)), (1, .int x), (2, .int w), (4, .int (nI k))]) hx hb dd_MO_of_102 rfl hl (by decide) rfl (fun ls hl => ?_)
                    refine lv_iinc (v := nI (k + 1)) (lv' := [(4, .int (nI (k + 1))), (3, .int (nI (q9 + 0))), (0, .ref (P 0)), (1, .int x), (2, .int w)]) hx hb dd_MO_of_103 hl (k := 4) rfl (nI_1 k) (by decide) rfl (fun ls hl => ?_)
                    refine lv_goto (tgt := 36) hx hb dd_MO_of_106 (by decide) ?_
                    exact ih36 (k + 1) (q9 + 0) Mu36 (by omega) (by rw [ct_step hb1, ← hq9, hPb]; rfl) (⟨g25_0, g25_1, g25_3, g25_4, g25_5, g25_7, g25_8, g25_9, g25_10, g25_11, g25_14, g25_15, g25_16, g25_17, g25_19, g25_20, g25_21, po, pb⟩) (hF36) (by omega) _ _ _ hP hS (lv_sub hl [2, 3, 4, 1, 0] rfl)
                  · refine lv_aload_n hx hb dd_MO_of_82 rfl (lv_at hl 0 rfl) ?_
                    refine hm_get (ci := 6) (C := rn_MO) (T := ft_MO) (N := 22) hx hb hts fi_MO hown hE.K hP g25_0 rfl 8 (by decide) (hts _ tw_994) (fun _ h9 => h9) rfl dd_MO_of_83 ?_
                    refine lv_iload hx hb dd_MO_of_86 (lv_at hl 4 rfl) ?_
                    refine hm_iald (j := k) hx hb hE.K hP 2 g25_8 rfl (vp_in_nI (by omega) (by omega)) (nI_clamp (by omega)) dd_MO_of_88 ?_
                    refine W.eq (g2 := F0 m 89 ls [.int (to_I b.2.1 b.2.2.1), .int (nI q9)]) (by rw [bf2]) ?_
                    refine lv_bipush (v := nI 16) hx hb dd_MO_of_89 (by decide +kernel) ?_
                    refine lv_iload_n hx hb dd_MO_of_91 rfl (lv_at hl 1 rfl) ?_
                    refine lv_iadd hx hb dd_MO_of_92 ?_
                    refine lv_topi (fun x45 ex45 => ?_)
                    have hadd := congrArg Int32.toInt ex45
                    refine hi_icmp_ne (tgt := 100) hx hb dd_MO_of_93 (by decide) (fun c46 => ?_) (fun c46 => ?_)
                    · have hPb : of_P x w b = false := by rw [of_Pd hin bf5]; exact decide_eq_false (by omega)
                      refine lv_iconst (v := nI 0) hx hb dd_MO_of_100 (by decide +kernel) ?_
                      refine hn_iadd hx hb dd_MO_of_101 ?_
                      refine lv_istore_n (lv' := [(3, .int (nI (q9 + 0))), (0, .ref (P 0)), (1, .int x), (2, .int w), (4, .int (nI k))]) hx hb dd_MO_of_102 rfl hl (by decide) rfl (fun ls hl => ?_)
                      refine lv_iinc (v := nI (k + 1)) (lv' := [(4, .int (nI (k + 1))), (3, .int (nI (q9 + 0))), (0, .ref (P 0)), (1, .int x), (2, .int w)]) hx hb dd_MO_of_103 hl (k := 4) rfl (nI_1 k) (by decide) rfl (fun ls hl => ?_)
                      refine lv_goto (tgt := 36) hx hb dd_MO_of_106 (by decide) ?_
                      exact ih36 (k + 1) (q9 + 0) Mu36 (by omega) (by rw [ct_step hb1, ← hq9, hPb]; rfl) (⟨g25_0, g25_1, g25_3, g25_4, g25_5, g25_7, g25_8, g25_9, g25_10, g25_11, g25_14, g25_15, g25_16, g25_17, g25_19, g25_20, g25_21, po, pb⟩) (hF36) (by omega) _ _ _ hP hS (lv_sub hl [2, 3, 4, 1, 0] rfl)
                    · have hPb : of_P x w b = true := by rw [of_Pd hin bf5]; exact decide_eq_true (by omega)
                      refine lv_iconst (v := nI 1) hx hb dd_MO_of_96 (by decide +kernel) ?_
                      refine lv_goto (tgt := 101) hx hb dd_MO_of_97 (by decide) ?_
                      refine hn_iadd hx hb dd_MO_of_101 ?_
                      refine lv_istore_n (lv' := [(3, .int (nI (q9 + 1))), (0, .ref (P 0)), (1, .int x), (2, .int w), (4, .int (nI k))]) hx hb dd_MO_of_102 rfl hl (by decide) rfl (fun ls hl => ?_)
                      refine lv_iinc (v := nI (k + 1)) (lv' := [(4, .int (nI (k + 1))), (3, .int (nI (q9 + 1))), (0, .ref (P 0)), (1, .int x), (2, .int w)]) hx hb dd_MO_of_103 hl (k := 4) rfl (nI_1 k) (by decide) rfl (fun ls hl => ?_)
                      refine lv_goto (tgt := 36) hx hb dd_MO_of_106 (by decide) ?_
                      exact ih36 (k + 1) (q9 + 1) Mu36 (by omega) (by rw [ct_step hb1, ← hq9, hPb]; rfl) (⟨g25_0, g25_1, g25_3, g25_4, g25_5, g25_7, g25_8, g25_9, g25_10, g25_11, g25_14, g25_15, g25_16, g25_17, g25_19, g25_20, g25_21, po, pb⟩) (hF36) (by omega) _ _ _ hP hS (lv_sub hl [2, 3, 4, 1, 0] rfl)
                · refine lv_aload_n hx hb dd_MO_of_66 rfl (lv_at hl 0 rfl) ?_
                  refine hm_get (ci := 6) (C := rn_MO) (T := ft_MO) (N := 22) hx hb hts fi_MO hown hE.K hP g25_0 rfl 8 (by decide) (hts _ tw_994) (fun _ h9 => h9) rfl dd_MO_of_67 ?_
                  refine lv_iload hx hb dd_MO_of_70 (lv_at hl 4 rfl) ?_
                  refine hm_iald (j := k) hx hb hE.K hP 2 g25_8 rfl (vp_in_nI (by omega) (by omega)) (nI_clamp (by omega)) dd_MO_of_72 ?_
                  refine W.eq (g2 := F0 m 73 ls [.int (to_I b.2.1 b.2.2.1), .int (nI q9)]) (by rw [bf2]) ?_
                  refine lv_iload_n hx hb dd_MO_of_73 rfl (lv_at hl 1 rfl) ?_
                  refine hi_icmp_eq (tgt := 96) hx hb dd_MO_of_74 (by decide) (fun c47 => ?_) (fun c47 => ?_)
                  · have hPb : of_P x w b = true := by rw [of_Pd hin bf5]; exact decide_eq_true (by omega)
                    refine lv_iconst (v := nI 1) hx hb dd_MO_of_96 (by decide +kernel) ?_
                    refine lv_goto (tgt := 101) hx hb dd_MO_of_97 (by decide) ?_
                    refine hn_iadd hx hb dd_MO_of_101 ?_
                    refine lv_istore_n (lv' := [(3, .int (nI (q9 + 1))), (0, .ref (P 0)), (1, .int x), (2, .int w), (4, .int (nI k))]) hx hb dd_MO_of_102 rfl hl (by decide) rfl (fun ls hl => ?_)
                    refine lv_iinc (v := nI (k + 1)) (lv' := [(4, .int (nI (k + 1))), (3, .int (nI (q9 + 1))), (0, .ref (P 0)), (1, .int x), (2, .int w)]) hx hb dd_MO_of_103 hl (k := 4) rfl (nI_1 k) (by decide) rfl (fun ls hl => ?_)
                    refine lv_goto (tgt := 36) hx hb dd_MO_of_106 (by decide) ?_
                    exact ih36 (k + 1) (q9 + 1) Mu36 (by omega) (by rw [ct_step hb1, ← hq9, hPb]; rfl) (⟨g25_0, g25_1, g25_3, g25_4, g25_5, g25_7, g25_8, g25_9, g25_10, g25_11, g25_14, g25_15, g25_16, g25_17, g25_19, g25_20, g25_21, po, pb⟩) (hF36) (by omega) _ _ _ hP hS (lv_sub hl [2, 3, 4, 1, 0] rfl)
                  · refine lv_iload_n hx hb dd_MO_of_77 rfl (lv_at hl 2 rfl) ?_
                    refine lv_iconst (v := nI 2) hx hb dd_MO_of_78 (by decide +kernel) ?_
                    refine hi_icmp_ne (tgt := 100) hx hb dd_MO_of_79 (by decide) (fun c48 => ?_) (fun c48 => ?_)
                    · have hPb : of_P x w b = false := by rw [of_Pd hin bf5]; exact decide_eq_false (by omega)
                      refine lv_iconst (v := nI 0) hx hb dd_MO_of_100 (by decide +kernel) ?_
                      refine hn_iadd hx hb dd_MO_of_101 ?_
                      refine lv_istore_n (lv' := [(3, .int (nI (q9 + 0))), (0, .ref (P 0)), (1, .int x), (2, .int w), (4, .int (nI k))]) hx hb dd_MO_of_102 rfl hl (by decide) rfl (fun ls hl => ?_)
                      refine lv_iinc (v := nI (k + 1)) (lv' := [(4, .int (nI (k + 1))), (3, .int (nI (q9 + 0))), (0, .ref (P 0)), (1, .int x), (2, .int w)]) hx hb dd_MO_of_103 hl (k := 4) rfl (nI_1 k) (by decide) rfl (fun ls hl => ?_)
                      refine lv_goto (tgt := 36) hx hb dd_MO_of_106 (by decide) ?_
                      exact ih36 (k + 1) (q9 + 0) Mu36 (by omega) (by rw [ct_step hb1, ← hq9, hPb]; rfl) (⟨g25_0, g25_1, g25_3, g25_4, g25_5, g25_7, g25_8, g25_9, g25_10, g25_11, g25_14, g25_15, g25_16, g25_17, g25_19, g25_20, g25_21, po, pb⟩) (hF36) (by omega) _ _ _ hP hS (lv_sub hl [2, 3, 4, 1, 0] rfl)
                    · refine lv_aload_n hx hb dd_MO_of_82 rfl (lv_at hl 0 rfl) ?_
                      refine hm_get (ci := 6) (C := rn_MO) (T := ft_MO) (N := 22) hx hb hts fi_MO hown hE.K hP g25_0 rfl 8 (by decide) (hts _ tw_994) (fun _ h9 => h9) rfl dd_MO_of_83 ?_
                      refine lv_iload hx hb dd_MO_of_86 (lv_at hl 4 rfl) ?_
                      refine hm_iald (j := k) hx hb hE.K hP 2 g25_8 rfl (vp_in_nI (by omega) (by omega)) (nI_clamp (by omega)) dd_MO_of_88 ?_
                      refine W.eq (g2 := F0 m 89 ls [.int (to_I b.2.1 b.2.2.1), .int (nI q9)]) (by rw [bf2]) ?_
                      refine lv_bipush (v := nI 16) hx hb dd_MO_of_89 (by decide +kernel) ?_
                      refine lv_iload_n hx hb dd_MO_of_91 rfl (lv_at hl 1 rfl) ?_
                      refine lv_iadd hx hb dd_MO_of_92 ?_
                      refine lv_topi (fun x49 ex49 => ?_)
                      have hadd := congrArg Int32.toInt ex49
                      refine hi_icmp_ne (tgt := 100) hx hb dd_MO_of_93 (by decide) (fun c50 => ?_) (fun c50 => ?_)
                      · have hPb : of_P x w b = false := by rw [of_Pd hin bf5]; exact decide_eq_false (by omega)
                        refine lv_iconst (v := nI 0) hx hb dd_MO_of_100 (by decide +kernel) ?_
                        refine hn_iadd hx hb dd_MO_of_101 ?_
                        refine lv_istore_n (lv' := [(3, .int (nI (q9 + 0))), (0, .ref (P 0)), (1, .int x), (2, .int w), (4, .int (nI k))]) hx hb dd_MO_of_102 rfl hl (by decide) rfl (fun ls hl => ?_)
                        refine lv_iinc (v := nI (k + 1)) (lv' := [(4, .int (nI (k + 1))), (3, .int (nI (q9 + 0))), (0, .ref (P 0)), (1, .int x), (2, .int w)]) hx hb dd_MO_of_103 hl (k := 4) rfl (nI_1 k) (by decide) rfl (fun ls hl => ?_)
                        refine lv_goto (tgt := 36) hx hb dd_MO_of_106 (by decide) ?_
                        exact ih36 (k + 1) (q9 + 0) Mu36 (by omega) (by rw [ct_step hb1, ← hq9, hPb]; rfl) (⟨g25_0, g25_1, g25_3, g25_4, g25_5, g25_7, g25_8, g25_9, g25_10, g25_11, g25_14, g25_15, g25_16, g25_17, g25_19, g25_20, g25_21, po, pb⟩) (hF36) (by omega) _ _ _ hP hS (lv_sub hl [2, 3, 4, 1, 0] rfl)
                      · have hPb : of_P x w b = true := by rw [of_Pd hin bf5]; exact decide_eq_true (by omega)
                        refine lv_iconst (v := nI 1) hx hb dd_MO_of_96 (by decide +kernel) ?_
                        refine lv_goto (tgt := 101) hx hb dd_MO_of_97 (by decide) ?_
                        refine hn_iadd hx hb dd_MO_of_101 ?_
                        refine lv_istore_n (lv' := [(3, .int (nI (q9 + 1))), (0, .ref (P 0)), (1, .int x), (2, .int w), (4, .int (nI k))]) hx hb dd_MO_of_102 rfl hl (by decide) rfl (fun ls hl => ?_)
                        refine lv_iinc (v := nI (k + 1)) (lv' := [(4, .int (nI (k + 1))), (3, .int (nI (q9 + 1))), (0, .ref (P 0)), (1, .int x), (2, .int w)]) hx hb dd_MO_of_103 hl (k := 4) rfl (nI_1 k) (by decide) rfl (fun ls hl => ?_)
                        refine lv_goto (tgt := 36) hx hb dd_MO_of_106 (by decide) ?_
                        exact ih36 (k + 1) (q9 + 1) Mu36 (by omega) (by rw [ct_step hb1, ← hq9, hPb]; rfl) (⟨g25_0, g25_1, g25_3, g25_4, g25_5, g25_7, g25_8, g25_9, g25_10, g25_11, g25_14, g25_15, g25_16, g25_17, g25_19, g25_20, g25_21, po, pb⟩) (hF36) (by omega) _ _ _ hP hS (lv_sub hl [2, 3, 4, 1, 0] rfl)
      have kk51 : hm_k M M [(P 0)] := hm_krf
      have kk52 : hm_k M M1 [(P 0)] := hm_ku kk51 (Or.inr (by simp)) eM1
      exact lp36 _ 0 0 M1 (Nat.zero_le _) (rfl) (⟨f18, f2, f3, f4, f5, f6, f7, f8, f9, f10, f11, f12, f13, f14, f15, f16, f17, po, pb⟩) (cz_F.k0 kk52 (hm_a1 ⟨by rw [po 0 (by decide)]; unfold pm; omega, _, f18⟩)) (Nat.lt_succ_self _) _ _ _ hP hS (lv_sub hl [2, 3, 4, 1, 0] rfl)
    · have hno := of_no (qs := qs) (bs := bs) (w := w) (by rw [if_neg (by omega)]; exact bz_f c24)
      refine lv_iconst (v := (-1)) hx hb dd_MO_of_29 (by decide +kernel) ?_
      have kk53 : hm_k M M [(P 0)] := hm_krf
      have kk54 : hm_k M M1 [(P 0)] := hm_ku kk53 (Or.inr (by simp)) eM1
      exact hm_Ei (v := (-1)) hx hb hr rfl hS hP (⟨hno.symm, (va_up I 0 (nI 0)), A, L, ⟨f18, f2, f3, f4, f5, f6, f7, f8, f9, f10, f11, f12, f13, f14, f15, f16, f17, po, pb⟩, rfl, ⟨hT, hX, hQ, hB, hK, hH, hFo, hPs⟩, cz_F.k0 kk54 (hm_a1 ⟨by rw [po 0 (by decide)]; unfold pm; omega, _, f18⟩)⟩) hlocks (by omega) (by omega) dd_MO_of_30
  · refine lv_aload_n hx hb dd_MO_of_10 rfl (lv_at hl 0 rfl) ?_
    refine lv_iload_n hx hb dd_MO_of_11 rfl (lv_at hl 1 rfl) ?_
    have hd55 : mo_D B D P O M1 (va_up I 0 (nI 0)) A L := ⟨f18, f2, f3, f4, f5, f6, f7, f8, f9, f10, f11, f12, f13, f14, f15, f16, f17, po, pb⟩
    refine hm_ci hS (hm_rV 1 (As := [.int x]) (rest := []) ⟨hx, hb, hml, hown, hts⟩ hE hS hP (kc_MO_isQueue l B D G M1 P O (va_up I 0 (nI 0)) A L hd55 qs hQ x) rfl f18 tw_1090 tw_1087 tw_1089 tw_19 tw_46 (by decide +kernel) rfl rfl ⟨by show 0 + 1 ≤ R.frames; omega, by show 8 + (2 + 11) + 0 ≤ R.locals; omega⟩ rfl hl.1 rfl (Nat.le_of_ble_eq_true rfl) dd_MO_of_12 ⟨by omega, by omega⟩) (fun r56 M57 H locs hw58 hP hS => ?_)
    refine W.widen (k := 0) (n := 0) (by omega) (by omega) ?_
    obtain ⟨hrM57, eM57⟩ := hw58
    rw [eM57] at hP
    obtain rfl : r56 = nI (bz (qu_at qs x)) := hrM57
    refine hn_if_ne (tgt := 31) hx hb (bz_b _) dd_MO_of_15 (by decide) (fun c59 => ?_) (fun c59 => ?_)
    · have hqs := bz_t c59
      have hin := qu_in hqs
      have hin1 := hin.1
      have hin2 := hin.2
      refine lv_iconst (v := nI 0) hx hb dd_MO_of_31 (by decide +kernel) ?_
      refine lv_istore_n (lv' := [(3, .int (nI 0)), (0, .ref (P 0)), (1, .int x), (2, .int w)]) hx hb dd_MO_of_32 rfl hl (by decide) rfl (fun ls hl => ?_)
      refine lv_iconst (v := nI 0) hx hb dd_MO_of_33 (by decide +kernel) ?_
      refine lv_istore (lv' := [(4, .int (nI 0)), (3, .int (nI 0)), (0, .ref (P 0)), (1, .int x), (2, .int w)]) hx hb dd_MO_of_34 hl (by decide) rfl (fun ls hl => ?_)
      have lp36 : ∀ (n9 : Nat) (k : Nat) (q9 : Nat) (Mu36 : hm_M), (k ≤ bs.length) → (q9 = (bs.take k).countP (of_P x w)) → (mo_D B D P O Mu36 (va_up I 0 (nI 0)) A L) → (cz_F O M O Mu36 pm) → bs.length - k < n9 → ∀ (H : Heap) (locs : List Loc) (ls : Array Slot), hm_P D cl_W Mu36 H → va_S (hm_A B) s.heap H locs → lv_has ls 5 [(0, .ref (P 0)), (1, .int x), (2, .int w), (3, .int (nI q9)), (4, .int (nI k))] → W p l e R s m ([.ref (P 0), .int x, .int w] : List Value).toArray below meth c H locs (0) (0) (MQ below (hm_Ni B D (fun r M1 => r = of_r ex qs bs x w ∧ ∃ I1 A1 L1, mo_D B D P O M1 I1 A1 L1 ∧ I1 0 = nI 0 ∧ mo_S I1 A1 L1 t ex qs bs key hs fo ps ∧ cz_F O M O M1 pm)) ([.ref (P 0), .int x, .int w] : List Value).toArray s (0) (0) (hm_A B)) (F0 m 36 ls []) := by
        intro n9
        induction n9 with
        | zero => intro k q9 Mu36 hk hq9 hd36 hF36 hm; exact absurd hm (Nat.not_lt_zero _)
        | succ n9 ih36 =>
          intro k q9 Mu36 hk hq9 hd36 hF36 hm H locs ls hP hS hl
          obtain ⟨g60_0, g60_1, g60_3, g60_4, g60_5, g60_7, g60_8, g60_9, g60_10, g60_11, g60_14, g60_15, g60_16, g60_17, g60_19, g60_20, g60_21, -, -⟩ := id hd36
          have g60_0 : Mu36 (P 0) = some (.inr (6, [.int (nI 0), .ref (P 1), .int (I 2), .ref (P 3), .ref (P 4), .ref (P 5), .int (I 6), .ref (P 7), .ref (P 8), .ref (P 9), .ref (P 10), .ref (P 11), .int (I 12), .int (I 13), .ref (P 14), .ref (P 15), .ref (P 16), .ref (P 17), .int (I 18), .ref (P 19), .ref (P 20), .ref (P 21)])) := g60_0
          have hq8 : q9 ≤ k := by rw [hq9]; exact ct_le
          refine lv_iload hx hb dd_MO_of_36 (lv_at hl 4 rfl) ?_
          refine lv_aload_n hx hb dd_MO_of_38 rfl (lv_at hl 0 rfl) ?_
          refine hm_get (ci := 6) (C := rn_MO) (T := ft_MO) (N := 22) hx hb hts fi_MO hown hE.K hP g60_0 rfl 6 (by decide) (hts _ tw_992) (fun _ h9 => h9) rfl dd_MO_of_39 ?_
          refine W.eq (g2 := F0 m 42 ls [.int (nI bs.length), .int (nI k)]) (by rw [bi1]) ?_
          refine hn_icmp_ge (tgt := 109) hx hb (by omega) (by omega) dd_MO_of_42 (by decide) (fun c61 => ?_) (fun c61 => ?_)
          · refine lv_iload_n hx hb dd_MO_of_109 rfl (lv_at hl 2 rfl) ?_
            refine hi_if_lt (tgt := 122) hx hb dd_MO_of_110 (by decide) (fun c62 => ?_) (fun c62 => ?_)
            · exfalso; omega
            · refine lv_iload_n hx hb dd_MO_of_113 rfl (lv_at hl 2 rfl) ?_
              refine lv_iconst (v := nI 3) hx hb dd_MO_of_114 (by decide +kernel) ?_
              refine hi_icmp_ge (tgt := 122) hx hb dd_MO_of_115 (by decide) (fun c63 => ?_) (fun c63 => ?_)
              · exfalso; omega
              · refine lv_iload_n hx hb dd_MO_of_118 rfl (lv_at hl 3 rfl) ?_
                refine lv_goto (tgt := 151) hx hb dd_MO_of_119 (by decide) ?_
                exact hm_Ei (v := nI q9) hx hb hr rfl hS hP (⟨(by rw [of_c ⟨by omega, by omega⟩ (by first | (rw [if_pos (by omega)]; exact hqs) | (rw [if_neg (by omega)]; exact hxs)), hq9, List.take_of_length_le (by omega)]), (va_up I 0 (nI 0)), A, L, ⟨g60_0, g60_1, g60_3, g60_4, g60_5, g60_7, g60_8, g60_9, g60_10, g60_11, g60_14, g60_15, g60_16, g60_17, g60_19, g60_20, g60_21, po, pb⟩, rfl, ⟨hT, hX, hQ, hB, hK, hH, hFo, hPs⟩, hF36⟩) hlocks (by omega) (by omega) dd_MO_of_151
          · obtain ⟨b, hb1⟩ : ∃ b, bs[k]? = some b := ⟨_, List.getElem?_eq_getElem (by omega)⟩
            obtain ⟨bf1, bf2, bf3, bf4, bf5⟩ := bi3 k b hb1
            refine lv_iload_n hx hb dd_MO_of_45 rfl (lv_at hl 3 rfl) ?_
            refine lv_iload_n hx hb dd_MO_of_46 rfl (lv_at hl 2 rfl) ?_
            refine hi_if_ne (tgt := 61) hx hb dd_MO_of_47 (by decide) (fun c64 => ?_) (fun c64 => ?_)
            · refine lv_iload_n hx hb dd_MO_of_61 rfl (lv_at hl 2 rfl) ?_
              refine lv_iconst (v := nI 1) hx hb dd_MO_of_62 (by decide +kernel) ?_
              refine hi_icmp_ne (tgt := 77) hx hb dd_MO_of_63 (by decide) (fun c65 => ?_) (fun c65 => ?_)
              · refine lv_iload_n hx hb dd_MO_of_77 rfl (lv_at hl 2 rfl) ?_
                refine lv_iconst (v := nI 2) hx hb dd_MO_of_78 (by decide +kernel) ?_
                refine hi_icmp_ne (tgt := 100) hx hb dd_MO_of_79 (by decide) (fun c66 => ?_) (fun c66 => ?_)
                · have hPb : of_P x w b = false := by rw [of_Pd hin bf5]; exact decide_eq_false (by omega)
                  refine lv_iconst (v := nI 0) hx hb dd_MO_of_100 (by decide +kernel) ?_
                  refine hn_iadd hx hb dd_MO_of_101 ?_
                  refine lv_istore_n (lv' := [(3, .int (nI (q9 + 0))), (0, .ref (P 0)), (1, .int x), (2, .int w), (4, .int (nI k))]) hx hb dd_MO_of_102 rfl hl (by decide) rfl (fun ls hl => ?_)
                  refine lv_iinc (v := nI (k + 1)) (lv' := [(4, .int (nI (k + 1))), (3, .int (nI (q9 + 0))), (0, .ref (P 0)), (1, .int x), (2, .int w)]) hx hb dd_MO_of_103 hl (k := 4) rfl (nI_1 k) (by decide) rfl (fun ls hl => ?_)
                  refine lv_goto (tgt := 36) hx hb dd_MO_of_106 (by decide) ?_
                  exact ih36 (k + 1) (q9 + 0) Mu36 (by omega) (by rw [ct_step hb1, ← hq9, hPb]; rfl) (⟨g60_0, g60_1, g60_3, g60_4, g60_5, g60_7, g60_8, g60_9, g60_10, g60_11, g60_14, g60_15, g60_16, g60_17, g60_19, g60_20, g60_21, po, pb⟩) (hF36) (by omega) _ _ _ hP hS (lv_sub hl [2, 3, 4, 1, 0] rfl)
                · refine lv_aload_n hx hb dd_MO_of_82 rfl (lv_at hl 0 rfl) ?_
                  refine hm_get (ci := 6) (C := rn_MO) (T := ft_MO) (N := 22) hx hb hts fi_MO hown hE.K hP g60_0 rfl 8 (by decide) (hts _ tw_994) (fun _ h9 => h9) rfl dd_MO_of_83 ?_
                  refine lv_iload hx hb dd_MO_of_86 (lv_at hl 4 rfl) ?_
                  refine hm_iald (j := k) hx hb hE.K hP 2 g60_8 rfl (vp_in_nI (by omega) (by omega)) (nI_clamp (by omega)) dd_MO_of_88 ?_
                  refine W.eq (g2 := F0 m 89 ls [.int (to_I b.2.1 b.2.2.1), .int (nI q9)]) (by rw [bf2]) ?_
                  refine lv_bipush (v := nI 16) hx hb dd_MO_of_89 (by decide +kernel) ?_
                  refine lv_iload_n hx hb dd_MO_of_91 rfl (lv_at hl 1 rfl) ?_
                  refine lv_iadd hx hb dd_MO_of_92 ?_
                  refine lv_topi (fun x67 ex67 => ?_)
                  have hadd := congrArg Int32.toInt ex67
                  refine hi_icmp_ne (tgt := 100) hx hb dd_MO_of_93 (by decide) (fun c68 => ?_) (fun c68 => ?_)
                  · have hPb : of_P x w b = false := by rw [of_Pd hin bf5]; exact decide_eq_false (by omega)
                    refine lv_iconst (v := nI 0) hx hb dd_MO_of_100 (by decide +kernel) ?_
                    refine hn_iadd hx hb dd_MO_of_101 ?_
                    refine lv_istore_n (lv' := [(3, .int (nI (q9 + 0))), (0, .ref (P 0)), (1, .int x), (2, .int w), (4, .int (nI k))]) hx hb dd_MO_of_102 rfl hl (by decide) rfl (fun ls hl => ?_)
                    refine lv_iinc (v := nI (k + 1)) (lv' := [(4, .int (nI (k + 1))), (3, .int (nI (q9 + 0))), (0, .ref (P 0)), (1, .int x), (2, .int w)]) hx hb dd_MO_of_103 hl (k := 4) rfl (nI_1 k) (by decide) rfl (fun ls hl => ?_)
                    refine lv_goto (tgt := 36) hx hb dd_MO_of_106 (by decide) ?_
                    exact ih36 (k + 1) (q9 + 0) Mu36 (by omega) (by rw [ct_step hb1, ← hq9, hPb]; rfl) (⟨g60_0, g60_1, g60_3, g60_4, g60_5, g60_7, g60_8, g60_9, g60_10, g60_11, g60_14, g60_15, g60_16, g60_17, g60_19, g60_20, g60_21, po, pb⟩) (hF36) (by omega) _ _ _ hP hS (lv_sub hl [2, 3, 4, 1, 0] rfl)
                  · have hPb : of_P x w b = true := by rw [of_Pd hin bf5]; exact decide_eq_true (by omega)
                    refine lv_iconst (v := nI 1) hx hb dd_MO_of_96 (by decide +kernel) ?_
                    refine lv_goto (tgt := 101) hx hb dd_MO_of_97 (by decide) ?_
                    refine hn_iadd hx hb dd_MO_of_101 ?_
                    refine lv_istore_n (lv' := [(3, .int (nI (q9 + 1))), (0, .ref (P 0)), (1, .int x), (2, .int w), (4, .int (nI k))]) hx hb dd_MO_of_102 rfl hl (by decide) rfl (fun ls hl => ?_)
                    refine lv_iinc (v := nI (k + 1)) (lv' := [(4, .int (nI (k + 1))), (3, .int (nI (q9 + 1))), (0, .ref (P 0)), (1, .int x), (2, .int w)]) hx hb dd_MO_of_103 hl (k := 4) rfl (nI_1 k) (by decide) rfl (fun ls hl => ?_)
                    refine lv_goto (tgt := 36) hx hb dd_MO_of_106 (by decide) ?_
                    exact ih36 (k + 1) (q9 + 1) Mu36 (by omega) (by rw [ct_step hb1, ← hq9, hPb]; rfl) (⟨g60_0, g60_1, g60_3, g60_4, g60_5, g60_7, g60_8, g60_9, g60_10, g60_11, g60_14, g60_15, g60_16, g60_17, g60_19, g60_20, g60_21, po, pb⟩) (hF36) (by omega) _ _ _ hP hS (lv_sub hl [2, 3, 4, 1, 0] rfl)
              · refine lv_aload_n hx hb dd_MO_of_66 rfl (lv_at hl 0 rfl) ?_
                refine hm_get (ci := 6) (C := rn_MO) (T := ft_MO) (N := 22) hx hb hts fi_MO hown hE.K hP g60_0 rfl 8 (by decide) (hts _ tw_994) (fun _ h9 => h9) rfl dd_MO_of_67 ?_
                refine lv_iload hx hb dd_MO_of_70 (lv_at hl 4 rfl) ?_
                refine hm_iald (j := k) hx hb hE.K hP 2 g60_8 rfl (vp_in_nI (by omega) (by omega)) (nI_clamp (by omega)) dd_MO_of_72 ?_
                refine W.eq (g2 := F0 m 73 ls [.int (to_I b.2.1 b.2.2.1), .int (nI q9)]) (by rw [bf2]) ?_
                refine lv_iload_n hx hb dd_MO_of_73 rfl (lv_at hl 1 rfl) ?_
                refine hi_icmp_eq (tgt := 96) hx hb dd_MO_of_74 (by decide) (fun c69 => ?_) (fun c69 => ?_)
                · have hPb : of_P x w b = true := by rw [of_Pd hin bf5]; exact decide_eq_true (by omega)
                  refine lv_iconst (v := nI 1) hx hb dd_MO_of_96 (by decide +kernel) ?_
                  refine lv_goto (tgt := 101) hx hb dd_MO_of_97 (by decide) ?_
                  refine hn_iadd hx hb dd_MO_of_101 ?_
                  refine lv_istore_n (lv' := [(3, .int (nI (q9 + 1))), (0, .ref (P 0)), (1, .int x), (2, .int w), (4, .int (nI k))]) hx hb dd_MO_of_102 rfl hl (by decide) rfl (fun ls hl => ?_)
                  refine lv_iinc (v := nI (k + 1)) (lv' := [(4, .int (nI (k + 1))), (3, .int (nI (q9 + 1))), (0, .ref (P 0)), (1, .int x), (2, .int w)]) hx hb dd_MO_of_103 hl (k := 4) rfl (nI_1 k) (by decide) rfl (fun ls hl => ?_)
                  refine lv_goto (tgt := 36) hx hb dd_MO_of_106 (by decide) ?_
                  exact ih36 (k + 1) (q9 + 1) Mu36 (by omega) (by rw [ct_step hb1, ← hq9, hPb]; rfl) (⟨g60_0, g60_1, g60_3, g60_4, g60_5, g60_7, g60_8, g60_9, g60_10, g60_11, g60_14, g60_15, g60_16, g60_17, g60_19, g60_20, g60_21, po, pb⟩) (hF36) (by omega) _ _ _ hP hS (lv_sub hl [2, 3, 4, 1, 0] rfl)
                · refine lv_iload_n hx hb dd_MO_of_77 rfl (lv_at hl 2 rfl) ?_
                  refine lv_iconst (v := nI 2) hx hb dd_MO_of_78 (by decide +kernel) ?_
                  refine hi_icmp_ne (tgt := 100) hx hb dd_MO_of_79 (by decide) (fun c70 => ?_) (fun c70 => ?_)
                  · have hPb : of_P x w b = false := by rw [of_Pd hin bf5]; exact decide_eq_false (by omega)
                    refine lv_iconst (v := nI 0) hx hb dd_MO_of_100 (by decide +kernel) ?_
                    refine hn_iadd hx hb dd_MO_of_101 ?_
                    refine lv_istore_n (lv' := [(3, .int (nI (q9 + 0))), (0, .ref (P 0)), (1, .int x), (2, .int w), (4, .int (nI k))]) hx hb dd_MO_of_102 rfl hl (by decide) rfl (fun ls hl => ?_)
                    refine lv_iinc (v := nI (k + 1)) (lv' := [(4, .int (nI (k + 1))), (3, .int (nI (q9 + 0))), (0, .ref (P 0)), (1, .int x), (2, .int w)]) hx hb dd_MO_of_103 hl (k := 4) rfl (nI_1 k) (by decide) rfl (fun ls hl => ?_)
                    refine lv_goto (tgt := 36) hx hb dd_MO_of_106 (by decide) ?_
                    exact ih36 (k + 1) (q9 + 0) Mu36 (by omega) (by rw [ct_step hb1, ← hq9, hPb]; rfl) (⟨g60_0, g60_1, g60_3, g60_4, g60_5, g60_7, g60_8, g60_9, g60_10, g60_11, g60_14, g60_15, g60_16, g60_17, g60_19, g60_20, g60_21, po, pb⟩) (hF36) (by omega) _ _ _ hP hS (lv_sub hl [2, 3, 4, 1, 0] rfl)
                  · refine lv_aload_n hx hb dd_MO_of_82 rfl (lv_at hl 0 rfl) ?_
                    refine hm_get (ci := 6) (C := rn_MO) (T := ft_MO) (N := 22) hx hb hts fi_MO hown hE.K hP g60_0 rfl 8 (by decide) (hts _ tw_994) (fun _ h9 => h9) rfl dd_MO_of_83 ?_
                    refine lv_iload hx hb dd_MO_of_86 (lv_at hl 4 rfl) ?_
                    refine hm_iald (j := k) hx hb hE.K hP 2 g60_8 rfl (vp_in_nI (by omega) (by omega)) (nI_clamp (by omega)) dd_MO_of_88 ?_
                    refine W.eq (g2 := F0 m 89 ls [.int (to_I b.2.1 b.2.2.1), .int (nI q9)]) (by rw [bf2]) ?_
                    refine lv_bipush (v := nI 16) hx hb dd_MO_of_89 (by decide +kernel) ?_
                    refine lv_iload_n hx hb dd_MO_of_91 rfl (lv_at hl 1 rfl) ?_
                    refine lv_iadd hx hb dd_MO_of_92 ?_
                    refine lv_topi (fun x71 ex71 => ?_)
                    have hadd := congrArg Int32.toInt ex71
                    refine hi_icmp_ne (tgt := 100) hx hb dd_MO_of_93 (by decide) (fun c72 => ?_) (fun c72 => ?_)
                    · have hPb : of_P x w b = false := by rw [of_Pd hin bf5]; exact decide_eq_false (by omega)
                      refine lv_iconst (v := nI 0) hx hb dd_MO_of_100 (by decide +kernel) ?_
                      refine hn_iadd hx hb dd_MO_of_101 ?_
                      refine lv_istore_n (lv' := [(3, .int (nI (q9 + 0))), (0, .ref (P 0)), (1, .int x), (2, .int w), (4, .int (nI k))]) hx hb dd_MO_of_102 rfl hl (by decide) rfl (fun ls hl => ?_)
                      refine lv_iinc (v := nI (k + 1)) (lv' := [(4, .int (nI (k + 1))), (3, .int (nI (q9 + 0))), (0, .ref (P 0)), (1, .int x), (2, .int w)]) hx hb dd_MO_of_103 hl (k := 4) rfl (nI_1 k) (by decide) rfl (fun ls hl => ?_)
                      refine lv_goto (tgt := 36) hx hb dd_MO_of_106 (by decide) ?_
                      exact ih36 (k + 1) (q9 + 0) Mu36 (by omega) (by rw [ct_step hb1, ← hq9, hPb]; rfl) (⟨g60_0, g60_1, g60_3, g60_4, g60_5, g60_7, g60_8, g60_9, g60_10, g60_11, g60_14, g60_15, g60_16, g60_17, g60_19, g60_20, g60_21, po, pb⟩) (hF36) (by omega) _ _ _ hP hS (lv_sub hl [2, 3, 4, 1, 0] rfl)
                    · have hPb : of_P x w b = true := by rw [of_Pd hin bf5]; exact decide_eq_true (by omega)
                      refine lv_iconst (v := nI 1) hx hb dd_MO_of_96 (by decide +kernel) ?_
                      refine lv_goto (tgt := 101) hx hb dd_MO_of_97 (by decide) ?_
                      refine hn_iadd hx hb dd_MO_of_101 ?_
                      refine lv_istore_n (lv' := [(3, .int (nI (q9 + 1))), (0, .ref (P 0)), (1, .int x), (2, .int w), (4, .int (nI k))]) hx hb dd_MO_of_102 rfl hl (by decide) rfl (fun ls hl => ?_)
                      refine lv_iinc (v := nI (k + 1)) (lv' := [(4, .int (nI (k + 1))), (3, .int (nI (q9 + 1))), (0, .ref (P 0)), (1, .int x), (2, .int w)]) hx hb dd_MO_of_103 hl (k := 4) rfl (nI_1 k) (by decide) rfl (fun ls hl => ?_)
                      refine lv_goto (tgt := 36) hx hb dd_MO_of_106 (by decide) ?_
                      exact ih36 (k + 1) (q9 + 1) Mu36 (by omega) (by rw [ct_step hb1, ← hq9, hPb]; rfl) (⟨g60_0, g60_1, g60_3, g60_4, g60_5, g60_7, g60_8, g60_9, g60_10, g60_11, g60_14, g60_15, g60_16, g60_17, g60_19, g60_20, g60_21, po, pb⟩) (hF36) (by omega) _ _ _ hP hS (lv_sub hl [2, 3, 4, 1, 0] rfl)
            · refine lv_aload_n hx hb dd_MO_of_50 rfl (lv_at hl 0 rfl) ?_
              refine hm_get (ci := 6) (C := rn_MO) (T := ft_MO) (N := 22) hx hb hts fi_MO hown hE.K hP g60_0 rfl 7 (by decide) (hts _ tw_993) (fun _ h9 => h9) rfl dd_MO_of_51 ?_
              refine lv_iload hx hb dd_MO_of_54 (lv_at hl 4 rfl) ?_
              refine hm_iald (j := k) hx hb hE.K hP 2 g60_7 rfl (vp_in_nI (by omega) (by omega)) (nI_clamp (by omega)) dd_MO_of_56 ?_
              refine W.eq (g2 := F0 m 57 ls [.int b.1, .int (nI q9)]) (by rw [bf1]) ?_
              refine lv_iload_n hx hb dd_MO_of_57 rfl (lv_at hl 1 rfl) ?_
              refine hi_icmp_eq (tgt := 96) hx hb dd_MO_of_58 (by decide) (fun c73 => ?_) (fun c73 => ?_)
              · have hPb : of_P x w b = true := by rw [of_Pd hin bf5]; exact decide_eq_true (by omega)
                refine lv_iconst (v := nI 1) hx hb dd_MO_of_96 (by decide +kernel) ?_
                refine lv_goto (tgt := 101) hx hb dd_MO_of_97 (by decide) ?_
                refine hn_iadd hx hb dd_MO_of_101 ?_
                refine lv_istore_n (lv' := [(3, .int (nI (q9 + 1))), (0, .ref (P 0)), (1, .int x), (2, .int w), (4, .int (nI k))]) hx hb dd_MO_of_102 rfl hl (by decide) rfl (fun ls hl => ?_)
                refine lv_iinc (v := nI (k + 1)) (lv' := [(4, .int (nI (k + 1))), (3, .int (nI (q9 + 1))), (0, .ref (P 0)), (1, .int x), (2, .int w)]) hx hb dd_MO_of_103 hl (k := 4) rfl (nI_1 k) (by decide) rfl (fun ls hl => ?_)
                refine lv_goto (tgt := 36) hx hb dd_MO_of_106 (by decide) ?_
                exact ih36 (k + 1) (q9 + 1) Mu36 (by omega) (by rw [ct_step hb1, ← hq9, hPb]; rfl) (⟨g60_0, g60_1, g60_3, g60_4, g60_5, g60_7, g60_8, g60_9, g60_10, g60_11, g60_14, g60_15, g60_16, g60_17, g60_19, g60_20, g60_21, po, pb⟩) (hF36) (by omega) _ _ _ hP hS (lv_sub hl [2, 3, 4, 1, 0] rfl)
              · refine lv_iload_n hx hb dd_MO_of_61 rfl (lv_at hl 2 rfl) ?_
                refine lv_iconst (v := nI 1) hx hb dd_MO_of_62 (by decide +kernel) ?_
                refine hi_icmp_ne (tgt := 77) hx hb dd_MO_of_63 (by decide) (fun c74 => ?_) (fun c74 => ?_)
                · refine lv_iload_n hx hb dd_MO_of_77 rfl (lv_at hl 2 rfl) ?_
                  refine lv_iconst (v := nI 2) hx hb dd_MO_of_78 (by decide +kernel) ?_
                  refine hi_icmp_ne (tgt := 100) hx hb dd_MO_of_79 (by decide) (fun c75 => ?_) (fun c75 => ?_)
                  · have hPb : of_P x w b = false := by rw [of_Pd hin bf5]; exact decide_eq_false (by omega)
                    refine lv_iconst (v := nI 0) hx hb dd_MO_of_100 (by decide +kernel) ?_
                    refine hn_iadd hx hb dd_MO_of_101 ?_
                    refine lv_istore_n (lv' := [(3, .int (nI (q9 + 0))), (0, .ref (P 0)), (1, .int x), (2, .int w), (4, .int (nI k))]) hx hb dd_MO_of_102 rfl hl (by decide) rfl (fun ls hl => ?_)
                    refine lv_iinc (v := nI (k + 1)) (lv' := [(4, .int (nI (k + 1))), (3, .int (nI (q9 + 0))), (0, .ref (P 0)), (1, .int x), (2, .int w)]) hx hb dd_MO_of_103 hl (k := 4) rfl (nI_1 k) (by decide) rfl (fun ls hl => ?_)
                    refine lv_goto (tgt := 36) hx hb dd_MO_of_106 (by decide) ?_
                    exact ih36 (k + 1) (q9 + 0) Mu36 (by omega) (by rw [ct_step hb1, ← hq9, hPb]; rfl) (⟨g60_0, g60_1, g60_3, g60_4, g60_5, g60_7, g60_8, g60_9, g60_10, g60_11, g60_14, g60_15, g60_16, g60_17, g60_19, g60_20, g60_21, po, pb⟩) (hF36) (by omega) _ _ _ hP hS (lv_sub hl [2, 3, 4, 1, 0] rfl)
                  · refine lv_aload_n hx hb dd_MO_of_82 rfl (lv_at hl 0 rfl) ?_
                    refine hm_get (ci := 6) (C := rn_MO) (T := ft_MO) (N := 22) hx hb hts fi_MO hown hE.K hP g60_0 rfl 8 (by decide) (hts _ tw_994) (fun _ h9 => h9) rfl dd_MO_of_83 ?_
                    refine lv_iload hx hb dd_MO_of_86 (lv_at hl 4 rfl) ?_
                    refine hm_iald (j := k) hx hb hE.K hP 2 g60_8 rfl (vp_in_nI (by omega) (by omega)) (nI_clamp (by omega)) dd_MO_of_88 ?_
                    refine W.eq (g2 := F0 m 89 ls [.int (to_I b.2.1 b.2.2.1), .int (nI q9)]) (by rw [bf2]) ?_
                    refine lv_bipush (v := nI 16) hx hb dd_MO_of_89 (by decide +kernel) ?_
                    refine lv_iload_n hx hb dd_MO_of_91 rfl (lv_at hl 1 rfl) ?_
                    refine lv_iadd hx hb dd_MO_of_92 ?_
                    refine lv_topi (fun x76 ex76 => ?_)
                    have hadd := congrArg Int32.toInt ex76
                    refine hi_icmp_ne (tgt := 100) hx hb dd_MO_of_93 (by decide) (fun c77 => ?_) (fun c77 => ?_)
                    · have hPb : of_P x w b = false := by rw [of_Pd hin bf5]; exact decide_eq_false (by omega)
                      refine lv_iconst (v := nI 0) hx hb dd_MO_of_100 (by decide +kernel) ?_
                      refine hn_iadd hx hb dd_MO_of_101 ?_
                      refine lv_istore_n (lv' := [(3, .int (nI (q9 + 0))), (0, .ref (P 0)), (1, .int x), (2, .int w), (4, .int (nI k))]) hx hb dd_MO_of_102 rfl hl (by decide) rfl (fun ls hl => ?_)
                      refine lv_iinc (v := nI (k + 1)) (lv' := [(4, .int (nI (k + 1))), (3, .int (nI (q9 + 0))), (0, .ref (P 0)), (1, .int x), (2, .int w)]) hx hb dd_MO_of_103 hl (k := 4) rfl (nI_1 k) (by decide) rfl (fun ls hl => ?_)
                      refine lv_goto (tgt := 36) hx hb dd_MO_of_106 (by decide) ?_
                      exact ih36 (k + 1) (q9 + 0) Mu36 (by omega) (by rw [ct_step hb1, ← hq9, hPb]; rfl) (⟨g60_0, g60_1, g60_3, g60_4, g60_5, g60_7, g60_8, g60_9, g60_10, g60_11, g60_14, g60_15, g60_16, g60_17, g60_19, g60_20, g60_21, po, pb⟩) (hF36) (by omega) _ _ _ hP hS (lv_sub hl [2, 3, 4, 1, 0] rfl)
                    · have hPb : of_P x w b = true := by rw [of_Pd hin bf5]; exact decide_eq_true (by omega)
                      refine lv_iconst (v := nI 1) hx hb dd_MO_of_96 (by decide +kernel) ?_
                      refine lv_goto (tgt := 101) hx hb dd_MO_of_97 (by decide) ?_
                      refine hn_iadd hx hb dd_MO_of_101 ?_
                      refine lv_istore_n (lv' := [(3, .int (nI (q9 + 1))), (0, .ref (P 0)), (1, .int x), (2, .int w), (4, .int (nI k))]) hx hb dd_MO_of_102 rfl hl (by decide) rfl (fun ls hl => ?_)
                      refine lv_iinc (v := nI (k + 1)) (lv' := [(4, .int (nI (k + 1))), (3, .int (nI (q9 + 1))), (0, .ref (P 0)), (1, .int x), (2, .int w)]) hx hb dd_MO_of_103 hl (k := 4) rfl (nI_1 k) (by decide) rfl (fun ls hl => ?_)
                      refine lv_goto (tgt := 36) hx hb dd_MO_of_106 (by decide) ?_
                      exact ih36 (k + 1) (q9 + 1) Mu36 (by omega) (by rw [ct_step hb1, ← hq9, hPb]; rfl) (⟨g60_0, g60_1, g60_3, g60_4, g60_5, g60_7, g60_8, g60_9, g60_10, g60_11, g60_14, g60_15, g60_16, g60_17, g60_19, g60_20, g60_21, po, pb⟩) (hF36) (by omega) _ _ _ hP hS (lv_sub hl [2, 3, 4, 1, 0] rfl)
                · refine lv_aload_n hx hb dd_MO_of_66 rfl (lv_at hl 0 rfl) ?_
                  refine hm_get (ci := 6) (C := rn_MO) (T := ft_MO) (N := 22) hx hb hts fi_MO hown hE.K hP g60_0 rfl 8 (by decide) (hts _ tw_994) (fun _ h9 => h9) rfl dd_MO_of_67 ?_
                  refine lv_iload hx hb dd_MO_of_70 (lv_at hl 4 rfl) ?_
                  refine hm_iald (j := k) hx hb hE.K hP 2 g60_8 rfl (vp_in_nI (by omega) (by omega)) (nI_clamp (by omega)) dd_MO_of_72 ?_
                  refine W.eq (g2 := F0 m 73 ls [.int (to_I b.2.1 b.2.2.1), .int (nI q9)]) (by rw [bf2]) ?_
                  refine lv_iload_n hx hb dd_MO_of_73 rfl (lv_at hl 1 rfl) ?_
                  refine hi_icmp_eq (tgt := 96) hx hb dd_MO_of_74 (by decide) (fun c78 => ?_) (fun c78 => ?_)
                  · have hPb : of_P x w b = true := by rw [of_Pd hin bf5]; exact decide_eq_true (by omega)
                    refine lv_iconst (v := nI 1) hx hb dd_MO_of_96 (by decide +kernel) ?_
                    refine lv_goto (tgt := 101) hx hb dd_MO_of_97 (by decide) ?_
                    refine hn_iadd hx hb dd_MO_of_101 ?_
                    refine lv_istore_n (lv' := [(3, .int (nI (q9 + 1))), (0, .ref (P 0)), (1, .int x), (2, .int w), (4, .int (nI k))]) hx hb dd_MO_of_102 rfl hl (by decide) rfl (fun ls hl => ?_)
                    refine lv_iinc (v := nI (k + 1)) (lv' := [(4, .int (nI (k + 1))), (3, .int (nI (q9 + 1))), (0, .ref (P 0)), (1, .int x), (2, .int w)]) hx hb dd_MO_of_103 hl (k := 4) rfl (nI_1 k) (by decide) rfl (fun ls hl => ?_)
                    refine lv_goto (tgt := 36) hx hb dd_MO_of_106 (by decide) ?_
                    exact ih36 (k + 1) (q9 + 1) Mu36 (by omega) (by rw [ct_step hb1, ← hq9, hPb]; rfl) (⟨g60_0, g60_1, g60_3, g60_4, g60_5, g60_7, g60_8, g60_9, g60_10, g60_11, g60_14, g60_15, g60_16, g60_17, g60_19, g60_20, g60_21, po, pb⟩) (hF36) (by omega) _ _ _ hP hS (lv_sub hl [2, 3, 4, 1, 0] rfl)
                  · refine lv_iload_n hx hb dd_MO_of_77 rfl (lv_at hl 2 rfl) ?_
                    refine lv_iconst (v := nI 2) hx hb dd_MO_of_78 (by decide +kernel) ?_
                    refine hi_icmp_ne (tgt := 100) hx hb dd_MO_of_79 (by decide) (fun c79 => ?_) (fun c79 => ?_)
                    · have hPb : of_P x w b = false := by rw [of_Pd hin bf5]; exact decide_eq_false (by omega)
                      refine lv_iconst (v := nI 0) hx hb dd_MO_of_100 (by decide +kernel) ?_
                      refine hn_iadd hx hb dd_MO_of_101 ?_
                      refine lv_istore_n (lv' := [(3, .int (nI (q9 + 0))), (0, .ref (P 0)), (1, .int x), (2, .int w), (4, .int (nI k))]) hx hb dd_MO_of_102 rfl hl (by decide) rfl (fun ls hl => ?_)
                      refine lv_iinc (v := nI (k + 1)) (lv' := [(4, .int (nI (k + 1))), (3, .int (nI (q9 + 0))), (0, .ref (P 0)), (1, .int x), (2, .int w)]) hx hb dd_MO_of_103 hl (k := 4) rfl (nI_1 k) (by decide) rfl (fun ls hl => ?_)
                      refine lv_goto (tgt := 36) hx hb dd_MO_of_106 (by decide) ?_
                      exact ih36 (k + 1) (q9 + 0) Mu36 (by omega) (by rw [ct_step hb1, ← hq9, hPb]; rfl) (⟨g60_0, g60_1, g60_3, g60_4, g60_5, g60_7, g60_8, g60_9, g60_10, g60_11, g60_14, g60_15, g60_16, g60_17, g60_19, g60_20, g60_21, po, pb⟩) (hF36) (by omega) _ _ _ hP hS (lv_sub hl [2, 3, 4, 1, 0] rfl)
                    · refine lv_aload_n hx hb dd_MO_of_82 rfl (lv_at hl 0 rfl) ?_
                      refine hm_get (ci := 6) (C := rn_MO) (T := ft_MO) (N := 22) hx hb hts fi_MO hown hE.K hP g60_0 rfl 8 (by decide) (hts _ tw_994) (fun _ h9 => h9) rfl dd_MO_of_83 ?_
                      refine lv_iload hx hb dd_MO_of_86 (lv_at hl 4 rfl) ?_
                      refine hm_iald (j := k) hx hb hE.K hP 2 g60_8 rfl (vp_in_nI (by omega) (by omega)) (nI_clamp (by omega)) dd_MO_of_88 ?_
                      refine W.eq (g2 := F0 m 89 ls [.int (to_I b.2.1 b.2.2.1), .int (nI q9)]) (by rw [bf2]) ?_
                      refine lv_bipush (v := nI 16) hx hb dd_MO_of_89 (by decide +kernel) ?_
                      refine lv_iload_n hx hb dd_MO_of_91 rfl (lv_at hl 1 rfl) ?_
                      refine lv_iadd hx hb dd_MO_of_92 ?_
                      refine lv_topi (fun x80 ex80 => ?_)
                      have hadd := congrArg Int32.toInt ex80
                      refine hi_icmp_ne (tgt := 100) hx hb dd_MO_of_93 (by decide) (fun c81 => ?_) (fun c81 => ?_)
                      · have hPb : of_P x w b = false := by rw [of_Pd hin bf5]; exact decide_eq_false (by omega)
                        refine lv_iconst (v := nI 0) hx hb dd_MO_of_100 (by decide +kernel) ?_
                        refine hn_iadd hx hb dd_MO_of_101 ?_
                        refine lv_istore_n (lv' := [(3, .int (nI (q9 + 0))), (0, .ref (P 0)), (1, .int x), (2, .int w), (4, .int (nI k))]) hx hb dd_MO_of_102 rfl hl (by decide) rfl (fun ls hl => ?_)
                        refine lv_iinc (v := nI (k + 1)) (lv' := [(4, .int (nI (k + 1))), (3, .int (nI (q9 + 0))), (0, .ref (P 0)), (1, .int x), (2, .int w)]) hx hb dd_MO_of_103 hl (k := 4) rfl (nI_1 k) (by decide) rfl (fun ls hl => ?_)
                        refine lv_goto (tgt := 36) hx hb dd_MO_of_106 (by decide) ?_
                        exact ih36 (k + 1) (q9 + 0) Mu36 (by omega) (by rw [ct_step hb1, ← hq9, hPb]; rfl) (⟨g60_0, g60_1, g60_3, g60_4, g60_5, g60_7, g60_8, g60_9, g60_10, g60_11, g60_14, g60_15, g60_16, g60_17, g60_19, g60_20, g60_21, po, pb⟩) (hF36) (by omega) _ _ _ hP hS (lv_sub hl [2, 3, 4, 1, 0] rfl)
                      · have hPb : of_P x w b = true := by rw [of_Pd hin bf5]; exact decide_eq_true (by omega)
                        refine lv_iconst (v := nI 1) hx hb dd_MO_of_96 (by decide +kernel) ?_
                        refine lv_goto (tgt := 101) hx hb dd_MO_of_97 (by decide) ?_
                        refine hn_iadd hx hb dd_MO_of_101 ?_
                        refine lv_istore_n (lv' := [(3, .int (nI (q9 + 1))), (0, .ref (P 0)), (1, .int x), (2, .int w), (4, .int (nI k))]) hx hb dd_MO_of_102 rfl hl (by decide) rfl (fun ls hl => ?_)
                        refine lv_iinc (v := nI (k + 1)) (lv' := [(4, .int (nI (k + 1))), (3, .int (nI (q9 + 1))), (0, .ref (P 0)), (1, .int x), (2, .int w)]) hx hb dd_MO_of_103 hl (k := 4) rfl (nI_1 k) (by decide) rfl (fun ls hl => ?_)
                        refine lv_goto (tgt := 36) hx hb dd_MO_of_106 (by decide) ?_
                        exact ih36 (k + 1) (q9 + 1) Mu36 (by omega) (by rw [ct_step hb1, ← hq9, hPb]; rfl) (⟨g60_0, g60_1, g60_3, g60_4, g60_5, g60_7, g60_8, g60_9, g60_10, g60_11, g60_14, g60_15, g60_16, g60_17, g60_19, g60_20, g60_21, po, pb⟩) (hF36) (by omega) _ _ _ hP hS (lv_sub hl [2, 3, 4, 1, 0] rfl)
      have kk82 : hm_k M M [(P 0)] := hm_krf
      have kk83 : hm_k M M1 [(P 0)] := hm_ku kk82 (Or.inr (by simp)) eM1
      exact lp36 _ 0 0 M1 (Nat.zero_le _) (rfl) (⟨f18, f2, f3, f4, f5, f6, f7, f8, f9, f10, f11, f12, f13, f14, f15, f16, f17, po, pb⟩) (cz_F.k0 kk83 (hm_a1 ⟨by rw [po 0 (by decide)]; unfold pm; omega, _, f18⟩)) (Nat.lt_succ_self _) _ _ _ hP hS (lv_sub hl [2, 3, 4, 1, 0] rfl)
    · have hno := of_no (ex := ex) (bs := bs) (w := w) (by rw [if_pos (by omega)]; exact bz_f c59)
      refine lv_goto (tgt := 29) hx hb dd_MO_of_18 (by decide) ?_
      refine lv_iconst (v := (-1)) hx hb dd_MO_of_29 (by decide +kernel) ?_
      have kk84 : hm_k M M [(P 0)] := hm_krf
      have kk85 : hm_k M M1 [(P 0)] := hm_ku kk84 (Or.inr (by simp)) eM1
      exact hm_Ei (v := (-1)) hx hb hr rfl hS hP (⟨hno.symm, (va_up I 0 (nI 0)), A, L, ⟨f18, f2, f3, f4, f5, f6, f7, f8, f9, f10, f11, f12, f13, f14, f15, f16, f17, po, pb⟩, rfl, ⟨hT, hX, hQ, hB, hK, hH, hFo, hPs⟩, cz_F.k0 kk85 (hm_a1 ⟨by rw [po 0 (by decide)]; unfold pm; omega, _, f18⟩)⟩) hlocks (by omega) (by omega) dd_MO_of_30
set_option maxHeartbeats 4000000 in
set_option maxRecDepth 100000 in
theorem kc_MO_total (l : Launch) (B : Nat) (D : va_G) (G : Nat → Nat) (M : hm_M) (P O : Nat → Nat) (I : Nat → Int32) (A : Nat → Nat → Int32) (L : Nat → Nat → Int64) (hD : mo_D B D P O M I A L) (t : List Nat) (ex : Nat → Option (Int32 × Int32)) (qs : Nat → Bool) (bs : List bd_T) (key : List Nat) (hs : List (List Nat × List Nat)) (fo ps : Nat → Bool) (hZ : mo_S I A L t ex qs bs key hs fo ps) (w : Int32) : Met l yy_MO_total ws_MO_total ({ frames := 0, cells := 0, slots := 0, locals := 0 }) (hm_Pc B D G M [.ref (P 0), .int w]) (hm_Ni B D (fun r M1 => r = tt_r ex qs bs.length hs.length key.length w ∧ ∃ I1 A1 L1, mo_D B D P O M1 I1 A1 L1 ∧ I1 0 = nI 0 ∧ mo_S I1 A1 L1 t ex qs bs key hs fo ps ∧ cz_F O M O M1 pm)) (0) (0) (hm_A B) := by
  refine Met.ofW (cc := cd_MO_total) (maxL := 5) (ret := ((some FieldType.int))) (by decide) rfl ?_
  intro p e s m args below meth c s₁ B0 hml hv
  obtain ⟨rfl, hE, hP⟩ := hv
  have hx := B0.exec
  have hb := B0.bytes
  have hr := B0.returns
  have hts : ∀ w ∈ tb_G, w.before _ s = true := fun w h => atoms_spec (ws := ws_MO_total) B0.pre w (List.mem_cons_of_mem _ h)
  have hown : s.vm.findClass "RouteDeskModel" = some m.cls := findClass_of_methodNamed B0.named
  have hlocks := B0.notSynchronized
  have hRf : (headSpec ws_MO_total { frames := 0, cells := 0, slots := 0, locals := 0 }).room.frames = 0 := rfl
  have hRl : (headSpec ws_MO_total { frames := 0, cells := 0, slots := 0, locals := 0 }).room.locals = 0 := rfl
  have hRc : (headSpec ws_MO_total { frames := 0, cells := 0, slots := 0, locals := 0 }).room.cells = 0 := rfl
  have hRs : (headSpec ws_MO_total { frames := 0, cells := 0, slots := 0, locals := 0 }).room.slots = 0 := rfl
  generalize (headSpec ws_MO_total { frames := 0, cells := 0, slots := 0, locals := 0 }).room = R at hRf hRl hRc hRs ⊢
  have hS : va_S (hm_A B) s.heap s.heap [] := va_S.rf
  have hl := lv_entry ([.ref (P 0), .int w]) (n := 5) (Nat.le_of_ble_eq_true rfl)
  rw [lg_entry_eq]
  generalize (lg_sl ([.ref (P 0), .int w]) ++ List.replicate (5 - (lg_sl ([.ref (P 0), .int w])).length) Slot.unset).toArray = ls at hl ⊢
  have hl : lv_has ls 5 [(0, .ref (P 0)), (1, .int w)] := hl
  have t16 : (nI 16).toInt = 16 := by decide
  have tm1 : (-1 : Int32).toInt = -1 := by decide
  have t0 : (nI 0).toInt = 0 := by decide
  have t2 : (nI 2).toInt = 2 := by decide
  have t3 : (nI 3).toInt = 3 := by decide
  have t1 : (nI 1).toInt = 1 := by decide
  have t4 : (nI 4).toInt = 4 := by decide
  obtain ⟨p0, p1, p3, p4, p5, p7, p8, p9, p10, p11, p14, p15, p16, p17, p19, p20, p21, po, pb⟩ := id hD
  obtain ⟨hT, hX, hQ, hB, hK, hH, hFo, hPs⟩ := id hZ
  obtain ⟨ti1, ti2, ti3, ti4⟩ := id hT
  obtain ⟨bi1, bi2, bi3⟩ := id hB
  obtain ⟨ki1, ki2, ki3, ki4⟩ := id hK
  obtain ⟨hi1, hi2, hi3⟩ := id hH
  refine lv_aload_n hx hb dd_MO_total_0 rfl (lv_at hl 0 rfl) ?_
  refine lv_iconst (v := nI 0) hx hb dd_MO_total_1 (by decide +kernel) ?_
  refine hm_put (ci := 6) (v := .int (nI 0)) (ty := .int) (C := rn_MO) (T := ft_MO) (N := 22) hx hb hts fi_MO fy_MO fo_MO fn_MO hown hE.K hP hS (pb 0 (by decide)) p0 rfl 0 (by decide) (hts _ tw_986) (fun _ h9 => h9) rfl (by decide +kernel) rfl rfl (Nat.le_of_ble_eq_true rfl) dd_MO_total_2 (fun H locs hP hS => ?_)
  have hP : hm_P D cl_W (hm_up M (P 0) (.inr (6, [.int (nI 0), .ref (P 1), .int (I 2), .ref (P 3), .ref (P 4), .ref (P 5), .int (I 6), .ref (P 7), .ref (P 8), .ref (P 9), .ref (P 10), .ref (P 11), .int (I 12), .int (I 13), .ref (P 14), .ref (P 15), .ref (P 16), .ref (P 17), .int (I 18), .ref (P 19), .ref (P 20), .ref (P 21)]))) H := hP
  obtain ⟨M1, eM1⟩ : ∃ z, z = hm_up M (P 0) (.inr (6, [.int (nI 0), .ref (P 1), .int (I 2), .ref (P 3), .ref (P 4), .ref (P 5), .int (I 6), .ref (P 7), .ref (P 8), .ref (P 9), .ref (P 10), .ref (P 11), .int (I 12), .int (I 13), .ref (P 14), .ref (P 15), .ref (P 16), .ref (P 17), .int (I 18), .ref (P 19), .ref (P 20), .ref (P 21)])) := ⟨_, rfl⟩
  rw [← eM1] at hP
  have f2 : M1 (P 1) = some (.inl (D.1 102, 48, .inl (A 1))) := by rw [eM1]; exact hm_up_o (hm_neO (po 1 (by decide)) (po 0 (by decide)) (by decide)) p1
  have f3 : M1 (P 3) = some (.inl (D.1 102, 16, .inl (A 3))) := by rw [eM1]; exact hm_up_o (hm_neO (po 3 (by decide)) (po 0 (by decide)) (by decide)) p3
  have f4 : M1 (P 4) = some (.inl (D.1 102, 16, .inl (A 4))) := by rw [eM1]; exact hm_up_o (hm_neO (po 4 (by decide)) (po 0 (by decide)) (by decide)) p4
  have f5 : M1 (P 5) = some (.inl (D.1 101, 16, .inl (A 5))) := by rw [eM1]; exact hm_up_o (hm_neO (po 5 (by decide)) (po 0 (by decide)) (by decide)) p5
  have f6 : M1 (P 7) = some (.inl (D.1 102, 120, .inl (A 7))) := by rw [eM1]; exact hm_up_o (hm_neO (po 7 (by decide)) (po 0 (by decide)) (by decide)) p7
  have f7 : M1 (P 8) = some (.inl (D.1 102, 120, .inl (A 8))) := by rw [eM1]; exact hm_up_o (hm_neO (po 8 (by decide)) (po 0 (by decide)) (by decide)) p8
  have f8 : M1 (P 9) = some (.inl (D.1 102, 120, .inl (A 9))) := by rw [eM1]; exact hm_up_o (hm_neO (po 9 (by decide)) (po 0 (by decide)) (by decide)) p9
  have f9 : M1 (P 10) = some (.inl (D.1 102, 5760, .inl (A 10))) := by rw [eM1]; exact hm_up_o (hm_neO (po 10 (by decide)) (po 0 (by decide)) (by decide)) p10
  have f10 : M1 (P 11) = some (.inl (D.1 102, 48, .inl (A 11))) := by rw [eM1]; exact hm_up_o (hm_neO (po 11 (by decide)) (po 0 (by decide)) (by decide)) p11
  have f11 : M1 (P 14) = some (.inl (D.1 103, 6, .inr (.inl (L 14)))) := by rw [eM1]; exact hm_up_o (hm_neO (po 14 (by decide)) (po 0 (by decide)) (by decide)) p14
  have f12 : M1 (P 15) = some (.inl (D.1 103, 6, .inr (.inl (L 15)))) := by rw [eM1]; exact hm_up_o (hm_neO (po 15 (by decide)) (po 0 (by decide)) (by decide)) p15
  have f13 : M1 (P 16) = some (.inl (D.1 101, 16, .inl (A 16))) := by rw [eM1]; exact hm_up_o (hm_neO (po 16 (by decide)) (po 0 (by decide)) (by decide)) p16
  have f14 : M1 (P 17) = some (.inl (D.1 101, 16, .inl (A 17))) := by rw [eM1]; exact hm_up_o (hm_neO (po 17 (by decide)) (po 0 (by decide)) (by decide)) p17
  have f15 : M1 (P 19) = some (.inl (D.1 101, 2601, .inl (A 19))) := by rw [eM1]; exact hm_up_o (hm_neO (po 19 (by decide)) (po 0 (by decide)) (by decide)) p19
  have f16 : M1 (P 20) = some (.inl (D.1 102, 52, .inl (A 20))) := by rw [eM1]; exact hm_up_o (hm_neO (po 20 (by decide)) (po 0 (by decide)) (by decide)) p20
  have f17 : M1 (P 21) = some (.inl (D.1 102, 52, .inl (A 21))) := by rw [eM1]; exact hm_up_o (hm_neO (po 21 (by decide)) (po 0 (by decide)) (by decide)) p21
  have f18 : M1 (P 0) = some (.inr (6, [.int (nI 0), .ref (P 1), .int (I 2), .ref (P 3), .ref (P 4), .ref (P 5), .int (I 6), .ref (P 7), .ref (P 8), .ref (P 9), .ref (P 10), .ref (P 11), .int (I 12), .int (I 13), .ref (P 14), .ref (P 15), .ref (P 16), .ref (P 17), .int (I 18), .ref (P 19), .ref (P 20), .ref (P 21)])) := by rw [eM1]; exact hm_up_s
  refine lv_iconst (v := nI 0) hx hb dd_MO_total_5 (by decide +kernel) ?_
  refine lv_istore_n (lv' := [(2, .int (nI 0)), (0, .ref (P 0)), (1, .int w)]) hx hb dd_MO_total_6 rfl hl (by decide) rfl (fun ls hl => ?_)
  refine lv_iconst (v := nI 0) hx hb dd_MO_total_7 (by decide +kernel) ?_
  refine lv_istore_n (lv' := [(3, .int (nI 0)), (2, .int (nI 0)), (0, .ref (P 0)), (1, .int w)]) hx hb dd_MO_total_8 rfl hl (by decide) rfl (fun ls hl => ?_)
  refine lv_iconst (v := nI 0) hx hb dd_MO_total_9 (by decide +kernel) ?_
  refine lv_istore (lv' := [(4, .int (nI 0)), (3, .int (nI 0)), (2, .int (nI 0)), (0, .ref (P 0)), (1, .int w)]) hx hb dd_MO_total_10 hl (by decide) rfl (fun ls hl => ?_)
  have lp12 : ∀ (n9 : Nat) (k : Nat) (q9 : Nat) (q8 : Nat) (Mu12 : hm_M), (k ≤ 16) → (q9 = (List.range k).countP (fun k => (ex k).isSome)) → (q8 = (List.range k).countP qs) → (mo_D B D P O Mu12 (va_up I 0 (nI 0)) A L) → (cz_F O M O Mu12 pm) → 16 - k < n9 → ∀ (H : Heap) (locs : List Loc) (ls : Array Slot), hm_P D cl_W Mu12 H → va_S (hm_A B) s.heap H locs → lv_has ls 5 [(0, .ref (P 0)), (1, .int w), (2, .int (nI q9)), (3, .int (nI q8)), (4, .int (nI k))] → W p l e R s m ([.ref (P 0), .int w] : List Value).toArray below meth c H locs (0) (0) (MQ below (hm_Ni B D (fun r M1 => r = tt_r ex qs bs.length hs.length key.length w ∧ ∃ I1 A1 L1, mo_D B D P O M1 I1 A1 L1 ∧ I1 0 = nI 0 ∧ mo_S I1 A1 L1 t ex qs bs key hs fo ps ∧ cz_F O M O M1 pm)) ([.ref (P 0), .int w] : List Value).toArray s (0) (0) (hm_A B)) (F0 m 12 ls []) := by
    intro n9
    induction n9 with
    | zero => intro k q9 q8 Mu12 hk hq9 hq8 hd12 hF12 hm; exact absurd hm (Nat.not_lt_zero _)
    | succ n9 ih12 =>
      intro k q9 q8 Mu12 hk hq9 hq8 hd12 hF12 hm H locs ls hP hS hl
      obtain ⟨g19_0, g19_1, g19_3, g19_4, g19_5, g19_7, g19_8, g19_9, g19_10, g19_11, g19_14, g19_15, g19_16, g19_17, g19_19, g19_20, g19_21, -, -⟩ := id hd12
      have g19_0 : Mu12 (P 0) = some (.inr (6, [.int (nI 0), .ref (P 1), .int (I 2), .ref (P 3), .ref (P 4), .ref (P 5), .int (I 6), .ref (P 7), .ref (P 8), .ref (P 9), .ref (P 10), .ref (P 11), .int (I 12), .int (I 13), .ref (P 14), .ref (P 15), .ref (P 16), .ref (P 17), .int (I 18), .ref (P 19), .ref (P 20), .ref (P 21)])) := g19_0
      have hq9l : q9 ≤ k := by rw [hq9]; exact rg_le
      have hq8l : q8 ≤ k := by rw [hq8]; exact rg_le
      refine lv_iload hx hb dd_MO_total_12 (lv_at hl 4 rfl) ?_
      refine lv_bipush (v := nI 16) hx hb dd_MO_total_14 (by decide +kernel) ?_
      refine hn_icmp_ge (tgt := 62) hx hb (by omega) (by omega) dd_MO_total_16 (by decide) (fun c20 => ?_) (fun c20 => ?_)
      · refine lv_iload_n hx hb dd_MO_total_62 rfl (lv_at hl 1 rfl) ?_
        rcases (show w.toInt = 0 ∨ w.toInt = 1 ∨ w.toInt = 2 ∨ w.toInt = 3 ∨ w.toInt = 4 ∨ (w.toInt < 0 ∨ 4 < w.toInt) from by omega) with sw21 | sw21 | sw21 | sw21 | sw21 | sw21
        · refine lv_tableIn (off := 33) (tgt := 96) hx hb dd_MO_total_63 (by omega) (by omega) (by rw [sw21]; rfl) (by decide) ?_
          refine lv_iload_n hx hb dd_MO_total_96 rfl (lv_at hl 2 rfl) ?_
          have hk16 : k = 16 := by omega
          subst hk16
          exact hm_Ei (v := nI q9) hx hb hr rfl hS hP (⟨(by rw [tt_r, if_pos (by omega), hq9]; rfl), (va_up I 0 (nI 0)), A, L, ⟨g19_0, g19_1, g19_3, g19_4, g19_5, g19_7, g19_8, g19_9, g19_10, g19_11, g19_14, g19_15, g19_16, g19_17, g19_19, g19_20, g19_21, po, pb⟩, rfl, ⟨hT, hX, hQ, hB, hK, hH, hFo, hPs⟩, hF12⟩) hlocks (by omega) (by omega) dd_MO_total_97
        · refine lv_tableIn (off := 35) (tgt := 98) hx hb dd_MO_total_63 (by omega) (by omega) (by rw [sw21]; rfl) (by decide) ?_
          refine lv_iload_n hx hb dd_MO_total_98 rfl (lv_at hl 3 rfl) ?_
          have hk16 : k = 16 := by omega
          subst hk16
          exact hm_Ei (v := nI q8) hx hb hr rfl hS hP (⟨(by rw [tt_r, if_neg (by omega), if_pos (by omega), hq8]; rfl), (va_up I 0 (nI 0)), A, L, ⟨g19_0, g19_1, g19_3, g19_4, g19_5, g19_7, g19_8, g19_9, g19_10, g19_11, g19_14, g19_15, g19_16, g19_17, g19_19, g19_20, g19_21, po, pb⟩, rfl, ⟨hT, hX, hQ, hB, hK, hH, hFo, hPs⟩, hF12⟩) hlocks (by omega) (by omega) dd_MO_total_99
        · refine lv_tableIn (off := 37) (tgt := 100) hx hb dd_MO_total_63 (by omega) (by omega) (by rw [sw21]; rfl) (by decide) ?_
          refine lv_aload_n hx hb dd_MO_total_100 rfl (lv_at hl 0 rfl) ?_
          refine hm_get (ci := 6) (C := rn_MO) (T := ft_MO) (N := 22) hx hb hts fi_MO hown hE.K hP g19_0 rfl 6 (by decide) (hts _ tw_992) (fun _ h9 => h9) rfl dd_MO_total_101 ?_
          refine W.eq (g2 := F0 m 104 ls [.int (nI bs.length)]) (by rw [bi1]) ?_
          have hk16 : k = 16 := by omega
          subst hk16
          exact hm_Ei (v := nI bs.length) hx hb hr rfl hS hP (⟨(by rw [tt_r, if_neg (by omega), if_neg (by omega), if_pos (by omega)]), (va_up I 0 (nI 0)), A, L, ⟨g19_0, g19_1, g19_3, g19_4, g19_5, g19_7, g19_8, g19_9, g19_10, g19_11, g19_14, g19_15, g19_16, g19_17, g19_19, g19_20, g19_21, po, pb⟩, rfl, ⟨hT, hX, hQ, hB, hK, hH, hFo, hPs⟩, hF12⟩) hlocks (by omega) (by omega) dd_MO_total_104
        · refine lv_tableIn (off := 42) (tgt := 105) hx hb dd_MO_total_63 (by omega) (by omega) (by rw [sw21]; rfl) (by decide) ?_
          refine lv_aload_n hx hb dd_MO_total_105 rfl (lv_at hl 0 rfl) ?_
          refine hm_get (ci := 6) (C := rn_MO) (T := ft_MO) (N := 22) hx hb hts fi_MO hown hE.K hP g19_0 rfl 13 (by decide) (hts _ tw_999) (fun _ h9 => h9) rfl dd_MO_total_106 ?_
          refine W.eq (g2 := F0 m 109 ls [.int (nI hs.length)]) (by rw [hi1]) ?_
          have hk16 : k = 16 := by omega
          subst hk16
          exact hm_Ei (v := nI hs.length) hx hb hr rfl hS hP (⟨(by rw [tt_r, if_neg (by omega), if_neg (by omega), if_neg (by omega), if_pos (by omega)]), (va_up I 0 (nI 0)), A, L, ⟨g19_0, g19_1, g19_3, g19_4, g19_5, g19_7, g19_8, g19_9, g19_10, g19_11, g19_14, g19_15, g19_16, g19_17, g19_19, g19_20, g19_21, po, pb⟩, rfl, ⟨hT, hX, hQ, hB, hK, hH, hFo, hPs⟩, hF12⟩) hlocks (by omega) (by omega) dd_MO_total_109
        · refine lv_tableIn (off := 47) (tgt := 110) hx hb dd_MO_total_63 (by omega) (by omega) (by rw [sw21]; rfl) (by decide) ?_
          refine lv_aload_n hx hb dd_MO_total_110 rfl (lv_at hl 0 rfl) ?_
          refine hm_get (ci := 6) (C := rn_MO) (T := ft_MO) (N := 22) hx hb hts fi_MO hown hE.K hP g19_0 rfl 12 (by decide) (hts _ tw_998) (fun _ h9 => h9) rfl dd_MO_total_111 ?_
          refine W.eq (g2 := F0 m 114 ls [.int (nI key.length)]) (by rw [ki1]) ?_
          have hk16 : k = 16 := by omega
          subst hk16
          exact hm_Ei (v := nI key.length) hx hb hr rfl hS hP (⟨(by rw [tt_r, if_neg (by omega), if_neg (by omega), if_neg (by omega), if_neg (by omega), if_pos (by omega)]), (va_up I 0 (nI 0)), A, L, ⟨g19_0, g19_1, g19_3, g19_4, g19_5, g19_7, g19_8, g19_9, g19_10, g19_11, g19_14, g19_15, g19_16, g19_17, g19_19, g19_20, g19_21, po, pb⟩, rfl, ⟨hT, hX, hQ, hB, hK, hH, hFo, hPs⟩, hF12⟩) hlocks (by omega) (by omega) dd_MO_total_114
        · refine lv_tableOut (tgt := 115) hx hb dd_MO_total_63 sw21 (by decide) ?_
          refine lv_iconst (v := (-1)) hx hb dd_MO_total_115 (by decide +kernel) ?_
          have hk16 : k = 16 := by omega
          subst hk16
          exact hm_Ei (v := (-1)) hx hb hr rfl hS hP (⟨(by rw [tt_r, if_neg (by omega), if_neg (by omega), if_neg (by omega), if_neg (by omega), if_neg (by omega)]), (va_up I 0 (nI 0)), A, L, ⟨g19_0, g19_1, g19_3, g19_4, g19_5, g19_7, g19_8, g19_9, g19_10, g19_11, g19_14, g19_15, g19_16, g19_17, g19_19, g19_20, g19_21, po, pb⟩, rfl, ⟨hT, hX, hQ, hB, hK, hH, hFo, hPs⟩, hF12⟩) hlocks (by omega) (by omega) dd_MO_total_116
      · refine lv_iload_n hx hb dd_MO_total_19 rfl (lv_at hl 2 rfl) ?_
        refine lv_aload_n hx hb dd_MO_total_20 rfl (lv_at hl 0 rfl) ?_
        refine hm_get (ci := 6) (C := rn_MO) (T := ft_MO) (N := 22) hx hb hts fi_MO hown hE.K hP g19_0 rfl 3 (by decide) (hts _ tw_989) (fun _ h9 => h9) rfl dd_MO_total_21 ?_
        refine lv_iload hx hb dd_MO_total_24 (lv_at hl 4 rfl) ?_
        refine hm_iald (j := k) hx hb hE.K hP 2 g19_3 rfl (vp_in_nI (by omega) (by omega)) (nI_clamp (by omega)) dd_MO_total_26 ?_
        refine lv_iconst (v := (-1)) hx hb dd_MO_total_27 (by decide +kernel) ?_
        refine hi_icmp_eq (tgt := 35) hx hb dd_MO_total_28 (by decide) (fun c22 => ?_) (fun c22 => ?_)
        · have hxk : (ex k).isSome = false := by
            rcases hX k (by omega) with h9 | ⟨s9, o9, g1, g2, g3, g4, g5⟩
            · rw [h9.1]; rfl
            · rw [g2] at c22; omega
          refine lv_iconst (v := nI 0) hx hb dd_MO_total_35 (by decide +kernel) ?_
          refine hn_iadd hx hb dd_MO_total_36 ?_
          refine lv_istore_n (lv' := [(2, .int (nI (q9 + 0))), (0, .ref (P 0)), (1, .int w), (3, .int (nI q8)), (4, .int (nI k))]) hx hb dd_MO_total_37 rfl hl (by decide) rfl (fun ls hl => ?_)
          refine lv_iload_n hx hb dd_MO_total_38 rfl (lv_at hl 3 rfl) ?_
          refine lv_aload_n hx hb dd_MO_total_39 rfl (lv_at hl 1 rfl) ?_
          refine hm_get (ci := 6) (C := rn_MO) (T := ft_MO) (N := 22) hx hb hts fi_MO hown hE.K hP g19_0 rfl 5 (by decide) (hts _ tw_991) (fun _ h9 => h9) rfl dd_MO_total_40 ?_
          refine lv_iload hx hb dd_MO_total_43 (lv_at hl 4 rfl) ?_
          refine hm_zald (j := k) hx hb hE.K hP 1 g19_5 rfl (vp_in_nI (by omega) (by omega)) (nI_clamp (by omega)) dd_MO_total_45 ?_
          refine W.eq (g2 := F0 m 46 ls [.int (nI (bz (qs k))), .int (nI q8)]) (by rw [hQ]) ?_
          refine hn_if_eq (tgt := 53) hx hb (bz_b _) dd_MO_total_46 (by decide) (fun c23 => ?_) (fun c23 => ?_)
          · have hqk := bz_f c23
            refine lv_iconst (v := nI 0) hx hb dd_MO_total_53 (by decide +kernel) ?_
            refine hn_iadd hx hb dd_MO_total_54 ?_
            refine lv_istore_n (lv' := [(3, .int (nI (q8 + 0))), (2, .int (nI (q9 + 0))), (0, .ref (P 0)), (1, .int w), (4, .int (nI k))]) hx hb dd_MO_total_55 rfl hl (by decide) rfl (fun ls hl => ?_)
            refine lv_iinc (v := nI (k + 1)) (lv' := [(4, .int (nI (k + 1))), (3, .int (nI (q8 + 0))), (2, .int (nI (q9 + 0))), (0, .ref (P 0)), (1, .int w)]) hx hb dd_MO_total_56 hl (k := 4) rfl (nI_1 k) (by decide) rfl (fun ls hl => ?_)
            refine lv_goto (tgt := 12) hx hb dd_MO_total_59 (by decide) ?_
            exact ih12 (k + 1) (q9 + 0) (q8 + 0) Mu12 (by omega) (by rw [rg_step, ← hq9, hxk]; rfl) (by rw [rg_step, ← hq8, hqk]; rfl) (⟨g19_0, g19_1, g19_3, g19_4, g19_5, g19_7, g19_8, g19_9, g19_10, g19_11, g19_14, g19_15, g19_16, g19_17, g19_19, g19_20, g19_21, po, pb⟩) (hF12) (by omega) _ _ _ hP hS (lv_sub hl [3, 4, 2, 1, 0] rfl)
          · have hqk := bz_t c23
            refine lv_iconst (v := nI 1) hx hb dd_MO_total_49 (by decide +kernel) ?_
            refine lv_goto (tgt := 54) hx hb dd_MO_total_50 (by decide) ?_
            refine hn_iadd hx hb dd_MO_total_54 ?_
            refine lv_istore_n (lv' := [(3, .int (nI (q8 + 1))), (2, .int (nI (q9 + 0))), (0, .ref (P 0)), (1, .int w), (4, .int (nI k))]) hx hb dd_MO_total_55 rfl hl (by decide) rfl (fun ls hl => ?_)
            refine lv_iinc (v := nI (k + 1)) (lv' := [(4, .int (nI (k + 1))), (3, .int (nI (q8 + 1))), (2, .int (nI (q9 + 0))), (0, .ref (P 0)), (1, .int w)]) hx hb dd_MO_total_56 hl (k := 4) rfl (nI_1 k) (by decide) rfl (fun ls hl => ?_)
            refine lv_goto (tgt := 12) hx hb dd_MO_total_59 (by decide) ?_
            exact ih12 (k + 1) (q9 + 0) (q8 + 1) Mu12 (by omega) (by rw [rg_step, ← hq9, hxk]; rfl) (by rw [rg_step, ← hq8, hqk]; rfl) (⟨g19_0, g19_1, g19_3, g19_4, g19_5, g19_7, g19_8, g19_9, g19_10, g19_11, g19_14, g19_15, g19_16, g19_17, g19_19, g19_20, g19_21, po, pb⟩) (hF12) (by omega) _ _ _ hP hS (lv_sub hl [3, 4, 2, 1, 0] rfl)
        · have hxk : (ex k).isSome = true := by
            rcases hX k (by omega) with h9 | ⟨s9, o9, g1, g2, g3, g4, g5⟩
            · exact absurd (by rw [h9.2]) c22
            · rw [g1]; rfl
          refine lv_iconst (v := nI 1) hx hb dd_MO_total_31 (by decide +kernel) ?_
          refine lv_goto (tgt := 36) hx hb dd_MO_total_32 (by decide) ?_
          refine hn_iadd hx hb dd_MO_total_36 ?_
          refine lv_istore_n (lv' := [(2, .int (nI (q9 + 1))), (0, .ref (P 0)), (1, .int w), (3, .int (nI q8)), (4, .int (nI k))]) hx hb dd_MO_total_37 rfl hl (by decide) rfl (fun ls hl => ?_)
          refine lv_iload_n hx hb dd_MO_total_38 rfl (lv_at hl 3 rfl) ?_
          refine lv_aload_n hx hb dd_MO_total_39 rfl (lv_at hl 1 rfl) ?_
          refine hm_get (ci := 6) (C := rn_MO) (T := ft_MO) (N := 22) hx hb hts fi_MO hown hE.K hP g19_0 rfl 5 (by decide) (hts _ tw_991) (fun _ h9 => h9) rfl dd_MO_total_40 ?_
          refine lv_iload hx hb dd_MO_total_43 (lv_at hl 4 rfl) ?_
          refine hm_zald (j := k) hx hb hE.K hP 1 g19_5 rfl (vp_in_nI (by omega) (by omega)) (nI_clamp (by omega)) dd_MO_total_45 ?_
          refine W.eq (g2 := F0 m 46 ls [.int (nI (bz (qs k))), .int (nI q8)]) (by rw [hQ]) ?_
          refine hn_if_eq (tgt := 53) hx hb (bz_b _) dd_MO_total_46 (by decide) (fun c24 => ?_) (fun c24 => ?_)
          · have hqk := bz_f c24
            refine lv_iconst (v := nI 0) hx hb dd_MO_total_53 (by decide +kernel) ?_
            refine hn_iadd hx hb dd_MO_total_54 ?_
            refine lv_istore_n (lv' := [(3, .int (nI (q8 + 0))), (2, .int (nI (q9 + 1))), (0, .ref (P 0)), (1, .int w), (4, .int (nI k))]) hx hb dd_MO_total_55 rfl hl (by decide) rfl (fun ls hl => ?_)
            refine lv_iinc (v := nI (k + 1)) (lv' := [(4, .int (nI (k + 1))), (3, .int (nI (q8 + 0))), (2, .int (nI (q9 + 1))), (0, .ref (P 0)), (1, .int w)]) hx hb dd_MO_total_56 hl (k := 4) rfl (nI_1 k) (by decide) rfl (fun ls hl => ?_)
            refine lv_goto (tgt := 12) hx hb dd_MO_total_59 (by decide) ?_
            exact ih12 (k + 1) (q9 + 1) (q8 + 0) Mu12 (by omega) (by rw [rg_step, ← hq9, hxk]; rfl) (by rw [rg_step, ← hq8, hqk]; rfl) (⟨g19_0, g19_1, g19_3, g19_4, g19_5, g19_7, g19_8, g19_9, g19_10, g19_11, g19_14, g19_15, g19_16, g19_17, g19_19, g19_20, g19_21, po, pb⟩) (hF12) (by omega) _ _ _ hP hS (lv_sub hl [3, 4, 2, 1, 0] rfl)
          · have hqk := bz_t c24
            refine lv_iconst (v := nI 1) hx hb dd_MO_total_49 (by decide +kernel) ?_
            refine lv_goto (tgt := 54) hx hb dd_MO_total_50 (by decide) ?_
            refine hn_iadd hx hb dd_MO_total_54 ?_
            refine lv_istore_n (lv' := [(3, .int (nI (q8 + 1))), (2, .int (nI (q9 + 1))), (0, .ref (P 0)), (1, .int w), (4, .int (nI k))]) hx hb dd_MO_total_55 rfl hl (by decide) rfl (fun ls hl => ?_)
            refine lv_iinc (v := nI (k + 1)) (lv' := [(4, .int (nI (k + 1))), (3, .int (nI (q8 + 1))), (2, .int (nI (q9 + 1))), (0, .ref (P 0)), (1, .int w)]) hx hb dd_MO_total_56 hl (k := 4) rfl (nI_1 k) (by decide) rfl (fun ls hl => ?_)
            refine lv_goto (tgt := 12) hx hb dd_MO_total_59 (by decide) ?_
            exact ih12 (k + 1) (q9 + 1) (q8 + 1) Mu12 (by omega) (by rw [rg_step, ← hq9, hxk]; rfl) (by rw [rg_step, ← hq8, hqk]; rfl) (⟨g19_0, g19_1, g19_3, g19_4, g19_5, g19_7, g19_8, g19_9, g19_10, g19_11, g19_14, g19_15, g19_16, g19_17, g19_19, g19_20, g19_21, po, pb⟩) (hF12) (by omega) _ _ _ hP hS (lv_sub hl [3, 4, 2, 1, 0] rfl)
  have kk25 : hm_k M M [(P 0)] := hm_krf
  have kk26 : hm_k M M1 [(P 0)] := hm_ku kk25 (Or.inr (by simp)) eM1
  exact lp12 _ 0 0 0 M1 (Nat.zero_le _) (rfl) (rfl) (⟨f18, f2, f3, f4, f5, f6, f7, f8, f9, f10, f11, f12, f13, f14, f15, f16, f17, po, pb⟩) (cz_F.k0 kk26 (hm_a1 ⟨by rw [po 0 (by decide)]; unfold pm; omega, _, f18⟩)) (Nat.lt_succ_self _) _ _ _ hP hS (lv_sub hl [3, 4, 2, 1, 0] rfl)
