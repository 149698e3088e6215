/-! the tape is written -/
def by_at (w : Int64) (k : Nat) : Nat := (w.toUInt64.toNat / 2 ^ (8 * k)) % 256
theorem by_lt (w : Int64) (k : Nat) : by_at w k < 256 := Nat.mod_lt _ (by decide)
theorem by_and (u : UInt64) : u.toInt64.toInt32 &&& nI 255 = nI (u.toNat % 256) := by
  apply Int32.toBitVec_inj.mp
  rw [Int32.toBitVec_and]
  apply BitVec.eq_of_toNat_eq
  rw [BitVec.toNat_and]
  have h1 : (nI 255).toBitVec.toNat = 255 := by decide
  have h2 : (nI (u.toNat % 256)).toBitVec.toNat = u.toNat % 256 := by
    show (Int32.ofNat (u.toNat % 256)).toBitVec.toNat = _
    rw [Int32.toBitVec_ofNat', BitVec.toNat_ofNat]
    omega
  have h3 : u.toInt64.toInt32.toBitVec.toNat = u.toNat % 2 ^ 32 := by
    rw [Int64.toBitVec_toInt32, BitVec.signExtend_eq_setWidth_of_le _ (by decide), BitVec.toNat_setWidth]
    rfl
  rw [h1, h2, h3, show (255 : Nat) = 2 ^ 8 - 1 by rfl, Nat.and_two_pow_sub_one_eq_mod]
  omega
theorem by_k : ∀ k, k < 8 → ((nI (8 * k)).toInt64.toUInt64 &&& Int64.toUInt64 63) = UInt64.ofNat (8 * k) := by decide +kernel
theorem by_sh (w : Int64) {k : Nat} (hk : k < 8) : (w.toUInt64 >>> ((nI (8 * k)).toInt64.toUInt64 &&& Int64.toUInt64 63)).toInt64.toInt32 &&& nI 255 = nI (by_at w k) := by
  rw [by_k k hk, by_and, UInt64.toNat_shiftRight, UInt64.toNat_ofNat', Nat.shiftRight_eq_div_pow, by_at]
  congr 4
  omega
theorem by_c : ∀ c, c < 128 → ((nI c).toUInt32 % 65536).toInt32 = nI c := by decide +kernel
/-- the letters that a call of type brings: from the highest byte down -/
def ty_l (w : Int64) (n k : Nat) : List Nat := (List.range (n - k)).map (fun j => by_at w (n - 1 - j))
theorem ty_s {w : Int64} {n k : Nat} (h : k < n) : ty_l w n k = ty_l w n (k + 1) ++ [by_at w k] := by
  unfold ty_l
  rw [show n - k = (n - (k + 1)) + 1 by omega, List.range_succ, List.map_append]
  simp only [List.map_cons, List.map_nil]
  rw [show n - 1 - (n - (k + 1)) = k by omega]
theorem ty_len (w : Int64) (n k : Nat) : (ty_l w n k).length = n - k := by unfold ty_l; rw [List.length_map, List.length_range]
def ty_ok (tn : Nat) (w : Int64) (n : Int32) : Bool := decide (1 ≤ n.toInt ∧ n.toInt ≤ 8 ∧ (tn : Int) + n.toInt ≤ 48) && (List.range n.toInt.toNat).all (fun k => decide (32 ≤ by_at w k ∧ by_at w k ≤ 126))
def ty_t (t : List Nat) (w : Int64) (n : Int32) : List Nat := if ty_ok t.length w n = true then t ++ ty_l w n.toInt.toNat 0 else t

set_option maxHeartbeats 4000000 in
set_option maxRecDepth 100000 in
theorem kc_RD_byteOf (l : Launch) (B : Nat) (D : va_G) (G : Nat → Nat) (M : hm_M) (w : Int64) (k : Nat) (hk : k < 8) : Met l yy_RD_byteOf ws_RD_byteOf ({ frames := 0, cells := 0, slots := 0, locals := 0 }) (hm_Pc B D G M [.long w, .int (nI k)]) (hm_Ni B D (fun r M1 => r = nI (by_at w k) ∧ M1 = M)) (0) (0) (hm_A B) := by
  refine Met.ofW (cc := cd_RD_byteOf) (maxL := 3) (ret := ((some FieldType.int))) (by decide) rfl ?_
  intro p e s m args below meth c s₁ B0 hml hv
  obtain ⟨rfl, hE, hP⟩ := hv
  have hx := B0.exec
  have hb := B0.bytes
  have hr := B0.returns
  have hts : ∀ w ∈ tb_G, w.before _ s = true := fun w h => atoms_spec (ws := ws_RD_byteOf) B0.pre w (List.mem_cons_of_mem _ h)
  have hown : s.vm.findClass "RouteDesk" = some m.cls := findClass_of_methodNamed B0.named
  have hlocks := B0.notSynchronized
  have hRf : (headSpec ws_RD_byteOf { frames := 0, cells := 0, slots := 0, locals := 0 }).room.frames = 0 := rfl
  have hRl : (headSpec ws_RD_byteOf { frames := 0, cells := 0, slots := 0, locals := 0 }).room.locals = 0 := rfl
  have hRc : (headSpec ws_RD_byteOf { frames := 0, cells := 0, slots := 0, locals := 0 }).room.cells = 0 := rfl
  have hRs : (headSpec ws_RD_byteOf { frames := 0, cells := 0, slots := 0, locals := 0 }).room.slots = 0 := rfl
  generalize (headSpec ws_RD_byteOf { frames := 0, cells := 0, slots := 0, locals := 0 }).room = R at hRf hRl hRc hRs ⊢
  have hS : va_S (hm_A B) s.heap s.heap [] := va_S.rf
  have hl := lv_entry ([.long w, .int (nI k)]) (n := 3) (Nat.le_of_ble_eq_true rfl)
  rw [lg_entry_eq]
  generalize (lg_sl ([.long w, .int (nI k)]) ++ List.replicate (3 - (lg_sl ([.long w, .int (nI k)])).length) Slot.unset).toArray = ls at hl ⊢
  have hl : lv_has ls 3 [(0, .long w), (2, .int (nI k))] := hl
  refine lv_lload_n hx hb dd_RD_byteOf_0 rfl (lv_at hl 0 rfl) ?_
  refine lv_bipush (v := nI 8) hx hb dd_RD_byteOf_1 (by decide +kernel) ?_
  refine lv_iload_n hx hb dd_RD_byteOf_3 rfl (lv_at hl 1 rfl) ?_
  refine hn_imul hx hb dd_RD_byteOf_4 ?_
  refine lv_lushr hx hb dd_RD_byteOf_5 rfl ?_
  refine lv_topl (fun w1 ew1 => ?_)
  refine lv_l2i hx hb dd_RD_byteOf_6 rfl ?_
  refine lv_topi (fun x2 ex2 => ?_)
  refine lv_sipush (v := nI 255) hx hb dd_RD_byteOf_7 (by decide +kernel) ?_
  refine lv_iand hx hb dd_RD_byteOf_10 ?_
  refine lv_topi (fun x3 ex3 => ?_)
  obtain rfl : x3 = nI (by_at w k) := by rw [ex3, ex2, ew1]; exact by_sh w hk
  exact hm_Ei (v := nI (by_at w k)) hx hb hr rfl hS hP (⟨rfl, rfl⟩) hlocks (by omega) (by omega) dd_RD_byteOf_11
set_option maxHeartbeats 4000000 in
set_option maxRecDepth 100000 in
theorem kc_RD_type (l : Launch) (B : Nat) (D : va_G) (G : Nat → Nat) (M : hm_M) (N O : Nat → Nat) (hI : im_R D G N O M) (t : List Nat) (hT : tp_R B D N O M t) (w : Int64) (n : Int32) : Met l yy_RD_type ws_RD_type ({ frames := 6, cells := 8, slots := 800, locals := 136 }) (hm_Pc B D G M [.ref (N 0), .long w, .int n]) (hm_Ni B D (fun r M1 => r = nI (bz (ty_ok t.length w n)) ∧ ∃ O1, tp_R B D N O1 M1 (ty_t t w n) ∧ cz_F O M O1 M1 (cg 1))) (8) (800) (hm_A B) := by
  refine Met.ofW (cc := cd_RD_type) (maxL := 6) (ret := ((some FieldType.boolean))) (by decide) rfl ?_
  intro p e s m args below meth c s₁ B0 hml hv
  obtain ⟨rfl, hE, hP⟩ := hv
  have hx := B0.exec
  have hb := B0.bytes
  have hr := B0.returns
  have hts : ∀ w ∈ tb_G, w.before _ s = true := fun w h => atoms_spec (ws := ws_RD_type) B0.pre w (List.mem_cons_of_mem _ h)
  have hown : s.vm.findClass "RouteDesk" = some m.cls := findClass_of_methodNamed B0.named
  have hlocks := B0.notSynchronized
  have hRf : (headSpec ws_RD_type { frames := 6, cells := 8, slots := 800, locals := 136 }).room.frames = 6 := rfl
  have hRl : (headSpec ws_RD_type { frames := 6, cells := 8, slots := 800, locals := 136 }).room.locals = 136 := rfl
  have hRc : (headSpec ws_RD_type { frames := 6, cells := 8, slots := 800, locals := 136 }).room.cells = 8 := rfl
  have hRs : (headSpec ws_RD_type { frames := 6, cells := 8, slots := 800, locals := 136 }).room.slots = 800 := rfl
  generalize (headSpec ws_RD_type { frames := 6, cells := 8, slots := 800, locals := 136 }).room = R at hRf hRl hRc hRs ⊢
  have hS : va_S (hm_A B) s.heap s.heap [] := va_S.rf
  have hl := lv_entry ([.ref (N 0), .long w, .int n]) (n := 6) (Nat.le_of_ble_eq_true rfl)
  rw [lg_entry_eq]
  generalize (lg_sl ([.ref (N 0), .long w, .int n]) ++ List.replicate (6 - (lg_sl ([.ref (N 0), .long w, .int n])).length) Slot.unset).toArray = ls at hl ⊢
  have hl : lv_has ls 6 [(0, .ref (N 0)), (1, .long w), (3, .int n)] := hl
  have t16 : (nI 16).toInt = 16 := by decide
  have tm1 : (-1 : Int32).toInt = -1 := by decide
  have t0 : (nI 0).toInt = 0 := by decide
  have t2 : (nI 2).toInt = 2 := by decide
  have t3 : (nI 3).toInt = 3 := by decide
  have t1 : (nI 1).toInt = 1 := by decide
  have t8 : (nI 8).toInt = 8 := by decide
  obtain ⟨v, ⟨mm, f, ml, hsb⟩, to1, to2, tl⟩ := id hT
  obtain ⟨h1, h2, h3, h4, h5, h6, h7, hA_1, hA_v⟩ := id hsb
  refine lv_iload_n hx hb dd_RD_type_0 rfl (lv_at hl 2 rfl) ?_
  refine lv_iconst (v := nI 1) hx hb dd_RD_type_1 (by decide +kernel) ?_
  refine hi_icmp_lt (tgt := 25) hx hb dd_RD_type_2 (by decide) (fun c1 => ?_) (fun c1 => ?_)
  · refine lv_iconst (v := nI 0) hx hb dd_RD_type_25 (by decide +kernel) ?_
    have hno : ty_ok t.length w n = false := by
      rw [ty_ok, decide_eq_false (fun h9 => by
        obtain ⟨q1, q2, q3⟩ := h9
        omega)]; rfl
    exact hm_Ei (v := nI 0) hx hb hr rfl hS hP (⟨bz_0 hno, O, by rw [ty_t, hno, if_neg (by decide)]; exact hT, cz_F.rf⟩) hlocks (by omega) (by omega) dd_RD_type_26
  · refine lv_iload_n hx hb dd_RD_type_5 rfl (lv_at hl 2 rfl) ?_
    refine lv_bipush (v := nI 8) hx hb dd_RD_type_6 (by decide +kernel) ?_
    refine hi_icmp_gt (tgt := 25) hx hb dd_RD_type_8 (by decide) (fun c2 => ?_) (fun c2 => ?_)
    · refine lv_iconst (v := nI 0) hx hb dd_RD_type_25 (by decide +kernel) ?_
      have hno : ty_ok t.length w n = false := by
        rw [ty_ok, decide_eq_false (fun h9 => by
          obtain ⟨q1, q2, q3⟩ := h9
          omega)]; rfl
      exact hm_Ei (v := nI 0) hx hb hr rfl hS hP (⟨bz_0 hno, O, by rw [ty_t, hno, if_neg (by decide)]; exact hT, cz_F.rf⟩) hlocks (by omega) (by omega) dd_RD_type_26
    · obtain ⟨nn, hnn, en⟩ : ∃ nn : Nat, (1 ≤ nn ∧ nn ≤ 8) ∧ n = nI nn := ⟨n.toInt.toNat, by omega, hi_nI (by omega)⟩
      have hnT : n.toInt = nn := by rw [en]; exact nI_toInt (by omega)
      have hl : lv_has ls 6 [(0, .ref (N 0)), (1, .long w), (3, .int (nI nn))] := by rw [← en]; exact hl
      refine lv_aload_n hx hb dd_RD_type_11 rfl (lv_at hl 0 rfl) ?_
      refine hm_get (ci := 0) (C := rn_RD) (T := ft_RD) (N := 6) hx hb hts fi_RD hown hE.K hP hI.o rfl 0 (by decide) (hts _ tw_184) (fun _ h9 => h9) rfl dd_RD_type_12 ?_
      refine hm_ci hS (hm_rV 0 (As := []) (rest := []) ⟨hx, hb, hml, hown, hts⟩ hE hS hP (kc_SB_length l B D G M (N 1) v mm f ml t hsb) rfl h1 tw_210 tw_207 tw_208 tw_209 tw_38 (by decide +kernel) rfl rfl ⟨by show 1 + 1 ≤ R.frames; omega, by show 8 + (1 + 11) + 20 ≤ R.locals; omega⟩ rfl hl.1 rfl (Nat.le_of_ble_eq_true rfl) dd_RD_type_15 ⟨by omega, by omega⟩) (fun r3 M4 H locs hw5 hP hS => ?_)
      refine W.widen (k := 0) (n := 0) (by omega) (by omega) ?_
      obtain ⟨rfl, eM4⟩ := hw5
      rw [eM4] at hP
      refine lv_iload_n hx hb dd_RD_type_18 rfl (lv_at hl 2 rfl) ?_
      refine hn_iadd hx hb dd_RD_type_19 ?_
      refine lv_bipush (v := nI 48) hx hb dd_RD_type_20 (by decide +kernel) ?_
      refine hn_icmp_le (tgt := 27) hx hb (by omega) (by omega) dd_RD_type_22 (by decide) (fun c6 => ?_) (fun c6 => ?_)
      · refine lv_iconst (v := nI 0) hx hb dd_RD_type_27 (by decide +kernel) ?_
        refine lv_istore (lv' := [(4, .int (nI 0)), (0, .ref (N 0)), (1, .long w), (3, .int (nI nn))]) hx hb dd_RD_type_28 hl (by decide) rfl (fun ls hl => ?_)
        have lp30 : ∀ (n9 : Nat) (k : Nat), (k ≤ nn) → (∀ j, j < k → 32 ≤ by_at w j ∧ by_at w j ≤ 126) → nn - k < n9 → ∀ (H : Heap) (locs : List Loc) (ls : Array Slot), hm_P D cl_W M H → va_S (hm_A B) s.heap H locs → lv_has ls 6 [(0, .ref (N 0)), (1, .long w), (3, .int (nI nn)), (4, .int (nI k))] → W p l e R s m ([.ref (N 0), .long w, .int n] : List Value).toArray below meth c H locs (0) (0) (MQ below (hm_Ni B D (fun r M1 => r = nI (bz (ty_ok t.length w n)) ∧ ∃ O1, tp_R B D N O1 M1 (ty_t t w n) ∧ cz_F O M O1 M1 (cg 1))) ([.ref (N 0), .long w, .int n] : List Value).toArray s (8) (800) (hm_A B)) (F0 m 30 ls []) := by
          intro n9
          induction n9 with
          | zero => intro k hk hok hm; exact absurd hm (Nat.not_lt_zero _)
          | succ n9 ih30 =>
            intro k hk hok hm H locs ls hP hS hl
            refine lv_iload hx hb dd_RD_type_30 (lv_at hl 3 rfl) ?_
            refine lv_iload_n hx hb dd_RD_type_32 rfl (lv_at hl 2 rfl) ?_
            refine hn_icmp_ge (tgt := 66) hx hb (by omega) (by omega) dd_RD_type_33 (by decide) (fun c7 => ?_) (fun c7 => ?_)
            · have hok9 : ∀ j, j < nn → 32 ≤ by_at w j ∧ by_at w j ≤ 126 := fun j hj => hok j (by omega)
              refine lv_iload_n hx hb dd_RD_type_66 rfl (lv_at hl 2 rfl) ?_
              refine lv_iconst (v := nI 1) hx hb dd_RD_type_67 (by decide +kernel) ?_
              refine hn_isub hx hb (by omega) dd_RD_type_68 ?_
              refine lv_istore (lv' := [(4, .int (nI (nn - 1))), (0, .ref (N 0)), (1, .long w), (3, .int (nI nn))]) hx hb dd_RD_type_69 hl (by decide) rfl (fun ls hl => ?_)
              have lp71 : ∀ (n9 : Nat) (kq : Nat) (Mu : hm_M) (y9 : Int32) (v1 : Nat), (kq ≤ nn) → (y9.toInt = (kq : Int) - 1) → (sb_T B D Mu (N 1) v1 (t ++ ty_l w nn kq)) → (v1 = v ∨ M v1 = none) → (hm_k M Mu [(N 1), v]) → (∃ e2, Mu v = some e2) → kq < n9 → ∀ (H : Heap) (locs : List Loc) (ls : Array Slot), hm_P D cl_W Mu H → va_S (hm_A B) s.heap H locs → lv_has ls 6 [(0, .ref (N 0)), (1, .long w), (3, .int (nI nn)), (4, .int y9)] → W p l e R s m ([.ref (N 0), .long w, .int n] : List Value).toArray below meth c H locs ((nn - kq)) ((100 * (nn - kq))) (MQ below (hm_Ni B D (fun r M1 => r = nI (bz (ty_ok t.length w n)) ∧ ∃ O1, tp_R B D N O1 M1 (ty_t t w n) ∧ cz_F O M O1 M1 (cg 1))) ([.ref (N 0), .long w, .int n] : List Value).toArray s (8) (800) (hm_A B)) (F0 m 71 ls []) := by
                intro n9
                induction n9 with
                | zero => intro kq Mu y9 v1 hkq hy9 hs9 hv9 hk9 hkv hm; exact absurd hm (Nat.not_lt_zero _)
                | succ n9 ih71 =>
                  intro kq Mu y9 v1 hkq hy9 hs9 hv9 hk9 hkv hm H locs ls hP hS hl
                  obtain ⟨mm9, f9, ml9, hsb9⟩ := id hs9
                  obtain ⟨hc1, hc2, hc3, hc4, hc5, hc6, hc7, -, -⟩ := id hsb9
                  have hI9 : Mu (N 0) = some (.inr (0, [.ref (N 1), .ref (N 2), .ref (N 3), .ref (N 4), .ref (N 5), .ref (N 7)])) := hk9 _ _ hI.o (hm_n2 (hm_ne hI.o h1 (by intro h9; cases h9)) (hm_ne hI.o h2 (by intro h9; cases h9)))
                  have hlen9 : (t ++ ty_l w nn kq).length = t.length + (nn - kq) := by rw [List.length_append, ty_len]
                  refine lv_iload hx hb dd_RD_type_71 (lv_at hl 3 rfl) ?_
                  refine hi_if_lt (tgt := 97) hx hb dd_RD_type_73 (by decide) (fun c8 => ?_) (fun c8 => ?_)
                  · refine lv_iconst (v := nI 1) hx hb dd_RD_type_97 (by decide +kernel) ?_
                    have hk0 : kq = 0 := by omega
                    subst hk0
                    have hyes : ty_ok t.length w n = true := by
                      rw [ty_ok, decide_eq_true ⟨by omega, by omega, by omega⟩, Bool.true_and, List.all_eq_true]
                      intro j hj
                      rw [hnT] at hj
                      exact decide_eq_true (hok9 j (by have := List.mem_range.mp hj; omega))
                    obtain ⟨mm9, f9, ml9, hsb9⟩ := id hs9
                    exact hm_Ei (v := nI 1) hx hb hr rfl hS hP (⟨bz_1 hyes, cz_z O M (fun _ => 101), by rw [ty_t, hyes, if_pos rfl, hnT]; exact ⟨v1, hs9, (cz_z_o h1).trans to1, by
                        rcases hv9 with h9 | h9
                        · rw [h9]; exact (cz_z_o h2).trans to2
                        · exact cz_z_n h9, by rw [List.length_append, ty_len]; show _ + ((nn : Int).toNat - 0) ≤ 48; omega⟩, cz_F.k hk9 (hm_a2 ⟨by rw [to1]; rfl, _, hsb9.1⟩ ⟨by rw [to2]; rfl, hkv⟩)⟩) hlocks (by omega) (by omega) dd_RD_type_98
                  · obtain rfl : y9 = nI (kq - 1) := by
                      have h9 := hi_nI (x := y9) (by omega)
                      rw [h9, show y9.toInt.toNat = kq - 1 by omega]
                    have hb9 := hok9 (kq - 1) (by omega)
                    refine lv_aload_n hx hb dd_RD_type_76 rfl (lv_at hl 0 rfl) ?_
                    refine hm_get (ci := 0) (C := rn_RD) (T := ft_RD) (N := 6) hx hb hts fi_RD hown hE.K hP hI9 rfl 0 (by decide) (hts _ tw_184) (fun _ h9 => h9) rfl dd_RD_type_77 ?_
                    refine lv_lload_n hx hb dd_RD_type_80 rfl (lv_at hl 1 rfl) ?_
                    refine lv_iload hx hb dd_RD_type_81 (lv_at hl 3 rfl) ?_
                    refine hm_ci hS (hm_rS 2 (As := [.long w, .int (nI (kq - 1))]) (rest := [.ref (N 1)]) ⟨hx, hb, hml, hown, hts⟩ hE hS hP (kc_RD_byteOf l B D G Mu w (kq - 1) (by omega)) tw_216 tw_214 tw_215 tw_36 (by decide +kernel) rfl rfl ⟨by show 0 + 1 ≤ R.frames; omega, by show 8 + (3 + 11) + 0 ≤ R.locals; omega⟩ rfl hl.1 rfl (Nat.le_of_ble_eq_true rfl) dd_RD_type_83 ⟨by omega, by omega⟩) (fun r9 M10 H locs hw11 hP hS => ?_)
                    refine W.widen (k := (nn - kq)) (n := (100 * (nn - kq))) (by omega) (by omega) ?_
                    obtain ⟨rfl, eM10⟩ := hw11
                    rw [eM10] at hP
                    refine lv_i2c hx hb dd_RD_type_86 rfl ?_
                    refine lv_topi (fun x12 ex12 => ?_)
                    obtain rfl : x12 = nI (by_at w (kq - 1)) := by rw [ex12]; exact by_c _ (by omega)
                    refine hm_cr hS (hm_rV 1 (As := [.int (nI (by_at w (kq - 1)))]) (rest := []) ⟨hx, hb, hml, hown, hts⟩ hE hS hP (kc_SB_append l B D G Mu (N 1) v1 mm9 f9 ml9 (t ++ ty_l w nn kq) hsb9 (by_at w (kq - 1)) (by omega) (by omega)) rfl hc1 tw_220 tw_217 tw_218 tw_219 tw_38 (by decide +kernel) rfl rfl ⟨by show 5 + 1 ≤ R.frames; omega, by show 8 + (2 + 11) + 115 ≤ R.locals; omega⟩ rfl hl.1 rfl (Nat.le_of_ble_eq_true rfl) dd_RD_type_87 ⟨by omega, by omega⟩) (fun r13 M14 H locs hw15 hP hS => ?_)
                    refine W.widen (k := (nn - kq) + 1) (n := (100 * (nn - kq)) + 100) (by omega) (by omega) ?_
                    obtain ⟨-, v2, ka1, ka2, ka3⟩ := hw15
                    refine lv_pop hx hb dd_RD_type_90 rfl ?_
                    obtain ⟨x16, ex16⟩ : ∃ y : Int32, y = nI (kq - 1) + (-1) := ⟨_, rfl⟩
                    refine lv_iinc (v := x16) (lv' := [(4, .int x16), (0, .ref (N 0)), (1, .long w), (3, .int (nI nn))]) hx hb dd_RD_type_91 hl (k := 3) rfl (by rw [ex16]; rfl) (by decide) rfl (fun ls hl => ?_)
                    refine lv_goto (tgt := 71) hx hb dd_RD_type_94 (by decide) ?_
                    refine W.widen (k := (nn - (kq - 1))) (n := (100 * (nn - (kq - 1)))) (by omega) (by omega) ?_
                    exact ih71 (kq - 1) M14 x16 v2 (by omega) (by rw [ex16, hi_add (by rw [nI_toInt (by omega)]; show _ ≤ _ + (-1 : Int); omega) (by rw [nI_toInt (by omega)]; show _ + (-1 : Int) < _; omega), nI_toInt (by omega)]; show _ + (-1 : Int) = _; omega) (by rw [ty_s (by omega), show kq - 1 + 1 = kq by omega, ← List.append_assoc]; exact ka1) (by
                        rcases ka2 with h9 | ⟨h9, -⟩
                        · rw [h9]; exact hv9
                        · refine Or.inr ((hm_kn0 hk9 h9).resolve_right (fun h8 => ?_))
                          rcases List.mem_cons.mp h8 with h7 | h7
                          · rw [h7, hc1] at h9; cases h9
                          · rw [List.mem_singleton.mp h7] at h9
                            obtain ⟨e2, he2⟩ := hkv
                            rw [he2] at h9; cases h9) (hm_kt hk9 ka3 (hm_a2 (Or.inr (by simp)) (by
                        rcases hv9 with h9 | h9
                        · exact Or.inr (by rw [h9]; simp)
                        · exact Or.inl h9))) (by
                        obtain ⟨e2, he2⟩ := hkv
                        have hvn : v ≠ (N 1) := hm_ne h2 h1 (by intro h9; cases h9)
                        rcases ka2 with h9 | ⟨-, h9⟩
                        · by_cases h8 : v = v1
                          · obtain ⟨q1, q2, q3, q4⟩ := ka1
                            rw [h8, ← h9]; exact ⟨_, q4.2.1⟩
                          · exact ⟨_, ka3 _ _ he2 (hm_n2 hvn h8)⟩
                        · exact ⟨_, h9 _ _ he2 (hm_n1 hvn)⟩) (by omega) _ _ _ hP hS (lv_sub hl [1, 2, 3, 0] rfl)
              refine W.widen (k := (nn - nn)) (n := (100 * (nn - nn))) (by omega) (by omega) ?_
              exact lp71 _ nn M (nI (nn - 1)) v (Nat.le_refl _) (by rw [nI_toInt (by omega)]; omega) (by rw [show ty_l w nn nn = [] by unfold ty_l; rw [Nat.sub_self]; rfl, List.append_nil]; exact ⟨mm, f, ml, hsb⟩) (Or.inl rfl) (hm_krf) (⟨_, h2⟩) (Nat.lt_succ_self _) _ _ _ hP hS (lv_sub hl [1, 2, 3, 0] rfl)
            · refine lv_lload_n hx hb dd_RD_type_36 rfl (lv_at hl 1 rfl) ?_
              refine lv_iload hx hb dd_RD_type_37 (lv_at hl 3 rfl) ?_
              refine hm_ci hS (hm_rS 2 (As := [.long w, .int (nI k)]) (rest := []) ⟨hx, hb, hml, hown, hts⟩ hE hS hP (kc_RD_byteOf l B D G M w k (by omega)) tw_216 tw_214 tw_215 tw_36 (by decide +kernel) rfl rfl ⟨by show 0 + 1 ≤ R.frames; omega, by show 8 + (3 + 11) + 0 ≤ R.locals; omega⟩ rfl hl.1 rfl (Nat.le_of_ble_eq_true rfl) dd_RD_type_39 ⟨by omega, by omega⟩) (fun r17 M18 H locs hw19 hP hS => ?_)
              refine W.widen (k := 0) (n := 0) (by omega) (by omega) ?_
              obtain ⟨rfl, eM18⟩ := hw19
              rw [eM18] at hP
              have hbl := by_lt w k
              refine lv_istore (lv' := [(5, .int (nI (by_at w k))), (0, .ref (N 0)), (1, .long w), (3, .int (nI nn)), (4, .int (nI k))]) hx hb dd_RD_type_42 hl (by decide) rfl (fun ls hl => ?_)
              refine lv_iload hx hb dd_RD_type_44 (lv_at hl 0 rfl) ?_
              refine lv_bipush (v := nI 32) hx hb dd_RD_type_46 (by decide +kernel) ?_
              refine hn_icmp_lt (tgt := 58) hx hb (by omega) (by omega) dd_RD_type_48 (by decide) (fun c20 => ?_) (fun c20 => ?_)
              · refine lv_iconst (v := nI 0) hx hb dd_RD_type_58 (by decide +kernel) ?_
                have hno : ty_ok t.length w n = false := by
                  rw [ty_ok, Bool.and_eq_false_iff]
                  refine Or.inr (List.all_eq_false.mpr ⟨k, List.mem_range.mpr (by rw [hnT]; omega), ?_⟩)
                  rw [decide_eq_false (fun h9 => by omega)]; decide
                exact hm_Ei (v := nI 0) hx hb hr rfl hS hP (⟨bz_0 hno, O, by rw [ty_t, hno, if_neg (by decide)]; exact hT, cz_F.rf⟩) hlocks (by omega) (by omega) dd_RD_type_59
              · refine lv_iload hx hb dd_RD_type_51 (lv_at hl 0 rfl) ?_
                refine lv_bipush (v := nI 126) hx hb dd_RD_type_53 (by decide +kernel) ?_
                refine hn_icmp_le (tgt := 60) hx hb (by omega) (by omega) dd_RD_type_55 (by decide) (fun c21 => ?_) (fun c21 => ?_)
                · refine lv_iinc (v := nI (k + 1)) (lv' := [(4, .int (nI (k + 1))), (5, .int (nI (by_at w k))), (0, .ref (N 0)), (1, .long w), (3, .int (nI nn))]) hx hb dd_RD_type_60 hl (k := 4) rfl (nI_1 k) (by decide) rfl (fun ls hl => ?_)
                  refine lv_goto (tgt := 30) hx hb dd_RD_type_63 (by decide) ?_
                  exact ih30 (k + 1) (by omega) (fun j hj => by
                      by_cases h9 : j = k
                      · subst h9; omega
                      · exact hok j (by omega)) (by omega) _ _ _ hP hS (lv_sub hl [2, 3, 4, 0] rfl)
                · refine lv_iconst (v := nI 0) hx hb dd_RD_type_58 (by decide +kernel) ?_
                  have hno : ty_ok t.length w n = false := by
                    rw [ty_ok, Bool.and_eq_false_iff]
                    refine Or.inr (List.all_eq_false.mpr ⟨k, List.mem_range.mpr (by rw [hnT]; omega), ?_⟩)
                    rw [decide_eq_false (fun h9 => by omega)]; decide
                  exact hm_Ei (v := nI 0) hx hb hr rfl hS hP (⟨bz_0 hno, O, by rw [ty_t, hno, if_neg (by decide)]; exact hT, cz_F.rf⟩) hlocks (by omega) (by omega) dd_RD_type_59
        exact lp30 _ 0 (Nat.zero_le _) (fun j hj => absurd hj (Nat.not_lt_zero _)) (Nat.lt_succ_self _) _ _ _ hP hS (lv_sub hl [1, 2, 3, 0] rfl)
      · refine lv_iconst (v := nI 0) hx hb dd_RD_type_25 (by decide +kernel) ?_
        have hno : ty_ok t.length w n = false := by
          rw [ty_ok, decide_eq_false (fun h9 => by
            obtain ⟨q1, q2, q3⟩ := h9
            omega)]; rfl
        exact hm_Ei (v := nI 0) hx hb hr rfl hS hP (⟨bz_0 hno, O, by rw [ty_t, hno, if_neg (by decide)]; exact hT, cz_F.rf⟩) hlocks (by omega) (by omega) dd_RD_type_26
