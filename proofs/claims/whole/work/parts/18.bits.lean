/-! bits of a long (the first seven rows are pasted from kit/laws/BITS.to-paste) -/
theorem ts_bit {w : Int64} {s : UInt64} {j : Nat} (hj : j < 64) (hs : s.toNat = j) : ((w.toUInt64 >>> s).toInt64 &&& 1) = 0 ↔ w.toBitVec.getLsbD j = false := by
  have e : (w.toUInt64 >>> s).toInt64.toBitVec = w.toBitVec >>> j := by
    apply BitVec.eq_of_toNat_eq
    show (w.toUInt64 >>> s).toNat = _
    rw [UInt64.toNat_shiftRight, hs, Nat.mod_eq_of_lt hj, BitVec.toNat_ushiftRight]
    rfl
  rw [← Int64.toBitVec_inj, Int64.toBitVec_and, e]
  show w.toBitVec >>> j &&& 1#64 = 0#64 ↔ _
  constructor
  · intro h
    have t := congrArg (fun x => x.getLsbD 0) h
    simpa using t
  · intro h
    apply BitVec.eq_of_getLsbD_eq
    intro i hi
    cases i with
    | zero => simp [h]
    | succ i => simp
theorem wb_tb (n : Nat) : (lN n).toBitVec = BitVec.ofNat 64 n := rfl
theorem wb_inj {a b : Int64} (h : a.toBitVec = b.toBitVec) : a = b := Int64.toBitVec_inj.mp h
theorem wb_c : ∀ k, k < 64 → ((nI k).toInt64 &&& 63) = lN k := by decide +kernel
theorem wb_cu : ∀ k, k < 64 → ((nI k).toInt64.toUInt64 &&& Int64.toUInt64 63) = UInt64.ofNat k := by decide +kernel
theorem wb_sm : ∀ k, k < 64 → (BitVec.ofNat 64 k).smod 64 = BitVec.ofNat 64 k := by decide +kernel
theorem wb_shl (n : Nat) {k : Nat} (hk : k < 64) : lN n <<< ((nI k).toInt64 &&& 63) = lN (n * 2 ^ k) := by
  rw [wb_c k hk]
  apply wb_inj
  rw [Int64.toBitVec_shiftLeft, wb_tb, wb_tb, wb_tb, wb_sm k hk]
  apply BitVec.eq_of_toNat_eq
  rw [BitVec.shiftLeft_eq', BitVec.toNat_shiftLeft, BitVec.toNat_ofNat, BitVec.toNat_ofNat, BitVec.toNat_ofNat, Nat.mod_eq_of_lt (show k < 2 ^ 64 by omega), Nat.shiftLeft_eq, Nat.mul_mod, Nat.mod_mod, ← Nat.mul_mod]
def lb (x : Int64) (k : Nat) : Bool := x.toBitVec.getLsbD k
theorem lb_test {x : Int64} {k : Nat} (hk : k < 64) : (((x.toUInt64 >>> ((nI k).toInt64.toUInt64 &&& Int64.toUInt64 63)).toInt64 &&& 1) = 0) ↔ lb x k = false := by
  rw [wb_cu k hk]
  exact ts_bit hk (by rw [UInt64.toNat_ofNat']; exact Nat.mod_eq_of_lt (by omega))
theorem lb_set {x : Int64} {k j : Nat} (hk : k < 64) (hj : j < 64) : lb (x ||| ((1 : Int64) <<< ((nI k).toInt64 &&& 63))) j = (lb x j || decide (j = k)) := by
  have e : (1 : Int64) <<< ((nI k).toInt64 &&& 63) = lN (2 ^ k) := by
    have := wb_shl 1 hk
    rw [Nat.one_mul] at this
    exact this
  rw [lb, lb, Int64.toBitVec_or, BitVec.getLsbD_or, e, wb_tb, BitVec.getLsbD_ofNat, decide_eq_true hj, Bool.true_and, Nat.testBit_two_pow]
  congr 1
  by_cases h : j = k
  · subst h; simp
  · rw [decide_eq_false h, decide_eq_false (fun q => h q.symm)]
theorem lb_neg {x : Int64} {i : Nat} (hi : i < 64) : lb (-x) i = (lb x i ^^ decide (∃ j, j < i ∧ lb x j = true)) := by
  rw [lb, Int64.toBitVec_neg, BitVec.getLsbD_neg, decide_eq_true hi, Bool.true_and]
  rfl
theorem lb_any {x : Int64} {k : Nat} (hk : k < 64) : lb (-(x &&& (-x))) k = decide (∃ j, j ≤ k ∧ lb x j = true) := by
  have hy : ∀ i, i < 64 → lb (x &&& (-x)) i = (lb x i && !decide (∃ j, j < i ∧ lb x j = true)) := by
    intro i hi
    have h1 : lb (x &&& (-x)) i = (lb x i && lb (-x) i) := by rw [lb, Int64.toBitVec_and, BitVec.getLsbD_and]; rfl
    rw [h1, lb_neg hi]
    cases lb x i <;> simp
  rw [lb_neg hk, hy k hk]
  by_cases h : ∃ j, j ≤ k ∧ lb x j = true
  · rw [decide_eq_true h]
    obtain ⟨j0, hj0, hx0⟩ := h
    obtain ⟨m, ⟨hm1, hm2⟩, hm3⟩ := pk_least (fun j => j ≤ k ∧ lb x j = true) ⟨j0, hj0, hx0⟩
    have hnone : ∀ i, i ≤ m → ¬ ∃ j, j < i ∧ lb x j = true := fun i hi ⟨j, a, b⟩ => hm3 j (by omega) ⟨by omega, b⟩
    by_cases hkm : k = m
    · subst hkm
      have hno : ¬ ∃ j, j < k ∧ lb (x &&& (-x)) j = true := by
        rintro ⟨j, a, b⟩
        rw [hy j (by omega), Bool.and_eq_true] at b
        exact hm3 j a ⟨by omega, b.1⟩
      rw [hm2, decide_eq_false (hnone k (Nat.le_refl _)), decide_eq_false hno]
      rfl
    · have hm9 : lb (x &&& (-x)) m = true := by rw [hy m (by omega), hm2, decide_eq_false (hnone m (Nat.le_refl _))]; rfl
      rw [decide_eq_true (show ∃ j, j < k ∧ lb x j = true from ⟨m, by omega, hm2⟩), decide_eq_true (show ∃ j, j < k ∧ lb (x &&& (-x)) j = true from ⟨m, by omega, hm9⟩)]
      cases lb x k <;> rfl
  · rw [decide_eq_false h]
    have hx : lb x k = false := by
      cases hq : lb x k
      · rfl
      · exact absurd ⟨k, Nat.le_refl _, hq⟩ h
    have hno : ¬ ∃ j, j < k ∧ lb (x &&& (-x)) j = true := by
      rintro ⟨j, a, b⟩
      rw [hy j (by omega), Bool.and_eq_true] at b
      exact h ⟨j, by omega, b.1⟩
    rw [hx, Bool.false_and, decide_eq_false hno]
    rfl
theorem lb_zero (k : Nat) : lb 0 k = false := by
  show (0 : BitVec 64).getLsbD k = false
  simp
theorem lb_one {k : Nat} (hk : k < 64) : lb 1 k = decide (k = 0) := by
  revert k
  decide +kernel
/-! matching of patterns, word by word -/
def dp_one (kw : List (List Nat)) (w : List Nat) (S : Nat → Bool) (k : Nat) : Bool := decide (1 ≤ k ∧ k ≤ kw.length) && (S (k - 1) && (decide (w = [42]) || decide (w = kw.getD (k - 1) [])))
def dp_any (S : Nat → Bool) (k : Nat) : Bool := decide (∃ j, j ≤ k ∧ S j = true)
def dp_st (kw : List (List Nat)) (S : Nat → Bool) (w : List Nat) : Nat → Bool := if w = [35] then dp_any S else dp_one kw w S
def tp_fin (pw kw : List (List Nat)) : Nat → Bool := pw.foldl (dp_st kw) (fun k => decide (k = 0))
def tp_like (t u : List Nat) : Bool := tp_fin (wd_sp 46 t) (wd_sp 46 u) (wd_sp 46 u).length
theorem dp_agree {kw : List (List Nat)} {S S' : Nat → Bool} {w : List Nat} (h : ∀ k, k < 64 → S k = S' k) : ∀ k, k < 64 → dp_st kw S w k = dp_st kw S' w k := by
  intro k hk
  unfold dp_st
  split
  · unfold dp_any
    apply decide_eq_decide.mpr
    constructor
    · rintro ⟨j, a, b⟩; exact ⟨j, a, by rw [← h j (by omega)]; exact b⟩
    · rintro ⟨j, a, b⟩; exact ⟨j, a, by rw [h j (by omega)]; exact b⟩
  · unfold dp_one
    rw [h (k - 1) (by omega)]
theorem dp_dead {kw : List (List Nat)} : ∀ (ws : List (List Nat)) (S : Nat → Bool), (∀ k, k < 64 → S k = false) → ∀ k, k < 64 → ws.foldl (dp_st kw) S k = false
  | [], S, h, k, hk => h k hk
  | w :: ws, S, h, k, hk => by
    rw [List.foldl_cons]
    refine dp_dead ws _ (fun q hq => ?_) k hk
    unfold dp_st
    split
    · exact decide_eq_false (fun ⟨j, a, b⟩ => by rw [h j (by omega)] at b; cases b)
    · unfold dp_one; rw [h (q - 1) (by omega), Bool.false_and, Bool.and_false]
theorem dp_up0 {F : Nat → Bool} {nx : Int64} {cnt : Nat} (h : ∀ q, q < 64 → lb nx q = (decide (q ≤ cnt) && F q)) (hv : F (cnt + 1) = false) : ∀ q, q < 64 → lb nx q = (decide (q ≤ cnt + 1) && F q) := by
  intro q hq
  rw [h q hq]
  by_cases e : q = cnt + 1
  · subst e; rw [hv, Bool.and_false, Bool.and_false]
  · congr 1; apply decide_eq_decide.mpr; omega
theorem dp_up1 {F : Nat → Bool} {nx : Int64} {cnt : Nat} (hc : cnt + 1 < 64) (h : ∀ q, q < 64 → lb nx q = (decide (q ≤ cnt) && F q)) (hv : F (cnt + 1) = true) : ∀ q, q < 64 → lb (nx ||| ((1 : Int64) <<< ((nI (cnt + 1)).toInt64 &&& 63))) q = (decide (q ≤ cnt + 1) && F q) := by
  intro q hq
  rw [lb_set hc hq, h q hq]
  by_cases e : q = cnt + 1
  · subst e; rw [hv, decide_eq_true rfl, Bool.or_true, decide_eq_true (Nat.le_refl _)]; rfl
  · rw [decide_eq_false e, Bool.or_false]; congr 1; apply decide_eq_decide.mpr; omega
theorem dr_cons {α : Type} {l r : List α} {w d : α} {n : Nat} (h : l.drop n = w :: r) : n < l.length ∧ l.getD n d = w ∧ l.drop (n + 1) = r := by
  have hn : n < l.length := by
    apply Nat.lt_of_not_le; intro q; rw [List.drop_eq_nil_iff.mpr q] at h; cases h
  rw [List.drop_eq_getElem_cons hn] at h
  refine ⟨hn, ?_, (List.cons.inj h).2⟩
  rw [List.getD_eq_getElem?_getD, List.getElem?_eq_getElem hn]
  exact (List.cons.inj h).1

set_option maxHeartbeats 4000000 in
set_option maxRecDepth 100000 in
theorem kc_PT_afterAnyWords (l : Launch) (B : Nat) (D : va_G) (G : Nat → Nat) (M : hm_M) (x : Int64) : Met l yy_PT_afterAnyWords ws_PT_afterAnyWords ({ frames := 1, cells := 0, slots := 0, locals := 21 }) (hm_Pc B D G M [.long x]) (hm_Nl B D (fun r M1 => r = -(x &&& (-x)) ∧ M1 = M)) (0) (0) (hm_A B) := by
  refine Met.ofW (cc := cd_PT_afterAnyWords) (maxL := 2) (ret := ((some FieldType.long))) (by decide) rfl ?_
  intro p e s m args below meth c s₁ B0 hml hv
  obtain ⟨rfl, hE, hP⟩ := hv
  have hx := B0.exec
  have hb := B0.bytes
  have hr := B0.returns
  have hts : ∀ w ∈ tb_G, w.before _ s = true := fun w h => atoms_spec (ws := ws_PT_afterAnyWords) B0.pre w (List.mem_cons_of_mem _ h)
  have hown : s.vm.findClass "RouteDesk$Pattern" = some m.cls := findClass_of_methodNamed B0.named
  have hlocks := B0.notSynchronized
  have hRf : (headSpec ws_PT_afterAnyWords { frames := 1, cells := 0, slots := 0, locals := 21 }).room.frames = 1 := rfl
  have hRl : (headSpec ws_PT_afterAnyWords { frames := 1, cells := 0, slots := 0, locals := 21 }).room.locals = 21 := rfl
  have hRc : (headSpec ws_PT_afterAnyWords { frames := 1, cells := 0, slots := 0, locals := 21 }).room.cells = 0 := rfl
  have hRs : (headSpec ws_PT_afterAnyWords { frames := 1, cells := 0, slots := 0, locals := 21 }).room.slots = 0 := rfl
  generalize (headSpec ws_PT_afterAnyWords { frames := 1, cells := 0, slots := 0, locals := 21 }).room = R at hRf hRl hRc hRs ⊢
  have hS : va_S (hm_A B) s.heap s.heap [] := va_S.rf
  have hl := lv_entry ([.long x]) (n := 2) (Nat.le_of_ble_eq_true rfl)
  rw [lg_entry_eq]
  generalize (lg_sl ([.long x]) ++ List.replicate (2 - (lg_sl ([.long x])).length) Slot.unset).toArray = ls at hl ⊢
  have hl : lv_has ls 2 [(0, .long x)] := hl
  refine lv_lload_n hx hb dd_PT_afterAnyWords_0 rfl (lv_at hl 0 rfl) ?_
  refine hm_cl hS (hm_rS 1 (As := [.long x]) (rest := []) ⟨hx, hb, hml, hown, hts⟩ hE hS hP (kc_LO_lowestOneBit l B D G M x) tw_925 tw_923 tw_924 tw_66 (by decide +kernel) rfl rfl ⟨by show 0 + 1 ≤ R.frames; omega, by show 8 + (2 + 11) + 0 ≤ R.locals; omega⟩ rfl hl.1 rfl (Nat.le_of_ble_eq_true rfl) dd_PT_afterAnyWords_1 ⟨by omega, by omega⟩) (fun r1 M2 H locs hw3 hP hS => ?_)
  refine W.widen (k := 0) (n := 0) (by omega) (by omega) ?_
  obtain ⟨rfl, eM2⟩ := hw3
  rw [eM2] at hP
  refine lv_lneg hx hb dd_PT_afterAnyWords_4 ?_
  refine lv_topl (fun w4 ew4 => ?_)
  exact hm_El (v := w4) hx hb hr hS hP (⟨ew4, rfl⟩) hlocks (by omega) (by omega) dd_PT_afterAnyWords_5
set_option maxHeartbeats 4000000 in
set_option maxRecDepth 100000 in
theorem kc_PT_afterOneWord (l : Launch) (B : Nat) (D : va_G) (G : Nat → Nat) (M : hm_M) (x : Int64) (a : Nat) (t : List Nat) (ht : tx_S D M a t) (i n : Nat) (hi : i ≤ n) (hn : n ≤ t.length) (b : Nat) (u : List Nat) (hu : tx_S D M b u) (hul : u.length ≤ 60) : Met l yy_PT_afterOneWord ws_PT_afterOneWord ({ frames := 5, cells := 0, slots := 0, locals := 111 }) (hm_Pc B D G M [.long x, .ref a, .int (nI i), .int (nI n), .ref b]) (hm_Nl B D (fun r M1 => (∀ k, k < 64 → lb r k = dp_one (wd_sp 46 u) (tx_sl t i n) (lb x) k) ∧ M1 = M)) (0) (0) (hm_A B) := by
  refine Met.ofW (cc := cd_PT_afterOneWord) (maxL := 13) (ret := ((some FieldType.long))) (by decide) rfl ?_
  intro p e s m args below meth c s₁ B0 hml hv
  obtain ⟨rfl, hE, hP⟩ := hv
  have hx := B0.exec
  have hb := B0.bytes
  have hr := B0.returns
  have hts : ∀ w ∈ tb_G, w.before _ s = true := fun w h => atoms_spec (ws := ws_PT_afterOneWord) B0.pre w (List.mem_cons_of_mem _ h)
  have hown : s.vm.findClass "RouteDesk$Pattern" = some m.cls := findClass_of_methodNamed B0.named
  have hlocks := B0.notSynchronized
  have hRf : (headSpec ws_PT_afterOneWord { frames := 5, cells := 0, slots := 0, locals := 111 }).room.frames = 5 := rfl
  have hRl : (headSpec ws_PT_afterOneWord { frames := 5, cells := 0, slots := 0, locals := 111 }).room.locals = 111 := rfl
  have hRc : (headSpec ws_PT_afterOneWord { frames := 5, cells := 0, slots := 0, locals := 111 }).room.cells = 0 := rfl
  have hRs : (headSpec ws_PT_afterOneWord { frames := 5, cells := 0, slots := 0, locals := 111 }).room.slots = 0 := rfl
  generalize (headSpec ws_PT_afterOneWord { frames := 5, cells := 0, slots := 0, locals := 111 }).room = R at hRf hRl hRc hRs ⊢
  have hS : va_S (hm_A B) s.heap s.heap [] := va_S.rf
  have hl := lv_entry ([.long x, .ref a, .int (nI i), .int (nI n), .ref b]) (n := 13) (Nat.le_of_ble_eq_true rfl)
  rw [lg_entry_eq]
  generalize (lg_sl ([.long x, .ref a, .int (nI i), .int (nI n), .ref b]) ++ List.replicate (13 - (lg_sl ([.long x, .ref a, .int (nI i), .int (nI n), .ref b])).length) Slot.unset).toArray = ls at hl ⊢
  have hl : lv_has ls 13 [(0, .long x), (2, .ref a), (3, .int (nI i)), (4, .int (nI n)), (5, .ref b)] := hl
  obtain ⟨v, f, h1, h2, h3, h4, h5⟩ := id ht
  obtain ⟨w, g, g1, g2, g3, g4, g5⟩ := id hu
  refine lv_aload_n hx hb dd_PT_afterOneWord_0 rfl (lv_at hl 1 rfl) ?_
  refine lv_iload_n hx hb dd_PT_afterOneWord_1 rfl (lv_at hl 2 rfl) ?_
  refine lv_iload hx hb dd_PT_afterOneWord_2 (lv_at hl 3 rfl) ?_
  refine lv_bipush (v := nI 42) hx hb dd_PT_afterOneWord_4 (by decide +kernel) ?_
  refine hm_ci hS (hm_rS 4 (As := [.ref a, .int (nI i), .int (nI n), .int (nI 42)]) (rest := []) ⟨hx, hb, hml, hown, hts⟩ hE hS hP (kc_PT_isJust l B D G M a t ht i n hi hn 42 (by omega)) tw_918 tw_916 tw_917 tw_61 (by decide +kernel) rfl rfl ⟨by show 4 + 1 ≤ R.frames; omega, by show 8 + (4 + 11) + 85 ≤ R.locals; omega⟩ rfl hl.1 rfl (Nat.le_of_ble_eq_true rfl) dd_PT_afterOneWord_6 ⟨by omega, by omega⟩) (fun r1 M2 H locs hw3 hP hS => ?_)
  refine W.widen (k := 0) (n := 0) (by omega) (by omega) ?_
  obtain ⟨rfl, eM2⟩ := hw3
  rw [eM2] at hP
  obtain ⟨op, eop⟩ : ∃ z, z = decide (tx_sl t i n = [42]) := ⟨_, rfl⟩
  rw [← eop]
  refine lv_istore (lv' := [(6, .int (nI (bz op))), (0, .long x), (2, .ref a), (3, .int (nI i)), (4, .int (nI n)), (5, .ref b)]) hx hb dd_PT_afterOneWord_9 hl (by decide) rfl (fun ls hl => ?_)
  refine lv_lconst (v := 0) hx hb dd_PT_afterOneWord_11 (by decide +kernel) ?_
  refine lv_lstore (lv' := [(7, .long 0), (6, .int (nI (bz op))), (0, .long x), (2, .ref a), (3, .int (nI i)), (4, .int (nI n)), (5, .ref b)]) hx hb dd_PT_afterOneWord_12 hl (by decide) rfl (fun ls hl => ?_)
  refine lv_iconst (v := nI 0) hx hb dd_PT_afterOneWord_14 (by decide +kernel) ?_
  refine lv_istore (lv' := [(9, .int (nI 0)), (7, .long 0), (6, .int (nI (bz op))), (0, .long x), (2, .ref a), (3, .int (nI i)), (4, .int (nI n)), (5, .ref b)]) hx hb dd_PT_afterOneWord_15 hl (by decide) rfl (fun ls hl => ?_)
  refine lv_iconst (v := nI 0) hx hb dd_PT_afterOneWord_17 (by decide +kernel) ?_
  refine lv_istore (lv' := [(10, .int (nI 0)), (9, .int (nI 0)), (7, .long 0), (6, .int (nI (bz op))), (0, .long x), (2, .ref a), (3, .int (nI i)), (4, .int (nI n)), (5, .ref b)]) hx hb dd_PT_afterOneWord_18 hl (by decide) rfl (fun ls hl => ?_)
  refine lv_iconst (v := nI 0) hx hb dd_PT_afterOneWord_20 (by decide +kernel) ?_
  refine lv_istore (lv' := [(11, .int (nI 0)), (10, .int (nI 0)), (9, .int (nI 0)), (7, .long 0), (6, .int (nI (bz op))), (0, .long x), (2, .ref a), (3, .int (nI i)), (4, .int (nI n)), (5, .ref b)]) hx hb dd_PT_afterOneWord_21 hl (by decide) rfl (fun ls hl => ?_)
  have lp23 : ∀ (n9 : Nat) (k : Nat) (fr : Nat) (cnt : Nat) (nx : Int64), (k ≤ u.length + 1) → (fr ≤ k) → (k ≤ u.length ∨ fr = k) → (∀ j, fr ≤ j → j < k → ¬ u.getD j 0 = 46) → (cnt ≤ fr) → ((wd_sp 46 u).drop cnt = wd_from 46 u fr) → (∀ q, q < 64 → lb nx q = (decide (q ≤ cnt) && dp_one (wd_sp 46 u) (tx_sl t i n) (lb x) q)) → u.length + 1 - k < n9 → ∀ (H : Heap) (locs : List Loc) (ls : Array Slot), hm_P D cl_W M H → va_S (hm_A B) s.heap H locs → lv_has ls 13 [(0, .long x), (2, .ref a), (3, .int (nI i)), (4, .int (nI n)), (5, .ref b), (6, .int (nI (bz op))), (7, .long nx), (9, .int (nI cnt)), (10, .int (nI fr)), (11, .int (nI k))] → W p l e R s m ([.long x, .ref a, .int (nI i), .int (nI n), .ref b] : List Value).toArray below meth c H locs (0) (0) (MQ below (hm_Nl B D (fun r M1 => (∀ k, k < 64 → lb r k = dp_one (wd_sp 46 u) (tx_sl t i n) (lb x) k) ∧ M1 = M)) ([.long x, .ref a, .int (nI i), .int (nI n), .ref b] : List Value).toArray s (0) (0) (hm_A B)) (F0 m 23 ls []) := by
    intro n9
    induction n9 with
    | zero => intro k fr cnt nx hk hfk hlast hno hcf hdr0 hnx hm; exact absurd hm (Nat.not_lt_zero _)
    | succ n9 ih23 =>
      intro k fr cnt nx hk hfk hlast hno hcf hdr0 hnx hm H locs ls hP hS hl
      refine lv_iload hx hb dd_PT_afterOneWord_23 (lv_at hl 9 rfl) ?_
      refine lv_aload hx hb dd_PT_afterOneWord_25 (lv_at hl 4 rfl) ?_
      refine hm_ci hS (hm_rV 0 (As := []) (rest := [.int (nI k)]) ⟨hx, hb, hml, hown, hts⟩ hE hS hP (kc_ST_length l B D G M b u hu) rfl g1 tw_490 tw_841 tw_488 tw_489 tw_39 (by decide +kernel) rfl rfl ⟨by show 1 + 1 ≤ R.frames; omega, by show 8 + (1 + 11) + 20 ≤ R.locals; omega⟩ rfl hl.1 rfl (Nat.le_of_ble_eq_true rfl) dd_PT_afterOneWord_27 ⟨by omega, by omega⟩) (fun r4 M5 H locs hw6 hP hS => ?_)
      refine W.widen (k := 0) (n := 0) (by omega) (by omega) ?_
      obtain ⟨rfl, eM5⟩ := hw6
      rw [eM5] at hP
      refine hn_icmp_gt (tgt := 113) hx hb (by omega) (by omega) dd_PT_afterOneWord_30 (by decide) (fun c7 => ?_) (fun c7 => ?_)
      · have c3 := c7
        refine lv_lload hx hb dd_PT_afterOneWord_113 (lv_at hl 6 rfl) ?_
        exact hm_El (v := nx) hx hb hr hS hP (⟨fun q hq => by
            rw [wd_end 46 u (by omega)] at hdr0
            have hcl := List.drop_eq_nil_iff.mp hdr0
            rw [hnx q hq]
            by_cases z : q ≤ cnt
            · rw [decide_eq_true z, Bool.true_and]
            · rw [decide_eq_false z, Bool.false_and, dp_one, decide_eq_false (by omega), Bool.false_and], rfl⟩) hlocks (by omega) (by omega) dd_PT_afterOneWord_115
      · have c3 := c7
        refine lv_aload hx hb dd_PT_afterOneWord_33 (lv_at hl 4 rfl) ?_
        refine lv_iload hx hb dd_PT_afterOneWord_35 (lv_at hl 9 rfl) ?_
        refine lv_bipush (v := nI 46) hx hb dd_PT_afterOneWord_37 (by decide +kernel) ?_
        refine hm_ci hS (hm_rS 3 (As := [.ref b, .int (nI k), .int (nI 46)]) (rest := []) ⟨hx, hb, hml, hown, hts⟩ hE hS hP (kc_TX_isPartEnd l B D G M b u hu k (by omega) 46 (by omega)) tw_844 tw_842 tw_843 tw_62 (by decide +kernel) rfl rfl ⟨by show 4 + 1 ≤ R.frames; omega, by show 8 + (3 + 11) + 85 ≤ R.locals; omega⟩ rfl hl.1 rfl (Nat.le_of_ble_eq_true rfl) dd_PT_afterOneWord_39 ⟨by omega, by omega⟩) (fun r8 M9 H locs hw10 hP hS => ?_)
        refine W.widen (k := 0) (n := 0) (by omega) (by omega) ?_
        obtain ⟨rfl, eM9⟩ := hw10
        rw [eM9] at hP
        refine hn_if_eq (tgt := 107) hx hb (bz_b _) dd_PT_afterOneWord_42 (by decide) (fun c11 => ?_) (fun c11 => ?_)
        · have c4 := of_decide_eq_false (bz_f c11)
          refine lv_iinc (v := nI (k + 1)) (lv' := [(11, .int (nI (k + 1))), (0, .long x), (2, .ref a), (3, .int (nI i)), (4, .int (nI n)), (5, .ref b), (6, .int (nI (bz op))), (7, .long nx), (9, .int (nI cnt)), (10, .int (nI fr))]) hx hb dd_PT_afterOneWord_107 hl (k := 9) rfl (nI_1 k) (by decide) rfl (fun ls hl => ?_)
          refine lv_goto (tgt := 23) hx hb dd_PT_afterOneWord_110 (by decide) ?_
          exact ih23 (k + 1) fr cnt nx (by omega) (by omega) (by omega) (fun j h8 h9 => by
              by_cases q : j = k
              · subst q; exact fun z => c4 (Or.inr z)
              · exact hno j h8 (by omega)) (by omega) (hdr0) (hnx) (by omega) _ _ _ hP hS (lv_sub hl [1, 2, 3, 4, 5, 6, 7, 8, 9, 0] rfl)
        · have c4 := of_decide_eq_true (bz_t c11)
          have hst := wd_step hfk (by omega) hno (c4.elim (fun z => Or.inl (by omega)) Or.inr)
          have hdr := dr_cons (d := []) (hdr0.trans hst)
          refine lv_lload_n hx hb dd_PT_afterOneWord_45 rfl (lv_at hl 0 rfl) ?_
          refine lv_iload hx hb dd_PT_afterOneWord_46 (lv_at hl 7 rfl) ?_
          refine lv_lushr hx hb dd_PT_afterOneWord_48 rfl ?_
          refine lv_topl (fun w12 ew12 => ?_)
          refine lv_lconst (v := 1) hx hb dd_PT_afterOneWord_49 (by decide +kernel) ?_
          refine lv_land hx hb dd_PT_afterOneWord_50 ?_
          refine lv_topl (fun w13 ew13 => ?_)
          refine lv_lconst (v := 0) hx hb dd_PT_afterOneWord_51 (by decide +kernel) ?_
          refine W.lcmp hx hb dd_PT_afterOneWord_52 ?_
          refine hi_if_eq (tgt := 60) hx hb dd_PT_afterOneWord_53 (by decide) (fun c14 => ?_) (fun c14 => ?_)
          · have c5 : lb x cnt = false := by
              have z := lc_eq c14
              rw [ew13, ew12] at z
              exact (lb_test (by omega)).mp z
            refine lv_iconst (v := nI 0) hx hb dd_PT_afterOneWord_60 (by decide +kernel) ?_
            refine lv_istore (lv' := [(12, .int (nI 0)), (0, .long x), (2, .ref a), (3, .int (nI i)), (4, .int (nI n)), (5, .ref b), (6, .int (nI (bz op))), (7, .long nx), (9, .int (nI cnt)), (10, .int (nI fr)), (11, .int (nI k))]) hx hb dd_PT_afterOneWord_61 hl (by decide) rfl (fun ls hl => ?_)
            refine lv_iinc (v := nI (cnt + 1)) (lv' := [(9, .int (nI (cnt + 1))), (12, .int (nI 0)), (0, .long x), (2, .ref a), (3, .int (nI i)), (4, .int (nI n)), (5, .ref b), (6, .int (nI (bz op))), (7, .long nx), (10, .int (nI fr)), (11, .int (nI k))]) hx hb dd_PT_afterOneWord_63 hl (k := 8) rfl (nI_1 cnt) (by decide) rfl (fun ls hl => ?_)
            refine lv_iload hx hb dd_PT_afterOneWord_66 (lv_at hl 1 rfl) ?_
            refine hn_if_eq (tgt := 101) hx hb (by omega) dd_PT_afterOneWord_68 (by decide) (fun c15 => ?_) (fun c15 => absurd c15 (by omega))
            refine lv_iload hx hb dd_PT_afterOneWord_101 (lv_at hl 10 rfl) ?_
            refine lv_iconst (v := nI 1) hx hb dd_PT_afterOneWord_103 (by decide +kernel) ?_
            refine hn_iadd hx hb dd_PT_afterOneWord_104 ?_
            refine lv_istore (lv' := [(10, .int (nI (k + 1))), (9, .int (nI (cnt + 1))), (12, .int (nI 0)), (0, .long x), (2, .ref a), (3, .int (nI i)), (4, .int (nI n)), (5, .ref b), (6, .int (nI (bz op))), (7, .long nx), (11, .int (nI k))]) hx hb dd_PT_afterOneWord_105 hl (by decide) rfl (fun ls hl => ?_)
            refine lv_iinc (v := nI (k + 1)) (lv' := [(11, .int (nI (k + 1))), (10, .int (nI (k + 1))), (9, .int (nI (cnt + 1))), (12, .int (nI 0)), (0, .long x), (2, .ref a), (3, .int (nI i)), (4, .int (nI n)), (5, .ref b), (6, .int (nI (bz op))), (7, .long nx)]) hx hb dd_PT_afterOneWord_107 hl (k := 10) rfl (nI_1 k) (by decide) rfl (fun ls hl => ?_)
            refine lv_goto (tgt := 23) hx hb dd_PT_afterOneWord_110 (by decide) ?_
            have hv : dp_one (wd_sp 46 u) (tx_sl t i n) (lb x) (cnt + 1) = false := by rw [dp_one, Nat.add_sub_cancel, c5, Bool.false_and, Bool.and_false]
            exact ih23 (k + 1) (k + 1) (cnt + 1) nx (by omega) (Nat.le_refl _) (Or.inr rfl) (fun j h8 h9 => absurd h9 (by omega)) (by omega) (hdr.2.2) (dp_up0 hnx hv) (by omega) _ _ _ hP hS (lv_sub hl [4, 5, 6, 7, 8, 9, 10, 2, 1, 0] rfl)
          · have c5 : lb x cnt = true := by
              have z := lc_ne c14
              rw [ew13, ew12] at z
              cases hq : lb x cnt
              · exact absurd ((lb_test (by omega)).mpr hq) z
              · rfl
            refine lv_iconst (v := nI 1) hx hb dd_PT_afterOneWord_56 (by decide +kernel) ?_
            refine lv_goto (tgt := 61) hx hb dd_PT_afterOneWord_57 (by decide) ?_
            refine lv_istore (lv' := [(12, .int (nI 1)), (0, .long x), (2, .ref a), (3, .int (nI i)), (4, .int (nI n)), (5, .ref b), (6, .int (nI (bz op))), (7, .long nx), (9, .int (nI cnt)), (10, .int (nI fr)), (11, .int (nI k))]) hx hb dd_PT_afterOneWord_61 hl (by decide) rfl (fun ls hl => ?_)
            refine lv_iinc (v := nI (cnt + 1)) (lv' := [(9, .int (nI (cnt + 1))), (12, .int (nI 1)), (0, .long x), (2, .ref a), (3, .int (nI i)), (4, .int (nI n)), (5, .ref b), (6, .int (nI (bz op))), (7, .long nx), (10, .int (nI fr)), (11, .int (nI k))]) hx hb dd_PT_afterOneWord_63 hl (k := 8) rfl (nI_1 cnt) (by decide) rfl (fun ls hl => ?_)
            refine lv_iload hx hb dd_PT_afterOneWord_66 (lv_at hl 1 rfl) ?_
            refine hn_if_eq (tgt := 101) hx hb (by omega) dd_PT_afterOneWord_68 (by decide) (fun c16 => absurd c16 (by omega)) (fun c16 => ?_)
            refine lv_iload hx hb dd_PT_afterOneWord_71 (lv_at hl 7 rfl) ?_
            refine hn_if_ne (tgt := 92) hx hb (bz_b _) dd_PT_afterOneWord_73 (by decide) (fun c17 => ?_) (fun c17 => ?_)
            · have c6 := bz_t c17
              refine lv_lload hx hb dd_PT_afterOneWord_92 (lv_at hl 8 rfl) ?_
              refine lv_lconst (v := 1) hx hb dd_PT_afterOneWord_94 (by decide +kernel) ?_
              refine lv_iload hx hb dd_PT_afterOneWord_95 (lv_at hl 0 rfl) ?_
              refine lv_lshl hx hb dd_PT_afterOneWord_97 rfl ?_
              refine lv_topl (fun w18 ew18 => ?_)
              refine lv_lor hx hb dd_PT_afterOneWord_98 ?_
              refine lv_topl (fun w19 ew19 => ?_)
              refine lv_lstore (lv' := [(7, .long w19), (9, .int (nI (cnt + 1))), (12, .int (nI 1)), (0, .long x), (2, .ref a), (3, .int (nI i)), (4, .int (nI n)), (5, .ref b), (6, .int (nI (bz op))), (10, .int (nI fr)), (11, .int (nI k))]) hx hb dd_PT_afterOneWord_99 hl (by decide) rfl (fun ls hl => ?_)
              refine lv_iload hx hb dd_PT_afterOneWord_101 (lv_at hl 10 rfl) ?_
              refine lv_iconst (v := nI 1) hx hb dd_PT_afterOneWord_103 (by decide +kernel) ?_
              refine hn_iadd hx hb dd_PT_afterOneWord_104 ?_
              refine lv_istore (lv' := [(10, .int (nI (k + 1))), (7, .long w19), (9, .int (nI (cnt + 1))), (12, .int (nI 1)), (0, .long x), (2, .ref a), (3, .int (nI i)), (4, .int (nI n)), (5, .ref b), (6, .int (nI (bz op))), (11, .int (nI k))]) hx hb dd_PT_afterOneWord_105 hl (by decide) rfl (fun ls hl => ?_)
              refine lv_iinc (v := nI (k + 1)) (lv' := [(11, .int (nI (k + 1))), (10, .int (nI (k + 1))), (7, .long w19), (9, .int (nI (cnt + 1))), (12, .int (nI 1)), (0, .long x), (2, .ref a), (3, .int (nI i)), (4, .int (nI n)), (5, .ref b), (6, .int (nI (bz op)))]) hx hb dd_PT_afterOneWord_107 hl (k := 10) rfl (nI_1 k) (by decide) rfl (fun ls hl => ?_)
              refine lv_goto (tgt := 23) hx hb dd_PT_afterOneWord_110 (by decide) ?_
              have hv : dp_one (wd_sp 46 u) (tx_sl t i n) (lb x) (cnt + 1) = true := by rw [dp_one, Nat.add_sub_cancel, c5, ← eop, c6, decide_eq_true (by omega)]; rfl
              exact ih23 (k + 1) (k + 1) (cnt + 1) w19 (by omega) (Nat.le_refl _) (Or.inr rfl) (fun j h8 h9 => absurd h9 (by omega)) (by omega) (hdr.2.2) (by rw [ew19, ew18]; exact dp_up1 (by omega) hnx hv) (by omega) _ _ _ hP hS (lv_sub hl [5, 6, 7, 8, 9, 10, 2, 3, 1, 0] rfl)
            · have c6 := bz_f c17
              refine lv_aload_n hx hb dd_PT_afterOneWord_76 rfl (lv_at hl 3 rfl) ?_
              refine lv_iload_n hx hb dd_PT_afterOneWord_77 rfl (lv_at hl 4 rfl) ?_
              refine lv_iload hx hb dd_PT_afterOneWord_78 (lv_at hl 5 rfl) ?_
              refine lv_aload hx hb dd_PT_afterOneWord_80 (lv_at hl 6 rfl) ?_
              refine lv_iload hx hb dd_PT_afterOneWord_82 (lv_at hl 9 rfl) ?_
              refine lv_iload hx hb dd_PT_afterOneWord_84 (lv_at hl 10 rfl) ?_
              refine hm_ci hS (hm_rS 6 (As := [.ref a, .int (nI i), .int (nI n), .ref b, .int (nI fr), .int (nI k)]) (rest := []) ⟨hx, hb, hml, hown, hts⟩ hE hS hP (kc_TX_isSame l B D G M a t ht i n hi hn b u hu fr k hfk (by omega)) tw_859 tw_929 tw_858 tw_62 (by decide +kernel) rfl rfl ⟨by show 4 + 1 ≤ R.frames; omega, by show 8 + (7 + 11) + 85 ≤ R.locals; omega⟩ rfl hl.1 rfl (Nat.le_of_ble_eq_true rfl) dd_PT_afterOneWord_86 ⟨by omega, by omega⟩) (fun r20 M21 H locs hw22 hP hS => ?_)
              refine W.widen (k := 0) (n := 0) (by omega) (by omega) ?_
              obtain ⟨rfl, eM21⟩ := hw22
              rw [eM21] at hP
              refine hn_if_eq (tgt := 101) hx hb (bz_b _) dd_PT_afterOneWord_89 (by decide) (fun c23 => ?_) (fun c23 => ?_)
              · have c7 := of_decide_eq_false (bz_f c23)
                refine lv_iload hx hb dd_PT_afterOneWord_101 (lv_at hl 10 rfl) ?_
                refine lv_iconst (v := nI 1) hx hb dd_PT_afterOneWord_103 (by decide +kernel) ?_
                refine hn_iadd hx hb dd_PT_afterOneWord_104 ?_
                refine lv_istore (lv' := [(10, .int (nI (k + 1))), (9, .int (nI (cnt + 1))), (12, .int (nI 1)), (0, .long x), (2, .ref a), (3, .int (nI i)), (4, .int (nI n)), (5, .ref b), (6, .int (nI (bz op))), (7, .long nx), (11, .int (nI k))]) hx hb dd_PT_afterOneWord_105 hl (by decide) rfl (fun ls hl => ?_)
                refine lv_iinc (v := nI (k + 1)) (lv' := [(11, .int (nI (k + 1))), (10, .int (nI (k + 1))), (9, .int (nI (cnt + 1))), (12, .int (nI 1)), (0, .long x), (2, .ref a), (3, .int (nI i)), (4, .int (nI n)), (5, .ref b), (6, .int (nI (bz op))), (7, .long nx)]) hx hb dd_PT_afterOneWord_107 hl (k := 10) rfl (nI_1 k) (by decide) rfl (fun ls hl => ?_)
                refine lv_goto (tgt := 23) hx hb dd_PT_afterOneWord_110 (by decide) ?_
                have hv : dp_one (wd_sp 46 u) (tx_sl t i n) (lb x) (cnt + 1) = false := by rw [dp_one, Nat.add_sub_cancel, c5, ← eop, c6, hdr.2.1, decide_eq_false c7]; simp
                exact ih23 (k + 1) (k + 1) (cnt + 1) nx (by omega) (Nat.le_refl _) (Or.inr rfl) (fun j h8 h9 => absurd h9 (by omega)) (by omega) (hdr.2.2) (dp_up0 hnx hv) (by omega) _ _ _ hP hS (lv_sub hl [4, 5, 6, 7, 8, 9, 10, 2, 1, 0] rfl)
              · have c7 := of_decide_eq_true (bz_t c23)
                refine lv_lload hx hb dd_PT_afterOneWord_92 (lv_at hl 8 rfl) ?_
                refine lv_lconst (v := 1) hx hb dd_PT_afterOneWord_94 (by decide +kernel) ?_
                refine lv_iload hx hb dd_PT_afterOneWord_95 (lv_at hl 0 rfl) ?_
                refine lv_lshl hx hb dd_PT_afterOneWord_97 rfl ?_
                refine lv_topl (fun w24 ew24 => ?_)
                refine lv_lor hx hb dd_PT_afterOneWord_98 ?_
                refine lv_topl (fun w25 ew25 => ?_)
                refine lv_lstore (lv' := [(7, .long w25), (9, .int (nI (cnt + 1))), (12, .int (nI 1)), (0, .long x), (2, .ref a), (3, .int (nI i)), (4, .int (nI n)), (5, .ref b), (6, .int (nI (bz op))), (10, .int (nI fr)), (11, .int (nI k))]) hx hb dd_PT_afterOneWord_99 hl (by decide) rfl (fun ls hl => ?_)
                refine lv_iload hx hb dd_PT_afterOneWord_101 (lv_at hl 10 rfl) ?_
                refine lv_iconst (v := nI 1) hx hb dd_PT_afterOneWord_103 (by decide +kernel) ?_
                refine hn_iadd hx hb dd_PT_afterOneWord_104 ?_
                refine lv_istore (lv' := [(10, .int (nI (k + 1))), (7, .long w25), (9, .int (nI (cnt + 1))), (12, .int (nI 1)), (0, .long x), (2, .ref a), (3, .int (nI i)), (4, .int (nI n)), (5, .ref b), (6, .int (nI (bz op))), (11, .int (nI k))]) hx hb dd_PT_afterOneWord_105 hl (by decide) rfl (fun ls hl => ?_)
                refine lv_iinc (v := nI (k + 1)) (lv' := [(11, .int (nI (k + 1))), (10, .int (nI (k + 1))), (7, .long w25), (9, .int (nI (cnt + 1))), (12, .int (nI 1)), (0, .long x), (2, .ref a), (3, .int (nI i)), (4, .int (nI n)), (5, .ref b), (6, .int (nI (bz op)))]) hx hb dd_PT_afterOneWord_107 hl (k := 10) rfl (nI_1 k) (by decide) rfl (fun ls hl => ?_)
                refine lv_goto (tgt := 23) hx hb dd_PT_afterOneWord_110 (by decide) ?_
                have hv : dp_one (wd_sp 46 u) (tx_sl t i n) (lb x) (cnt + 1) = true := by rw [dp_one, Nat.add_sub_cancel, c5, ← eop, c6, hdr.2.1, decide_eq_true c7, decide_eq_true (by omega)]; rfl
                exact ih23 (k + 1) (k + 1) (cnt + 1) w25 (by omega) (Nat.le_refl _) (Or.inr rfl) (fun j h8 h9 => absurd h9 (by omega)) (by omega) (hdr.2.2) (by rw [ew25, ew24]; exact dp_up1 (by omega) hnx hv) (by omega) _ _ _ hP hS (lv_sub hl [5, 6, 7, 8, 9, 10, 2, 3, 1, 0] rfl)
  exact lp23 _ 0 0 0 0 (Nat.zero_le _) (Nat.le_refl _) (Or.inl (Nat.zero_le _)) (fun j h8 h9 => absurd h9 (Nat.not_lt_zero _)) (Nat.le_refl _) (by rw [wd_from_0, List.drop_zero]) (fun q hq => by
      rw [lb_zero]
      by_cases z : q ≤ 0
      · rw [dp_one, decide_eq_false (show ¬ (1 ≤ q ∧ q ≤ (wd_sp 46 u).length) by omega), Bool.false_and, Bool.and_false]
      · rw [decide_eq_false z, Bool.false_and]) (Nat.lt_succ_self _) _ _ _ hP hS (lv_sub hl [5, 6, 7, 8, 9, 4, 3, 2, 1, 0] rfl)
