/-! the law's loop: what holds between the calls -/
def lw_V (ex : Nat → Option (Int32 × Int32)) (qs : Nat → Bool) (bs : List bd_T) : Prop := (∀ d ∈ bs, th_at ex qs d.2.1 d.2.2.1 = true ∧ ∃ s o, ex_at ex d.1 = some (s, o) ∧ tx_for s d.2.2.2 = true) ∧ (∀ k e, ex k = some e → 0 ≤ e.1.toInt ∧ e.1.toInt ≤ 3)
def lw_J (B : Nat) (D : va_G) (G N P : Nat → Nat) (w9 : Nat) (M : hm_M) : Prop := ∃ (O : Nat → Nat) (t : List Nat) (ex : Nat → Option (Int32 × Int32)) (qs : Nat → Bool) (bs : List bd_T) (key : List Nat) (hs : List (List Nat × List Nat)) (r : rs_T) (fo ps : Nat → Bool) (I : Nat → Int32) (A : Nat → Nat → Int32) (L : Nat → Nat → Int64) (fw : Nat → Int64), im_R D G N O M ∧ tp_R B D N O M t ∧ ex_R B D N O M ex ∧ qu_R B D N O M qs ∧ bi_R B D G N O M bs ∧ ms_R B D G N O M key hs ∧ rs_R B D N O M r ∧ mo_D B D P O M I A L ∧ mo_S I A L t ex qs bs key hs fo ps ∧ (M w9 = some (.inl (D.1 103, 1, .inr (.inl fw))) ∧ O w9 = 50) ∧ lw_V ex qs bs ∧ (∀ k, k < 16 → r.1 k = ps k ∧ r.2.2 k = fo k)
theorem lw_V.ends {ex : Nat → Option (Int32 × Int32)} {qs : Nat → Bool} {bs : List bd_T} (h : lw_V ex qs bs) : ∀ d ∈ bs, th_at ex qs d.2.1 d.2.2.1 = true ∧ (ex_at ex d.1).isSome = true := fun d hd => by
  obtain ⟨h1, s, o, h2, -⟩ := h.1 d hd
  exact ⟨h1, by rw [h2]; rfl⟩
theorem lw_V.W {ex : Nat → Option (Int32 × Int32)} {qs : Nat → Bool} {bs : List bd_T} (h : lw_V ex qs bs) : ∀ d ∈ bs, ∀ s o, ex_at ex d.1 = some (s, o) → tx_for s d.2.2.2 = true := fun d hd s o h2 => by
  obtain ⟨-, s2, o2, h3, h4⟩ := h.1 d hd
  rw [h2] at h3
  cases h3
  exact h4
theorem lw_V.W2 {ex : Nat → Option (Int32 × Int32)} {qs : Nat → Bool} {bs : List bd_T} (h : lw_V ex qs bs) : ∀ b ∈ bs, b.2.2.1 = false → (ex_at ex b.2.1).isSome = true := fun d hd hq => by
  have h1 := (h.1 d hd).1
  rw [th_at, hq] at h1
  exact h1
theorem lw_V.sub {ex : Nat → Option (Int32 × Int32)} {qs : Nat → Bool} {bs bs2 : List bd_T} (h : lw_V ex qs bs) (hs : ∀ d ∈ bs2, d ∈ bs) : lw_V ex qs bs2 := ⟨fun d hd => h.1 d (hs d hd), h.2⟩
theorem th_mono {ex ex2 : Nat → Option (Int32 × Int32)} {qs qs2 : Nat → Bool} {x : Int32} {q : Bool} (he : (ex_at ex x).isSome = true → (ex_at ex2 x).isSome = true) (hq : qu_at qs x = true → qu_at qs2 x = true) (h : th_at ex qs x q = true) : th_at ex2 qs2 x q = true := by
  unfold th_at at h ⊢
  cases q
  · exact he h
  · exact hq h
theorem v_ex {ex : Nat → Option (Int32 × Int32)} {qs : Nat → Bool} {bs : List bd_T} {j : Nat} {sx : Int32} (h : lw_V ex qs bs) (hj : ex j = none) (hs : 0 ≤ sx.toInt ∧ sx.toInt ≤ 3) : lw_V (va_up ex j (some (sx, -1))) qs bs := by
  have go : ∀ (x : Int32) (z : Int32 × Int32), ex_at ex x = some z → ex_at (va_up ex j (some (sx, -1))) x = some z := fun x z hz => by
    have hin := ex_some (ex := ex) (x := x) (by rw [hz]; rfl)
    rw [ex_in hin] at hz ⊢
    rw [va_o (fun e => by rw [e, hj] at hz; cases hz)]
    exact hz
  refine ⟨fun d hd => ?_, fun k e he => ?_⟩
  · obtain ⟨h1, s, o, h2, h3⟩ := h.1 d hd
    refine ⟨th_mono (fun h9 => ?_) (fun h9 => h9) h1, s, o, go _ _ h2, h3⟩
    obtain ⟨z, hz⟩ := Option.isSome_iff_exists.mp h9
    rw [go _ _ hz]; rfl
  · by_cases e2 : k = j
    · rw [e2, va_s] at he; cases he; exact hs
    · rw [va_o e2] at he; exact h.2 k e he
theorem v_al {ex : Nat → Option (Int32 × Int32)} {qs : Nat → Bool} {bs : List bd_T} {x y : Int32} (h : lw_V ex qs bs) : lw_V (al_x ex x y) qs bs := by
  unfold al_x
  split
  · rename_i hok
    have hxs : (ex_at ex x).isSome = true := by
      rw [al_ok, Bool.and_eq_true] at hok; exact hok.1
    obtain ⟨z, hz⟩ := Option.isSome_iff_exists.mp hxs
    have hin := ex_some hxs
    rw [hz]
    have go : ∀ (u : Int32) (w : Int32 × Int32), ex_at ex u = some w → ∃ o, ex_at (va_up ex x.toInt.toNat (Option.map (fun e => (e.1, y)) (some z))) u = some (w.1, o) := fun u w hw => by
      have hin2 := ex_some (ex := ex) (x := u) (by rw [hw]; rfl)
      rw [ex_in hin2] at hw ⊢
      by_cases e : u.toInt.toNat = x.toInt.toNat
      · rw [e, va_s]
        rw [ex_in hin] at hz
        rw [e, hz] at hw
        cases hw
        exact ⟨y, rfl⟩
      · rw [va_o e]; exact ⟨w.2, hw⟩
    refine ⟨fun d hd => ?_, fun k e he => ?_⟩
    · obtain ⟨h1, s, o, h2, h3⟩ := h.1 d hd
      obtain ⟨o2, h4⟩ := go _ _ h2
      refine ⟨th_mono (fun h9 => ?_) (fun h9 => h9) h1, s, o2, h4, h3⟩
      obtain ⟨w, hw⟩ := Option.isSome_iff_exists.mp h9
      obtain ⟨o3, h5⟩ := go _ _ hw
      rw [h5]; rfl
    · by_cases e2 : k = x.toInt.toNat
      · rw [e2, va_s] at he
        cases he
        rw [ex_in hin] at hz
        have h9 := h.2 _ _ hz
        exact h9
      · rw [va_o e2] at he; exact h.2 k e he
  · exact h
theorem v_qu {ex : Nat → Option (Int32 × Int32)} {qs : Nat → Bool} {bs : List bd_T} {j : Nat} (h : lw_V ex qs bs) : lw_V ex (va_up qs j true) bs := by
  refine ⟨fun d hd => ?_, h.2⟩
  obtain ⟨h1, h2⟩ := h.1 d hd
  refine ⟨th_mono (fun h9 => h9) (fun h9 => ?_) h1, h2⟩
  rw [qu_at, Bool.and_eq_true] at h9 ⊢
  refine ⟨h9.1, ?_⟩
  unfold va_up
  split
  · rfl
  · exact h9.2
theorem v_rm {ex : Nat → Option (Int32 × Int32)} {qs : Nat → Bool} {bs : List bd_T} {x : Int32} {q : Bool} (h : lw_V ex qs bs) : lw_V (rm_e ex qs x q) (rm_q ex qs x q) (rm_b ex qs bs x q) := by
  by_cases hth : th_at ex qs x q = true
  · have hin := th_in hth
    refine ⟨fun d hd => ?_, fun k e he => ?_⟩
    · rw [rm_b, if_pos hth, List.mem_filter] at hd
      obtain ⟨h1, s, o, h2, h3⟩ := h.1 d hd.1
      have hno : rm_p x q d = false := by simpa using hd.2
      rw [rm_p, Bool.or_eq_false_iff] at hno
      have hto := hno.1
      cases q with
      | false =>
        have hfr : bd_fr x d = false := by simpa using hno.2
        have hex : ∀ u : Int32, u ≠ x → (ex_at ex u).isSome = true → ex_at (rm_e ex qs x false) u = ex_at ex u := fun u hu hs => by
          have hin2 := ex_some hs
          rw [ex_in hin2, ex_in hin2, rm_e, if_pos ⟨hth, rfl⟩, va_o]
          intro e2
          exact hu (Int32.toInt_inj.mp (by have := hin.1; have := hin2.1; omega))
        have hd1 : d.1 ≠ x := fun e2 => by rw [bd_fr, e2] at hfr; simp at hfr
        refine ⟨?_, s, o, by rw [hex _ hd1 (by rw [h2]; rfl)]; exact h2, h3⟩
        unfold th_at at h1 ⊢
        cases hq2 : d.2.2.1 with
        | false =>
          rw [hq2] at h1
          have hd2 : d.2.1 ≠ x := fun e2 => by rw [bd_to, e2, hq2] at hto; simp at hto
          have h1 : (ex_at ex d.2.1).isSome = true := h1
          show (ex_at (rm_e ex qs x false) d.2.1).isSome = true
          rw [hex _ hd2 h1]; exact h1
        | true =>
          rw [hq2] at h1
          show qu_at (rm_q ex qs x false) d.2.1 = true
          rw [rm_q, if_neg (by simp)]; exact h1
      | true =>
        have he : rm_e ex qs x true = ex := by rw [rm_e, if_neg (by simp)]
        rw [he]
        refine ⟨?_, s, o, h2, h3⟩
        unfold th_at at h1 ⊢
        cases hq2 : d.2.2.1 with
        | false => rw [hq2] at h1; exact h1
        | true =>
          rw [hq2] at h1
          have hd2 : d.2.1 ≠ x := fun e2 => by rw [bd_to, e2, hq2] at hto; simp at hto
          have h1 : qu_at qs d.2.1 = true := h1
          have hin2 := qu_in h1
          show qu_at (rm_q ex qs x true) d.2.1 = true
          rw [qu_at, Bool.and_eq_true] at h1 ⊢
          refine ⟨h1.1, ?_⟩
          rw [rm_q, if_pos ⟨hth, rfl⟩, va_o]
          · exact h1.2
          · intro e2
            exact hd2 (Int32.toInt_inj.mp (by have := hin.1; have := hin2.1; omega))
    · unfold rm_e at he
      split at he
      · by_cases e2 : k = x.toInt.toNat
        · rw [e2, va_s] at he; cases he
        · rw [va_o e2] at he; exact h.2 k e he
      · exact h.2 k e he
  · rw [rm_e, rm_q, rm_b, if_neg (fun h9 => hth h9.1), if_neg (fun h9 => hth h9.1), if_neg hth]; exact h
theorem v_bd {ex : Nat → Option (Int32 × Int32)} {qs : Nat → Bool} {bs : List bd_T} {t : List Nat} {x y : Int32} {q : Bool} (h : lw_V ex qs bs) (hok : bi_ok ex qs t x y q = true) : lw_V ex qs (bs ++ [(x, y, q, t)]) := by
  refine ⟨fun d hd => ?_, h.2⟩
  rcases List.mem_append.mp hd with hd | hd
  · exact h.1 d hd
  · rw [List.mem_singleton.mp hd]
    unfold bi_ok at hok
    split at hok
    · cases hok
    · rename_i z hz
      rw [Bool.and_eq_true] at hok
      exact ⟨hok.1, z.1, z.2, hz, hok.2⟩
theorem fo_ext {a b : Nat → Bool} (h : ∀ k, k < 16 → a k = b k) (i : Int32) : fo_r a i = fo_r b i := by
  have e : fo_l a = fo_l b := by
    unfold fo_l
    apply List.filter_congr
    intro k hk
    rw [h k (List.mem_range.mp hk)]
  rw [fo_r, fo_r, e]
theorem qa_ext {a b : Nat → Bool} (h : ∀ k, k < 16 → a k = b k) (x : Int32) : qu_at a x = qu_at b x := by
  rw [qu_at, qu_at]
  by_cases hi : in16 x
  · rw [h _ (by have := hi.1; have := hi.2; omega)]
  · rw [decide_eq_false hi]; rfl
theorem lc_rf (x : Int64) : (lg_cmp x x).toInt = 0 := by
  unfold lg_cmp
  rw [if_neg (Int64.lt_irrefl), if_pos rfl]
  rfl
theorem ls_free {α : Type} (P : Nat → α → Prop) (f : Nat → Bool) : ∀ n, (∃ j, j < n ∧ f j = false ∧ ∀ k, k < j → f k = true) ∨ ∀ k, k < n → f k = true
  | 0 => Or.inr (fun k hk => absurd hk (Nat.not_lt_zero _))
  | n + 1 => by
    rcases ls_free P f n with ⟨j, h1, h2, h3⟩ | h
    · exact Or.inl ⟨j, by omega, h2, h3⟩
    · cases hn : f n with
      | false => exact Or.inl ⟨n, by omega, hn, h⟩
      | true =>
        refine Or.inr (fun k hk => ?_)
        by_cases e : k = n
        · rw [e]; exact hn
        · exact h k (by omega)
theorem qu_case (qs : Nat → Bool) : (∃ j, j < 16 ∧ qs j = false ∧ ∀ k, k < j → qs k = true) ∨ ∀ k, k < 16 → qs k = true := ls_free (α := Nat) (fun _ _ => True) qs 16
theorem ex_case (ex : Nat → Option (Int32 × Int32)) : (∃ j, j < 16 ∧ ex j = none ∧ ∀ k, k < j → ex k ≠ none) ∨ ∀ k, k < 16 → ex k ≠ none := by
  rcases qu_case (fun k => (ex k).isSome) with ⟨j, h1, h2, h3⟩ | h
  · refine Or.inl ⟨j, h1, ?_, fun k hk e => ?_⟩
    · cases hx : ex j with
      | none => rfl
      | some z => simp [hx] at h2
    · have := h3 k hk
      simp [e] at this
  · refine Or.inr (fun k hk e => ?_)
    have := h k hk
    simp [e] at this
/-- the long that the law makes of two ints -/
def lw_w (a b : Int32) : Int64 := (a.toInt64 <<< ((nI 32).toInt64 &&& 63)) ||| (b.toInt64 &&& 4294967295)
theorem bn_case (ex : Nat → Option (Int32 × Int32)) (qs : Nat → Bool) (t : List Nat) (bs : List bd_T) (hl : bs.length ≤ 120) (x y : Int32) (q : Bool) : bi_ok ex qs t x y q = false ∨ (bi_ok ex qs t x y q = true ∧ bs.any (bd_is x y q t) = true) ∨ (bi_ok ex qs t x y q = true ∧ bs.any (bd_is x y q t) = false ∧ bs.length = 120) ∨ (bi_ok ex qs t x y q = true ∧ bs.any (bd_is x y q t) = false ∧ bs.length < 120) := by
  cases h1 : bi_ok ex qs t x y q
  · exact Or.inl rfl
  · cases h2 : bs.any (bd_is x y q t)
    · by_cases h3 : bs.length = 120
      · exact Or.inr (Or.inr (Or.inl ⟨rfl, rfl, h3⟩))
      · exact Or.inr (Or.inr (Or.inr ⟨rfl, rfl, by omega⟩))
    · exact Or.inr (Or.inl ⟨rfl, rfl⟩)
theorem lx_case (ex : Nat → Option (Int32 × Int32)) (sx : Int32) : (¬ (0 ≤ sx.toInt ∧ sx.toInt ≤ 3)) ∨ ((0 ≤ sx.toInt ∧ sx.toInt ≤ 3) ∧ ∃ j, j < 16 ∧ ex j = none ∧ ∀ k, k < j → ex k ≠ none) ∨ ((0 ≤ sx.toInt ∧ sx.toInt ≤ 3) ∧ ∀ k, k < 16 → ex k ≠ none) := by
  by_cases h : 0 ≤ sx.toInt ∧ sx.toInt ≤ 3
  · rcases ex_case ex with h2 | h2
    · exact Or.inr (Or.inl ⟨h, h2⟩)
    · exact Or.inr (Or.inr ⟨h, h2⟩)
  · exact Or.inl h
theorem lr_case (ex : Nat → Option (Int32 × Int32)) (x : Int32) : (ex_at ex x).isSome = true ∨ ex_at ex x = none := by
  cases ex_at ex x with
  | none => exact Or.inr rfl
  | some z => exact Or.inl rfl
theorem lf_case (fo : Nat → Bool) (i : Int32) : (¬ fo_r fo i = -1) ∨ fo_r fo i = -1 := by
  by_cases h : fo_r fo i = -1
  · exact Or.inr h
  · exact Or.inl h

/-! THE CLAIM OUT OF ONE WALK OF THE LAW'S BODY. Your part is whole_start (and what it stands on); all else here is the same for every law, but numbers. -/
def R_law : String := "RouteDeskLaw"
def lw_P (b : Addr) (xs : List Int32) (args : Array Value) (s : State) : Prop := args = #[.ref b] ∧ s.IntsAt b xs ∧ xs.length ≤ 2048 ∧ (Jvm.Cond.and given_1 narrow_1).before args s = true
def lw_Q (_ : Array Value) (s : State) (o : Outcome) (t : State) : Prop := o = .returned (some (.int 1)) ∧ Framed s o t [] 601024 7293034
def lw_Z (below : List Frame) (a : Array Value) (s : State) : State → Prop := fun t => ∃ o, t.status = .running ∧ Ended t below o ∧ lw_Q a s o t
/-- the law's own end, with 1 on the stack, nothing written that was there before, its room as the claim has it -/
theorem lw_ret {p : Program} {l : Launch} {e : Env} {s : State} {m : MethodId} {below : List Frame} {meth : Method} {c : Code} {b : Nat} (hx : p.tables.exec = Jvm.exec) (hb : c.code = code) (hr : meth.sig.returnType = ret) (hlocks : meth.locks = false) {pc : Nat} {H : Heap} {ls : Array Slot} (hdg : decode code pc = .ok (.ireturn, 1)) : W p l e room_1 s m #[Value.ref b] below meth c H [] 601024 7293034 (lw_Z below #[Value.ref b] s) (F0 m pc ls [.int 1]) := by
  intro T hT X
  obtain ⟨fs, hret, hrun, hended, hW, hframe⟩ := X.leave (v := some (.int 1)) (hlocks := hlocks) (fun h => by rw [hr] at h; cases h)
  have hmeth' : T.vm.method? m = some meth := X.method'
  refine ⟨T.setFrames fs, ?_, .returned (some (.int 1)), hrun, hended, rfl, ⟨_, rfl⟩, hW, hframe⟩
  jvm_step X.here [X.here.top, hx, hb, hdg, hmeth', hr, ret, narrow_b1]
  (try refine ⟨rfl, ?_⟩); (try refine ⟨rfl, ?_⟩)
  first | (intro acts; rw [hret _ acts rfl rfl rfl]) | rw [hret _ _ rfl rfl rfl]
  exact Steps.refl _
/-- what holds at the law's entry: the machine, the code, the tables' words (any of lw_tbl by 'hts w (by decide +kernel)'), the script of L ints xs at the cell b, what the Statement gives of the start (any of its parts by flat_of_before) -/
def lw_At (p : Program) (s : State) (m : MethodId) (meth : Method) (c : Code) (b L : Nat) (xs : Nat → Int32) : Prop :=
  p.tables.exec = Jvm.exec ∧ c.code = code ∧ meth.sig.returnType = ret ∧ c.maxLocals = 7 ∧ s.vm.findClass R_law = some m.cls ∧ (∀ w ∈ lw_tbl, w.before #[Value.ref b] s = true) ∧ va_X b L xs s s.heap ∧ b < s.heap.size ∧ meth.locks = false ∧ (Jvm.Cond.and given_1 narrow_1).before #[Value.ref b] s = true

set_option maxHeartbeats 40000000 in
set_option maxRecDepth 100000 in
theorem lw_loop {p : Program} {e : Env} {s : State} {m : MethodId} {below : List Frame} {meth : Method} {c : Code} (l : Launch) (hfl : l.flags = flags0) {sb Ls B : Nat} {xs : Nat → Int32} {D : va_G} {G : Nat → Nat} (hL : Ls ≤ 2048) (hx : p.tables.exec = Jvm.exec) (hb : c.code = code) (hr : meth.sig.returnType = ret) (hml : c.maxLocals = 7) (hown : s.vm.findClass "RouteDeskLaw" = some m.cls) (hts : ∀ w ∈ tb_G, w.before #[Value.ref sb] s = true) (hXs : va_X sb Ls xs s s.heap) (hbl : sb < s.heap.size) (hlocks : meth.locks = false) (hE : ev_E B D G s) (hbA : ¬ hm_A B sb) (hBs : s.heap.size ≤ B) (N P : Nat → Nat) (wq : Nat) (hA_w9 : hm_A B wq) (M : hm_M) (hJ : lw_J B D G N P wq M) (H : Heap) (locs : List Loc) (ls : Array Slot) (hP : hm_P D cl_W M H) (hS : va_S (hm_A B) s.heap H locs) (hl : lv_has ls 7 [(0, .ref sb), (1, .ref (N 0)), (2, .ref (P 0)), (3, .ref wq), (4, .int (nI 0))]) : W p l e room_1 s m #[Value.ref sb] below meth c H locs 40 10000 (lw_Z below #[Value.ref sb] s) (F0 m 23 ls []) := by
  obtain ⟨R, hRR⟩ : ∃ R : Room, R = room_1 := ⟨_, rfl⟩
  rw [← hRR]
  have hRf : R.frames = 2048 := by rw [hRR]; rfl
  have hRl : R.locals = 84000 := by rw [hRR]; rfl
  have hRc : R.cells = 601024 := by rw [hRR]; rfl
  have hRs : R.slots = 7293034 := by rw [hRR]; rfl
  have t4 : (nI 4).toInt = 4 := by decide
  have lp23 : ∀ (n9 : Nat) (k : Nat) (Mu : hm_M), (k ≤ Ls + 4) → (lw_J B D G N P wq Mu) → Ls + 8 - k < n9 → ∀ (H : Heap) (locs : List Loc) (ls : Array Slot), hm_P D cl_W Mu H → va_S (hm_A B) s.heap H locs → lv_has ls 7 [(0, .ref sb), (1, .ref (N 0)), (2, .ref (P 0)), (3, .ref wq), (4, .int (nI k))] → W p l e R s m #[Value.ref sb] below meth c H locs ((40 + 10 * k)) ((10000 + 300 * k)) (lw_Z below #[Value.ref sb] s) (F0 m 23 ls []) := by
    intro n9
    induction n9 with
    | zero => intro k Mu hk hJ hm; exact absurd hm (Nat.not_lt_zero _)
    | succ n9 ih23 =>
      intro k Mu hk hJ hm H locs ls hP hS hl
      obtain ⟨O, t, ex, qs, bs, key, hs, r, fo, ps, I, A, L, fw, hI, hT, hX, hQ, hB, hM, hR, hD, hZ, ⟨hw9, how⟩, hV, hag⟩ := hJ
      obtain ⟨g1, -⟩ := id hD
      refine lv_iload hx hb dd_LW_law_23 (lv_at hl 4 rfl) ?_
      refine lv_aload_n hx hb dd_LW_law_25 rfl (lv_at hl 0 rfl) ?_
      refine va_slen hx hb hXs hbl hbA hS dd_LW_law_26 ?_
      refine W.eq (g2 := F0 m 27 ls [.int (nI Ls), .int (nI k)]) rfl ?_
      refine lv_iconst (v := nI 4) hx hb dd_LW_law_27 (by decide +kernel) ?_
      refine lv_isub hx hb dd_LW_law_28 ?_
      refine lv_topi (fun x2 ex2 => ?_)
      have hsub : (x2).toInt = (Ls : Int) - 4 := by rw [ex2, hi_sub (by rw [nI_toInt (by omega), t4]; omega) (by rw [nI_toInt (by omega), t4]; omega), nI_toInt (by omega), t4]
      refine hi_icmp_gt (tgt := 764) hx hb dd_LW_law_29 (by decide) (fun c3 => ?_) (fun c3 => ?_)
      · refine lv_iconst (v := nI 1) hx hb dd_LW_law_764 (by decide +kernel) ?_
        subst hRR
        refine va_forget (fun q hq => Nat.le_trans hBs (hS.2.2 q hq)) ?_
        refine W.widen (k := 601024) (n := 7293034) (by omega) (by omega) ?_
        exact lw_ret hx hb hr hlocks dd_LW_law_765
      · have hk4 : k + 4 ≤ Ls := by have h9 := c3; rw [nI_toInt (by omega)] at h9; omega
        refine lv_aload_n hx hb dd_LW_law_32 rfl (lv_at hl 0 rfl) ?_
        refine lv_iload hx hb dd_LW_law_33 (lv_at hl 4 rfl) ?_
        refine va_sld (i := nI k) hx hb hXs hbl hbA hS (vp_in_nI (by omega) (by omega)) dd_LW_law_35 ?_
        refine W.eq (g2 := F0 m 36 ls [.int (xs k)]) (by rw [nI_clamp (by omega)]) ?_
        refine lv_bipush (v := nI 15) hx hb dd_LW_law_36 (by decide +kernel) ?_
        refine lv_iand hx hb dd_LW_law_38 ?_
        refine lv_topi (fun x4 ex4 => ?_)
        rcases (show x4.toInt = 0 ∨ x4.toInt = 1 ∨ x4.toInt = 2 ∨ x4.toInt = 3 ∨ x4.toInt = 4 ∨ x4.toInt = 5 ∨ x4.toInt = 6 ∨ x4.toInt = 7 ∨ x4.toInt = 8 ∨ x4.toInt = 9 ∨ x4.toInt = 10 ∨ x4.toInt = 11 ∨ x4.toInt = 12 ∨ x4.toInt = 13 ∨ (x4.toInt < 0 ∨ 13 < x4.toInt) from by omega) with sw5 | sw5 | sw5 | sw5 | sw5 | sw5 | sw5 | sw5 | sw5 | sw5 | sw5 | sw5 | sw5 | sw5 | sw5
        · refine lv_tableIn (off := 69) (tgt := 108) hx hb dd_LW_law_39 (by omega) (by omega) (by rw [sw5]; rfl) (by decide) ?_
          refine lv_aload_n hx hb dd_LW_law_108 rfl (lv_at hl 1 rfl) ?_
          refine lv_aload_n hx hb dd_LW_law_109 rfl (lv_at hl 0 rfl) ?_
          refine lv_iload hx hb dd_LW_law_110 (lv_at hl 4 rfl) ?_
          refine lv_iconst (v := nI 1) hx hb dd_LW_law_112 (by decide +kernel) ?_
          refine hn_iadd hx hb dd_LW_law_113 ?_
          refine va_sld (i := nI (k + 1)) hx hb hXs hbl hbA hS (vp_in_nI (by omega) (by omega)) dd_LW_law_114 ?_
          refine W.eq (g2 := F0 m 115 ls [.int (xs (k + 1)), .ref (N 0)]) (by rw [nI_clamp (by omega)]) ?_
          refine lv_i2l hx hb dd_LW_law_115 rfl ?_
          refine lv_topl (fun w6 ew6 => ?_)
          refine lv_bipush (v := nI 32) hx hb dd_LW_law_116 (by decide +kernel) ?_
          refine lv_lshl hx hb dd_LW_law_118 rfl ?_
          refine lv_topl (fun w7 ew7 => ?_)
          refine lv_aload_n hx hb dd_LW_law_119 rfl (lv_at hl 0 rfl) ?_
          refine lv_iload hx hb dd_LW_law_120 (lv_at hl 4 rfl) ?_
          refine lv_iconst (v := nI 2) hx hb dd_LW_law_122 (by decide +kernel) ?_
          refine hn_iadd hx hb dd_LW_law_123 ?_
          refine va_sld (i := nI (k + 2)) hx hb hXs hbl hbA hS (vp_in_nI (by omega) (by omega)) dd_LW_law_124 ?_
          refine W.eq (g2 := F0 m 125 ls [.int (xs (k + 2)), .long w7, .ref (N 0)]) (by rw [nI_clamp (by omega)]) ?_
          refine lv_i2l hx hb dd_LW_law_125 rfl ?_
          refine lv_topl (fun w8 ew8 => ?_)
          refine lv_ldc2 (v := 4294967295) hx hb hown (hts _ tw_1194) dd_LW_law_126 ?_
          refine lv_land hx hb dd_LW_law_129 ?_
          refine lv_topl (fun w9 ew9 => ?_)
          refine lv_lor hx hb dd_LW_law_130 ?_
          refine lv_topl (fun w10 ew10 => ?_)
          obtain rfl : w10 = lw_w (xs (k + 1)) (xs (k + 2)) := by rw [ew10, ew7, ew6, ew9, ew8]; rfl
          refine lv_aload_n hx hb dd_LW_law_131 rfl (lv_at hl 0 rfl) ?_
          refine lv_iload hx hb dd_LW_law_132 (lv_at hl 4 rfl) ?_
          refine lv_iconst (v := nI 3) hx hb dd_LW_law_134 (by decide +kernel) ?_
          refine hn_iadd hx hb dd_LW_law_135 ?_
          refine va_sld (i := nI (k + 3)) hx hb hXs hbl hbA hS (vp_in_nI (by omega) (by omega)) dd_LW_law_136 ?_
          refine W.eq (g2 := F0 m 137 ls [.int (xs (k + 3)), .long (lw_w (xs (k + 1)) (xs (k + 2))), .ref (N 0)]) (by rw [nI_clamp (by omega)]) ?_
          refine hm_ci hS (hm_rV 2 (As := [.long (lw_w (xs (k + 1)) (xs (k + 2))), .int (xs (k + 3))]) (rest := []) ⟨hx, hb, hml, hown, hts⟩ hE hS hP (kc_RD_type l B D G Mu N O hI t hT (lw_w (xs (k + 1)) (xs (k + 2))) (xs (k + 3))) rfl hI.o tw_206 tw_203 tw_204 tw_205 tw_36 (by decide +kernel) rfl rfl ⟨by show 6 + 1 ≤ R.frames; omega, by show 8 + (6 + 11) + 136 ≤ R.locals; omega⟩ rfl hl.1 rfl (Nat.le_of_ble_eq_true rfl) dd_LW_law_137 ⟨by omega, by omega⟩) (fun r11 M12 H locs hw13 hP hS => ?_)
          refine W.widen (k := (40 + 10 * k) + 8) (n := (10000 + 300 * k) + 800) (by omega) (by omega) ?_
          obtain ⟨rfl, OM12, kT, kF⟩ := hw13
          have hT := kT
          have hIo := hI
          have hI : im_R D G N OM12 M12 := hI.kept kF (by unfold cg; omega)
          have hX : ex_R B D N OM12 M12 ex := hX.kept kF (fun c h9 => by unfold cg; omega)
          have hQ : qu_R B D N OM12 M12 qs := hQ.kept kF (fun c h9 => by unfold cg; omega)
          have hB : bi_R B D G N OM12 M12 bs := hB.kept kF hIo (fun c h9 => by unfold cg; omega) (by unfold cg; omega)
          have hM : ms_R B D G N OM12 M12 key hs := hM.kept kF hIo (fun c h9 => by unfold cg; omega) (by unfold cg; omega)
          have hR : rs_R B D N OM12 M12 r := rt_R.kept hR kF (fun c h9 => by unfold cg; omega)
          have hD : mo_D B D P OM12 M12 I A L := hD.kept kF (fun c h9 => by unfold cg; omega)
          have hw9o := hw9
          have hw9 : M12 wq = some (.inl (D.1 103, 1, .inr (.inl fw))) := (kF _ _ hw9o).2.1 (by rw [how]; unfold cg; omega)
          have how : OM12 wq = 50 := (kF _ _ hw9o).1.trans how
          obtain ⟨g14, -⟩ := id hD
          refine lv_aload_n hx hb dd_LW_law_140 rfl (lv_at hl 2 rfl) ?_
          refine lv_aload_n hx hb dd_LW_law_141 rfl (lv_at hl 0 rfl) ?_
          refine lv_iload hx hb dd_LW_law_142 (lv_at hl 4 rfl) ?_
          refine lv_iconst (v := nI 1) hx hb dd_LW_law_144 (by decide +kernel) ?_
          refine hn_iadd hx hb dd_LW_law_145 ?_
          refine va_sld (i := nI (k + 1)) hx hb hXs hbl hbA hS (vp_in_nI (by omega) (by omega)) dd_LW_law_146 ?_
          refine W.eq (g2 := F0 m 147 ls [.int (xs (k + 1)), .ref (P 0), .int (nI (bz (ty_ok t.length (lw_w (xs (k + 1)) (xs (k + 2))) (xs (k + 3)))))]) (by rw [nI_clamp (by omega)]) ?_
          refine lv_i2l hx hb dd_LW_law_147 rfl ?_
          refine lv_topl (fun w15 ew15 => ?_)
          refine lv_bipush (v := nI 32) hx hb dd_LW_law_148 (by decide +kernel) ?_
          refine lv_lshl hx hb dd_LW_law_150 rfl ?_
          refine lv_topl (fun w16 ew16 => ?_)
          refine lv_aload_n hx hb dd_LW_law_151 rfl (lv_at hl 0 rfl) ?_
          refine lv_iload hx hb dd_LW_law_152 (lv_at hl 4 rfl) ?_
          refine lv_iconst (v := nI 2) hx hb dd_LW_law_154 (by decide +kernel) ?_
          refine hn_iadd hx hb dd_LW_law_155 ?_
          refine va_sld (i := nI (k + 2)) hx hb hXs hbl hbA hS (vp_in_nI (by omega) (by omega)) dd_LW_law_156 ?_
          refine W.eq (g2 := F0 m 157 ls [.int (xs (k + 2)), .long w16, .ref (P 0), .int (nI (bz (ty_ok t.length (lw_w (xs (k + 1)) (xs (k + 2))) (xs (k + 3)))))]) (by rw [nI_clamp (by omega)]) ?_
          refine lv_i2l hx hb dd_LW_law_157 rfl ?_
          refine lv_topl (fun w17 ew17 => ?_)
          refine lv_ldc2 (v := 4294967295) hx hb hown (hts _ tw_1194) dd_LW_law_158 ?_
          refine lv_land hx hb dd_LW_law_161 ?_
          refine lv_topl (fun w18 ew18 => ?_)
          refine lv_lor hx hb dd_LW_law_162 ?_
          refine lv_topl (fun w19 ew19 => ?_)
          obtain rfl : w19 = lw_w (xs (k + 1)) (xs (k + 2)) := by rw [ew19, ew16, ew15, ew18, ew17]; rfl
          refine lv_aload_n hx hb dd_LW_law_163 rfl (lv_at hl 0 rfl) ?_
          refine lv_iload hx hb dd_LW_law_164 (lv_at hl 4 rfl) ?_
          refine lv_iconst (v := nI 3) hx hb dd_LW_law_166 (by decide +kernel) ?_
          refine hn_iadd hx hb dd_LW_law_167 ?_
          refine va_sld (i := nI (k + 3)) hx hb hXs hbl hbA hS (vp_in_nI (by omega) (by omega)) dd_LW_law_168 ?_
          refine W.eq (g2 := F0 m 169 ls [.int (xs (k + 3)), .long (lw_w (xs (k + 1)) (xs (k + 2))), .ref (P 0), .int (nI (bz (ty_ok t.length (lw_w (xs (k + 1)) (xs (k + 2))) (xs (k + 3)))))]) (by rw [nI_clamp (by omega)]) ?_
          refine hm_ci hS (hm_rV 2 (As := [.long (lw_w (xs (k + 1)) (xs (k + 2))), .int (xs (k + 3))]) (rest := [.int (nI (bz (ty_ok t.length (lw_w (xs (k + 1)) (xs (k + 2))) (xs (k + 3)))))]) ⟨hx, hb, hml, hown, hts⟩ hE hS hP (kc_MO_type l B D G M12 P OM12 I A L hD t ex qs bs key hs fo ps hZ (lw_w (xs (k + 1)) (xs (k + 2))) (xs (k + 3))) rfl g14 tw_1061 tw_1058 tw_1059 tw_1060 tw_46 (by decide +kernel) rfl rfl ⟨by show 0 + 1 ≤ R.frames; omega, by show 8 + (6 + 11) + 0 ≤ R.locals; omega⟩ rfl hl.1 rfl (Nat.le_of_ble_eq_true rfl) dd_LW_law_169 ⟨by omega, by omega⟩) (fun r20 M21 H locs hw22 hP hS => ?_)
          refine W.widen (k := (40 + 10 * k) + 8) (n := (10000 + 300 * k) + 800) (by omega) (by omega) ?_
          obtain ⟨rfl, Iz23, Az23, Lz23, hD, hcz23, hZ, kF⟩ := hw22
          have hIo := hI
          have hI : im_R D G N OM12 M21 := hI.kept kF (by unfold pm; omega)
          have hT : tp_R B D N OM12 M21 (ty_t t (lw_w (xs (k + 1)) (xs (k + 2))) (xs (k + 3))) := hT.kept kF (fun c h9 => by unfold pm; omega)
          have hX : ex_R B D N OM12 M21 ex := hX.kept kF (fun c h9 => by unfold pm; omega)
          have hQ : qu_R B D N OM12 M21 qs := hQ.kept kF (fun c h9 => by unfold pm; omega)
          have hB : bi_R B D G N OM12 M21 bs := hB.kept kF hIo (fun c h9 => by unfold pm; omega) (by unfold pm; omega)
          have hM : ms_R B D G N OM12 M21 key hs := hM.kept kF hIo (fun c h9 => by unfold pm; omega) (by unfold pm; omega)
          have hR : rs_R B D N OM12 M21 r := rt_R.kept hR kF (fun c h9 => by unfold pm; omega)
          have hw9o := hw9
          have hw9 : M21 wq = some (.inl (D.1 103, 1, .inr (.inl fw))) := (kF _ _ hw9o).2.1 (by rw [how]; unfold pm; omega)
          have how : OM12 wq = 50 := (kF _ _ hw9o).1.trans how
          obtain ⟨g24, -⟩ := id hD
          refine hn_icmp_eq (tgt := 758) hx hb (bz_b _) (bz_b _) dd_LW_law_172 (by decide) (fun c25 => ?_) (fun c25 => absurd c25 (by exact fun h9 => h9 rfl))
          refine lv_iinc (v := nI (k + 4)) (lv' := [(4, .int (nI (k + 4))), (0, .ref sb), (1, .ref (N 0)), (2, .ref (P 0)), (3, .ref wq)]) hx hb dd_LW_law_758 hl (k := 4) rfl (nI_add k 4) (by decide) rfl (fun ls hl => ?_)
          refine lv_goto (tgt := 23) hx hb dd_LW_law_761 (by decide) ?_
          refine W.widen (k := (40 + 10 * (k + 4))) (n := (10000 + 300 * (k + 4))) (by omega) (by omega) ?_
          exact ih23 (k + 4) M21 (by omega) (⟨OM12, (ty_t t (lw_w (xs (k + 1)) (xs (k + 2))) (xs (k + 3))), ex, qs, bs, key, hs, r, fo, ps, Iz23, Az23, Lz23, fw, hI, hT, hX, hQ, hB, hM, hR, hD, hZ, ⟨hw9, how⟩, hV, hag⟩) (by omega) _ _ _ hP hS (lv_sub hl [1, 2, 3, 4, 0] rfl)
        · refine lv_tableIn (off := 138) (tgt := 177) hx hb dd_LW_law_39 (by omega) (by omega) (by rw [sw5]; rfl) (by decide) ?_
          refine lv_aload_n hx hb dd_LW_law_177 rfl (lv_at hl 1 rfl) ?_
          refine lv_aload_n hx hb dd_LW_law_178 rfl (lv_at hl 0 rfl) ?_
          refine lv_iload hx hb dd_LW_law_179 (lv_at hl 4 rfl) ?_
          refine lv_iconst (v := nI 1) hx hb dd_LW_law_181 (by decide +kernel) ?_
          refine hn_iadd hx hb dd_LW_law_182 ?_
          refine va_sld (i := nI (k + 1)) hx hb hXs hbl hbA hS (vp_in_nI (by omega) (by omega)) dd_LW_law_183 ?_
          refine W.eq (g2 := F0 m 184 ls [.int (xs (k + 1)), .ref (N 0)]) (by rw [nI_clamp (by omega)]) ?_
          refine lv_aload_n hx hb dd_LW_law_184 rfl (lv_at hl 3 rfl) ?_
          rcases (lx_case ex (xs (k + 1))) with hs9 | ⟨hs9, j9, hj9, hfree, hbef⟩ | ⟨hs9, hfull⟩
          · refine hm_ci hS (hm_rSH 3 (As := [.ref (N 0), .int (xs (k + 1)), .ref wq]) (rest := []) ⟨hx, hb, hml, hown, hts⟩ hE hS hP (kc_LX1 l B D G Mu hfl N O hI ex hX wq fw hw9 hA_w9 how (xs (k + 1)) hs9) tq_exchange tw_773 tw_774 tw_35 (by decide +kernel) rfl rfl ⟨by show 7 + 1 ≤ R.frames; omega, by show 8 + (4 + 11) + 112 ≤ R.locals; omega⟩ rfl hl.1 rfl (Nat.le_of_ble_eq_true rfl) dd_LW_law_185 ⟨by omega, by omega⟩) (fun r26 M27 H locs hw28 hP hS => ?_)
            refine W.widen (k := (40 + 10 * k) + 1) (n := (10000 + 300 * k) + 6) (by omega) (by omega) ?_
            obtain ⟨rfl, eM27⟩ := hw28
            rw [eM27] at hP
            refine lv_istore (lv' := [(5, .int (nI 1)), (0, .ref sb), (1, .ref (N 0)), (2, .ref (P 0)), (3, .ref wq), (4, .int (nI k))]) hx hb dd_LW_law_188 hl (by decide) rfl (fun ls hl => ?_)
            refine lv_aload_n hx hb dd_LW_law_190 rfl (lv_at hl 3 rfl) ?_
            refine lv_aload_n hx hb dd_LW_law_191 rfl (lv_at hl 1 rfl) ?_
            refine lv_iload hx hb dd_LW_law_192 (lv_at hl 5 rfl) ?_
            refine lv_iconst (v := nI 1) hx hb dd_LW_law_194 (by decide +kernel) ?_
            refine hn_iadd hx hb dd_LW_law_195 ?_
            refine va_sld (i := nI (k + 1)) hx hb hXs hbl hbA hS (vp_in_nI (by omega) (by omega)) dd_LW_law_196 ?_
            refine W.eq (g2 := F0 m 197 ls [.int (xs (k + 1)), .ref (P 0)]) (by rw [nI_clamp (by omega)]) ?_
            refine hm_ci hS (hm_rV 1 (As := [.int (xs (k + 1))]) (rest := []) ⟨hx, hb, hml, hown, hts⟩ hE hS hP (kc_MO_exchange1 l B D G Mu P O I A L hD t ex qs bs key hs fo ps hZ (xs (k + 1)) hs9) rfl g1 tw_1066 tw_1063 tw_1064 tw_1065 tw_46 (by decide +kernel) rfl rfl ⟨by show 1 + 1 ≤ R.frames; omega, by show 8 + (3 + 11) + 21 ≤ R.locals; omega⟩ rfl hl.1 rfl (Nat.le_of_ble_eq_true rfl) dd_LW_law_197 ⟨by omega, by omega⟩) (fun r29 M30 H locs hw31 hP hS => ?_)
            refine W.widen (k := (40 + 10 * k) + 1) (n := (10000 + 300 * k) + 6) (by omega) (by omega) ?_
            obtain ⟨rfl, Iz32, Az32, Lz32, hD, hcz32, hZ, kF⟩ := hw31
            have hIo := hI
            have hI : im_R D G N O M30 := hI.kept kF (by unfold pm; omega)
            have hT : tp_R B D N O M30 t := hT.kept kF (fun c h9 => by unfold pm; omega)
            have hX : ex_R B D N O M30 ex := hX.kept kF (fun c h9 => by unfold pm; omega)
            have hQ : qu_R B D N O M30 qs := hQ.kept kF (fun c h9 => by unfold pm; omega)
            have hB : bi_R B D G N O M30 bs := hB.kept kF hIo (fun c h9 => by unfold pm; omega) (by unfold pm; omega)
            have hM : ms_R B D G N O M30 key hs := hM.kept kF hIo (fun c h9 => by unfold pm; omega) (by unfold pm; omega)
            have hR : rs_R B D N O M30 r := rt_R.kept hR kF (fun c h9 => by unfold pm; omega)
            have hw9o := hw9
            have hw9 : M30 wq = some (.inl (D.1 103, 1, .inr (.inl fw))) := (kF _ _ hw9o).2.1 (by rw [how]; unfold pm; omega)
            have how : O wq = 50 := (kF _ _ hw9o).1.trans how
            obtain ⟨g33, -⟩ := id hD
            refine lv_istore (lv' := [(6, .int (nI 0)), (5, .int (nI 1)), (0, .ref sb), (1, .ref (N 0)), (2, .ref (P 0)), (3, .ref wq), (4, .int (nI k))]) hx hb dd_LW_law_200 hl (by decide) rfl (fun ls hl => ?_)
            refine lv_aload_n hx hb dd_LW_law_202 rfl (lv_at hl 4 rfl) ?_
            refine hm_ci hS (hm_rV 0 (As := []) (rest := []) ⟨hx, hb, hml, hown, hts⟩ hE hS hP (kc_MO_thrown l B D G M30 P O Iz32 Az32 Lz32 hD) rfl g33 tw_1057 tw_1054 tw_1055 tw_1056 tw_46 (by decide +kernel) rfl rfl ⟨by show 0 + 1 ≤ R.frames; omega, by show 8 + (1 + 11) + 0 ≤ R.locals; omega⟩ rfl hl.1 rfl (Nat.le_of_ble_eq_true rfl) dd_LW_law_203 ⟨by omega, by omega⟩) (fun r34 M35 H locs hw36 hP hS => ?_)
            refine W.widen (k := (40 + 10 * k) + 1) (n := (10000 + 300 * k) + 6) (by omega) (by omega) ?_
            obtain ⟨hrM35, eM35⟩ := hw36
            rw [eM35] at hP
            obtain rfl : r34 = nI 1 := hrM35.trans hcz32
            refine lv_iload hx hb dd_LW_law_206 (lv_at hl 1 rfl) ?_
            refine hn_icmp_eq (tgt := 213) hx hb (by omega) (by omega) dd_LW_law_208 (by decide) (fun c37 => ?_) (fun c37 => absurd c37 (by omega))
            refine lv_iload hx hb dd_LW_law_213 (lv_at hl 1 rfl) ?_
            refine hn_if_ne (tgt := 230) hx hb (by omega) dd_LW_law_215 (by decide) (fun c38 => ?_) (fun c38 => absurd c38 (by omega))
            refine lv_goto (tgt := 758) hx hb dd_LW_law_230 (by decide) ?_
            refine lv_iinc (v := nI (k + 4)) (lv' := [(4, .int (nI (k + 4))), (6, .int (nI 0)), (5, .int (nI 1)), (0, .ref sb), (1, .ref (N 0)), (2, .ref (P 0)), (3, .ref wq)]) hx hb dd_LW_law_758 hl (k := 6) rfl (nI_add k 4) (by decide) rfl (fun ls hl => ?_)
            refine lv_goto (tgt := 23) hx hb dd_LW_law_761 (by decide) ?_
            refine W.widen (k := (40 + 10 * (k + 4))) (n := (10000 + 300 * (k + 4))) (by omega) (by omega) ?_
            exact ih23 (k + 4) M30 (by omega) (⟨O, t, ex, qs, bs, key, hs, r, fo, ps, Iz32, Az32, Lz32, fw, hI, hT, hX, hQ, hB, hM, hR, hD, hZ, ⟨hw9, how⟩, hV, hag⟩) (by omega) _ _ _ hP hS (lv_sub hl [3, 4, 5, 6, 0] rfl)
          · refine hm_ci hS (hm_rSH 3 (As := [.ref (N 0), .int (xs (k + 1)), .ref wq]) (rest := []) ⟨hx, hb, hml, hown, hts⟩ hE hS hP (kc_LX0 l B D G Mu N O hI ex hX wq fw hw9 hA_w9 how (xs (k + 1)) hs9 j9 hj9 hfree hbef) tq_exchange tw_773 tw_774 tw_35 (by decide +kernel) rfl rfl ⟨by show 3 + 1 ≤ R.frames; omega, by show 8 + (4 + 11) + 55 ≤ R.locals; omega⟩ rfl hl.1 rfl (Nat.le_of_ble_eq_true rfl) dd_LW_law_185 ⟨by omega, by omega⟩) (fun r39 M40 H locs hw41 hP hS => ?_)
            refine W.widen (k := (40 + 10 * k) + 1) (n := (10000 + 300 * k) + 2) (by omega) (by omega) ?_
            obtain ⟨rfl, OM40, f1, hf1, kw, kx, kF⟩ := hw41
            have hw9o := hw9
            have hX := kx
            have hw9 := kw
            have hIo := hI
            have hI : im_R D G N OM40 M40 := hI.kept kF (by unfold cw cg pw; omega)
            have hT : tp_R B D N OM40 M40 t := hT.kept kF (fun c h9 => by unfold cw cg pw; omega)
            have hQ : qu_R B D N OM40 M40 qs := hQ.kept kF (fun c h9 => by unfold cw cg pw; omega)
            have hB : bi_R B D G N OM40 M40 bs := hB.kept kF hIo (fun c h9 => by unfold cw cg pw; omega) (by unfold cw cg pw; omega)
            have hM : ms_R B D G N OM40 M40 key hs := hM.kept kF hIo (fun c h9 => by unfold cw cg pw; omega) (by unfold cw cg pw; omega)
            have hR : rs_R B D N OM40 M40 r := rt_R.kept hR kF (fun c h9 => by unfold cw cg pw; omega)
            have hD : mo_D B D P OM40 M40 I A L := hD.kept kF (fun c h9 => by unfold cw cg pw; omega)
            have how : OM40 wq = 50 := (kF _ _ hw9o).1.trans how
            obtain ⟨g42, -⟩ := id hD
            refine lv_istore (lv' := [(5, .int (nI 0)), (0, .ref sb), (1, .ref (N 0)), (2, .ref (P 0)), (3, .ref wq), (4, .int (nI k))]) hx hb dd_LW_law_188 hl (by decide) rfl (fun ls hl => ?_)
            refine lv_aload_n hx hb dd_LW_law_190 rfl (lv_at hl 3 rfl) ?_
            refine lv_aload_n hx hb dd_LW_law_191 rfl (lv_at hl 1 rfl) ?_
            refine lv_iload hx hb dd_LW_law_192 (lv_at hl 5 rfl) ?_
            refine lv_iconst (v := nI 1) hx hb dd_LW_law_194 (by decide +kernel) ?_
            refine hn_iadd hx hb dd_LW_law_195 ?_
            refine va_sld (i := nI (k + 1)) hx hb hXs hbl hbA hS (vp_in_nI (by omega) (by omega)) dd_LW_law_196 ?_
            refine W.eq (g2 := F0 m 197 ls [.int (xs (k + 1)), .ref (P 0)]) (by rw [nI_clamp (by omega)]) ?_
            refine hm_ci hS (hm_rV 1 (As := [.int (xs (k + 1))]) (rest := []) ⟨hx, hb, hml, hown, hts⟩ hE hS hP (kc_MO_exchange l B D G M40 P OM40 I A L hD t ex qs bs key hs fo ps hZ (xs (k + 1)) hs9 j9 hj9 hfree hbef) rfl g42 tw_1066 tw_1063 tw_1064 tw_1065 tw_46 (by decide +kernel) rfl rfl ⟨by show 0 + 1 ≤ R.frames; omega, by show 8 + (3 + 11) + 0 ≤ R.locals; omega⟩ rfl hl.1 rfl (Nat.le_of_ble_eq_true rfl) dd_LW_law_197 ⟨by omega, by omega⟩) (fun r43 M44 H locs hw45 hP hS => ?_)
            refine W.widen (k := (40 + 10 * k) + 1) (n := (10000 + 300 * k) + 2) (by omega) (by omega) ?_
            obtain ⟨rfl, Iz46, Az46, Lz46, hD, hcz46, hZ, kF⟩ := hw45
            have hIo := hI
            have hI : im_R D G N OM40 M44 := hI.kept kF (by unfold pm; omega)
            have hT : tp_R B D N OM40 M44 t := hT.kept kF (fun c h9 => by unfold pm; omega)
            have hX : ex_R B D N OM40 M44 (va_up ex j9 (some ((xs (k + 1)), -1))) := hX.kept kF (fun c h9 => by unfold pm; omega)
            have hQ : qu_R B D N OM40 M44 qs := hQ.kept kF (fun c h9 => by unfold pm; omega)
            have hB : bi_R B D G N OM40 M44 bs := hB.kept kF hIo (fun c h9 => by unfold pm; omega) (by unfold pm; omega)
            have hM : ms_R B D G N OM40 M44 key hs := hM.kept kF hIo (fun c h9 => by unfold pm; omega) (by unfold pm; omega)
            have hR : rs_R B D N OM40 M44 r := rt_R.kept hR kF (fun c h9 => by unfold pm; omega)
            have hw9o := hw9
            have hw9 : M44 wq = some (.inl (D.1 103, 1, .inr (.inl f1))) := (kF _ _ hw9o).2.1 (by rw [how]; unfold pm; omega)
            have how : OM40 wq = 50 := (kF _ _ hw9o).1.trans how
            obtain ⟨g47, -⟩ := id hD
            refine lv_istore (lv' := [(6, .int (nI j9)), (5, .int (nI 0)), (0, .ref sb), (1, .ref (N 0)), (2, .ref (P 0)), (3, .ref wq), (4, .int (nI k))]) hx hb dd_LW_law_200 hl (by decide) rfl (fun ls hl => ?_)
            refine lv_aload_n hx hb dd_LW_law_202 rfl (lv_at hl 4 rfl) ?_
            refine hm_ci hS (hm_rV 0 (As := []) (rest := []) ⟨hx, hb, hml, hown, hts⟩ hE hS hP (kc_MO_thrown l B D G M44 P OM40 Iz46 Az46 Lz46 hD) rfl g47 tw_1057 tw_1054 tw_1055 tw_1056 tw_46 (by decide +kernel) rfl rfl ⟨by show 0 + 1 ≤ R.frames; omega, by show 8 + (1 + 11) + 0 ≤ R.locals; omega⟩ rfl hl.1 rfl (Nat.le_of_ble_eq_true rfl) dd_LW_law_203 ⟨by omega, by omega⟩) (fun r48 M49 H locs hw50 hP hS => ?_)
            refine W.widen (k := (40 + 10 * k) + 1) (n := (10000 + 300 * k) + 2) (by omega) (by omega) ?_
            obtain ⟨hrM49, eM49⟩ := hw50
            rw [eM49] at hP
            obtain rfl : r48 = nI 0 := hrM49.trans hcz46
            refine lv_iload hx hb dd_LW_law_206 (lv_at hl 1 rfl) ?_
            refine hn_icmp_eq (tgt := 213) hx hb (by omega) (by omega) dd_LW_law_208 (by decide) (fun c51 => ?_) (fun c51 => absurd c51 (by omega))
            refine lv_iload hx hb dd_LW_law_213 (lv_at hl 1 rfl) ?_
            refine hn_if_ne (tgt := 230) hx hb (by omega) dd_LW_law_215 (by decide) (fun c52 => absurd c52 (by omega)) (fun c52 => ?_)
            refine lv_aload_n hx hb dd_LW_law_218 rfl (lv_at hl 5 rfl) ?_
            refine lv_iconst (v := nI 0) hx hb dd_LW_law_219 (by decide +kernel) ?_
            refine hm_lald (j := 0) hx hb hE.K hP 3 hw9 rfl (vp_in_nI (by omega) (by omega)) (nI_clamp (by omega)) dd_LW_law_220 ?_
            refine W.eq (g2 := F0 m 221 ls [.long ((nI j9).toInt64)]) (by rw [hf1]) ?_
            refine lv_iload hx hb dd_LW_law_221 (lv_at hl 0 rfl) ?_
            refine lv_i2l hx hb dd_LW_law_223 rfl ?_
            refine lv_topl (fun w53 ew53 => ?_)
            refine W.lcmp hx hb dd_LW_law_224 ?_
            refine hi_if_eq (tgt := 230) hx hb dd_LW_law_225 (by decide) (fun c54 => ?_) (fun c54 => absurd c54 (by exact fun h9 => h9 (by rw [ew53]; exact lc_rf _)))
            refine lv_goto (tgt := 758) hx hb dd_LW_law_230 (by decide) ?_
            refine lv_iinc (v := nI (k + 4)) (lv' := [(4, .int (nI (k + 4))), (6, .int (nI j9)), (5, .int (nI 0)), (0, .ref sb), (1, .ref (N 0)), (2, .ref (P 0)), (3, .ref wq)]) hx hb dd_LW_law_758 hl (k := 6) rfl (nI_add k 4) (by decide) rfl (fun ls hl => ?_)
            refine lv_goto (tgt := 23) hx hb dd_LW_law_761 (by decide) ?_
            refine W.widen (k := (40 + 10 * (k + 4))) (n := (10000 + 300 * (k + 4))) (by omega) (by omega) ?_
            exact ih23 (k + 4) M44 (by omega) (⟨OM40, t, (va_up ex j9 (some ((xs (k + 1)), -1))), qs, bs, key, hs, r, fo, ps, Iz46, Az46, Lz46, f1, hI, hT, hX, hQ, hB, hM, hR, hD, hZ, ⟨hw9, how⟩, (v_ex hV hfree hs9), hag⟩) (by omega) _ _ _ hP hS (lv_sub hl [3, 4, 5, 6, 0] rfl)
          · refine hm_ci hS (hm_rSH 3 (As := [.ref (N 0), .int (xs (k + 1)), .ref wq]) (rest := []) ⟨hx, hb, hml, hown, hts⟩ hE hS hP (kc_LX2 l B D G Mu hfl N O hI ex hX wq fw hw9 hA_w9 how (xs (k + 1)) hs9 hfull) tq_exchange tw_773 tw_774 tw_35 (by decide +kernel) rfl rfl ⟨by show 7 + 1 ≤ R.frames; omega, by show 8 + (4 + 11) + 112 ≤ R.locals; omega⟩ rfl hl.1 rfl (Nat.le_of_ble_eq_true rfl) dd_LW_law_185 ⟨by omega, by omega⟩) (fun r55 M56 H locs hw57 hP hS => ?_)
            refine W.widen (k := (40 + 10 * k) + 1) (n := (10000 + 300 * k) + 6) (by omega) (by omega) ?_
            obtain ⟨rfl, eM56⟩ := hw57
            rw [eM56] at hP
            refine lv_istore (lv' := [(5, .int (nI 2)), (0, .ref sb), (1, .ref (N 0)), (2, .ref (P 0)), (3, .ref wq), (4, .int (nI k))]) hx hb dd_LW_law_188 hl (by decide) rfl (fun ls hl => ?_)
            refine lv_aload_n hx hb dd_LW_law_190 rfl (lv_at hl 3 rfl) ?_
            refine lv_aload_n hx hb dd_LW_law_191 rfl (lv_at hl 1 rfl) ?_
            refine lv_iload hx hb dd_LW_law_192 (lv_at hl 5 rfl) ?_
            refine lv_iconst (v := nI 1) hx hb dd_LW_law_194 (by decide +kernel) ?_
            refine hn_iadd hx hb dd_LW_law_195 ?_
            refine va_sld (i := nI (k + 1)) hx hb hXs hbl hbA hS (vp_in_nI (by omega) (by omega)) dd_LW_law_196 ?_
            refine W.eq (g2 := F0 m 197 ls [.int (xs (k + 1)), .ref (P 0)]) (by rw [nI_clamp (by omega)]) ?_
            refine hm_ci hS (hm_rV 1 (As := [.int (xs (k + 1))]) (rest := []) ⟨hx, hb, hml, hown, hts⟩ hE hS hP (kc_MO_exchange2 l B D G Mu P O I A L hD t ex qs bs key hs fo ps hZ (xs (k + 1)) hs9 hfull) rfl g1 tw_1066 tw_1063 tw_1064 tw_1065 tw_46 (by decide +kernel) rfl rfl ⟨by show 1 + 1 ≤ R.frames; omega, by show 8 + (3 + 11) + 21 ≤ R.locals; omega⟩ rfl hl.1 rfl (Nat.le_of_ble_eq_true rfl) dd_LW_law_197 ⟨by omega, by omega⟩) (fun r58 M59 H locs hw60 hP hS => ?_)
            refine W.widen (k := (40 + 10 * k) + 1) (n := (10000 + 300 * k) + 6) (by omega) (by omega) ?_
            obtain ⟨rfl, Iz61, Az61, Lz61, hD, hcz61, hZ, kF⟩ := hw60
            have hIo := hI
            have hI : im_R D G N O M59 := hI.kept kF (by unfold pm; omega)
            have hT : tp_R B D N O M59 t := hT.kept kF (fun c h9 => by unfold pm; omega)
            have hX : ex_R B D N O M59 ex := hX.kept kF (fun c h9 => by unfold pm; omega)
            have hQ : qu_R B D N O M59 qs := hQ.kept kF (fun c h9 => by unfold pm; omega)
            have hB : bi_R B D G N O M59 bs := hB.kept kF hIo (fun c h9 => by unfold pm; omega) (by unfold pm; omega)
            have hM : ms_R B D G N O M59 key hs := hM.kept kF hIo (fun c h9 => by unfold pm; omega) (by unfold pm; omega)
            have hR : rs_R B D N O M59 r := rt_R.kept hR kF (fun c h9 => by unfold pm; omega)
            have hw9o := hw9
            have hw9 : M59 wq = some (.inl (D.1 103, 1, .inr (.inl fw))) := (kF _ _ hw9o).2.1 (by rw [how]; unfold pm; omega)
            have how : O wq = 50 := (kF _ _ hw9o).1.trans how
            obtain ⟨g62, -⟩ := id hD
            refine lv_istore (lv' := [(6, .int (nI 0)), (5, .int (nI 2)), (0, .ref sb), (1, .ref (N 0)), (2, .ref (P 0)), (3, .ref wq), (4, .int (nI k))]) hx hb dd_LW_law_200 hl (by decide) rfl (fun ls hl => ?_)
            refine lv_aload_n hx hb dd_LW_law_202 rfl (lv_at hl 4 rfl) ?_
            refine hm_ci hS (hm_rV 0 (As := []) (rest := []) ⟨hx, hb, hml, hown, hts⟩ hE hS hP (kc_MO_thrown l B D G M59 P O Iz61 Az61 Lz61 hD) rfl g62 tw_1057 tw_1054 tw_1055 tw_1056 tw_46 (by decide +kernel) rfl rfl ⟨by show 0 + 1 ≤ R.frames; omega, by show 8 + (1 + 11) + 0 ≤ R.locals; omega⟩ rfl hl.1 rfl (Nat.le_of_ble_eq_true rfl) dd_LW_law_203 ⟨by omega, by omega⟩) (fun r63 M64 H locs hw65 hP hS => ?_)
            refine W.widen (k := (40 + 10 * k) + 1) (n := (10000 + 300 * k) + 6) (by omega) (by omega) ?_
            obtain ⟨hrM64, eM64⟩ := hw65
            rw [eM64] at hP
            obtain rfl : r63 = nI 2 := hrM64.trans hcz61
            refine lv_iload hx hb dd_LW_law_206 (lv_at hl 1 rfl) ?_
            refine hn_icmp_eq (tgt := 213) hx hb (by omega) (by omega) dd_LW_law_208 (by decide) (fun c66 => ?_) (fun c66 => absurd c66 (by omega))
            refine lv_iload hx hb dd_LW_law_213 (lv_at hl 1 rfl) ?_
            refine hn_if_ne (tgt := 230) hx hb (by omega) dd_LW_law_215 (by decide) (fun c67 => ?_) (fun c67 => absurd c67 (by omega))
            refine lv_goto (tgt := 758) hx hb dd_LW_law_230 (by decide) ?_
            refine lv_iinc (v := nI (k + 4)) (lv' := [(4, .int (nI (k + 4))), (6, .int (nI 0)), (5, .int (nI 2)), (0, .ref sb), (1, .ref (N 0)), (2, .ref (P 0)), (3, .ref wq)]) hx hb dd_LW_law_758 hl (k := 6) rfl (nI_add k 4) (by decide) rfl (fun ls hl => ?_)
            refine lv_goto (tgt := 23) hx hb dd_LW_law_761 (by decide) ?_
            refine W.widen (k := (40 + 10 * (k + 4))) (n := (10000 + 300 * (k + 4))) (by omega) (by omega) ?_
            exact ih23 (k + 4) M59 (by omega) (⟨O, t, ex, qs, bs, key, hs, r, fo, ps, Iz61, Az61, Lz61, fw, hI, hT, hX, hQ, hB, hM, hR, hD, hZ, ⟨hw9, how⟩, hV, hag⟩) (by omega) _ _ _ hP hS (lv_sub hl [3, 4, 5, 6, 0] rfl)
        · refine lv_tableIn (off := 194) (tgt := 233) hx hb dd_LW_law_39 (by omega) (by omega) (by rw [sw5]; rfl) (by decide) ?_
          refine lv_aload_n hx hb dd_LW_law_233 rfl (lv_at hl 1 rfl) ?_
          refine lv_aload_n hx hb dd_LW_law_234 rfl (lv_at hl 0 rfl) ?_
          refine lv_iload hx hb dd_LW_law_235 (lv_at hl 4 rfl) ?_
          refine lv_iconst (v := nI 1) hx hb dd_LW_law_237 (by decide +kernel) ?_
          refine hn_iadd hx hb dd_LW_law_238 ?_
          refine va_sld (i := nI (k + 1)) hx hb hXs hbl hbA hS (vp_in_nI (by omega) (by omega)) dd_LW_law_239 ?_
          refine W.eq (g2 := F0 m 240 ls [.int (xs (k + 1)), .ref (N 0)]) (by rw [nI_clamp (by omega)]) ?_
          refine lv_aload_n hx hb dd_LW_law_240 rfl (lv_at hl 0 rfl) ?_
          refine lv_iload hx hb dd_LW_law_241 (lv_at hl 4 rfl) ?_
          refine lv_iconst (v := nI 2) hx hb dd_LW_law_243 (by decide +kernel) ?_
          refine hn_iadd hx hb dd_LW_law_244 ?_
          refine va_sld (i := nI (k + 2)) hx hb hXs hbl hbA hS (vp_in_nI (by omega) (by omega)) dd_LW_law_245 ?_
          refine W.eq (g2 := F0 m 246 ls [.int (xs (k + 2)), .int (xs (k + 1)), .ref (N 0)]) (by rw [nI_clamp (by omega)]) ?_
          refine hm_ci hS (hm_rV 2 (As := [.int (xs (k + 1)), .int (xs (k + 2))]) (rest := []) ⟨hx, hb, hml, hown, hts⟩ hE hS hP (kc_RD_alternate l B D G Mu N O hI ex hX (xs (k + 1)) (xs (k + 2))) rfl hI.o tw_315 tw_312 tw_313 tw_314 tw_36 (by decide +kernel) rfl rfl ⟨by show 1 + 1 ≤ R.frames; omega, by show 8 + (4 + 11) + 21 ≤ R.locals; omega⟩ rfl hl.1 rfl (Nat.le_of_ble_eq_true rfl) dd_LW_law_246 ⟨by omega, by omega⟩) (fun r68 M69 H locs hw70 hP hS => ?_)
          refine W.widen (k := (40 + 10 * k)) (n := (10000 + 300 * k)) (by omega) (by omega) ?_
          obtain ⟨rfl, kX, kF⟩ := hw70
          have hX := kX
          have hIo := hI
          have hI : im_R D G N O M69 := hI.kept kF (by unfold cg; omega)
          have hT : tp_R B D N O M69 t := hT.kept kF (fun c h9 => by unfold cg; omega)
          have hQ : qu_R B D N O M69 qs := hQ.kept kF (fun c h9 => by unfold cg; omega)
          have hB : bi_R B D G N O M69 bs := hB.kept kF hIo (fun c h9 => by unfold cg; omega) (by unfold cg; omega)
          have hM : ms_R B D G N O M69 key hs := hM.kept kF hIo (fun c h9 => by unfold cg; omega) (by unfold cg; omega)
          have hR : rs_R B D N O M69 r := rt_R.kept hR kF (fun c h9 => by unfold cg; omega)
          have hD : mo_D B D P O M69 I A L := hD.kept kF (fun c h9 => by unfold cg; omega)
          have hw9o := hw9
          have hw9 : M69 wq = some (.inl (D.1 103, 1, .inr (.inl fw))) := (kF _ _ hw9o).2.1 (by rw [how]; unfold cg; omega)
          have how : O wq = 50 := (kF _ _ hw9o).1.trans how
          obtain ⟨g71, -⟩ := id hD
          refine lv_aload_n hx hb dd_LW_law_249 rfl (lv_at hl 2 rfl) ?_
          refine lv_aload_n hx hb dd_LW_law_250 rfl (lv_at hl 0 rfl) ?_
          refine lv_iload hx hb dd_LW_law_251 (lv_at hl 4 rfl) ?_
          refine lv_iconst (v := nI 1) hx hb dd_LW_law_253 (by decide +kernel) ?_
          refine hn_iadd hx hb dd_LW_law_254 ?_
          refine va_sld (i := nI (k + 1)) hx hb hXs hbl hbA hS (vp_in_nI (by omega) (by omega)) dd_LW_law_255 ?_
          refine W.eq (g2 := F0 m 256 ls [.int (xs (k + 1)), .ref (P 0), .int (nI (bz (al_ok ex (xs (k + 1)) (xs (k + 2)))))]) (by rw [nI_clamp (by omega)]) ?_
          refine lv_aload_n hx hb dd_LW_law_256 rfl (lv_at hl 0 rfl) ?_
          refine lv_iload hx hb dd_LW_law_257 (lv_at hl 4 rfl) ?_
          refine lv_iconst (v := nI 2) hx hb dd_LW_law_259 (by decide +kernel) ?_
          refine hn_iadd hx hb dd_LW_law_260 ?_
          refine va_sld (i := nI (k + 2)) hx hb hXs hbl hbA hS (vp_in_nI (by omega) (by omega)) dd_LW_law_261 ?_
          refine W.eq (g2 := F0 m 262 ls [.int (xs (k + 2)), .int (xs (k + 1)), .ref (P 0), .int (nI (bz (al_ok ex (xs (k + 1)) (xs (k + 2)))))]) (by rw [nI_clamp (by omega)]) ?_
          refine hm_ci hS (hm_rV 2 (As := [.int (xs (k + 1)), .int (xs (k + 2))]) (rest := [.int (nI (bz (al_ok ex (xs (k + 1)) (xs (k + 2)))))]) ⟨hx, hb, hml, hown, hts⟩ hE hS hP (kc_MO_alternate l B D G M69 P O I A L hD t ex qs bs key hs fo ps hZ (xs (k + 1)) (xs (k + 2))) rfl g71 tw_1074 tw_1071 tw_1072 tw_1073 tw_46 (by decide +kernel) rfl rfl ⟨by show 1 + 1 ≤ R.frames; omega, by show 8 + (3 + 11) + 21 ≤ R.locals; omega⟩ rfl hl.1 rfl (Nat.le_of_ble_eq_true rfl) dd_LW_law_262 ⟨by omega, by omega⟩) (fun r72 M73 H locs hw74 hP hS => ?_)
          refine W.widen (k := (40 + 10 * k)) (n := (10000 + 300 * k)) (by omega) (by omega) ?_
          obtain ⟨rfl, Iz75, Az75, Lz75, hD, hcz75, hZ, kF⟩ := hw74
          have hIo := hI
          have hI : im_R D G N O M73 := hI.kept kF (by unfold pm; omega)
          have hT : tp_R B D N O M73 t := hT.kept kF (fun c h9 => by unfold pm; omega)
          have hX : ex_R B D N O M73 (al_x ex (xs (k + 1)) (xs (k + 2))) := hX.kept kF (fun c h9 => by unfold pm; omega)
          have hQ : qu_R B D N O M73 qs := hQ.kept kF (fun c h9 => by unfold pm; omega)
          have hB : bi_R B D G N O M73 bs := hB.kept kF hIo (fun c h9 => by unfold pm; omega) (by unfold pm; omega)
          have hM : ms_R B D G N O M73 key hs := hM.kept kF hIo (fun c h9 => by unfold pm; omega) (by unfold pm; omega)
          have hR : rs_R B D N O M73 r := rt_R.kept hR kF (fun c h9 => by unfold pm; omega)
          have hw9o := hw9
          have hw9 : M73 wq = some (.inl (D.1 103, 1, .inr (.inl fw))) := (kF _ _ hw9o).2.1 (by rw [how]; unfold pm; omega)
          have how : O wq = 50 := (kF _ _ hw9o).1.trans how
          obtain ⟨g76, -⟩ := id hD
          refine hn_icmp_eq (tgt := 758) hx hb (bz_b _) (bz_b _) dd_LW_law_265 (by decide) (fun c77 => ?_) (fun c77 => absurd c77 (by exact fun h9 => h9 rfl))
          refine lv_iinc (v := nI (k + 4)) (lv' := [(4, .int (nI (k + 4))), (0, .ref sb), (1, .ref (N 0)), (2, .ref (P 0)), (3, .ref wq)]) hx hb dd_LW_law_758 hl (k := 4) rfl (nI_add k 4) (by decide) rfl (fun ls hl => ?_)
          refine lv_goto (tgt := 23) hx hb dd_LW_law_761 (by decide) ?_
          refine W.widen (k := (40 + 10 * (k + 4))) (n := (10000 + 300 * (k + 4))) (by omega) (by omega) ?_
          exact ih23 (k + 4) M73 (by omega) (⟨O, t, (al_x ex (xs (k + 1)) (xs (k + 2))), qs, bs, key, hs, r, fo, ps, Iz75, Az75, Lz75, fw, hI, hT, hX, hQ, hB, hM, hR, hD, hZ, ⟨hw9, how⟩, (v_al hV), hag⟩) (by omega) _ _ _ hP hS (lv_sub hl [1, 2, 3, 4, 0] rfl)
        · refine lv_tableIn (off := 231) (tgt := 270) hx hb dd_LW_law_39 (by omega) (by omega) (by rw [sw5]; rfl) (by decide) ?_
          refine lv_aload_n hx hb dd_LW_law_270 rfl (lv_at hl 1 rfl) ?_
          refine lv_aload_n hx hb dd_LW_law_271 rfl (lv_at hl 3 rfl) ?_
          rcases (qu_case qs) with ⟨j9, hj9, hfree, hbef⟩ | hfull
          · refine hm_ci hS (hm_rSH 2 (As := [.ref (N 0), .ref wq]) (rest := []) ⟨hx, hb, hml, hown, hts⟩ hE hS hP (kc_LQ0 l B D G Mu N O hI qs hQ wq fw hw9 hA_w9 how j9 hj9 hfree hbef) tq_queue tw_815 tw_816 tw_35 (by decide +kernel) rfl rfl ⟨by show 1 + 1 ≤ R.frames; omega, by show 8 + (3 + 11) + 21 ≤ R.locals; omega⟩ rfl hl.1 rfl (Nat.le_of_ble_eq_true rfl) dd_LW_law_272 ⟨by omega, by omega⟩) (fun r78 M79 H locs hw80 hP hS => ?_)
            refine W.widen (k := (40 + 10 * k)) (n := (10000 + 300 * k)) (by omega) (by omega) ?_
            obtain ⟨rfl, OM79, f1, hf1, kw, kx, kF⟩ := hw80
            have hw9o := hw9
            have hQ := kx
            have hw9 := kw
            have hIo := hI
            have hI : im_R D G N OM79 M79 := hI.kept kF (by unfold cw cg pw; omega)
            have hT : tp_R B D N OM79 M79 t := hT.kept kF (fun c h9 => by unfold cw cg pw; omega)
            have hX : ex_R B D N OM79 M79 ex := hX.kept kF (fun c h9 => by unfold cw cg pw; omega)
            have hB : bi_R B D G N OM79 M79 bs := hB.kept kF hIo (fun c h9 => by unfold cw cg pw; omega) (by unfold cw cg pw; omega)
            have hM : ms_R B D G N OM79 M79 key hs := hM.kept kF hIo (fun c h9 => by unfold cw cg pw; omega) (by unfold cw cg pw; omega)
            have hR : rs_R B D N OM79 M79 r := rt_R.kept hR kF (fun c h9 => by unfold cw cg pw; omega)
            have hD : mo_D B D P OM79 M79 I A L := hD.kept kF (fun c h9 => by unfold cw cg pw; omega)
            have how : OM79 wq = 50 := (kF _ _ hw9o).1.trans how
            obtain ⟨g81, -⟩ := id hD
            refine lv_istore (lv' := [(5, .int (nI 0)), (0, .ref sb), (1, .ref (N 0)), (2, .ref (P 0)), (3, .ref wq), (4, .int (nI k))]) hx hb dd_LW_law_275 hl (by decide) rfl (fun ls hl => ?_)
            refine lv_aload_n hx hb dd_LW_law_277 rfl (lv_at hl 3 rfl) ?_
            refine hm_ci hS (hm_rV 0 (As := []) (rest := []) ⟨hx, hb, hml, hown, hts⟩ hE hS hP (kc_MO_queue l B D G M79 P OM79 I A L hD t ex qs bs key hs fo ps hZ j9 hj9 hfree hbef) rfl g81 tw_1082 tw_1079 tw_1080 tw_1081 tw_46 (by decide +kernel) rfl rfl ⟨by show 0 + 1 ≤ R.frames; omega, by show 8 + (2 + 11) + 0 ≤ R.locals; omega⟩ rfl hl.1 rfl (Nat.le_of_ble_eq_true rfl) dd_LW_law_278 ⟨by omega, by omega⟩) (fun r82 M83 H locs hw84 hP hS => ?_)
            refine W.widen (k := (40 + 10 * k)) (n := (10000 + 300 * k)) (by omega) (by omega) ?_
            obtain ⟨rfl, Iz85, Az85, Lz85, hD, hcz85, hZ, kF⟩ := hw84
            have hIo := hI
            have hI : im_R D G N OM79 M83 := hI.kept kF (by unfold pm; omega)
            have hT : tp_R B D N OM79 M83 t := hT.kept kF (fun c h9 => by unfold pm; omega)
            have hX : ex_R B D N OM79 M83 ex := hX.kept kF (fun c h9 => by unfold pm; omega)
            have hQ : qu_R B D N OM79 M83 (va_up qs j9 true) := hQ.kept kF (fun c h9 => by unfold pm; omega)
            have hB : bi_R B D G N OM79 M83 bs := hB.kept kF hIo (fun c h9 => by unfold pm; omega) (by unfold pm; omega)
            have hM : ms_R B D G N OM79 M83 key hs := hM.kept kF hIo (fun c h9 => by unfold pm; omega) (by unfold pm; omega)
            have hR : rs_R B D N OM79 M83 r := rt_R.kept hR kF (fun c h9 => by unfold pm; omega)
            have hw9o := hw9
            have hw9 : M83 wq = some (.inl (D.1 103, 1, .inr (.inl f1))) := (kF _ _ hw9o).2.1 (by rw [how]; unfold pm; omega)
            have how : OM79 wq = 50 := (kF _ _ hw9o).1.trans how
            obtain ⟨g86, -⟩ := id hD
            refine lv_istore (lv' := [(6, .int (nI j9)), (5, .int (nI 0)), (0, .ref sb), (1, .ref (N 0)), (2, .ref (P 0)), (3, .ref wq), (4, .int (nI k))]) hx hb dd_LW_law_281 hl (by decide) rfl (fun ls hl => ?_)
            refine lv_aload_n hx hb dd_LW_law_283 rfl (lv_at hl 4 rfl) ?_
            refine hm_ci hS (hm_rV 0 (As := []) (rest := []) ⟨hx, hb, hml, hown, hts⟩ hE hS hP (kc_MO_thrown l B D G M83 P OM79 Iz85 Az85 Lz85 hD) rfl g86 tw_1057 tw_1054 tw_1055 tw_1056 tw_46 (by decide +kernel) rfl rfl ⟨by show 0 + 1 ≤ R.frames; omega, by show 8 + (1 + 11) + 0 ≤ R.locals; omega⟩ rfl hl.1 rfl (Nat.le_of_ble_eq_true rfl) dd_LW_law_284 ⟨by omega, by omega⟩) (fun r87 M88 H locs hw89 hP hS => ?_)
            refine W.widen (k := (40 + 10 * k)) (n := (10000 + 300 * k)) (by omega) (by omega) ?_
            obtain ⟨hrM88, eM88⟩ := hw89
            rw [eM88] at hP
            obtain rfl : r87 = nI 0 := hrM88.trans hcz85
            refine lv_iload hx hb dd_LW_law_287 (lv_at hl 1 rfl) ?_
            refine hn_icmp_eq (tgt := 294) hx hb (by omega) (by omega) dd_LW_law_289 (by decide) (fun c90 => ?_) (fun c90 => absurd c90 (by omega))
            refine lv_iload hx hb dd_LW_law_294 (lv_at hl 1 rfl) ?_
            refine hn_if_ne (tgt := 311) hx hb (by omega) dd_LW_law_296 (by decide) (fun c91 => absurd c91 (by omega)) (fun c91 => ?_)
            refine lv_aload_n hx hb dd_LW_law_299 rfl (lv_at hl 5 rfl) ?_
            refine lv_iconst (v := nI 0) hx hb dd_LW_law_300 (by decide +kernel) ?_
            refine hm_lald (j := 0) hx hb hE.K hP 3 hw9 rfl (vp_in_nI (by omega) (by omega)) (nI_clamp (by omega)) dd_LW_law_301 ?_
            refine W.eq (g2 := F0 m 302 ls [.long ((nI j9).toInt64)]) (by rw [hf1]) ?_
            refine lv_iload hx hb dd_LW_law_302 (lv_at hl 0 rfl) ?_
            refine lv_i2l hx hb dd_LW_law_304 rfl ?_
            refine lv_topl (fun w92 ew92 => ?_)
            refine W.lcmp hx hb dd_LW_law_305 ?_
            refine hi_if_eq (tgt := 311) hx hb dd_LW_law_306 (by decide) (fun c93 => ?_) (fun c93 => absurd c93 (by exact fun h9 => h9 (by rw [ew92]; exact lc_rf _)))
            refine lv_goto (tgt := 758) hx hb dd_LW_law_311 (by decide) ?_
            refine lv_iinc (v := nI (k + 4)) (lv' := [(4, .int (nI (k + 4))), (6, .int (nI j9)), (5, .int (nI 0)), (0, .ref sb), (1, .ref (N 0)), (2, .ref (P 0)), (3, .ref wq)]) hx hb dd_LW_law_758 hl (k := 6) rfl (nI_add k 4) (by decide) rfl (fun ls hl => ?_)
            refine lv_goto (tgt := 23) hx hb dd_LW_law_761 (by decide) ?_
            refine W.widen (k := (40 + 10 * (k + 4))) (n := (10000 + 300 * (k + 4))) (by omega) (by omega) ?_
            exact ih23 (k + 4) M83 (by omega) (⟨OM79, t, ex, (va_up qs j9 true), bs, key, hs, r, fo, ps, Iz85, Az85, Lz85, f1, hI, hT, hX, hQ, hB, hM, hR, hD, hZ, ⟨hw9, how⟩, (v_qu hV), hag⟩) (by omega) _ _ _ hP hS (lv_sub hl [3, 4, 5, 6, 0] rfl)
          · refine hm_ci hS (hm_rSH 2 (As := [.ref (N 0), .ref wq]) (rest := []) ⟨hx, hb, hml, hown, hts⟩ hE hS hP (kc_LQ1 l B D G Mu hfl N O hI qs hQ wq fw hw9 hA_w9 how hfull) tq_queue tw_815 tw_816 tw_35 (by decide +kernel) rfl rfl ⟨by show 7 + 1 ≤ R.frames; omega, by show 8 + (3 + 11) + 111 ≤ R.locals; omega⟩ rfl hl.1 rfl (Nat.le_of_ble_eq_true rfl) dd_LW_law_272 ⟨by omega, by omega⟩) (fun r94 M95 H locs hw96 hP hS => ?_)
            refine W.widen (k := (40 + 10 * k) + 1) (n := (10000 + 300 * k) + 6) (by omega) (by omega) ?_
            obtain ⟨rfl, eM95⟩ := hw96
            rw [eM95] at hP
            refine lv_istore (lv' := [(5, .int (nI 1)), (0, .ref sb), (1, .ref (N 0)), (2, .ref (P 0)), (3, .ref wq), (4, .int (nI k))]) hx hb dd_LW_law_275 hl (by decide) rfl (fun ls hl => ?_)
            refine lv_aload_n hx hb dd_LW_law_277 rfl (lv_at hl 3 rfl) ?_
            refine hm_ci hS (hm_rV 0 (As := []) (rest := []) ⟨hx, hb, hml, hown, hts⟩ hE hS hP (kc_MO_queue1 l B D G Mu P O I A L hD t ex qs bs key hs fo ps hZ hfull) rfl g1 tw_1082 tw_1079 tw_1080 tw_1081 tw_46 (by decide +kernel) rfl rfl ⟨by show 1 + 1 ≤ R.frames; omega, by show 8 + (2 + 11) + 21 ≤ R.locals; omega⟩ rfl hl.1 rfl (Nat.le_of_ble_eq_true rfl) dd_LW_law_278 ⟨by omega, by omega⟩) (fun r97 M98 H locs hw99 hP hS => ?_)
            refine W.widen (k := (40 + 10 * k) + 1) (n := (10000 + 300 * k) + 6) (by omega) (by omega) ?_
            obtain ⟨rfl, Iz100, Az100, Lz100, hD, hcz100, hZ, kF⟩ := hw99
            have hIo := hI
            have hI : im_R D G N O M98 := hI.kept kF (by unfold pm; omega)
            have hT : tp_R B D N O M98 t := hT.kept kF (fun c h9 => by unfold pm; omega)
            have hX : ex_R B D N O M98 ex := hX.kept kF (fun c h9 => by unfold pm; omega)
            have hQ : qu_R B D N O M98 qs := hQ.kept kF (fun c h9 => by unfold pm; omega)
            have hB : bi_R B D G N O M98 bs := hB.kept kF hIo (fun c h9 => by unfold pm; omega) (by unfold pm; omega)
            have hM : ms_R B D G N O M98 key hs := hM.kept kF hIo (fun c h9 => by unfold pm; omega) (by unfold pm; omega)
            have hR : rs_R B D N O M98 r := rt_R.kept hR kF (fun c h9 => by unfold pm; omega)
            have hw9o := hw9
            have hw9 : M98 wq = some (.inl (D.1 103, 1, .inr (.inl fw))) := (kF _ _ hw9o).2.1 (by rw [how]; unfold pm; omega)
            have how : O wq = 50 := (kF _ _ hw9o).1.trans how
            obtain ⟨g101, -⟩ := id hD
            refine lv_istore (lv' := [(6, .int (nI 0)), (5, .int (nI 1)), (0, .ref sb), (1, .ref (N 0)), (2, .ref (P 0)), (3, .ref wq), (4, .int (nI k))]) hx hb dd_LW_law_281 hl (by decide) rfl (fun ls hl => ?_)
            refine lv_aload_n hx hb dd_LW_law_283 rfl (lv_at hl 4 rfl) ?_
            refine hm_ci hS (hm_rV 0 (As := []) (rest := []) ⟨hx, hb, hml, hown, hts⟩ hE hS hP (kc_MO_thrown l B D G M98 P O Iz100 Az100 Lz100 hD) rfl g101 tw_1057 tw_1054 tw_1055 tw_1056 tw_46 (by decide +kernel) rfl rfl ⟨by show 0 + 1 ≤ R.frames; omega, by show 8 + (1 + 11) + 0 ≤ R.locals; omega⟩ rfl hl.1 rfl (Nat.le_of_ble_eq_true rfl) dd_LW_law_284 ⟨by omega, by omega⟩) (fun r102 M103 H locs hw104 hP hS => ?_)
            refine W.widen (k := (40 + 10 * k) + 1) (n := (10000 + 300 * k) + 6) (by omega) (by omega) ?_
            obtain ⟨hrM103, eM103⟩ := hw104
            rw [eM103] at hP
            obtain rfl : r102 = nI 1 := hrM103.trans hcz100
            refine lv_iload hx hb dd_LW_law_287 (lv_at hl 1 rfl) ?_
            refine hn_icmp_eq (tgt := 294) hx hb (by omega) (by omega) dd_LW_law_289 (by decide) (fun c105 => ?_) (fun c105 => absurd c105 (by omega))
            refine lv_iload hx hb dd_LW_law_294 (lv_at hl 1 rfl) ?_
            refine hn_if_ne (tgt := 311) hx hb (by omega) dd_LW_law_296 (by decide) (fun c106 => ?_) (fun c106 => absurd c106 (by omega))
            refine lv_goto (tgt := 758) hx hb dd_LW_law_311 (by decide) ?_
            refine lv_iinc (v := nI (k + 4)) (lv' := [(4, .int (nI (k + 4))), (6, .int (nI 0)), (5, .int (nI 1)), (0, .ref sb), (1, .ref (N 0)), (2, .ref (P 0)), (3, .ref wq)]) hx hb dd_LW_law_758 hl (k := 6) rfl (nI_add k 4) (by decide) rfl (fun ls hl => ?_)
            refine lv_goto (tgt := 23) hx hb dd_LW_law_761 (by decide) ?_
            refine W.widen (k := (40 + 10 * (k + 4))) (n := (10000 + 300 * (k + 4))) (by omega) (by omega) ?_
            exact ih23 (k + 4) M98 (by omega) (⟨O, t, ex, qs, bs, key, hs, r, fo, ps, Iz100, Az100, Lz100, fw, hI, hT, hX, hQ, hB, hM, hR, hD, hZ, ⟨hw9, how⟩, hV, hag⟩) (by omega) _ _ _ hP hS (lv_sub hl [3, 4, 5, 6, 0] rfl)
        · refine lv_tableIn (off := 275) (tgt := 314) hx hb dd_LW_law_39 (by omega) (by omega) (by rw [sw5]; rfl) (by decide) ?_
          refine lv_aload_n hx hb dd_LW_law_314 rfl (lv_at hl 1 rfl) ?_
          refine lv_aload_n hx hb dd_LW_law_315 rfl (lv_at hl 0 rfl) ?_
          refine lv_iload hx hb dd_LW_law_316 (lv_at hl 4 rfl) ?_
          refine lv_iconst (v := nI 1) hx hb dd_LW_law_318 (by decide +kernel) ?_
          refine hn_iadd hx hb dd_LW_law_319 ?_
          refine va_sld (i := nI (k + 1)) hx hb hXs hbl hbA hS (vp_in_nI (by omega) (by omega)) dd_LW_law_320 ?_
          refine W.eq (g2 := F0 m 321 ls [.int (xs (k + 1)), .ref (N 0)]) (by rw [nI_clamp (by omega)]) ?_
          refine lv_aload_n hx hb dd_LW_law_321 rfl (lv_at hl 0 rfl) ?_
          refine lv_iload hx hb dd_LW_law_322 (lv_at hl 4 rfl) ?_
          refine lv_iconst (v := nI 2) hx hb dd_LW_law_324 (by decide +kernel) ?_
          refine hn_iadd hx hb dd_LW_law_325 ?_
          refine va_sld (i := nI (k + 2)) hx hb hXs hbl hbA hS (vp_in_nI (by omega) (by omega)) dd_LW_law_326 ?_
          refine W.eq (g2 := F0 m 327 ls [.int (xs (k + 2)), .int (xs (k + 1)), .ref (N 0)]) (by rw [nI_clamp (by omega)]) ?_
          refine hi_if_eq (tgt := 334) hx hb dd_LW_law_327 (by decide) (fun c107 => ?_) (fun c107 => ?_)
          · refine lv_iconst (v := nI 0) hx hb dd_LW_law_334 (by decide +kernel) ?_
            refine hm_ci hS (hm_rV 2 (As := [.int (xs (k + 1)), .int (nI 0)]) (rest := []) ⟨hx, hb, hml, hown, hts⟩ hE hS hP (kc_RD_remove l B D G Mu N O hI ex hX qs hQ bs hB (xs (k + 1)) false) rfl hI.o tw_323 tw_320 tw_321 tw_322 tw_36 (by decide +kernel) rfl rfl ⟨by show 3 + 1 ≤ R.frames; omega, by show 8 + (5 + 11) + 86 ≤ R.locals; omega⟩ rfl hl.1 rfl (Nat.le_of_ble_eq_true rfl) dd_LW_law_335 ⟨by omega, by omega⟩) (fun r108 M109 H locs hw110 hP hS => ?_)
            refine W.widen (k := (40 + 10 * k)) (n := (10000 + 300 * k)) (by omega) (by omega) ?_
            obtain ⟨rfl, kX, kQ, kB, kF⟩ := hw110
            have hX := kX
            have hQ := kQ
            have hB := kB
            have hIo := hI
            have hI : im_R D G N O M109 := hI.kept kF (by unfold cg24; omega)
            have hT : tp_R B D N O M109 t := hT.kept kF (fun c h9 => by unfold cg24; omega)
            have hM : ms_R B D G N O M109 key hs := hM.kept kF hIo (fun c h9 => by unfold cg24; omega) (by unfold cg24; omega)
            have hR : rs_R B D N O M109 r := rt_R.kept hR kF (fun c h9 => by unfold cg24; omega)
            have hD : mo_D B D P O M109 I A L := hD.kept kF (fun c h9 => by unfold cg24; omega)
            have hw9o := hw9
            have hw9 : M109 wq = some (.inl (D.1 103, 1, .inr (.inl fw))) := (kF _ _ hw9o).2.1 (by rw [how]; unfold cg24; omega)
            have how : O wq = 50 := (kF _ _ hw9o).1.trans how
            obtain ⟨g111, -⟩ := id hD
            refine lv_aload_n hx hb dd_LW_law_338 rfl (lv_at hl 2 rfl) ?_
            refine lv_aload_n hx hb dd_LW_law_339 rfl (lv_at hl 0 rfl) ?_
            refine lv_iload hx hb dd_LW_law_340 (lv_at hl 4 rfl) ?_
            refine lv_iconst (v := nI 1) hx hb dd_LW_law_342 (by decide +kernel) ?_
            refine hn_iadd hx hb dd_LW_law_343 ?_
            refine va_sld (i := nI (k + 1)) hx hb hXs hbl hbA hS (vp_in_nI (by omega) (by omega)) dd_LW_law_344 ?_
            refine W.eq (g2 := F0 m 345 ls [.int (xs (k + 1)), .ref (P 0), .int (nI (bz (th_at ex qs (xs (k + 1)) false)))]) (by rw [nI_clamp (by omega)]) ?_
            refine lv_aload_n hx hb dd_LW_law_345 rfl (lv_at hl 0 rfl) ?_
            refine lv_iload hx hb dd_LW_law_346 (lv_at hl 4 rfl) ?_
            refine lv_iconst (v := nI 2) hx hb dd_LW_law_348 (by decide +kernel) ?_
            refine hn_iadd hx hb dd_LW_law_349 ?_
            refine va_sld (i := nI (k + 2)) hx hb hXs hbl hbA hS (vp_in_nI (by omega) (by omega)) dd_LW_law_350 ?_
            refine W.eq (g2 := F0 m 351 ls [.int (xs (k + 2)), .int (xs (k + 1)), .ref (P 0), .int (nI (bz (th_at ex qs (xs (k + 1)) false)))]) (by rw [nI_clamp (by omega)]) ?_
            refine hi_if_eq (tgt := 358) hx hb dd_LW_law_351 (by decide) (fun c112 => ?_) (fun c112 => ?_)
            · refine lv_iconst (v := nI 0) hx hb dd_LW_law_358 (by decide +kernel) ?_
              refine hm_ci hS (hm_rV 2 (As := [.int (xs (k + 1)), .int (nI 0)]) (rest := [.int (nI (bz (th_at ex qs (xs (k + 1)) false)))]) ⟨hx, hb, hml, hown, hts⟩ hE hS hP (kc_MO_remove l B D G M109 P O I A L hD t ex qs bs key hs fo ps hZ (xs (k + 1)) false) rfl g111 tw_1086 tw_1083 tw_1084 tw_1085 tw_46 (by decide +kernel) rfl rfl ⟨by show 1 + 1 ≤ R.frames; omega, by show 8 + (4 + 11) + 23 ≤ R.locals; omega⟩ rfl hl.1 rfl (Nat.le_of_ble_eq_true rfl) dd_LW_law_359 ⟨by omega, by omega⟩) (fun r113 M114 H locs hw115 hP hS => ?_)
              refine W.widen (k := (40 + 10 * k)) (n := (10000 + 300 * k)) (by omega) (by omega) ?_
              obtain ⟨rfl, Iz116, Az116, Lz116, hD, hcz116, hZ, kF⟩ := hw115
              have hIo := hI
              have hI : im_R D G N O M114 := hI.kept kF (by unfold pm; omega)
              have hT : tp_R B D N O M114 t := hT.kept kF (fun c h9 => by unfold pm; omega)
              have hX : ex_R B D N O M114 (rm_e ex qs (xs (k + 1)) false) := hX.kept kF (fun c h9 => by unfold pm; omega)
              have hQ : qu_R B D N O M114 (rm_q ex qs (xs (k + 1)) false) := hQ.kept kF (fun c h9 => by unfold pm; omega)
              have hB : bi_R B D G N O M114 (rm_b ex qs bs (xs (k + 1)) false) := hB.kept kF hIo (fun c h9 => by unfold pm; omega) (by unfold pm; omega)
              have hM : ms_R B D G N O M114 key hs := hM.kept kF hIo (fun c h9 => by unfold pm; omega) (by unfold pm; omega)
              have hR : rs_R B D N O M114 r := rt_R.kept hR kF (fun c h9 => by unfold pm; omega)
              have hw9o := hw9
              have hw9 : M114 wq = some (.inl (D.1 103, 1, .inr (.inl fw))) := (kF _ _ hw9o).2.1 (by rw [how]; unfold pm; omega)
              have how : O wq = 50 := (kF _ _ hw9o).1.trans how
              obtain ⟨g117, -⟩ := id hD
              refine hn_icmp_eq (tgt := 758) hx hb (bz_b _) (bz_b _) dd_LW_law_362 (by decide) (fun c118 => ?_) (fun c118 => absurd c118 (by exact fun h9 => h9 rfl))
              refine lv_iinc (v := nI (k + 4)) (lv' := [(4, .int (nI (k + 4))), (0, .ref sb), (1, .ref (N 0)), (2, .ref (P 0)), (3, .ref wq)]) hx hb dd_LW_law_758 hl (k := 4) rfl (nI_add k 4) (by decide) rfl (fun ls hl => ?_)
              refine lv_goto (tgt := 23) hx hb dd_LW_law_761 (by decide) ?_
              refine W.widen (k := (40 + 10 * (k + 4))) (n := (10000 + 300 * (k + 4))) (by omega) (by omega) ?_
              exact ih23 (k + 4) M114 (by omega) (⟨O, t, (rm_e ex qs (xs (k + 1)) false), (rm_q ex qs (xs (k + 1)) false), (rm_b ex qs bs (xs (k + 1)) false), key, hs, r, fo, ps, Iz116, Az116, Lz116, fw, hI, hT, hX, hQ, hB, hM, hR, hD, hZ, ⟨hw9, how⟩, (v_rm hV), hag⟩) (by omega) _ _ _ hP hS (lv_sub hl [1, 2, 3, 4, 0] rfl)
            · exfalso; omega
          · refine lv_iconst (v := nI 1) hx hb dd_LW_law_330 (by decide +kernel) ?_
            refine lv_goto (tgt := 335) hx hb dd_LW_law_331 (by decide) ?_
            refine hm_ci hS (hm_rV 2 (As := [.int (xs (k + 1)), .int (nI 1)]) (rest := []) ⟨hx, hb, hml, hown, hts⟩ hE hS hP (kc_RD_remove l B D G Mu N O hI ex hX qs hQ bs hB (xs (k + 1)) true) rfl hI.o tw_323 tw_320 tw_321 tw_322 tw_36 (by decide +kernel) rfl rfl ⟨by show 3 + 1 ≤ R.frames; omega, by show 8 + (5 + 11) + 86 ≤ R.locals; omega⟩ rfl hl.1 rfl (Nat.le_of_ble_eq_true rfl) dd_LW_law_335 ⟨by omega, by omega⟩) (fun r119 M120 H locs hw121 hP hS => ?_)
            refine W.widen (k := (40 + 10 * k)) (n := (10000 + 300 * k)) (by omega) (by omega) ?_
            obtain ⟨rfl, kX, kQ, kB, kF⟩ := hw121
            have hX := kX
            have hQ := kQ
            have hB := kB
            have hIo := hI
            have hI : im_R D G N O M120 := hI.kept kF (by unfold cg24; omega)
            have hT : tp_R B D N O M120 t := hT.kept kF (fun c h9 => by unfold cg24; omega)
            have hM : ms_R B D G N O M120 key hs := hM.kept kF hIo (fun c h9 => by unfold cg24; omega) (by unfold cg24; omega)
            have hR : rs_R B D N O M120 r := rt_R.kept hR kF (fun c h9 => by unfold cg24; omega)
            have hD : mo_D B D P O M120 I A L := hD.kept kF (fun c h9 => by unfold cg24; omega)
            have hw9o := hw9
            have hw9 : M120 wq = some (.inl (D.1 103, 1, .inr (.inl fw))) := (kF _ _ hw9o).2.1 (by rw [how]; unfold cg24; omega)
            have how : O wq = 50 := (kF _ _ hw9o).1.trans how
            obtain ⟨g122, -⟩ := id hD
            refine lv_aload_n hx hb dd_LW_law_338 rfl (lv_at hl 2 rfl) ?_
            refine lv_aload_n hx hb dd_LW_law_339 rfl (lv_at hl 0 rfl) ?_
            refine lv_iload hx hb dd_LW_law_340 (lv_at hl 4 rfl) ?_
            refine lv_iconst (v := nI 1) hx hb dd_LW_law_342 (by decide +kernel) ?_
            refine hn_iadd hx hb dd_LW_law_343 ?_
            refine va_sld (i := nI (k + 1)) hx hb hXs hbl hbA hS (vp_in_nI (by omega) (by omega)) dd_LW_law_344 ?_
            refine W.eq (g2 := F0 m 345 ls [.int (xs (k + 1)), .ref (P 0), .int (nI (bz (th_at ex qs (xs (k + 1)) true)))]) (by rw [nI_clamp (by omega)]) ?_
            refine lv_aload_n hx hb dd_LW_law_345 rfl (lv_at hl 0 rfl) ?_
            refine lv_iload hx hb dd_LW_law_346 (lv_at hl 4 rfl) ?_
            refine lv_iconst (v := nI 2) hx hb dd_LW_law_348 (by decide +kernel) ?_
            refine hn_iadd hx hb dd_LW_law_349 ?_
            refine va_sld (i := nI (k + 2)) hx hb hXs hbl hbA hS (vp_in_nI (by omega) (by omega)) dd_LW_law_350 ?_
            refine W.eq (g2 := F0 m 351 ls [.int (xs (k + 2)), .int (xs (k + 1)), .ref (P 0), .int (nI (bz (th_at ex qs (xs (k + 1)) true)))]) (by rw [nI_clamp (by omega)]) ?_
            refine hi_if_eq (tgt := 358) hx hb dd_LW_law_351 (by decide) (fun c123 => ?_) (fun c123 => ?_)
            · exfalso; omega
            · refine lv_iconst (v := nI 1) hx hb dd_LW_law_354 (by decide +kernel) ?_
              refine lv_goto (tgt := 359) hx hb dd_LW_law_355 (by decide) ?_
              refine hm_ci hS (hm_rV 2 (As := [.int (xs (k + 1)), .int (nI 1)]) (rest := [.int (nI (bz (th_at ex qs (xs (k + 1)) true)))]) ⟨hx, hb, hml, hown, hts⟩ hE hS hP (kc_MO_remove l B D G M120 P O I A L hD t ex qs bs key hs fo ps hZ (xs (k + 1)) true) rfl g122 tw_1086 tw_1083 tw_1084 tw_1085 tw_46 (by decide +kernel) rfl rfl ⟨by show 1 + 1 ≤ R.frames; omega, by show 8 + (4 + 11) + 23 ≤ R.locals; omega⟩ rfl hl.1 rfl (Nat.le_of_ble_eq_true rfl) dd_LW_law_359 ⟨by omega, by omega⟩) (fun r124 M125 H locs hw126 hP hS => ?_)
              refine W.widen (k := (40 + 10 * k)) (n := (10000 + 300 * k)) (by omega) (by omega) ?_
              obtain ⟨rfl, Iz127, Az127, Lz127, hD, hcz127, hZ, kF⟩ := hw126
              have hIo := hI
              have hI : im_R D G N O M125 := hI.kept kF (by unfold pm; omega)
              have hT : tp_R B D N O M125 t := hT.kept kF (fun c h9 => by unfold pm; omega)
              have hX : ex_R B D N O M125 (rm_e ex qs (xs (k + 1)) true) := hX.kept kF (fun c h9 => by unfold pm; omega)
              have hQ : qu_R B D N O M125 (rm_q ex qs (xs (k + 1)) true) := hQ.kept kF (fun c h9 => by unfold pm; omega)
              have hB : bi_R B D G N O M125 (rm_b ex qs bs (xs (k + 1)) true) := hB.kept kF hIo (fun c h9 => by unfold pm; omega) (by unfold pm; omega)
              have hM : ms_R B D G N O M125 key hs := hM.kept kF hIo (fun c h9 => by unfold pm; omega) (by unfold pm; omega)
              have hR : rs_R B D N O M125 r := rt_R.kept hR kF (fun c h9 => by unfold pm; omega)
              have hw9o := hw9
              have hw9 : M125 wq = some (.inl (D.1 103, 1, .inr (.inl fw))) := (kF _ _ hw9o).2.1 (by rw [how]; unfold pm; omega)
              have how : O wq = 50 := (kF _ _ hw9o).1.trans how
              obtain ⟨g128, -⟩ := id hD
              refine hn_icmp_eq (tgt := 758) hx hb (bz_b _) (bz_b _) dd_LW_law_362 (by decide) (fun c129 => ?_) (fun c129 => absurd c129 (by exact fun h9 => h9 rfl))
              refine lv_iinc (v := nI (k + 4)) (lv' := [(4, .int (nI (k + 4))), (0, .ref sb), (1, .ref (N 0)), (2, .ref (P 0)), (3, .ref wq)]) hx hb dd_LW_law_758 hl (k := 4) rfl (nI_add k 4) (by decide) rfl (fun ls hl => ?_)
              refine lv_goto (tgt := 23) hx hb dd_LW_law_761 (by decide) ?_
              refine W.widen (k := (40 + 10 * (k + 4))) (n := (10000 + 300 * (k + 4))) (by omega) (by omega) ?_
              exact ih23 (k + 4) M125 (by omega) (⟨O, t, (rm_e ex qs (xs (k + 1)) true), (rm_q ex qs (xs (k + 1)) true), (rm_b ex qs bs (xs (k + 1)) true), key, hs, r, fo, ps, Iz127, Az127, Lz127, fw, hI, hT, hX, hQ, hB, hM, hR, hD, hZ, ⟨hw9, how⟩, (v_rm hV), hag⟩) (by omega) _ _ _ hP hS (lv_sub hl [1, 2, 3, 4, 0] rfl)
        · refine lv_tableIn (off := 328) (tgt := 367) hx hb dd_LW_law_39 (by omega) (by omega) (by rw [sw5]; rfl) (by decide) ?_
          refine lv_aload_n hx hb dd_LW_law_367 rfl (lv_at hl 1 rfl) ?_
          refine lv_aload_n hx hb dd_LW_law_368 rfl (lv_at hl 0 rfl) ?_
          refine lv_iload hx hb dd_LW_law_369 (lv_at hl 4 rfl) ?_
          refine lv_iconst (v := nI 1) hx hb dd_LW_law_371 (by decide +kernel) ?_
          refine hn_iadd hx hb dd_LW_law_372 ?_
          refine va_sld (i := nI (k + 1)) hx hb hXs hbl hbA hS (vp_in_nI (by omega) (by omega)) dd_LW_law_373 ?_
          refine W.eq (g2 := F0 m 374 ls [.int (xs (k + 1)), .ref (N 0)]) (by rw [nI_clamp (by omega)]) ?_
          refine lv_aload_n hx hb dd_LW_law_374 rfl (lv_at hl 0 rfl) ?_
          refine lv_iload hx hb dd_LW_law_375 (lv_at hl 4 rfl) ?_
          refine lv_iconst (v := nI 2) hx hb dd_LW_law_377 (by decide +kernel) ?_
          refine hn_iadd hx hb dd_LW_law_378 ?_
          refine va_sld (i := nI (k + 2)) hx hb hXs hbl hbA hS (vp_in_nI (by omega) (by omega)) dd_LW_law_379 ?_
          refine W.eq (g2 := F0 m 380 ls [.int (xs (k + 2)), .int (xs (k + 1)), .ref (N 0)]) (by rw [nI_clamp (by omega)]) ?_
          refine lv_aload_n hx hb dd_LW_law_380 rfl (lv_at hl 0 rfl) ?_
          refine lv_iload hx hb dd_LW_law_381 (lv_at hl 4 rfl) ?_
          refine lv_iconst (v := nI 3) hx hb dd_LW_law_383 (by decide +kernel) ?_
          refine hn_iadd hx hb dd_LW_law_384 ?_
          refine va_sld (i := nI (k + 3)) hx hb hXs hbl hbA hS (vp_in_nI (by omega) (by omega)) dd_LW_law_385 ?_
          refine W.eq (g2 := F0 m 386 ls [.int (xs (k + 3)), .int (xs (k + 2)), .int (xs (k + 1)), .ref (N 0)]) (by rw [nI_clamp (by omega)]) ?_
          refine hi_if_eq (tgt := 393) hx hb dd_LW_law_386 (by decide) (fun c130 => ?_) (fun c130 => ?_)
          · refine lv_iconst (v := nI 0) hx hb dd_LW_law_393 (by decide +kernel) ?_
            refine lv_aload_n hx hb dd_LW_law_394 rfl (lv_at hl 3 rfl) ?_
            rcases (bn_case ex qs t bs (by have := hB; obtain ⟨_, _, _, _, _, _, _, _, h9⟩ := hB; exact h9) (xs (k + 1)) (xs (k + 2)) false) with hgood | ⟨hgood, hany⟩ | ⟨hgood, hany, hlen⟩ | ⟨hgood, hany, hlen⟩
            · refine hm_ci hS (hm_rSH 5 (As := [.ref (N 0), .int (xs (k + 1)), .int (xs (k + 2)), .int (nI 0), .ref wq]) (rest := []) ⟨hx, hb, hml, hown, hts⟩ hE hS hP (kc_LB1 l B D G Mu hfl N O hI t hT ex hX qs hQ bs hB hV.2 (xs (k + 1)) (xs (k + 2)) false wq fw hw9 hA_w9 how hgood) tq_bind tw_823 tw_824 tw_35 (by decide +kernel) rfl rfl ⟨by show 9 + 1 ≤ R.frames; omega, by show 8 + (6 + 11) + 201 ≤ R.locals; omega⟩ rfl hl.1 rfl (Nat.le_of_ble_eq_true rfl) dd_LW_law_395 ⟨by omega, by omega⟩) (fun r131 M132 H locs hw133 hP hS => ?_)
              refine W.widen (k := (40 + 10 * k) + 3) (n := (10000 + 300 * k) + 110) (by omega) (by omega) ?_
              obtain ⟨rfl, OM132, kT, kF⟩ := hw133
              have hT := kT
              have hIo := hI
              have hI : im_R D G N OM132 M132 := hI.kept kF (by unfold cg; omega)
              have hX : ex_R B D N OM132 M132 ex := hX.kept kF (fun c h9 => by unfold cg; omega)
              have hQ : qu_R B D N OM132 M132 qs := hQ.kept kF (fun c h9 => by unfold cg; omega)
              have hB : bi_R B D G N OM132 M132 bs := hB.kept kF hIo (fun c h9 => by unfold cg; omega) (by unfold cg; omega)
              have hM : ms_R B D G N OM132 M132 key hs := hM.kept kF hIo (fun c h9 => by unfold cg; omega) (by unfold cg; omega)
              have hR : rs_R B D N OM132 M132 r := rt_R.kept hR kF (fun c h9 => by unfold cg; omega)
              have hD : mo_D B D P OM132 M132 I A L := hD.kept kF (fun c h9 => by unfold cg; omega)
              have hw9o := hw9
              have hw9 : M132 wq = some (.inl (D.1 103, 1, .inr (.inl fw))) := (kF _ _ hw9o).2.1 (by rw [how]; unfold cg; omega)
              have how : OM132 wq = 50 := (kF _ _ hw9o).1.trans how
              obtain ⟨g134, -⟩ := id hD
              refine lv_istore (lv' := [(5, .int (nI 1)), (0, .ref sb), (1, .ref (N 0)), (2, .ref (P 0)), (3, .ref wq), (4, .int (nI k))]) hx hb dd_LW_law_398 hl (by decide) rfl (fun ls hl => ?_)
              refine lv_aload_n hx hb dd_LW_law_400 rfl (lv_at hl 3 rfl) ?_
              refine lv_aload_n hx hb dd_LW_law_401 rfl (lv_at hl 1 rfl) ?_
              refine lv_iload hx hb dd_LW_law_402 (lv_at hl 5 rfl) ?_
              refine lv_iconst (v := nI 1) hx hb dd_LW_law_404 (by decide +kernel) ?_
              refine hn_iadd hx hb dd_LW_law_405 ?_
              refine va_sld (i := nI (k + 1)) hx hb hXs hbl hbA hS (vp_in_nI (by omega) (by omega)) dd_LW_law_406 ?_
              refine W.eq (g2 := F0 m 407 ls [.int (xs (k + 1)), .ref (P 0)]) (by rw [nI_clamp (by omega)]) ?_
              refine lv_aload_n hx hb dd_LW_law_407 rfl (lv_at hl 1 rfl) ?_
              refine lv_iload hx hb dd_LW_law_408 (lv_at hl 5 rfl) ?_
              refine lv_iconst (v := nI 2) hx hb dd_LW_law_410 (by decide +kernel) ?_
              refine hn_iadd hx hb dd_LW_law_411 ?_
              refine va_sld (i := nI (k + 2)) hx hb hXs hbl hbA hS (vp_in_nI (by omega) (by omega)) dd_LW_law_412 ?_
              refine W.eq (g2 := F0 m 413 ls [.int (xs (k + 2)), .int (xs (k + 1)), .ref (P 0)]) (by rw [nI_clamp (by omega)]) ?_
              refine lv_aload_n hx hb dd_LW_law_413 rfl (lv_at hl 1 rfl) ?_
              refine lv_iload hx hb dd_LW_law_414 (lv_at hl 5 rfl) ?_
              refine lv_iconst (v := nI 3) hx hb dd_LW_law_416 (by decide +kernel) ?_
              refine hn_iadd hx hb dd_LW_law_417 ?_
              refine va_sld (i := nI (k + 3)) hx hb hXs hbl hbA hS (vp_in_nI (by omega) (by omega)) dd_LW_law_418 ?_
              refine W.eq (g2 := F0 m 419 ls [.int (xs (k + 3)), .int (xs (k + 2)), .int (xs (k + 1)), .ref (P 0)]) (by rw [nI_clamp (by omega)]) ?_
              refine hi_if_eq (tgt := 426) hx hb dd_LW_law_419 (by decide) (fun c135 => ?_) (fun c135 => ?_)
              · refine lv_iconst (v := nI 0) hx hb dd_LW_law_426 (by decide +kernel) ?_
                refine hm_ci hS (hm_rV 3 (As := [.int (xs (k + 1)), .int (xs (k + 2)), .int (nI 0)]) (rest := []) ⟨hx, hb, hml, hown, hts⟩ hE hS hP (kc_MO_bind l B D G M132 P OM132 I A L hD t ex qs bs key hs fo ps hZ (xs (k + 1)) (xs (k + 2)) false) rfl g134 tw_1098 tw_1095 tw_1096 tw_1097 tw_46 (by decide +kernel) rfl rfl ⟨by show 5 + 1 ≤ R.frames; omega, by show 8 + (8 + 11) + 107 ≤ R.locals; omega⟩ rfl hl.1 rfl (Nat.le_of_ble_eq_true rfl) dd_LW_law_427 ⟨by omega, by omega⟩) (fun r136 M137 H locs hw138 hP hS => ?_)
                refine W.widen (k := (40 + 10 * k) + 3) (n := (10000 + 300 * k) + 110) (by omega) (by omega) ?_
                obtain ⟨hrr136, Iz139, Az139, Lz139, hD, hcz139, hZ, kF⟩ := hw138
                have hbn := hrr136.trans (show nI (bz (bn_b ex qs t bs (xs (k + 1)) (xs (k + 2)) false)) = nI 0 by rw [bn_b, hgood] <;> rfl)
                obtain rfl : r136 = nI 0 := hbn
                have hcz139 := hcz139.trans (show nI (bn_c ex qs t bs (xs (k + 1)) (xs (k + 2)) false) = nI 1 by rw [bn_c, hgood] <;> rfl)
                have hbl : bn_l ex qs t bs (xs (k + 1)) (xs (k + 2)) false = bs := by rw [bn_l, bn_b, hgood] <;> rfl
                rw [hbl] at hZ
                have hIo := hI
                have hI : im_R D G N OM132 M137 := hI.kept kF (by unfold pm; omega)
                have hT : tp_R B D N OM132 M137 [] := hT.kept kF (fun c h9 => by unfold pm; omega)
                have hX : ex_R B D N OM132 M137 ex := hX.kept kF (fun c h9 => by unfold pm; omega)
                have hQ : qu_R B D N OM132 M137 qs := hQ.kept kF (fun c h9 => by unfold pm; omega)
                have hB : bi_R B D G N OM132 M137 bs := hB.kept kF hIo (fun c h9 => by unfold pm; omega) (by unfold pm; omega)
                have hM : ms_R B D G N OM132 M137 key hs := hM.kept kF hIo (fun c h9 => by unfold pm; omega) (by unfold pm; omega)
                have hR : rs_R B D N OM132 M137 r := rt_R.kept hR kF (fun c h9 => by unfold pm; omega)
                have hw9o := hw9
                have hw9 : M137 wq = some (.inl (D.1 103, 1, .inr (.inl fw))) := (kF _ _ hw9o).2.1 (by rw [how]; unfold pm; omega)
                have how : OM132 wq = 50 := (kF _ _ hw9o).1.trans how
                obtain ⟨g140, -⟩ := id hD
                refine lv_istore (lv' := [(6, .int (nI 0)), (5, .int (nI 1)), (0, .ref sb), (1, .ref (N 0)), (2, .ref (P 0)), (3, .ref wq), (4, .int (nI k))]) hx hb dd_LW_law_430 hl (by decide) rfl (fun ls hl => ?_)
                refine lv_aload_n hx hb dd_LW_law_432 rfl (lv_at hl 4 rfl) ?_
                refine hm_ci hS (hm_rV 0 (As := []) (rest := []) ⟨hx, hb, hml, hown, hts⟩ hE hS hP (kc_MO_thrown l B D G M137 P OM132 Iz139 Az139 Lz139 hD) rfl g140 tw_1057 tw_1054 tw_1055 tw_1056 tw_46 (by decide +kernel) rfl rfl ⟨by show 0 + 1 ≤ R.frames; omega, by show 8 + (1 + 11) + 0 ≤ R.locals; omega⟩ rfl hl.1 rfl (Nat.le_of_ble_eq_true rfl) dd_LW_law_433 ⟨by omega, by omega⟩) (fun r141 M142 H locs hw143 hP hS => ?_)
                refine W.widen (k := (40 + 10 * k) + 3) (n := (10000 + 300 * k) + 110) (by omega) (by omega) ?_
                obtain ⟨hrM142, eM142⟩ := hw143
                rw [eM142] at hP
                obtain rfl : r141 = nI 1 := hrM142.trans hcz139
                refine lv_iload hx hb dd_LW_law_436 (lv_at hl 1 rfl) ?_
                refine hn_icmp_eq (tgt := 443) hx hb (by omega) (by omega) dd_LW_law_438 (by decide) (fun c144 => ?_) (fun c144 => absurd c144 (by omega))
                refine lv_iload hx hb dd_LW_law_443 (lv_at hl 1 rfl) ?_
                refine hn_if_ne (tgt := 467) hx hb (by omega) dd_LW_law_445 (by decide) (fun c145 => ?_) (fun c145 => absurd c145 (by omega))
                refine lv_goto (tgt := 758) hx hb dd_LW_law_467 (by decide) ?_
                refine lv_iinc (v := nI (k + 4)) (lv' := [(4, .int (nI (k + 4))), (6, .int (nI 0)), (5, .int (nI 1)), (0, .ref sb), (1, .ref (N 0)), (2, .ref (P 0)), (3, .ref wq)]) hx hb dd_LW_law_758 hl (k := 6) rfl (nI_add k 4) (by decide) rfl (fun ls hl => ?_)
                refine lv_goto (tgt := 23) hx hb dd_LW_law_761 (by decide) ?_
                refine W.widen (k := (40 + 10 * (k + 4))) (n := (10000 + 300 * (k + 4))) (by omega) (by omega) ?_
                exact ih23 (k + 4) M137 (by omega) (⟨OM132, [], ex, qs, bs, key, hs, r, fo, ps, Iz139, Az139, Lz139, fw, hI, hT, hX, hQ, hB, hM, hR, hD, hZ, ⟨hw9, how⟩, hV, hag⟩) (by omega) _ _ _ hP hS (lv_sub hl [3, 4, 5, 6, 0] rfl)
              · exfalso; omega
            · refine hm_ci hS (hm_rSH 5 (As := [.ref (N 0), .int (xs (k + 1)), .int (xs (k + 2)), .int (nI 0), .ref wq]) (rest := []) ⟨hx, hb, hml, hown, hts⟩ hE hS hP (kc_LB0 l B D G Mu N O hI t hT ex hX qs hQ bs hB hV.2 (xs (k + 1)) (xs (k + 2)) false wq fw hw9 hA_w9 how hgood hany) tq_bind tw_823 tw_824 tw_35 (by decide +kernel) rfl rfl ⟨by show 9 + 1 ≤ R.frames; omega, by show 8 + (6 + 11) + 201 ≤ R.locals; omega⟩ rfl hl.1 rfl (Nat.le_of_ble_eq_true rfl) dd_LW_law_395 ⟨by omega, by omega⟩) (fun r146 M147 H locs hw148 hP hS => ?_)
              refine W.widen (k := (40 + 10 * k) + 2) (n := (10000 + 300 * k) + 104) (by omega) (by omega) ?_
              obtain ⟨rfl, OM147, f1, hf1, kw, kT, kF⟩ := hw148
              have hw9o := hw9
              have hT := kT
              have hw9 := kw
              have hIo := hI
              have hI : im_R D G N OM147 M147 := hI.kept kF (by unfold cw cg pw; omega)
              have hX : ex_R B D N OM147 M147 ex := hX.kept kF (fun c h9 => by unfold cw cg pw; omega)
              have hQ : qu_R B D N OM147 M147 qs := hQ.kept kF (fun c h9 => by unfold cw cg pw; omega)
              have hB : bi_R B D G N OM147 M147 bs := hB.kept kF hIo (fun c h9 => by unfold cw cg pw; omega) (by unfold cw cg pw; omega)
              have hM : ms_R B D G N OM147 M147 key hs := hM.kept kF hIo (fun c h9 => by unfold cw cg pw; omega) (by unfold cw cg pw; omega)
              have hR : rs_R B D N OM147 M147 r := rt_R.kept hR kF (fun c h9 => by unfold cw cg pw; omega)
              have hD : mo_D B D P OM147 M147 I A L := hD.kept kF (fun c h9 => by unfold cw cg pw; omega)
              have how : OM147 wq = 50 := (kF _ _ hw9o).1.trans how
              obtain ⟨g149, -⟩ := id hD
              refine lv_istore (lv' := [(5, .int (nI 0)), (0, .ref sb), (1, .ref (N 0)), (2, .ref (P 0)), (3, .ref wq), (4, .int (nI k))]) hx hb dd_LW_law_398 hl (by decide) rfl (fun ls hl => ?_)
              refine lv_aload_n hx hb dd_LW_law_400 rfl (lv_at hl 3 rfl) ?_
              refine lv_aload_n hx hb dd_LW_law_401 rfl (lv_at hl 1 rfl) ?_
              refine lv_iload hx hb dd_LW_law_402 (lv_at hl 5 rfl) ?_
              refine lv_iconst (v := nI 1) hx hb dd_LW_law_404 (by decide +kernel) ?_
              refine hn_iadd hx hb dd_LW_law_405 ?_
              refine va_sld (i := nI (k + 1)) hx hb hXs hbl hbA hS (vp_in_nI (by omega) (by omega)) dd_LW_law_406 ?_
              refine W.eq (g2 := F0 m 407 ls [.int (xs (k + 1)), .ref (P 0)]) (by rw [nI_clamp (by omega)]) ?_
              refine lv_aload_n hx hb dd_LW_law_407 rfl (lv_at hl 1 rfl) ?_
              refine lv_iload hx hb dd_LW_law_408 (lv_at hl 5 rfl) ?_
              refine lv_iconst (v := nI 2) hx hb dd_LW_law_410 (by decide +kernel) ?_
              refine hn_iadd hx hb dd_LW_law_411 ?_
              refine va_sld (i := nI (k + 2)) hx hb hXs hbl hbA hS (vp_in_nI (by omega) (by omega)) dd_LW_law_412 ?_
              refine W.eq (g2 := F0 m 413 ls [.int (xs (k + 2)), .int (xs (k + 1)), .ref (P 0)]) (by rw [nI_clamp (by omega)]) ?_
              refine lv_aload_n hx hb dd_LW_law_413 rfl (lv_at hl 1 rfl) ?_
              refine lv_iload hx hb dd_LW_law_414 (lv_at hl 5 rfl) ?_
              refine lv_iconst (v := nI 3) hx hb dd_LW_law_416 (by decide +kernel) ?_
              refine hn_iadd hx hb dd_LW_law_417 ?_
              refine va_sld (i := nI (k + 3)) hx hb hXs hbl hbA hS (vp_in_nI (by omega) (by omega)) dd_LW_law_418 ?_
              refine W.eq (g2 := F0 m 419 ls [.int (xs (k + 3)), .int (xs (k + 2)), .int (xs (k + 1)), .ref (P 0)]) (by rw [nI_clamp (by omega)]) ?_
              refine hi_if_eq (tgt := 426) hx hb dd_LW_law_419 (by decide) (fun c150 => ?_) (fun c150 => ?_)
              · refine lv_iconst (v := nI 0) hx hb dd_LW_law_426 (by decide +kernel) ?_
                refine hm_ci hS (hm_rV 3 (As := [.int (xs (k + 1)), .int (xs (k + 2)), .int (nI 0)]) (rest := []) ⟨hx, hb, hml, hown, hts⟩ hE hS hP (kc_MO_bind l B D G M147 P OM147 I A L hD t ex qs bs key hs fo ps hZ (xs (k + 1)) (xs (k + 2)) false) rfl g149 tw_1098 tw_1095 tw_1096 tw_1097 tw_46 (by decide +kernel) rfl rfl ⟨by show 5 + 1 ≤ R.frames; omega, by show 8 + (8 + 11) + 107 ≤ R.locals; omega⟩ rfl hl.1 rfl (Nat.le_of_ble_eq_true rfl) dd_LW_law_427 ⟨by omega, by omega⟩) (fun r151 M152 H locs hw153 hP hS => ?_)
                refine W.widen (k := (40 + 10 * k) + 2) (n := (10000 + 300 * k) + 104) (by omega) (by omega) ?_
                obtain ⟨hrr151, Iz154, Az154, Lz154, hD, hcz154, hZ, kF⟩ := hw153
                have hbn := hrr151.trans (show nI (bz (bn_b ex qs t bs (xs (k + 1)) (xs (k + 2)) false)) = nI 0 by rw [bn_b, hgood, hany] <;> rfl)
                obtain rfl : r151 = nI 0 := hbn
                have hcz154 := hcz154.trans (show nI (bn_c ex qs t bs (xs (k + 1)) (xs (k + 2)) false) = nI 0 by rw [bn_c, hgood, if_pos rfl, hany] <;> rfl)
                have hbl : bn_l ex qs t bs (xs (k + 1)) (xs (k + 2)) false = bs := by rw [bn_l, bn_b, hgood, hany] <;> rfl
                rw [hbl] at hZ
                have hIo := hI
                have hI : im_R D G N OM147 M152 := hI.kept kF (by unfold pm; omega)
                have hT : tp_R B D N OM147 M152 [] := hT.kept kF (fun c h9 => by unfold pm; omega)
                have hX : ex_R B D N OM147 M152 ex := hX.kept kF (fun c h9 => by unfold pm; omega)
                have hQ : qu_R B D N OM147 M152 qs := hQ.kept kF (fun c h9 => by unfold pm; omega)
                have hB : bi_R B D G N OM147 M152 bs := hB.kept kF hIo (fun c h9 => by unfold pm; omega) (by unfold pm; omega)
                have hM : ms_R B D G N OM147 M152 key hs := hM.kept kF hIo (fun c h9 => by unfold pm; omega) (by unfold pm; omega)
                have hR : rs_R B D N OM147 M152 r := rt_R.kept hR kF (fun c h9 => by unfold pm; omega)
                have hw9o := hw9
                have hw9 : M152 wq = some (.inl (D.1 103, 1, .inr (.inl f1))) := (kF _ _ hw9o).2.1 (by rw [how]; unfold pm; omega)
                have how : OM147 wq = 50 := (kF _ _ hw9o).1.trans how
                obtain ⟨g155, -⟩ := id hD
                refine lv_istore (lv' := [(6, .int (nI 0)), (5, .int (nI 0)), (0, .ref sb), (1, .ref (N 0)), (2, .ref (P 0)), (3, .ref wq), (4, .int (nI k))]) hx hb dd_LW_law_430 hl (by decide) rfl (fun ls hl => ?_)
                refine lv_aload_n hx hb dd_LW_law_432 rfl (lv_at hl 4 rfl) ?_
                refine hm_ci hS (hm_rV 0 (As := []) (rest := []) ⟨hx, hb, hml, hown, hts⟩ hE hS hP (kc_MO_thrown l B D G M152 P OM147 Iz154 Az154 Lz154 hD) rfl g155 tw_1057 tw_1054 tw_1055 tw_1056 tw_46 (by decide +kernel) rfl rfl ⟨by show 0 + 1 ≤ R.frames; omega, by show 8 + (1 + 11) + 0 ≤ R.locals; omega⟩ rfl hl.1 rfl (Nat.le_of_ble_eq_true rfl) dd_LW_law_433 ⟨by omega, by omega⟩) (fun r156 M157 H locs hw158 hP hS => ?_)
                refine W.widen (k := (40 + 10 * k) + 2) (n := (10000 + 300 * k) + 104) (by omega) (by omega) ?_
                obtain ⟨hrM157, eM157⟩ := hw158
                rw [eM157] at hP
                obtain rfl : r156 = nI 0 := hrM157.trans hcz154
                refine lv_iload hx hb dd_LW_law_436 (lv_at hl 1 rfl) ?_
                refine hn_icmp_eq (tgt := 443) hx hb (by omega) (by omega) dd_LW_law_438 (by decide) (fun c159 => ?_) (fun c159 => absurd c159 (by omega))
                refine lv_iload hx hb dd_LW_law_443 (lv_at hl 1 rfl) ?_
                refine hn_if_ne (tgt := 467) hx hb (by omega) dd_LW_law_445 (by decide) (fun c160 => absurd c160 (by omega)) (fun c160 => ?_)
                refine lv_aload_n hx hb dd_LW_law_448 rfl (lv_at hl 5 rfl) ?_
                refine lv_iconst (v := nI 0) hx hb dd_LW_law_449 (by decide +kernel) ?_
                refine hm_lald (j := 0) hx hb hE.K hP 3 hw9 rfl (vp_in_nI (by omega) (by omega)) (nI_clamp (by omega)) dd_LW_law_450 ?_
                refine W.eq (g2 := F0 m 451 ls [.long 0]) (by rw [hf1]) ?_
                refine lv_iload hx hb dd_LW_law_451 (lv_at hl 0 rfl) ?_
                refine hn_if_eq (tgt := 460) hx hb (by omega) dd_LW_law_453 (by decide) (fun c161 => ?_) (fun c161 => absurd c161 (by omega))
                refine lv_lconst (v := 0) hx hb dd_LW_law_460 (by decide +kernel) ?_
                refine W.lcmp hx hb dd_LW_law_461 ?_
                refine hi_if_eq (tgt := 467) hx hb dd_LW_law_462 (by decide) (fun c162 => ?_) (fun c162 => absurd c162 (by exact fun h9 => h9 (lc_rf _)))
                refine lv_goto (tgt := 758) hx hb dd_LW_law_467 (by decide) ?_
                refine lv_iinc (v := nI (k + 4)) (lv' := [(4, .int (nI (k + 4))), (6, .int (nI 0)), (5, .int (nI 0)), (0, .ref sb), (1, .ref (N 0)), (2, .ref (P 0)), (3, .ref wq)]) hx hb dd_LW_law_758 hl (k := 6) rfl (nI_add k 4) (by decide) rfl (fun ls hl => ?_)
                refine lv_goto (tgt := 23) hx hb dd_LW_law_761 (by decide) ?_
                refine W.widen (k := (40 + 10 * (k + 4))) (n := (10000 + 300 * (k + 4))) (by omega) (by omega) ?_
                exact ih23 (k + 4) M152 (by omega) (⟨OM147, [], ex, qs, bs, key, hs, r, fo, ps, Iz154, Az154, Lz154, f1, hI, hT, hX, hQ, hB, hM, hR, hD, hZ, ⟨hw9, how⟩, hV, hag⟩) (by omega) _ _ _ hP hS (lv_sub hl [3, 4, 5, 6, 0] rfl)
              · exfalso; omega
            · refine hm_ci hS (hm_rSH 5 (As := [.ref (N 0), .int (xs (k + 1)), .int (xs (k + 2)), .int (nI 0), .ref wq]) (rest := []) ⟨hx, hb, hml, hown, hts⟩ hE hS hP (kc_LB2 l B D G Mu hfl N O hI t hT ex hX qs hQ bs hB hV.2 (xs (k + 1)) (xs (k + 2)) false wq fw hw9 hA_w9 how hgood hany hlen) tq_bind tw_823 tw_824 tw_35 (by decide +kernel) rfl rfl ⟨by show 9 + 1 ≤ R.frames; omega, by show 8 + (6 + 11) + 201 ≤ R.locals; omega⟩ rfl hl.1 rfl (Nat.le_of_ble_eq_true rfl) dd_LW_law_395 ⟨by omega, by omega⟩) (fun r163 M164 H locs hw165 hP hS => ?_)
              refine W.widen (k := (40 + 10 * k) + 3) (n := (10000 + 300 * k) + 110) (by omega) (by omega) ?_
              obtain ⟨rfl, OM164, kT, kF⟩ := hw165
              have hT := kT
              have hIo := hI
              have hI : im_R D G N OM164 M164 := hI.kept kF (by unfold cg; omega)
              have hX : ex_R B D N OM164 M164 ex := hX.kept kF (fun c h9 => by unfold cg; omega)
              have hQ : qu_R B D N OM164 M164 qs := hQ.kept kF (fun c h9 => by unfold cg; omega)
              have hB : bi_R B D G N OM164 M164 bs := hB.kept kF hIo (fun c h9 => by unfold cg; omega) (by unfold cg; omega)
              have hM : ms_R B D G N OM164 M164 key hs := hM.kept kF hIo (fun c h9 => by unfold cg; omega) (by unfold cg; omega)
              have hR : rs_R B D N OM164 M164 r := rt_R.kept hR kF (fun c h9 => by unfold cg; omega)
              have hD : mo_D B D P OM164 M164 I A L := hD.kept kF (fun c h9 => by unfold cg; omega)
              have hw9o := hw9
              have hw9 : M164 wq = some (.inl (D.1 103, 1, .inr (.inl fw))) := (kF _ _ hw9o).2.1 (by rw [how]; unfold cg; omega)
              have how : OM164 wq = 50 := (kF _ _ hw9o).1.trans how
              obtain ⟨g166, -⟩ := id hD
              refine lv_istore (lv' := [(5, .int (nI 2)), (0, .ref sb), (1, .ref (N 0)), (2, .ref (P 0)), (3, .ref wq), (4, .int (nI k))]) hx hb dd_LW_law_398 hl (by decide) rfl (fun ls hl => ?_)
              refine lv_aload_n hx hb dd_LW_law_400 rfl (lv_at hl 3 rfl) ?_
              refine lv_aload_n hx hb dd_LW_law_401 rfl (lv_at hl 1 rfl) ?_
              refine lv_iload hx hb dd_LW_law_402 (lv_at hl 5 rfl) ?_
              refine lv_iconst (v := nI 1) hx hb dd_LW_law_404 (by decide +kernel) ?_
              refine hn_iadd hx hb dd_LW_law_405 ?_
              refine va_sld (i := nI (k + 1)) hx hb hXs hbl hbA hS (vp_in_nI (by omega) (by omega)) dd_LW_law_406 ?_
              refine W.eq (g2 := F0 m 407 ls [.int (xs (k + 1)), .ref (P 0)]) (by rw [nI_clamp (by omega)]) ?_
              refine lv_aload_n hx hb dd_LW_law_407 rfl (lv_at hl 1 rfl) ?_
              refine lv_iload hx hb dd_LW_law_408 (lv_at hl 5 rfl) ?_
              refine lv_iconst (v := nI 2) hx hb dd_LW_law_410 (by decide +kernel) ?_
              refine hn_iadd hx hb dd_LW_law_411 ?_
              refine va_sld (i := nI (k + 2)) hx hb hXs hbl hbA hS (vp_in_nI (by omega) (by omega)) dd_LW_law_412 ?_
              refine W.eq (g2 := F0 m 413 ls [.int (xs (k + 2)), .int (xs (k + 1)), .ref (P 0)]) (by rw [nI_clamp (by omega)]) ?_
              refine lv_aload_n hx hb dd_LW_law_413 rfl (lv_at hl 1 rfl) ?_
              refine lv_iload hx hb dd_LW_law_414 (lv_at hl 5 rfl) ?_
              refine lv_iconst (v := nI 3) hx hb dd_LW_law_416 (by decide +kernel) ?_
              refine hn_iadd hx hb dd_LW_law_417 ?_
              refine va_sld (i := nI (k + 3)) hx hb hXs hbl hbA hS (vp_in_nI (by omega) (by omega)) dd_LW_law_418 ?_
              refine W.eq (g2 := F0 m 419 ls [.int (xs (k + 3)), .int (xs (k + 2)), .int (xs (k + 1)), .ref (P 0)]) (by rw [nI_clamp (by omega)]) ?_
              refine hi_if_eq (tgt := 426) hx hb dd_LW_law_419 (by decide) (fun c167 => ?_) (fun c167 => ?_)
              · refine lv_iconst (v := nI 0) hx hb dd_LW_law_426 (by decide +kernel) ?_
                refine hm_ci hS (hm_rV 3 (As := [.int (xs (k + 1)), .int (xs (k + 2)), .int (nI 0)]) (rest := []) ⟨hx, hb, hml, hown, hts⟩ hE hS hP (kc_MO_bind l B D G M164 P OM164 I A L hD t ex qs bs key hs fo ps hZ (xs (k + 1)) (xs (k + 2)) false) rfl g166 tw_1098 tw_1095 tw_1096 tw_1097 tw_46 (by decide +kernel) rfl rfl ⟨by show 5 + 1 ≤ R.frames; omega, by show 8 + (8 + 11) + 107 ≤ R.locals; omega⟩ rfl hl.1 rfl (Nat.le_of_ble_eq_true rfl) dd_LW_law_427 ⟨by omega, by omega⟩) (fun r168 M169 H locs hw170 hP hS => ?_)
                refine W.widen (k := (40 + 10 * k) + 3) (n := (10000 + 300 * k) + 110) (by omega) (by omega) ?_
                obtain ⟨hrr168, Iz171, Az171, Lz171, hD, hcz171, hZ, kF⟩ := hw170
                have hbn := hrr168.trans (show nI (bz (bn_b ex qs t bs (xs (k + 1)) (xs (k + 2)) false)) = nI 0 by rw [bn_b, hgood, hany, decide_eq_false (fun h9 => h9 hlen)] <;> rfl)
                obtain rfl : r168 = nI 0 := hbn
                have hcz171 := hcz171.trans (show nI (bn_c ex qs t bs (xs (k + 1)) (xs (k + 2)) false) = nI 2 by rw [bn_c, hgood, if_pos rfl, hany, if_neg (by decide), if_pos hlen] <;> rfl)
                have hbl : bn_l ex qs t bs (xs (k + 1)) (xs (k + 2)) false = bs := by rw [bn_l, bn_b, hgood, hany, decide_eq_false (fun h9 => h9 hlen)] <;> rfl
                rw [hbl] at hZ
                have hIo := hI
                have hI : im_R D G N OM164 M169 := hI.kept kF (by unfold pm; omega)
                have hT : tp_R B D N OM164 M169 [] := hT.kept kF (fun c h9 => by unfold pm; omega)
                have hX : ex_R B D N OM164 M169 ex := hX.kept kF (fun c h9 => by unfold pm; omega)
                have hQ : qu_R B D N OM164 M169 qs := hQ.kept kF (fun c h9 => by unfold pm; omega)
                have hB : bi_R B D G N OM164 M169 bs := hB.kept kF hIo (fun c h9 => by unfold pm; omega) (by unfold pm; omega)
                have hM : ms_R B D G N OM164 M169 key hs := hM.kept kF hIo (fun c h9 => by unfold pm; omega) (by unfold pm; omega)
                have hR : rs_R B D N OM164 M169 r := rt_R.kept hR kF (fun c h9 => by unfold pm; omega)
                have hw9o := hw9
                have hw9 : M169 wq = some (.inl (D.1 103, 1, .inr (.inl fw))) := (kF _ _ hw9o).2.1 (by rw [how]; unfold pm; omega)
                have how : OM164 wq = 50 := (kF _ _ hw9o).1.trans how
                obtain ⟨g172, -⟩ := id hD
                refine lv_istore (lv' := [(6, .int (nI 0)), (5, .int (nI 2)), (0, .ref sb), (1, .ref (N 0)), (2, .ref (P 0)), (3, .ref wq), (4, .int (nI k))]) hx hb dd_LW_law_430 hl (by decide) rfl (fun ls hl => ?_)
                refine lv_aload_n hx hb dd_LW_law_432 rfl (lv_at hl 4 rfl) ?_
                refine hm_ci hS (hm_rV 0 (As := []) (rest := []) ⟨hx, hb, hml, hown, hts⟩ hE hS hP (kc_MO_thrown l B D G M169 P OM164 Iz171 Az171 Lz171 hD) rfl g172 tw_1057 tw_1054 tw_1055 tw_1056 tw_46 (by decide +kernel) rfl rfl ⟨by show 0 + 1 ≤ R.frames; omega, by show 8 + (1 + 11) + 0 ≤ R.locals; omega⟩ rfl hl.1 rfl (Nat.le_of_ble_eq_true rfl) dd_LW_law_433 ⟨by omega, by omega⟩) (fun r173 M174 H locs hw175 hP hS => ?_)
                refine W.widen (k := (40 + 10 * k) + 3) (n := (10000 + 300 * k) + 110) (by omega) (by omega) ?_
                obtain ⟨hrM174, eM174⟩ := hw175
                rw [eM174] at hP
                obtain rfl : r173 = nI 2 := hrM174.trans hcz171
                refine lv_iload hx hb dd_LW_law_436 (lv_at hl 1 rfl) ?_
                refine hn_icmp_eq (tgt := 443) hx hb (by omega) (by omega) dd_LW_law_438 (by decide) (fun c176 => ?_) (fun c176 => absurd c176 (by omega))
                refine lv_iload hx hb dd_LW_law_443 (lv_at hl 1 rfl) ?_
                refine hn_if_ne (tgt := 467) hx hb (by omega) dd_LW_law_445 (by decide) (fun c177 => ?_) (fun c177 => absurd c177 (by omega))
                refine lv_goto (tgt := 758) hx hb dd_LW_law_467 (by decide) ?_
                refine lv_iinc (v := nI (k + 4)) (lv' := [(4, .int (nI (k + 4))), (6, .int (nI 0)), (5, .int (nI 2)), (0, .ref sb), (1, .ref (N 0)), (2, .ref (P 0)), (3, .ref wq)]) hx hb dd_LW_law_758 hl (k := 6) rfl (nI_add k 4) (by decide) rfl (fun ls hl => ?_)
                refine lv_goto (tgt := 23) hx hb dd_LW_law_761 (by decide) ?_
                refine W.widen (k := (40 + 10 * (k + 4))) (n := (10000 + 300 * (k + 4))) (by omega) (by omega) ?_
                exact ih23 (k + 4) M169 (by omega) (⟨OM164, [], ex, qs, bs, key, hs, r, fo, ps, Iz171, Az171, Lz171, fw, hI, hT, hX, hQ, hB, hM, hR, hD, hZ, ⟨hw9, how⟩, hV, hag⟩) (by omega) _ _ _ hP hS (lv_sub hl [3, 4, 5, 6, 0] rfl)
              · exfalso; omega
            · refine hm_ci hS (hm_rSH 5 (As := [.ref (N 0), .int (xs (k + 1)), .int (xs (k + 2)), .int (nI 0), .ref wq]) (rest := []) ⟨hx, hb, hml, hown, hts⟩ hE hS hP (kc_LBN l B D G Mu N O hI t hT ex hX qs hQ bs hB hV.2 (xs (k + 1)) (xs (k + 2)) false wq fw hw9 hA_w9 how hgood hany hlen) tq_bind tw_823 tw_824 tw_35 (by decide +kernel) rfl rfl ⟨by show 9 + 1 ≤ R.frames; omega, by show 8 + (6 + 11) + 201 ≤ R.locals; omega⟩ rfl hl.1 rfl (Nat.le_of_ble_eq_true rfl) dd_LW_law_395 ⟨by omega, by omega⟩) (fun r178 M179 H locs hw180 hP hS => ?_)
              refine W.widen (k := (40 + 10 * k) + 4) (n := (10000 + 300 * k) + 310) (by omega) (by omega) ?_
              obtain ⟨rfl, OM179, f1, hf1, kw, kT, kB, kF⟩ := hw180
              have hw9o := hw9
              have hT := kT
              have hB := kB
              have hw9 := kw
              have hIo := hI
              have hI : im_R D G N OM179 M179 := hI.kept kF (by unfold cg149 pw; omega)
              have hX : ex_R B D N OM179 M179 ex := hX.kept kF (fun c h9 => by unfold cg149 pw; omega)
              have hQ : qu_R B D N OM179 M179 qs := hQ.kept kF (fun c h9 => by unfold cg149 pw; omega)
              have hM : ms_R B D G N OM179 M179 key hs := hM.kept kF hIo (fun c h9 => by unfold cg149 pw; omega) (by unfold cg149 pw; omega)
              have hR : rs_R B D N OM179 M179 r := rt_R.kept hR kF (fun c h9 => by unfold cg149 pw; omega)
              have hD : mo_D B D P OM179 M179 I A L := hD.kept kF (fun c h9 => by unfold cg149 pw; omega)
              have how : OM179 wq = 50 := (kF _ _ hw9o).1.trans how
              obtain ⟨g181, -⟩ := id hD
              refine lv_istore (lv' := [(5, .int (nI 0)), (0, .ref sb), (1, .ref (N 0)), (2, .ref (P 0)), (3, .ref wq), (4, .int (nI k))]) hx hb dd_LW_law_398 hl (by decide) rfl (fun ls hl => ?_)
              refine lv_aload_n hx hb dd_LW_law_400 rfl (lv_at hl 3 rfl) ?_
              refine lv_aload_n hx hb dd_LW_law_401 rfl (lv_at hl 1 rfl) ?_
              refine lv_iload hx hb dd_LW_law_402 (lv_at hl 5 rfl) ?_
              refine lv_iconst (v := nI 1) hx hb dd_LW_law_404 (by decide +kernel) ?_
              refine hn_iadd hx hb dd_LW_law_405 ?_
              refine va_sld (i := nI (k + 1)) hx hb hXs hbl hbA hS (vp_in_nI (by omega) (by omega)) dd_LW_law_406 ?_
              refine W.eq (g2 := F0 m 407 ls [.int (xs (k + 1)), .ref (P 0)]) (by rw [nI_clamp (by omega)]) ?_
              refine lv_aload_n hx hb dd_LW_law_407 rfl (lv_at hl 1 rfl) ?_
              refine lv_iload hx hb dd_LW_law_408 (lv_at hl 5 rfl) ?_
              refine lv_iconst (v := nI 2) hx hb dd_LW_law_410 (by decide +kernel) ?_
              refine hn_iadd hx hb dd_LW_law_411 ?_
              refine va_sld (i := nI (k + 2)) hx hb hXs hbl hbA hS (vp_in_nI (by omega) (by omega)) dd_LW_law_412 ?_
              refine W.eq (g2 := F0 m 413 ls [.int (xs (k + 2)), .int (xs (k + 1)), .ref (P 0)]) (by rw [nI_clamp (by omega)]) ?_
              refine lv_aload_n hx hb dd_LW_law_413 rfl (lv_at hl 1 rfl) ?_
              refine lv_iload hx hb dd_LW_law_414 (lv_at hl 5 rfl) ?_
              refine lv_iconst (v := nI 3) hx hb dd_LW_law_416 (by decide +kernel) ?_
              refine hn_iadd hx hb dd_LW_law_417 ?_
              refine va_sld (i := nI (k + 3)) hx hb hXs hbl hbA hS (vp_in_nI (by omega) (by omega)) dd_LW_law_418 ?_
              refine W.eq (g2 := F0 m 419 ls [.int (xs (k + 3)), .int (xs (k + 2)), .int (xs (k + 1)), .ref (P 0)]) (by rw [nI_clamp (by omega)]) ?_
              refine hi_if_eq (tgt := 426) hx hb dd_LW_law_419 (by decide) (fun c182 => ?_) (fun c182 => ?_)
              · refine lv_iconst (v := nI 0) hx hb dd_LW_law_426 (by decide +kernel) ?_
                refine hm_ci hS (hm_rV 3 (As := [.int (xs (k + 1)), .int (xs (k + 2)), .int (nI 0)]) (rest := []) ⟨hx, hb, hml, hown, hts⟩ hE hS hP (kc_MO_bind l B D G M179 P OM179 I A L hD t ex qs bs key hs fo ps hZ (xs (k + 1)) (xs (k + 2)) false) rfl g181 tw_1098 tw_1095 tw_1096 tw_1097 tw_46 (by decide +kernel) rfl rfl ⟨by show 5 + 1 ≤ R.frames; omega, by show 8 + (8 + 11) + 107 ≤ R.locals; omega⟩ rfl hl.1 rfl (Nat.le_of_ble_eq_true rfl) dd_LW_law_427 ⟨by omega, by omega⟩) (fun r183 M184 H locs hw185 hP hS => ?_)
                refine W.widen (k := (40 + 10 * k) + 4) (n := (10000 + 300 * k) + 310) (by omega) (by omega) ?_
                obtain ⟨hrr183, Iz186, Az186, Lz186, hD, hcz186, hZ, kF⟩ := hw185
                have hbn := hrr183.trans (show nI (bz (bn_b ex qs t bs (xs (k + 1)) (xs (k + 2)) false)) = nI 1 by rw [bn_b, hgood, hany, decide_eq_true (show ¬ bs.length = 120 by omega)] <;> rfl)
                obtain rfl : r183 = nI 1 := hbn
                have hcz186 := hcz186.trans (show nI (bn_c ex qs t bs (xs (k + 1)) (xs (k + 2)) false) = nI 0 by rw [bn_c, hgood, if_pos rfl, hany, if_neg (by decide), if_neg (by omega)] <;> rfl)
                have hbl : bn_l ex qs t bs (xs (k + 1)) (xs (k + 2)) false = (bs ++ [((xs (k + 1)), (xs (k + 2)), false, t)]) := by rw [bn_l, bn_b, hgood, hany, decide_eq_true (show ¬ bs.length = 120 by omega)] <;> rfl
                rw [hbl] at hZ
                have hIo := hI
                have hI : im_R D G N OM179 M184 := hI.kept kF (by unfold pm; omega)
                have hT : tp_R B D N OM179 M184 [] := hT.kept kF (fun c h9 => by unfold pm; omega)
                have hX : ex_R B D N OM179 M184 ex := hX.kept kF (fun c h9 => by unfold pm; omega)
                have hQ : qu_R B D N OM179 M184 qs := hQ.kept kF (fun c h9 => by unfold pm; omega)
                have hB : bi_R B D G N OM179 M184 (bs ++ [((xs (k + 1)), (xs (k + 2)), false, t)]) := hB.kept kF hIo (fun c h9 => by unfold pm; omega) (by unfold pm; omega)
                have hM : ms_R B D G N OM179 M184 key hs := hM.kept kF hIo (fun c h9 => by unfold pm; omega) (by unfold pm; omega)
                have hR : rs_R B D N OM179 M184 r := rt_R.kept hR kF (fun c h9 => by unfold pm; omega)
                have hw9o := hw9
                have hw9 : M184 wq = some (.inl (D.1 103, 1, .inr (.inl f1))) := (kF _ _ hw9o).2.1 (by rw [how]; unfold pm; omega)
                have how : OM179 wq = 50 := (kF _ _ hw9o).1.trans how
                obtain ⟨g187, -⟩ := id hD
                refine lv_istore (lv' := [(6, .int (nI 1)), (5, .int (nI 0)), (0, .ref sb), (1, .ref (N 0)), (2, .ref (P 0)), (3, .ref wq), (4, .int (nI k))]) hx hb dd_LW_law_430 hl (by decide) rfl (fun ls hl => ?_)
                refine lv_aload_n hx hb dd_LW_law_432 rfl (lv_at hl 4 rfl) ?_
                refine hm_ci hS (hm_rV 0 (As := []) (rest := []) ⟨hx, hb, hml, hown, hts⟩ hE hS hP (kc_MO_thrown l B D G M184 P OM179 Iz186 Az186 Lz186 hD) rfl g187 tw_1057 tw_1054 tw_1055 tw_1056 tw_46 (by decide +kernel) rfl rfl ⟨by show 0 + 1 ≤ R.frames; omega, by show 8 + (1 + 11) + 0 ≤ R.locals; omega⟩ rfl hl.1 rfl (Nat.le_of_ble_eq_true rfl) dd_LW_law_433 ⟨by omega, by omega⟩) (fun r188 M189 H locs hw190 hP hS => ?_)
                refine W.widen (k := (40 + 10 * k) + 4) (n := (10000 + 300 * k) + 310) (by omega) (by omega) ?_
                obtain ⟨hrM189, eM189⟩ := hw190
                rw [eM189] at hP
                obtain rfl : r188 = nI 0 := hrM189.trans hcz186
                refine lv_iload hx hb dd_LW_law_436 (lv_at hl 1 rfl) ?_
                refine hn_icmp_eq (tgt := 443) hx hb (by omega) (by omega) dd_LW_law_438 (by decide) (fun c191 => ?_) (fun c191 => absurd c191 (by omega))
                refine lv_iload hx hb dd_LW_law_443 (lv_at hl 1 rfl) ?_
                refine hn_if_ne (tgt := 467) hx hb (by omega) dd_LW_law_445 (by decide) (fun c192 => absurd c192 (by omega)) (fun c192 => ?_)
                refine lv_aload_n hx hb dd_LW_law_448 rfl (lv_at hl 5 rfl) ?_
                refine lv_iconst (v := nI 0) hx hb dd_LW_law_449 (by decide +kernel) ?_
                refine hm_lald (j := 0) hx hb hE.K hP 3 hw9 rfl (vp_in_nI (by omega) (by omega)) (nI_clamp (by omega)) dd_LW_law_450 ?_
                refine W.eq (g2 := F0 m 451 ls [.long 1]) (by rw [hf1]) ?_
                refine lv_iload hx hb dd_LW_law_451 (lv_at hl 0 rfl) ?_
                refine hn_if_eq (tgt := 460) hx hb (by omega) dd_LW_law_453 (by decide) (fun c193 => absurd c193 (by omega)) (fun c193 => ?_)
                refine lv_lconst (v := 1) hx hb dd_LW_law_456 (by decide +kernel) ?_
                refine lv_goto (tgt := 461) hx hb dd_LW_law_457 (by decide) ?_
                refine W.lcmp hx hb dd_LW_law_461 ?_
                refine hi_if_eq (tgt := 467) hx hb dd_LW_law_462 (by decide) (fun c194 => ?_) (fun c194 => absurd c194 (by exact fun h9 => h9 (lc_rf _)))
                refine lv_goto (tgt := 758) hx hb dd_LW_law_467 (by decide) ?_
                refine lv_iinc (v := nI (k + 4)) (lv' := [(4, .int (nI (k + 4))), (6, .int (nI 1)), (5, .int (nI 0)), (0, .ref sb), (1, .ref (N 0)), (2, .ref (P 0)), (3, .ref wq)]) hx hb dd_LW_law_758 hl (k := 6) rfl (nI_add k 4) (by decide) rfl (fun ls hl => ?_)
                refine lv_goto (tgt := 23) hx hb dd_LW_law_761 (by decide) ?_
                refine W.widen (k := (40 + 10 * (k + 4))) (n := (10000 + 300 * (k + 4))) (by omega) (by omega) ?_
                exact ih23 (k + 4) M184 (by omega) (⟨OM179, [], ex, qs, (bs ++ [((xs (k + 1)), (xs (k + 2)), false, t)]), key, hs, r, fo, ps, Iz186, Az186, Lz186, f1, hI, hT, hX, hQ, hB, hM, hR, hD, hZ, ⟨hw9, how⟩, (v_bd hV hgood), hag⟩) (by omega) _ _ _ hP hS (lv_sub hl [3, 4, 5, 6, 0] rfl)
              · exfalso; omega
          · refine lv_iconst (v := nI 1) hx hb dd_LW_law_389 (by decide +kernel) ?_
            refine lv_goto (tgt := 394) hx hb dd_LW_law_390 (by decide) ?_
            refine lv_aload_n hx hb dd_LW_law_394 rfl (lv_at hl 3 rfl) ?_
            rcases (bn_case ex qs t bs (by have := hB; obtain ⟨_, _, _, _, _, _, _, _, h9⟩ := hB; exact h9) (xs (k + 1)) (xs (k + 2)) true) with hgood | ⟨hgood, hany⟩ | ⟨hgood, hany, hlen⟩ | ⟨hgood, hany, hlen⟩
            · refine hm_ci hS (hm_rSH 5 (As := [.ref (N 0), .int (xs (k + 1)), .int (xs (k + 2)), .int (nI 1), .ref wq]) (rest := []) ⟨hx, hb, hml, hown, hts⟩ hE hS hP (kc_LB1 l B D G Mu hfl N O hI t hT ex hX qs hQ bs hB hV.2 (xs (k + 1)) (xs (k + 2)) true wq fw hw9 hA_w9 how hgood) tq_bind tw_823 tw_824 tw_35 (by decide +kernel) rfl rfl ⟨by show 9 + 1 ≤ R.frames; omega, by show 8 + (6 + 11) + 201 ≤ R.locals; omega⟩ rfl hl.1 rfl (Nat.le_of_ble_eq_true rfl) dd_LW_law_395 ⟨by omega, by omega⟩) (fun r195 M196 H locs hw197 hP hS => ?_)
              refine W.widen (k := (40 + 10 * k) + 3) (n := (10000 + 300 * k) + 110) (by omega) (by omega) ?_
              obtain ⟨rfl, OM196, kT, kF⟩ := hw197
              have hT := kT
              have hIo := hI
              have hI : im_R D G N OM196 M196 := hI.kept kF (by unfold cg; omega)
              have hX : ex_R B D N OM196 M196 ex := hX.kept kF (fun c h9 => by unfold cg; omega)
              have hQ : qu_R B D N OM196 M196 qs := hQ.kept kF (fun c h9 => by unfold cg; omega)
              have hB : bi_R B D G N OM196 M196 bs := hB.kept kF hIo (fun c h9 => by unfold cg; omega) (by unfold cg; omega)
              have hM : ms_R B D G N OM196 M196 key hs := hM.kept kF hIo (fun c h9 => by unfold cg; omega) (by unfold cg; omega)
              have hR : rs_R B D N OM196 M196 r := rt_R.kept hR kF (fun c h9 => by unfold cg; omega)
              have hD : mo_D B D P OM196 M196 I A L := hD.kept kF (fun c h9 => by unfold cg; omega)
              have hw9o := hw9
              have hw9 : M196 wq = some (.inl (D.1 103, 1, .inr (.inl fw))) := (kF _ _ hw9o).2.1 (by rw [how]; unfold cg; omega)
              have how : OM196 wq = 50 := (kF _ _ hw9o).1.trans how
              obtain ⟨g198, -⟩ := id hD
              refine lv_istore (lv' := [(5, .int (nI 1)), (0, .ref sb), (1, .ref (N 0)), (2, .ref (P 0)), (3, .ref wq), (4, .int (nI k))]) hx hb dd_LW_law_398 hl (by decide) rfl (fun ls hl => ?_)
              refine lv_aload_n hx hb dd_LW_law_400 rfl (lv_at hl 3 rfl) ?_
              refine lv_aload_n hx hb dd_LW_law_401 rfl (lv_at hl 1 rfl) ?_
              refine lv_iload hx hb dd_LW_law_402 (lv_at hl 5 rfl) ?_
              refine lv_iconst (v := nI 1) hx hb dd_LW_law_404 (by decide +kernel) ?_
              refine hn_iadd hx hb dd_LW_law_405 ?_
              refine va_sld (i := nI (k + 1)) hx hb hXs hbl hbA hS (vp_in_nI (by omega) (by omega)) dd_LW_law_406 ?_
              refine W.eq (g2 := F0 m 407 ls [.int (xs (k + 1)), .ref (P 0)]) (by rw [nI_clamp (by omega)]) ?_
              refine lv_aload_n hx hb dd_LW_law_407 rfl (lv_at hl 1 rfl) ?_
              refine lv_iload hx hb dd_LW_law_408 (lv_at hl 5 rfl) ?_
              refine lv_iconst (v := nI 2) hx hb dd_LW_law_410 (by decide +kernel) ?_
              refine hn_iadd hx hb dd_LW_law_411 ?_
              refine va_sld (i := nI (k + 2)) hx hb hXs hbl hbA hS (vp_in_nI (by omega) (by omega)) dd_LW_law_412 ?_
              refine W.eq (g2 := F0 m 413 ls [.int (xs (k + 2)), .int (xs (k + 1)), .ref (P 0)]) (by rw [nI_clamp (by omega)]) ?_
              refine lv_aload_n hx hb dd_LW_law_413 rfl (lv_at hl 1 rfl) ?_
              refine lv_iload hx hb dd_LW_law_414 (lv_at hl 5 rfl) ?_
              refine lv_iconst (v := nI 3) hx hb dd_LW_law_416 (by decide +kernel) ?_
              refine hn_iadd hx hb dd_LW_law_417 ?_
              refine va_sld (i := nI (k + 3)) hx hb hXs hbl hbA hS (vp_in_nI (by omega) (by omega)) dd_LW_law_418 ?_
              refine W.eq (g2 := F0 m 419 ls [.int (xs (k + 3)), .int (xs (k + 2)), .int (xs (k + 1)), .ref (P 0)]) (by rw [nI_clamp (by omega)]) ?_
              refine hi_if_eq (tgt := 426) hx hb dd_LW_law_419 (by decide) (fun c199 => ?_) (fun c199 => ?_)
              · exfalso; omega
              · refine lv_iconst (v := nI 1) hx hb dd_LW_law_422 (by decide +kernel) ?_
                refine lv_goto (tgt := 427) hx hb dd_LW_law_423 (by decide) ?_
                refine hm_ci hS (hm_rV 3 (As := [.int (xs (k + 1)), .int (xs (k + 2)), .int (nI 1)]) (rest := []) ⟨hx, hb, hml, hown, hts⟩ hE hS hP (kc_MO_bind l B D G M196 P OM196 I A L hD t ex qs bs key hs fo ps hZ (xs (k + 1)) (xs (k + 2)) true) rfl g198 tw_1098 tw_1095 tw_1096 tw_1097 tw_46 (by decide +kernel) rfl rfl ⟨by show 5 + 1 ≤ R.frames; omega, by show 8 + (8 + 11) + 107 ≤ R.locals; omega⟩ rfl hl.1 rfl (Nat.le_of_ble_eq_true rfl) dd_LW_law_427 ⟨by omega, by omega⟩) (fun r200 M201 H locs hw202 hP hS => ?_)
                refine W.widen (k := (40 + 10 * k) + 3) (n := (10000 + 300 * k) + 110) (by omega) (by omega) ?_
                obtain ⟨hrr200, Iz203, Az203, Lz203, hD, hcz203, hZ, kF⟩ := hw202
                have hbn := hrr200.trans (show nI (bz (bn_b ex qs t bs (xs (k + 1)) (xs (k + 2)) true)) = nI 0 by rw [bn_b, hgood] <;> rfl)
                obtain rfl : r200 = nI 0 := hbn
                have hcz203 := hcz203.trans (show nI (bn_c ex qs t bs (xs (k + 1)) (xs (k + 2)) true) = nI 1 by rw [bn_c, hgood] <;> rfl)
                have hbl : bn_l ex qs t bs (xs (k + 1)) (xs (k + 2)) true = bs := by rw [bn_l, bn_b, hgood] <;> rfl
                rw [hbl] at hZ
                have hIo := hI
                have hI : im_R D G N OM196 M201 := hI.kept kF (by unfold pm; omega)
                have hT : tp_R B D N OM196 M201 [] := hT.kept kF (fun c h9 => by unfold pm; omega)
                have hX : ex_R B D N OM196 M201 ex := hX.kept kF (fun c h9 => by unfold pm; omega)
                have hQ : qu_R B D N OM196 M201 qs := hQ.kept kF (fun c h9 => by unfold pm; omega)
                have hB : bi_R B D G N OM196 M201 bs := hB.kept kF hIo (fun c h9 => by unfold pm; omega) (by unfold pm; omega)
                have hM : ms_R B D G N OM196 M201 key hs := hM.kept kF hIo (fun c h9 => by unfold pm; omega) (by unfold pm; omega)
                have hR : rs_R B D N OM196 M201 r := rt_R.kept hR kF (fun c h9 => by unfold pm; omega)
                have hw9o := hw9
                have hw9 : M201 wq = some (.inl (D.1 103, 1, .inr (.inl fw))) := (kF _ _ hw9o).2.1 (by rw [how]; unfold pm; omega)
                have how : OM196 wq = 50 := (kF _ _ hw9o).1.trans how
                obtain ⟨g204, -⟩ := id hD
                refine lv_istore (lv' := [(6, .int (nI 0)), (5, .int (nI 1)), (0, .ref sb), (1, .ref (N 0)), (2, .ref (P 0)), (3, .ref wq), (4, .int (nI k))]) hx hb dd_LW_law_430 hl (by decide) rfl (fun ls hl => ?_)
                refine lv_aload_n hx hb dd_LW_law_432 rfl (lv_at hl 4 rfl) ?_
                refine hm_ci hS (hm_rV 0 (As := []) (rest := []) ⟨hx, hb, hml, hown, hts⟩ hE hS hP (kc_MO_thrown l B D G M201 P OM196 Iz203 Az203 Lz203 hD) rfl g204 tw_1057 tw_1054 tw_1055 tw_1056 tw_46 (by decide +kernel) rfl rfl ⟨by show 0 + 1 ≤ R.frames; omega, by show 8 + (1 + 11) + 0 ≤ R.locals; omega⟩ rfl hl.1 rfl (Nat.le_of_ble_eq_true rfl) dd_LW_law_433 ⟨by omega, by omega⟩) (fun r205 M206 H locs hw207 hP hS => ?_)
                refine W.widen (k := (40 + 10 * k) + 3) (n := (10000 + 300 * k) + 110) (by omega) (by omega) ?_
                obtain ⟨hrM206, eM206⟩ := hw207
                rw [eM206] at hP
                obtain rfl : r205 = nI 1 := hrM206.trans hcz203
                refine lv_iload hx hb dd_LW_law_436 (lv_at hl 1 rfl) ?_
                refine hn_icmp_eq (tgt := 443) hx hb (by omega) (by omega) dd_LW_law_438 (by decide) (fun c208 => ?_) (fun c208 => absurd c208 (by omega))
                refine lv_iload hx hb dd_LW_law_443 (lv_at hl 1 rfl) ?_
                refine hn_if_ne (tgt := 467) hx hb (by omega) dd_LW_law_445 (by decide) (fun c209 => ?_) (fun c209 => absurd c209 (by omega))
                refine lv_goto (tgt := 758) hx hb dd_LW_law_467 (by decide) ?_
                refine lv_iinc (v := nI (k + 4)) (lv' := [(4, .int (nI (k + 4))), (6, .int (nI 0)), (5, .int (nI 1)), (0, .ref sb), (1, .ref (N 0)), (2, .ref (P 0)), (3, .ref wq)]) hx hb dd_LW_law_758 hl (k := 6) rfl (nI_add k 4) (by decide) rfl (fun ls hl => ?_)
                refine lv_goto (tgt := 23) hx hb dd_LW_law_761 (by decide) ?_
                refine W.widen (k := (40 + 10 * (k + 4))) (n := (10000 + 300 * (k + 4))) (by omega) (by omega) ?_
                exact ih23 (k + 4) M201 (by omega) (⟨OM196, [], ex, qs, bs, key, hs, r, fo, ps, Iz203, Az203, Lz203, fw, hI, hT, hX, hQ, hB, hM, hR, hD, hZ, ⟨hw9, how⟩, hV, hag⟩) (by omega) _ _ _ hP hS (lv_sub hl [3, 4, 5, 6, 0] rfl)
            · refine hm_ci hS (hm_rSH 5 (As := [.ref (N 0), .int (xs (k + 1)), .int (xs (k + 2)), .int (nI 1), .ref wq]) (rest := []) ⟨hx, hb, hml, hown, hts⟩ hE hS hP (kc_LB0 l B D G Mu N O hI t hT ex hX qs hQ bs hB hV.2 (xs (k + 1)) (xs (k + 2)) true wq fw hw9 hA_w9 how hgood hany) tq_bind tw_823 tw_824 tw_35 (by decide +kernel) rfl rfl ⟨by show 9 + 1 ≤ R.frames; omega, by show 8 + (6 + 11) + 201 ≤ R.locals; omega⟩ rfl hl.1 rfl (Nat.le_of_ble_eq_true rfl) dd_LW_law_395 ⟨by omega, by omega⟩) (fun r210 M211 H locs hw212 hP hS => ?_)
              refine W.widen (k := (40 + 10 * k) + 2) (n := (10000 + 300 * k) + 104) (by omega) (by omega) ?_
              obtain ⟨rfl, OM211, f1, hf1, kw, kT, kF⟩ := hw212
              have hw9o := hw9
              have hT := kT
              have hw9 := kw
              have hIo := hI
              have hI : im_R D G N OM211 M211 := hI.kept kF (by unfold cw cg pw; omega)
              have hX : ex_R B D N OM211 M211 ex := hX.kept kF (fun c h9 => by unfold cw cg pw; omega)
              have hQ : qu_R B D N OM211 M211 qs := hQ.kept kF (fun c h9 => by unfold cw cg pw; omega)
              have hB : bi_R B D G N OM211 M211 bs := hB.kept kF hIo (fun c h9 => by unfold cw cg pw; omega) (by unfold cw cg pw; omega)
              have hM : ms_R B D G N OM211 M211 key hs := hM.kept kF hIo (fun c h9 => by unfold cw cg pw; omega) (by unfold cw cg pw; omega)
              have hR : rs_R B D N OM211 M211 r := rt_R.kept hR kF (fun c h9 => by unfold cw cg pw; omega)
              have hD : mo_D B D P OM211 M211 I A L := hD.kept kF (fun c h9 => by unfold cw cg pw; omega)
              have how : OM211 wq = 50 := (kF _ _ hw9o).1.trans how
              obtain ⟨g213, -⟩ := id hD
              refine lv_istore (lv' := [(5, .int (nI 0)), (0, .ref sb), (1, .ref (N 0)), (2, .ref (P 0)), (3, .ref wq), (4, .int (nI k))]) hx hb dd_LW_law_398 hl (by decide) rfl (fun ls hl => ?_)
              refine lv_aload_n hx hb dd_LW_law_400 rfl (lv_at hl 3 rfl) ?_
              refine lv_aload_n hx hb dd_LW_law_401 rfl (lv_at hl 1 rfl) ?_
              refine lv_iload hx hb dd_LW_law_402 (lv_at hl 5 rfl) ?_
              refine lv_iconst (v := nI 1) hx hb dd_LW_law_404 (by decide +kernel) ?_
              refine hn_iadd hx hb dd_LW_law_405 ?_
              refine va_sld (i := nI (k + 1)) hx hb hXs hbl hbA hS (vp_in_nI (by omega) (by omega)) dd_LW_law_406 ?_
              refine W.eq (g2 := F0 m 407 ls [.int (xs (k + 1)), .ref (P 0)]) (by rw [nI_clamp (by omega)]) ?_
              refine lv_aload_n hx hb dd_LW_law_407 rfl (lv_at hl 1 rfl) ?_
              refine lv_iload hx hb dd_LW_law_408 (lv_at hl 5 rfl) ?_
              refine lv_iconst (v := nI 2) hx hb dd_LW_law_410 (by decide +kernel) ?_
              refine hn_iadd hx hb dd_LW_law_411 ?_
              refine va_sld (i := nI (k + 2)) hx hb hXs hbl hbA hS (vp_in_nI (by omega) (by omega)) dd_LW_law_412 ?_
              refine W.eq (g2 := F0 m 413 ls [.int (xs (k + 2)), .int (xs (k + 1)), .ref (P 0)]) (by rw [nI_clamp (by omega)]) ?_
              refine lv_aload_n hx hb dd_LW_law_413 rfl (lv_at hl 1 rfl) ?_
              refine lv_iload hx hb dd_LW_law_414 (lv_at hl 5 rfl) ?_
              refine lv_iconst (v := nI 3) hx hb dd_LW_law_416 (by decide +kernel) ?_
              refine hn_iadd hx hb dd_LW_law_417 ?_
              refine va_sld (i := nI (k + 3)) hx hb hXs hbl hbA hS (vp_in_nI (by omega) (by omega)) dd_LW_law_418 ?_
              refine W.eq (g2 := F0 m 419 ls [.int (xs (k + 3)), .int (xs (k + 2)), .int (xs (k + 1)), .ref (P 0)]) (by rw [nI_clamp (by omega)]) ?_
              refine hi_if_eq (tgt := 426) hx hb dd_LW_law_419 (by decide) (fun c214 => ?_) (fun c214 => ?_)
              · exfalso; omega
              · refine lv_iconst (v := nI 1) hx hb dd_LW_law_422 (by decide +kernel) ?_
                refine lv_goto (tgt := 427) hx hb dd_LW_law_423 (by decide) ?_
                refine hm_ci hS (hm_rV 3 (As := [.int (xs (k + 1)), .int (xs (k + 2)), .int (nI 1)]) (rest := []) ⟨hx, hb, hml, hown, hts⟩ hE hS hP (kc_MO_bind l B D G M211 P OM211 I A L hD t ex qs bs key hs fo ps hZ (xs (k + 1)) (xs (k + 2)) true) rfl g213 tw_1098 tw_1095 tw_1096 tw_1097 tw_46 (by decide +kernel) rfl rfl ⟨by show 5 + 1 ≤ R.frames; omega, by show 8 + (8 + 11) + 107 ≤ R.locals; omega⟩ rfl hl.1 rfl (Nat.le_of_ble_eq_true rfl) dd_LW_law_427 ⟨by omega, by omega⟩) (fun r215 M216 H locs hw217 hP hS => ?_)
                refine W.widen (k := (40 + 10 * k) + 2) (n := (10000 + 300 * k) + 104) (by omega) (by omega) ?_
                obtain ⟨hrr215, Iz218, Az218, Lz218, hD, hcz218, hZ, kF⟩ := hw217
                have hbn := hrr215.trans (show nI (bz (bn_b ex qs t bs (xs (k + 1)) (xs (k + 2)) true)) = nI 0 by rw [bn_b, hgood, hany] <;> rfl)
                obtain rfl : r215 = nI 0 := hbn
                have hcz218 := hcz218.trans (show nI (bn_c ex qs t bs (xs (k + 1)) (xs (k + 2)) true) = nI 0 by rw [bn_c, hgood, if_pos rfl, hany] <;> rfl)
                have hbl : bn_l ex qs t bs (xs (k + 1)) (xs (k + 2)) true = bs := by rw [bn_l, bn_b, hgood, hany] <;> rfl
                rw [hbl] at hZ
                have hIo := hI
                have hI : im_R D G N OM211 M216 := hI.kept kF (by unfold pm; omega)
                have hT : tp_R B D N OM211 M216 [] := hT.kept kF (fun c h9 => by unfold pm; omega)
                have hX : ex_R B D N OM211 M216 ex := hX.kept kF (fun c h9 => by unfold pm; omega)
                have hQ : qu_R B D N OM211 M216 qs := hQ.kept kF (fun c h9 => by unfold pm; omega)
                have hB : bi_R B D G N OM211 M216 bs := hB.kept kF hIo (fun c h9 => by unfold pm; omega) (by unfold pm; omega)
                have hM : ms_R B D G N OM211 M216 key hs := hM.kept kF hIo (fun c h9 => by unfold pm; omega) (by unfold pm; omega)
                have hR : rs_R B D N OM211 M216 r := rt_R.kept hR kF (fun c h9 => by unfold pm; omega)
                have hw9o := hw9
                have hw9 : M216 wq = some (.inl (D.1 103, 1, .inr (.inl f1))) := (kF _ _ hw9o).2.1 (by rw [how]; unfold pm; omega)
                have how : OM211 wq = 50 := (kF _ _ hw9o).1.trans how
                obtain ⟨g219, -⟩ := id hD
                refine lv_istore (lv' := [(6, .int (nI 0)), (5, .int (nI 0)), (0, .ref sb), (1, .ref (N 0)), (2, .ref (P 0)), (3, .ref wq), (4, .int (nI k))]) hx hb dd_LW_law_430 hl (by decide) rfl (fun ls hl => ?_)
                refine lv_aload_n hx hb dd_LW_law_432 rfl (lv_at hl 4 rfl) ?_
                refine hm_ci hS (hm_rV 0 (As := []) (rest := []) ⟨hx, hb, hml, hown, hts⟩ hE hS hP (kc_MO_thrown l B D G M216 P OM211 Iz218 Az218 Lz218 hD) rfl g219 tw_1057 tw_1054 tw_1055 tw_1056 tw_46 (by decide +kernel) rfl rfl ⟨by show 0 + 1 ≤ R.frames; omega, by show 8 + (1 + 11) + 0 ≤ R.locals; omega⟩ rfl hl.1 rfl (Nat.le_of_ble_eq_true rfl) dd_LW_law_433 ⟨by omega, by omega⟩) (fun r220 M221 H locs hw222 hP hS => ?_)
                refine W.widen (k := (40 + 10 * k) + 2) (n := (10000 + 300 * k) + 104) (by omega) (by omega) ?_
                obtain ⟨hrM221, eM221⟩ := hw222
                rw [eM221] at hP
                obtain rfl : r220 = nI 0 := hrM221.trans hcz218
                refine lv_iload hx hb dd_LW_law_436 (lv_at hl 1 rfl) ?_
                refine hn_icmp_eq (tgt := 443) hx hb (by omega) (by omega) dd_LW_law_438 (by decide) (fun c223 => ?_) (fun c223 => absurd c223 (by omega))
                refine lv_iload hx hb dd_LW_law_443 (lv_at hl 1 rfl) ?_
                refine hn_if_ne (tgt := 467) hx hb (by omega) dd_LW_law_445 (by decide) (fun c224 => absurd c224 (by omega)) (fun c224 => ?_)
                refine lv_aload_n hx hb dd_LW_law_448 rfl (lv_at hl 5 rfl) ?_
                refine lv_iconst (v := nI 0) hx hb dd_LW_law_449 (by decide +kernel) ?_
                refine hm_lald (j := 0) hx hb hE.K hP 3 hw9 rfl (vp_in_nI (by omega) (by omega)) (nI_clamp (by omega)) dd_LW_law_450 ?_
                refine W.eq (g2 := F0 m 451 ls [.long 0]) (by rw [hf1]) ?_
                refine lv_iload hx hb dd_LW_law_451 (lv_at hl 0 rfl) ?_
                refine hn_if_eq (tgt := 460) hx hb (by omega) dd_LW_law_453 (by decide) (fun c225 => ?_) (fun c225 => absurd c225 (by omega))
                refine lv_lconst (v := 0) hx hb dd_LW_law_460 (by decide +kernel) ?_
                refine W.lcmp hx hb dd_LW_law_461 ?_
                refine hi_if_eq (tgt := 467) hx hb dd_LW_law_462 (by decide) (fun c226 => ?_) (fun c226 => absurd c226 (by exact fun h9 => h9 (lc_rf _)))
                refine lv_goto (tgt := 758) hx hb dd_LW_law_467 (by decide) ?_
                refine lv_iinc (v := nI (k + 4)) (lv' := [(4, .int (nI (k + 4))), (6, .int (nI 0)), (5, .int (nI 0)), (0, .ref sb), (1, .ref (N 0)), (2, .ref (P 0)), (3, .ref wq)]) hx hb dd_LW_law_758 hl (k := 6) rfl (nI_add k 4) (by decide) rfl (fun ls hl => ?_)
                refine lv_goto (tgt := 23) hx hb dd_LW_law_761 (by decide) ?_
                refine W.widen (k := (40 + 10 * (k + 4))) (n := (10000 + 300 * (k + 4))) (by omega) (by omega) ?_
                exact ih23 (k + 4) M216 (by omega) (⟨OM211, [], ex, qs, bs, key, hs, r, fo, ps, Iz218, Az218, Lz218, f1, hI, hT, hX, hQ, hB, hM, hR, hD, hZ, ⟨hw9, how⟩, hV, hag⟩) (by omega) _ _ _ hP hS (lv_sub hl [3, 4, 5, 6, 0] rfl)
            · refine hm_ci hS (hm_rSH 5 (As := [.ref (N 0), .int (xs (k + 1)), .int (xs (k + 2)), .int (nI 1), .ref wq]) (rest := []) ⟨hx, hb, hml, hown, hts⟩ hE hS hP (kc_LB2 l B D G Mu hfl N O hI t hT ex hX qs hQ bs hB hV.2 (xs (k + 1)) (xs (k + 2)) true wq fw hw9 hA_w9 how hgood hany hlen) tq_bind tw_823 tw_824 tw_35 (by decide +kernel) rfl rfl ⟨by show 9 + 1 ≤ R.frames; omega, by show 8 + (6 + 11) + 201 ≤ R.locals; omega⟩ rfl hl.1 rfl (Nat.le_of_ble_eq_true rfl) dd_LW_law_395 ⟨by omega, by omega⟩) (fun r227 M228 H locs hw229 hP hS => ?_)
              refine W.widen (k := (40 + 10 * k) + 3) (n := (10000 + 300 * k) + 110) (by omega) (by omega) ?_
              obtain ⟨rfl, OM228, kT, kF⟩ := hw229
              have hT := kT
              have hIo := hI
              have hI : im_R D G N OM228 M228 := hI.kept kF (by unfold cg; omega)
              have hX : ex_R B D N OM228 M228 ex := hX.kept kF (fun c h9 => by unfold cg; omega)
              have hQ : qu_R B D N OM228 M228 qs := hQ.kept kF (fun c h9 => by unfold cg; omega)
              have hB : bi_R B D G N OM228 M228 bs := hB.kept kF hIo (fun c h9 => by unfold cg; omega) (by unfold cg; omega)
              have hM : ms_R B D G N OM228 M228 key hs := hM.kept kF hIo (fun c h9 => by unfold cg; omega) (by unfold cg; omega)
              have hR : rs_R B D N OM228 M228 r := rt_R.kept hR kF (fun c h9 => by unfold cg; omega)
              have hD : mo_D B D P OM228 M228 I A L := hD.kept kF (fun c h9 => by unfold cg; omega)
              have hw9o := hw9
              have hw9 : M228 wq = some (.inl (D.1 103, 1, .inr (.inl fw))) := (kF _ _ hw9o).2.1 (by rw [how]; unfold cg; omega)
              have how : OM228 wq = 50 := (kF _ _ hw9o).1.trans how
              obtain ⟨g230, -⟩ := id hD
              refine lv_istore (lv' := [(5, .int (nI 2)), (0, .ref sb), (1, .ref (N 0)), (2, .ref (P 0)), (3, .ref wq), (4, .int (nI k))]) hx hb dd_LW_law_398 hl (by decide) rfl (fun ls hl => ?_)
              refine lv_aload_n hx hb dd_LW_law_400 rfl (lv_at hl 3 rfl) ?_
              refine lv_aload_n hx hb dd_LW_law_401 rfl (lv_at hl 1 rfl) ?_
              refine lv_iload hx hb dd_LW_law_402 (lv_at hl 5 rfl) ?_
              refine lv_iconst (v := nI 1) hx hb dd_LW_law_404 (by decide +kernel) ?_
              refine hn_iadd hx hb dd_LW_law_405 ?_
              refine va_sld (i := nI (k + 1)) hx hb hXs hbl hbA hS (vp_in_nI (by omega) (by omega)) dd_LW_law_406 ?_
              refine W.eq (g2 := F0 m 407 ls [.int (xs (k + 1)), .ref (P 0)]) (by rw [nI_clamp (by omega)]) ?_
              refine lv_aload_n hx hb dd_LW_law_407 rfl (lv_at hl 1 rfl) ?_
              refine lv_iload hx hb dd_LW_law_408 (lv_at hl 5 rfl) ?_
              refine lv_iconst (v := nI 2) hx hb dd_LW_law_410 (by decide +kernel) ?_
              refine hn_iadd hx hb dd_LW_law_411 ?_
              refine va_sld (i := nI (k + 2)) hx hb hXs hbl hbA hS (vp_in_nI (by omega) (by omega)) dd_LW_law_412 ?_
              refine W.eq (g2 := F0 m 413 ls [.int (xs (k + 2)), .int (xs (k + 1)), .ref (P 0)]) (by rw [nI_clamp (by omega)]) ?_
              refine lv_aload_n hx hb dd_LW_law_413 rfl (lv_at hl 1 rfl) ?_
              refine lv_iload hx hb dd_LW_law_414 (lv_at hl 5 rfl) ?_
              refine lv_iconst (v := nI 3) hx hb dd_LW_law_416 (by decide +kernel) ?_
              refine hn_iadd hx hb dd_LW_law_417 ?_
              refine va_sld (i := nI (k + 3)) hx hb hXs hbl hbA hS (vp_in_nI (by omega) (by omega)) dd_LW_law_418 ?_
              refine W.eq (g2 := F0 m 419 ls [.int (xs (k + 3)), .int (xs (k + 2)), .int (xs (k + 1)), .ref (P 0)]) (by rw [nI_clamp (by omega)]) ?_
              refine hi_if_eq (tgt := 426) hx hb dd_LW_law_419 (by decide) (fun c231 => ?_) (fun c231 => ?_)
              · exfalso; omega
              · refine lv_iconst (v := nI 1) hx hb dd_LW_law_422 (by decide +kernel) ?_
                refine lv_goto (tgt := 427) hx hb dd_LW_law_423 (by decide) ?_
                refine hm_ci hS (hm_rV 3 (As := [.int (xs (k + 1)), .int (xs (k + 2)), .int (nI 1)]) (rest := []) ⟨hx, hb, hml, hown, hts⟩ hE hS hP (kc_MO_bind l B D G M228 P OM228 I A L hD t ex qs bs key hs fo ps hZ (xs (k + 1)) (xs (k + 2)) true) rfl g230 tw_1098 tw_1095 tw_1096 tw_1097 tw_46 (by decide +kernel) rfl rfl ⟨by show 5 + 1 ≤ R.frames; omega, by show 8 + (8 + 11) + 107 ≤ R.locals; omega⟩ rfl hl.1 rfl (Nat.le_of_ble_eq_true rfl) dd_LW_law_427 ⟨by omega, by omega⟩) (fun r232 M233 H locs hw234 hP hS => ?_)
                refine W.widen (k := (40 + 10 * k) + 3) (n := (10000 + 300 * k) + 110) (by omega) (by omega) ?_
                obtain ⟨hrr232, Iz235, Az235, Lz235, hD, hcz235, hZ, kF⟩ := hw234
                have hbn := hrr232.trans (show nI (bz (bn_b ex qs t bs (xs (k + 1)) (xs (k + 2)) true)) = nI 0 by rw [bn_b, hgood, hany, decide_eq_false (fun h9 => h9 hlen)] <;> rfl)
                obtain rfl : r232 = nI 0 := hbn
                have hcz235 := hcz235.trans (show nI (bn_c ex qs t bs (xs (k + 1)) (xs (k + 2)) true) = nI 2 by rw [bn_c, hgood, if_pos rfl, hany, if_neg (by decide), if_pos hlen] <;> rfl)
                have hbl : bn_l ex qs t bs (xs (k + 1)) (xs (k + 2)) true = bs := by rw [bn_l, bn_b, hgood, hany, decide_eq_false (fun h9 => h9 hlen)] <;> rfl
                rw [hbl] at hZ
                have hIo := hI
                have hI : im_R D G N OM228 M233 := hI.kept kF (by unfold pm; omega)
                have hT : tp_R B D N OM228 M233 [] := hT.kept kF (fun c h9 => by unfold pm; omega)
                have hX : ex_R B D N OM228 M233 ex := hX.kept kF (fun c h9 => by unfold pm; omega)
                have hQ : qu_R B D N OM228 M233 qs := hQ.kept kF (fun c h9 => by unfold pm; omega)
                have hB : bi_R B D G N OM228 M233 bs := hB.kept kF hIo (fun c h9 => by unfold pm; omega) (by unfold pm; omega)
                have hM : ms_R B D G N OM228 M233 key hs := hM.kept kF hIo (fun c h9 => by unfold pm; omega) (by unfold pm; omega)
                have hR : rs_R B D N OM228 M233 r := rt_R.kept hR kF (fun c h9 => by unfold pm; omega)
                have hw9o := hw9
                have hw9 : M233 wq = some (.inl (D.1 103, 1, .inr (.inl fw))) := (kF _ _ hw9o).2.1 (by rw [how]; unfold pm; omega)
                have how : OM228 wq = 50 := (kF _ _ hw9o).1.trans how
                obtain ⟨g236, -⟩ := id hD
                refine lv_istore (lv' := [(6, .int (nI 0)), (5, .int (nI 2)), (0, .ref sb), (1, .ref (N 0)), (2, .ref (P 0)), (3, .ref wq), (4, .int (nI k))]) hx hb dd_LW_law_430 hl (by decide) rfl (fun ls hl => ?_)
                refine lv_aload_n hx hb dd_LW_law_432 rfl (lv_at hl 4 rfl) ?_
                refine hm_ci hS (hm_rV 0 (As := []) (rest := []) ⟨hx, hb, hml, hown, hts⟩ hE hS hP (kc_MO_thrown l B D G M233 P OM228 Iz235 Az235 Lz235 hD) rfl g236 tw_1057 tw_1054 tw_1055 tw_1056 tw_46 (by decide +kernel) rfl rfl ⟨by show 0 + 1 ≤ R.frames; omega, by show 8 + (1 + 11) + 0 ≤ R.locals; omega⟩ rfl hl.1 rfl (Nat.le_of_ble_eq_true rfl) dd_LW_law_433 ⟨by omega, by omega⟩) (fun r237 M238 H locs hw239 hP hS => ?_)
                refine W.widen (k := (40 + 10 * k) + 3) (n := (10000 + 300 * k) + 110) (by omega) (by omega) ?_
                obtain ⟨hrM238, eM238⟩ := hw239
                rw [eM238] at hP
                obtain rfl : r237 = nI 2 := hrM238.trans hcz235
                refine lv_iload hx hb dd_LW_law_436 (lv_at hl 1 rfl) ?_
                refine hn_icmp_eq (tgt := 443) hx hb (by omega) (by omega) dd_LW_law_438 (by decide) (fun c240 => ?_) (fun c240 => absurd c240 (by omega))
                refine lv_iload hx hb dd_LW_law_443 (lv_at hl 1 rfl) ?_
                refine hn_if_ne (tgt := 467) hx hb (by omega) dd_LW_law_445 (by decide) (fun c241 => ?_) (fun c241 => absurd c241 (by omega))
                refine lv_goto (tgt := 758) hx hb dd_LW_law_467 (by decide) ?_
                refine lv_iinc (v := nI (k + 4)) (lv' := [(4, .int (nI (k + 4))), (6, .int (nI 0)), (5, .int (nI 2)), (0, .ref sb), (1, .ref (N 0)), (2, .ref (P 0)), (3, .ref wq)]) hx hb dd_LW_law_758 hl (k := 6) rfl (nI_add k 4) (by decide) rfl (fun ls hl => ?_)
                refine lv_goto (tgt := 23) hx hb dd_LW_law_761 (by decide) ?_
                refine W.widen (k := (40 + 10 * (k + 4))) (n := (10000 + 300 * (k + 4))) (by omega) (by omega) ?_
                exact ih23 (k + 4) M233 (by omega) (⟨OM228, [], ex, qs, bs, key, hs, r, fo, ps, Iz235, Az235, Lz235, fw, hI, hT, hX, hQ, hB, hM, hR, hD, hZ, ⟨hw9, how⟩, hV, hag⟩) (by omega) _ _ _ hP hS (lv_sub hl [3, 4, 5, 6, 0] rfl)
            · refine hm_ci hS (hm_rSH 5 (As := [.ref (N 0), .int (xs (k + 1)), .int (xs (k + 2)), .int (nI 1), .ref wq]) (rest := []) ⟨hx, hb, hml, hown, hts⟩ hE hS hP (kc_LBN l B D G Mu N O hI t hT ex hX qs hQ bs hB hV.2 (xs (k + 1)) (xs (k + 2)) true wq fw hw9 hA_w9 how hgood hany hlen) tq_bind tw_823 tw_824 tw_35 (by decide +kernel) rfl rfl ⟨by show 9 + 1 ≤ R.frames; omega, by show 8 + (6 + 11) + 201 ≤ R.locals; omega⟩ rfl hl.1 rfl (Nat.le_of_ble_eq_true rfl) dd_LW_law_395 ⟨by omega, by omega⟩) (fun r242 M243 H locs hw244 hP hS => ?_)
              refine W.widen (k := (40 + 10 * k) + 4) (n := (10000 + 300 * k) + 310) (by omega) (by omega) ?_
              obtain ⟨rfl, OM243, f1, hf1, kw, kT, kB, kF⟩ := hw244
              have hw9o := hw9
              have hT := kT
              have hB := kB
              have hw9 := kw
              have hIo := hI
              have hI : im_R D G N OM243 M243 := hI.kept kF (by unfold cg149 pw; omega)
              have hX : ex_R B D N OM243 M243 ex := hX.kept kF (fun c h9 => by unfold cg149 pw; omega)
              have hQ : qu_R B D N OM243 M243 qs := hQ.kept kF (fun c h9 => by unfold cg149 pw; omega)
              have hM : ms_R B D G N OM243 M243 key hs := hM.kept kF hIo (fun c h9 => by unfold cg149 pw; omega) (by unfold cg149 pw; omega)
              have hR : rs_R B D N OM243 M243 r := rt_R.kept hR kF (fun c h9 => by unfold cg149 pw; omega)
              have hD : mo_D B D P OM243 M243 I A L := hD.kept kF (fun c h9 => by unfold cg149 pw; omega)
              have how : OM243 wq = 50 := (kF _ _ hw9o).1.trans how
              obtain ⟨g245, -⟩ := id hD
              refine lv_istore (lv' := [(5, .int (nI 0)), (0, .ref sb), (1, .ref (N 0)), (2, .ref (P 0)), (3, .ref wq), (4, .int (nI k))]) hx hb dd_LW_law_398 hl (by decide) rfl (fun ls hl => ?_)
              refine lv_aload_n hx hb dd_LW_law_400 rfl (lv_at hl 3 rfl) ?_
              refine lv_aload_n hx hb dd_LW_law_401 rfl (lv_at hl 1 rfl) ?_
              refine lv_iload hx hb dd_LW_law_402 (lv_at hl 5 rfl) ?_
              refine lv_iconst (v := nI 1) hx hb dd_LW_law_404 (by decide +kernel) ?_
              refine hn_iadd hx hb dd_LW_law_405 ?_
              refine va_sld (i := nI (k + 1)) hx hb hXs hbl hbA hS (vp_in_nI (by omega) (by omega)) dd_LW_law_406 ?_
              refine W.eq (g2 := F0 m 407 ls [.int (xs (k + 1)), .ref (P 0)]) (by rw [nI_clamp (by omega)]) ?_
              refine lv_aload_n hx hb dd_LW_law_407 rfl (lv_at hl 1 rfl) ?_
              refine lv_iload hx hb dd_LW_law_408 (lv_at hl 5 rfl) ?_
              refine lv_iconst (v := nI 2) hx hb dd_LW_law_410 (by decide +kernel) ?_
              refine hn_iadd hx hb dd_LW_law_411 ?_
              refine va_sld (i := nI (k + 2)) hx hb hXs hbl hbA hS (vp_in_nI (by omega) (by omega)) dd_LW_law_412 ?_
              refine W.eq (g2 := F0 m 413 ls [.int (xs (k + 2)), .int (xs (k + 1)), .ref (P 0)]) (by rw [nI_clamp (by omega)]) ?_
              refine lv_aload_n hx hb dd_LW_law_413 rfl (lv_at hl 1 rfl) ?_
              refine lv_iload hx hb dd_LW_law_414 (lv_at hl 5 rfl) ?_
              refine lv_iconst (v := nI 3) hx hb dd_LW_law_416 (by decide +kernel) ?_
              refine hn_iadd hx hb dd_LW_law_417 ?_
              refine va_sld (i := nI (k + 3)) hx hb hXs hbl hbA hS (vp_in_nI (by omega) (by omega)) dd_LW_law_418 ?_
              refine W.eq (g2 := F0 m 419 ls [.int (xs (k + 3)), .int (xs (k + 2)), .int (xs (k + 1)), .ref (P 0)]) (by rw [nI_clamp (by omega)]) ?_
              refine hi_if_eq (tgt := 426) hx hb dd_LW_law_419 (by decide) (fun c246 => ?_) (fun c246 => ?_)
              · exfalso; omega
              · refine lv_iconst (v := nI 1) hx hb dd_LW_law_422 (by decide +kernel) ?_
                refine lv_goto (tgt := 427) hx hb dd_LW_law_423 (by decide) ?_
                refine hm_ci hS (hm_rV 3 (As := [.int (xs (k + 1)), .int (xs (k + 2)), .int (nI 1)]) (rest := []) ⟨hx, hb, hml, hown, hts⟩ hE hS hP (kc_MO_bind l B D G M243 P OM243 I A L hD t ex qs bs key hs fo ps hZ (xs (k + 1)) (xs (k + 2)) true) rfl g245 tw_1098 tw_1095 tw_1096 tw_1097 tw_46 (by decide +kernel) rfl rfl ⟨by show 5 + 1 ≤ R.frames; omega, by show 8 + (8 + 11) + 107 ≤ R.locals; omega⟩ rfl hl.1 rfl (Nat.le_of_ble_eq_true rfl) dd_LW_law_427 ⟨by omega, by omega⟩) (fun r247 M248 H locs hw249 hP hS => ?_)
                refine W.widen (k := (40 + 10 * k) + 4) (n := (10000 + 300 * k) + 310) (by omega) (by omega) ?_
                obtain ⟨hrr247, Iz250, Az250, Lz250, hD, hcz250, hZ, kF⟩ := hw249
                have hbn := hrr247.trans (show nI (bz (bn_b ex qs t bs (xs (k + 1)) (xs (k + 2)) true)) = nI 1 by rw [bn_b, hgood, hany, decide_eq_true (show ¬ bs.length = 120 by omega)] <;> rfl)
                obtain rfl : r247 = nI 1 := hbn
                have hcz250 := hcz250.trans (show nI (bn_c ex qs t bs (xs (k + 1)) (xs (k + 2)) true) = nI 0 by rw [bn_c, hgood, if_pos rfl, hany, if_neg (by decide), if_neg (by omega)] <;> rfl)
                have hbl : bn_l ex qs t bs (xs (k + 1)) (xs (k + 2)) true = (bs ++ [((xs (k + 1)), (xs (k + 2)), true, t)]) := by rw [bn_l, bn_b, hgood, hany, decide_eq_true (show ¬ bs.length = 120 by omega)] <;> rfl
                rw [hbl] at hZ
                have hIo := hI
                have hI : im_R D G N OM243 M248 := hI.kept kF (by unfold pm; omega)
                have hT : tp_R B D N OM243 M248 [] := hT.kept kF (fun c h9 => by unfold pm; omega)
                have hX : ex_R B D N OM243 M248 ex := hX.kept kF (fun c h9 => by unfold pm; omega)
                have hQ : qu_R B D N OM243 M248 qs := hQ.kept kF (fun c h9 => by unfold pm; omega)
                have hB : bi_R B D G N OM243 M248 (bs ++ [((xs (k + 1)), (xs (k + 2)), true, t)]) := hB.kept kF hIo (fun c h9 => by unfold pm; omega) (by unfold pm; omega)
                have hM : ms_R B D G N OM243 M248 key hs := hM.kept kF hIo (fun c h9 => by unfold pm; omega) (by unfold pm; omega)
                have hR : rs_R B D N OM243 M248 r := rt_R.kept hR kF (fun c h9 => by unfold pm; omega)
                have hw9o := hw9
                have hw9 : M248 wq = some (.inl (D.1 103, 1, .inr (.inl f1))) := (kF _ _ hw9o).2.1 (by rw [how]; unfold pm; omega)
                have how : OM243 wq = 50 := (kF _ _ hw9o).1.trans how
                obtain ⟨g251, -⟩ := id hD
                refine lv_istore (lv' := [(6, .int (nI 1)), (5, .int (nI 0)), (0, .ref sb), (1, .ref (N 0)), (2, .ref (P 0)), (3, .ref wq), (4, .int (nI k))]) hx hb dd_LW_law_430 hl (by decide) rfl (fun ls hl => ?_)
                refine lv_aload_n hx hb dd_LW_law_432 rfl (lv_at hl 4 rfl) ?_
                refine hm_ci hS (hm_rV 0 (As := []) (rest := []) ⟨hx, hb, hml, hown, hts⟩ hE hS hP (kc_MO_thrown l B D G M248 P OM243 Iz250 Az250 Lz250 hD) rfl g251 tw_1057 tw_1054 tw_1055 tw_1056 tw_46 (by decide +kernel) rfl rfl ⟨by show 0 + 1 ≤ R.frames; omega, by show 8 + (1 + 11) + 0 ≤ R.locals; omega⟩ rfl hl.1 rfl (Nat.le_of_ble_eq_true rfl) dd_LW_law_433 ⟨by omega, by omega⟩) (fun r252 M253 H locs hw254 hP hS => ?_)
                refine W.widen (k := (40 + 10 * k) + 4) (n := (10000 + 300 * k) + 310) (by omega) (by omega) ?_
                obtain ⟨hrM253, eM253⟩ := hw254
                rw [eM253] at hP
                obtain rfl : r252 = nI 0 := hrM253.trans hcz250
                refine lv_iload hx hb dd_LW_law_436 (lv_at hl 1 rfl) ?_
                refine hn_icmp_eq (tgt := 443) hx hb (by omega) (by omega) dd_LW_law_438 (by decide) (fun c255 => ?_) (fun c255 => absurd c255 (by omega))
                refine lv_iload hx hb dd_LW_law_443 (lv_at hl 1 rfl) ?_
                refine hn_if_ne (tgt := 467) hx hb (by omega) dd_LW_law_445 (by decide) (fun c256 => absurd c256 (by omega)) (fun c256 => ?_)
                refine lv_aload_n hx hb dd_LW_law_448 rfl (lv_at hl 5 rfl) ?_
                refine lv_iconst (v := nI 0) hx hb dd_LW_law_449 (by decide +kernel) ?_
                refine hm_lald (j := 0) hx hb hE.K hP 3 hw9 rfl (vp_in_nI (by omega) (by omega)) (nI_clamp (by omega)) dd_LW_law_450 ?_
                refine W.eq (g2 := F0 m 451 ls [.long 1]) (by rw [hf1]) ?_
                refine lv_iload hx hb dd_LW_law_451 (lv_at hl 0 rfl) ?_
                refine hn_if_eq (tgt := 460) hx hb (by omega) dd_LW_law_453 (by decide) (fun c257 => absurd c257 (by omega)) (fun c257 => ?_)
                refine lv_lconst (v := 1) hx hb dd_LW_law_456 (by decide +kernel) ?_
                refine lv_goto (tgt := 461) hx hb dd_LW_law_457 (by decide) ?_
                refine W.lcmp hx hb dd_LW_law_461 ?_
                refine hi_if_eq (tgt := 467) hx hb dd_LW_law_462 (by decide) (fun c258 => ?_) (fun c258 => absurd c258 (by exact fun h9 => h9 (lc_rf _)))
                refine lv_goto (tgt := 758) hx hb dd_LW_law_467 (by decide) ?_
                refine lv_iinc (v := nI (k + 4)) (lv' := [(4, .int (nI (k + 4))), (6, .int (nI 1)), (5, .int (nI 0)), (0, .ref sb), (1, .ref (N 0)), (2, .ref (P 0)), (3, .ref wq)]) hx hb dd_LW_law_758 hl (k := 6) rfl (nI_add k 4) (by decide) rfl (fun ls hl => ?_)
                refine lv_goto (tgt := 23) hx hb dd_LW_law_761 (by decide) ?_
                refine W.widen (k := (40 + 10 * (k + 4))) (n := (10000 + 300 * (k + 4))) (by omega) (by omega) ?_
                exact ih23 (k + 4) M248 (by omega) (⟨OM243, [], ex, qs, (bs ++ [((xs (k + 1)), (xs (k + 2)), true, t)]), key, hs, r, fo, ps, Iz250, Az250, Lz250, f1, hI, hT, hX, hQ, hB, hM, hR, hD, hZ, ⟨hw9, how⟩, (v_bd hV hgood), hag⟩) (by omega) _ _ _ hP hS (lv_sub hl [3, 4, 5, 6, 0] rfl)
        · refine lv_tableIn (off := 431) (tgt := 470) hx hb dd_LW_law_39 (by omega) (by omega) (by rw [sw5]; rfl) (by decide) ?_
          refine lv_aload_n hx hb dd_LW_law_470 rfl (lv_at hl 1 rfl) ?_
          refine lv_aload_n hx hb dd_LW_law_471 rfl (lv_at hl 0 rfl) ?_
          refine lv_iload hx hb dd_LW_law_472 (lv_at hl 4 rfl) ?_
          refine lv_iconst (v := nI 1) hx hb dd_LW_law_474 (by decide +kernel) ?_
          refine hn_iadd hx hb dd_LW_law_475 ?_
          refine va_sld (i := nI (k + 1)) hx hb hXs hbl hbA hS (vp_in_nI (by omega) (by omega)) dd_LW_law_476 ?_
          refine W.eq (g2 := F0 m 477 ls [.int (xs (k + 1)), .ref (N 0)]) (by rw [nI_clamp (by omega)]) ?_
          refine lv_aload_n hx hb dd_LW_law_477 rfl (lv_at hl 0 rfl) ?_
          refine lv_iload hx hb dd_LW_law_478 (lv_at hl 4 rfl) ?_
          refine lv_iconst (v := nI 2) hx hb dd_LW_law_480 (by decide +kernel) ?_
          refine hn_iadd hx hb dd_LW_law_481 ?_
          refine va_sld (i := nI (k + 2)) hx hb hXs hbl hbA hS (vp_in_nI (by omega) (by omega)) dd_LW_law_482 ?_
          refine W.eq (g2 := F0 m 483 ls [.int (xs (k + 2)), .int (xs (k + 1)), .ref (N 0)]) (by rw [nI_clamp (by omega)]) ?_
          refine lv_aload_n hx hb dd_LW_law_483 rfl (lv_at hl 0 rfl) ?_
          refine lv_iload hx hb dd_LW_law_484 (lv_at hl 4 rfl) ?_
          refine lv_iconst (v := nI 3) hx hb dd_LW_law_486 (by decide +kernel) ?_
          refine hn_iadd hx hb dd_LW_law_487 ?_
          refine va_sld (i := nI (k + 3)) hx hb hXs hbl hbA hS (vp_in_nI (by omega) (by omega)) dd_LW_law_488 ?_
          refine W.eq (g2 := F0 m 489 ls [.int (xs (k + 3)), .int (xs (k + 2)), .int (xs (k + 1)), .ref (N 0)]) (by rw [nI_clamp (by omega)]) ?_
          refine hi_if_eq (tgt := 496) hx hb dd_LW_law_489 (by decide) (fun c259 => ?_) (fun c259 => ?_)
          · refine lv_iconst (v := nI 0) hx hb dd_LW_law_496 (by decide +kernel) ?_
            refine hm_ci hS (hm_rV 3 (As := [.int (xs (k + 1)), .int (xs (k + 2)), .int (nI 0)]) (rest := []) ⟨hx, hb, hml, hown, hts⟩ hE hS hP (kc_RD_unbind l B D G Mu N O hI t hT bs hB (xs (k + 1)) (xs (k + 2)) false) rfl hI.o tw_361 tw_358 tw_359 tw_360 tw_36 (by decide +kernel) rfl rfl ⟨by show 7 + 1 ≤ R.frames; omega, by show 8 + (5 + 11) + 172 ≤ R.locals; omega⟩ rfl hl.1 rfl (Nat.le_of_ble_eq_true rfl) dd_LW_law_497 ⟨by omega, by omega⟩) (fun r260 M261 H locs hw262 hP hS => ?_)
            refine W.widen (k := (40 + 10 * k) + 2) (n := (10000 + 300 * k) + 104) (by omega) (by omega) ?_
            obtain ⟨rfl, OM261, kT, kB, kF⟩ := hw262
            have hT := kT
            have hB := kB
            have hIo := hI
            have hI : im_R D G N OM261 M261 := hI.kept kF (by unfold cg2 cg; omega)
            have hX : ex_R B D N OM261 M261 ex := hX.kept kF (fun c h9 => by unfold cg2 cg; omega)
            have hQ : qu_R B D N OM261 M261 qs := hQ.kept kF (fun c h9 => by unfold cg2 cg; omega)
            have hM : ms_R B D G N OM261 M261 key hs := hM.kept kF hIo (fun c h9 => by unfold cg2 cg; omega) (by unfold cg2 cg; omega)
            have hR : rs_R B D N OM261 M261 r := rt_R.kept hR kF (fun c h9 => by unfold cg2 cg; omega)
            have hD : mo_D B D P OM261 M261 I A L := hD.kept kF (fun c h9 => by unfold cg2 cg; omega)
            have hw9o := hw9
            have hw9 : M261 wq = some (.inl (D.1 103, 1, .inr (.inl fw))) := (kF _ _ hw9o).2.1 (by rw [how]; unfold cg2 cg; omega)
            have how : OM261 wq = 50 := (kF _ _ hw9o).1.trans how
            obtain ⟨g263, -⟩ := id hD
            refine lv_aload_n hx hb dd_LW_law_500 rfl (lv_at hl 2 rfl) ?_
            refine lv_aload_n hx hb dd_LW_law_501 rfl (lv_at hl 0 rfl) ?_
            refine lv_iload hx hb dd_LW_law_502 (lv_at hl 4 rfl) ?_
            refine lv_iconst (v := nI 1) hx hb dd_LW_law_504 (by decide +kernel) ?_
            refine hn_iadd hx hb dd_LW_law_505 ?_
            refine va_sld (i := nI (k + 1)) hx hb hXs hbl hbA hS (vp_in_nI (by omega) (by omega)) dd_LW_law_506 ?_
            refine W.eq (g2 := F0 m 507 ls [.int (xs (k + 1)), .ref (P 0), .int (nI (bz (bs.any (bd_is (xs (k + 1)) (xs (k + 2)) false t))))]) (by rw [nI_clamp (by omega)]) ?_
            refine lv_aload_n hx hb dd_LW_law_507 rfl (lv_at hl 0 rfl) ?_
            refine lv_iload hx hb dd_LW_law_508 (lv_at hl 4 rfl) ?_
            refine lv_iconst (v := nI 2) hx hb dd_LW_law_510 (by decide +kernel) ?_
            refine hn_iadd hx hb dd_LW_law_511 ?_
            refine va_sld (i := nI (k + 2)) hx hb hXs hbl hbA hS (vp_in_nI (by omega) (by omega)) dd_LW_law_512 ?_
            refine W.eq (g2 := F0 m 513 ls [.int (xs (k + 2)), .int (xs (k + 1)), .ref (P 0), .int (nI (bz (bs.any (bd_is (xs (k + 1)) (xs (k + 2)) false t))))]) (by rw [nI_clamp (by omega)]) ?_
            refine lv_aload_n hx hb dd_LW_law_513 rfl (lv_at hl 0 rfl) ?_
            refine lv_iload hx hb dd_LW_law_514 (lv_at hl 4 rfl) ?_
            refine lv_iconst (v := nI 3) hx hb dd_LW_law_516 (by decide +kernel) ?_
            refine hn_iadd hx hb dd_LW_law_517 ?_
            refine va_sld (i := nI (k + 3)) hx hb hXs hbl hbA hS (vp_in_nI (by omega) (by omega)) dd_LW_law_518 ?_
            refine W.eq (g2 := F0 m 519 ls [.int (xs (k + 3)), .int (xs (k + 2)), .int (xs (k + 1)), .ref (P 0), .int (nI (bz (bs.any (bd_is (xs (k + 1)) (xs (k + 2)) false t))))]) (by rw [nI_clamp (by omega)]) ?_
            refine hi_if_eq (tgt := 526) hx hb dd_LW_law_519 (by decide) (fun c264 => ?_) (fun c264 => ?_)
            · refine lv_iconst (v := nI 0) hx hb dd_LW_law_526 (by decide +kernel) ?_
              refine hm_ci hS (hm_rV 3 (As := [.int (xs (k + 1)), .int (xs (k + 2)), .int (nI 0)]) (rest := [.int (nI (bz (bs.any (bd_is (xs (k + 1)) (xs (k + 2)) false t))))]) ⟨hx, hb, hml, hown, hts⟩ hE hS hP (kc_MO_unbind l B D G M261 P OM261 I A L hD t ex qs bs key hs fo ps hZ hV.ends (xs (k + 1)) (xs (k + 2)) false) rfl g263 tw_1137 tw_1134 tw_1135 tw_1136 tw_46 (by decide +kernel) rfl rfl ⟨by show 2 + 1 ≤ R.frames; omega, by show 8 + (5 + 11) + 43 ≤ R.locals; omega⟩ rfl hl.1 rfl (Nat.le_of_ble_eq_true rfl) dd_LW_law_527 ⟨by omega, by omega⟩) (fun r265 M266 H locs hw267 hP hS => ?_)
              refine W.widen (k := (40 + 10 * k) + 2) (n := (10000 + 300 * k) + 104) (by omega) (by omega) ?_
              obtain ⟨rfl, Iz268, Az268, Lz268, hD, hcz268, hZ, kF⟩ := hw267
              have hIo := hI
              have hI : im_R D G N OM261 M266 := hI.kept kF (by unfold pm; omega)
              have hT : tp_R B D N OM261 M266 [] := hT.kept kF (fun c h9 => by unfold pm; omega)
              have hX : ex_R B D N OM261 M266 ex := hX.kept kF (fun c h9 => by unfold pm; omega)
              have hQ : qu_R B D N OM261 M266 qs := hQ.kept kF (fun c h9 => by unfold pm; omega)
              have hB : bi_R B D G N OM261 M266 (bs.eraseP (bd_is (xs (k + 1)) (xs (k + 2)) false t)) := hB.kept kF hIo (fun c h9 => by unfold pm; omega) (by unfold pm; omega)
              have hM : ms_R B D G N OM261 M266 key hs := hM.kept kF hIo (fun c h9 => by unfold pm; omega) (by unfold pm; omega)
              have hR : rs_R B D N OM261 M266 r := rt_R.kept hR kF (fun c h9 => by unfold pm; omega)
              have hw9o := hw9
              have hw9 : M266 wq = some (.inl (D.1 103, 1, .inr (.inl fw))) := (kF _ _ hw9o).2.1 (by rw [how]; unfold pm; omega)
              have how : OM261 wq = 50 := (kF _ _ hw9o).1.trans how
              obtain ⟨g269, -⟩ := id hD
              refine hn_icmp_eq (tgt := 758) hx hb (bz_b _) (bz_b _) dd_LW_law_530 (by decide) (fun c270 => ?_) (fun c270 => absurd c270 (by exact fun h9 => h9 rfl))
              refine lv_iinc (v := nI (k + 4)) (lv' := [(4, .int (nI (k + 4))), (0, .ref sb), (1, .ref (N 0)), (2, .ref (P 0)), (3, .ref wq)]) hx hb dd_LW_law_758 hl (k := 4) rfl (nI_add k 4) (by decide) rfl (fun ls hl => ?_)
              refine lv_goto (tgt := 23) hx hb dd_LW_law_761 (by decide) ?_
              refine W.widen (k := (40 + 10 * (k + 4))) (n := (10000 + 300 * (k + 4))) (by omega) (by omega) ?_
              exact ih23 (k + 4) M266 (by omega) (⟨OM261, [], ex, qs, (bs.eraseP (bd_is (xs (k + 1)) (xs (k + 2)) false t)), key, hs, r, fo, ps, Iz268, Az268, Lz268, fw, hI, hT, hX, hQ, hB, hM, hR, hD, hZ, ⟨hw9, how⟩, (hV.sub (fun d hd => List.mem_of_mem_eraseP hd)), hag⟩) (by omega) _ _ _ hP hS (lv_sub hl [1, 2, 3, 4, 0] rfl)
            · exfalso; omega
          · refine lv_iconst (v := nI 1) hx hb dd_LW_law_492 (by decide +kernel) ?_
            refine lv_goto (tgt := 497) hx hb dd_LW_law_493 (by decide) ?_
            refine hm_ci hS (hm_rV 3 (As := [.int (xs (k + 1)), .int (xs (k + 2)), .int (nI 1)]) (rest := []) ⟨hx, hb, hml, hown, hts⟩ hE hS hP (kc_RD_unbind l B D G Mu N O hI t hT bs hB (xs (k + 1)) (xs (k + 2)) true) rfl hI.o tw_361 tw_358 tw_359 tw_360 tw_36 (by decide +kernel) rfl rfl ⟨by show 7 + 1 ≤ R.frames; omega, by show 8 + (5 + 11) + 172 ≤ R.locals; omega⟩ rfl hl.1 rfl (Nat.le_of_ble_eq_true rfl) dd_LW_law_497 ⟨by omega, by omega⟩) (fun r271 M272 H locs hw273 hP hS => ?_)
            refine W.widen (k := (40 + 10 * k) + 2) (n := (10000 + 300 * k) + 104) (by omega) (by omega) ?_
            obtain ⟨rfl, OM272, kT, kB, kF⟩ := hw273
            have hT := kT
            have hB := kB
            have hIo := hI
            have hI : im_R D G N OM272 M272 := hI.kept kF (by unfold cg2 cg; omega)
            have hX : ex_R B D N OM272 M272 ex := hX.kept kF (fun c h9 => by unfold cg2 cg; omega)
            have hQ : qu_R B D N OM272 M272 qs := hQ.kept kF (fun c h9 => by unfold cg2 cg; omega)
            have hM : ms_R B D G N OM272 M272 key hs := hM.kept kF hIo (fun c h9 => by unfold cg2 cg; omega) (by unfold cg2 cg; omega)
            have hR : rs_R B D N OM272 M272 r := rt_R.kept hR kF (fun c h9 => by unfold cg2 cg; omega)
            have hD : mo_D B D P OM272 M272 I A L := hD.kept kF (fun c h9 => by unfold cg2 cg; omega)
            have hw9o := hw9
            have hw9 : M272 wq = some (.inl (D.1 103, 1, .inr (.inl fw))) := (kF _ _ hw9o).2.1 (by rw [how]; unfold cg2 cg; omega)
            have how : OM272 wq = 50 := (kF _ _ hw9o).1.trans how
            obtain ⟨g274, -⟩ := id hD
            refine lv_aload_n hx hb dd_LW_law_500 rfl (lv_at hl 2 rfl) ?_
            refine lv_aload_n hx hb dd_LW_law_501 rfl (lv_at hl 0 rfl) ?_
            refine lv_iload hx hb dd_LW_law_502 (lv_at hl 4 rfl) ?_
            refine lv_iconst (v := nI 1) hx hb dd_LW_law_504 (by decide +kernel) ?_
            refine hn_iadd hx hb dd_LW_law_505 ?_
            refine va_sld (i := nI (k + 1)) hx hb hXs hbl hbA hS (vp_in_nI (by omega) (by omega)) dd_LW_law_506 ?_
            refine W.eq (g2 := F0 m 507 ls [.int (xs (k + 1)), .ref (P 0), .int (nI (bz (bs.any (bd_is (xs (k + 1)) (xs (k + 2)) true t))))]) (by rw [nI_clamp (by omega)]) ?_
            refine lv_aload_n hx hb dd_LW_law_507 rfl (lv_at hl 0 rfl) ?_
            refine lv_iload hx hb dd_LW_law_508 (lv_at hl 4 rfl) ?_
            refine lv_iconst (v := nI 2) hx hb dd_LW_law_510 (by decide +kernel) ?_
            refine hn_iadd hx hb dd_LW_law_511 ?_
            refine va_sld (i := nI (k + 2)) hx hb hXs hbl hbA hS (vp_in_nI (by omega) (by omega)) dd_LW_law_512 ?_
            refine W.eq (g2 := F0 m 513 ls [.int (xs (k + 2)), .int (xs (k + 1)), .ref (P 0), .int (nI (bz (bs.any (bd_is (xs (k + 1)) (xs (k + 2)) true t))))]) (by rw [nI_clamp (by omega)]) ?_
            refine lv_aload_n hx hb dd_LW_law_513 rfl (lv_at hl 0 rfl) ?_
            refine lv_iload hx hb dd_LW_law_514 (lv_at hl 4 rfl) ?_
            refine lv_iconst (v := nI 3) hx hb dd_LW_law_516 (by decide +kernel) ?_
            refine hn_iadd hx hb dd_LW_law_517 ?_
            refine va_sld (i := nI (k + 3)) hx hb hXs hbl hbA hS (vp_in_nI (by omega) (by omega)) dd_LW_law_518 ?_
            refine W.eq (g2 := F0 m 519 ls [.int (xs (k + 3)), .int (xs (k + 2)), .int (xs (k + 1)), .ref (P 0), .int (nI (bz (bs.any (bd_is (xs (k + 1)) (xs (k + 2)) true t))))]) (by rw [nI_clamp (by omega)]) ?_
            refine hi_if_eq (tgt := 526) hx hb dd_LW_law_519 (by decide) (fun c275 => ?_) (fun c275 => ?_)
            · exfalso; omega
            · refine lv_iconst (v := nI 1) hx hb dd_LW_law_522 (by decide +kernel) ?_
              refine lv_goto (tgt := 527) hx hb dd_LW_law_523 (by decide) ?_
              refine hm_ci hS (hm_rV 3 (As := [.int (xs (k + 1)), .int (xs (k + 2)), .int (nI 1)]) (rest := [.int (nI (bz (bs.any (bd_is (xs (k + 1)) (xs (k + 2)) true t))))]) ⟨hx, hb, hml, hown, hts⟩ hE hS hP (kc_MO_unbind l B D G M272 P OM272 I A L hD t ex qs bs key hs fo ps hZ hV.ends (xs (k + 1)) (xs (k + 2)) true) rfl g274 tw_1137 tw_1134 tw_1135 tw_1136 tw_46 (by decide +kernel) rfl rfl ⟨by show 2 + 1 ≤ R.frames; omega, by show 8 + (5 + 11) + 43 ≤ R.locals; omega⟩ rfl hl.1 rfl (Nat.le_of_ble_eq_true rfl) dd_LW_law_527 ⟨by omega, by omega⟩) (fun r276 M277 H locs hw278 hP hS => ?_)
              refine W.widen (k := (40 + 10 * k) + 2) (n := (10000 + 300 * k) + 104) (by omega) (by omega) ?_
              obtain ⟨rfl, Iz279, Az279, Lz279, hD, hcz279, hZ, kF⟩ := hw278
              have hIo := hI
              have hI : im_R D G N OM272 M277 := hI.kept kF (by unfold pm; omega)
              have hT : tp_R B D N OM272 M277 [] := hT.kept kF (fun c h9 => by unfold pm; omega)
              have hX : ex_R B D N OM272 M277 ex := hX.kept kF (fun c h9 => by unfold pm; omega)
              have hQ : qu_R B D N OM272 M277 qs := hQ.kept kF (fun c h9 => by unfold pm; omega)
              have hB : bi_R B D G N OM272 M277 (bs.eraseP (bd_is (xs (k + 1)) (xs (k + 2)) true t)) := hB.kept kF hIo (fun c h9 => by unfold pm; omega) (by unfold pm; omega)
              have hM : ms_R B D G N OM272 M277 key hs := hM.kept kF hIo (fun c h9 => by unfold pm; omega) (by unfold pm; omega)
              have hR : rs_R B D N OM272 M277 r := rt_R.kept hR kF (fun c h9 => by unfold pm; omega)
              have hw9o := hw9
              have hw9 : M277 wq = some (.inl (D.1 103, 1, .inr (.inl fw))) := (kF _ _ hw9o).2.1 (by rw [how]; unfold pm; omega)
              have how : OM272 wq = 50 := (kF _ _ hw9o).1.trans how
              obtain ⟨g280, -⟩ := id hD
              refine hn_icmp_eq (tgt := 758) hx hb (bz_b _) (bz_b _) dd_LW_law_530 (by decide) (fun c281 => ?_) (fun c281 => absurd c281 (by exact fun h9 => h9 rfl))
              refine lv_iinc (v := nI (k + 4)) (lv' := [(4, .int (nI (k + 4))), (0, .ref sb), (1, .ref (N 0)), (2, .ref (P 0)), (3, .ref wq)]) hx hb dd_LW_law_758 hl (k := 4) rfl (nI_add k 4) (by decide) rfl (fun ls hl => ?_)
              refine lv_goto (tgt := 23) hx hb dd_LW_law_761 (by decide) ?_
              refine W.widen (k := (40 + 10 * (k + 4))) (n := (10000 + 300 * (k + 4))) (by omega) (by omega) ?_
              exact ih23 (k + 4) M277 (by omega) (⟨OM272, [], ex, qs, (bs.eraseP (bd_is (xs (k + 1)) (xs (k + 2)) true t)), key, hs, r, fo, ps, Iz279, Az279, Lz279, fw, hI, hT, hX, hQ, hB, hM, hR, hD, hZ, ⟨hw9, how⟩, (hV.sub (fun d hd => List.mem_of_mem_eraseP hd)), hag⟩) (by omega) _ _ _ hP hS (lv_sub hl [1, 2, 3, 4, 0] rfl)
        · refine lv_tableIn (off := 496) (tgt := 535) hx hb dd_LW_law_39 (by omega) (by omega) (by rw [sw5]; rfl) (by decide) ?_
          refine lv_aload_n hx hb dd_LW_law_535 rfl (lv_at hl 1 rfl) ?_
          refine hm_cv hS (hm_rV 0 (As := []) (rest := []) ⟨hx, hb, hml, hown, hts⟩ hE hS hP (kc_RD_message l B D G Mu N O hI t hT key hs hM) rfl hI.o tw_599 tw_596 tw_597 tw_598 tw_36 (by decide +kernel) rfl rfl ⟨by show 7 + 1 ≤ R.frames; omega, by show 8 + (1 + 11) + 172 ≤ R.locals; omega⟩ rfl hl.1 rfl (Nat.le_of_ble_eq_true rfl) dd_LW_law_536 ⟨by omega, by omega⟩) (fun M283 H locs hw284 hP hS => ?_)
          refine W.widen (k := (40 + 10 * k) + 2) (n := (10000 + 300 * k) + 104) (by omega) (by omega) ?_
          obtain ⟨OM283, kT, kM, kF⟩ := hw284
          have hT := kT
          have hM := kM
          have hIo := hI
          have hI : im_R D G N OM283 M283 := hI.kept kF (by unfold cg2 cg; omega)
          have hX : ex_R B D N OM283 M283 ex := hX.kept kF (fun c h9 => by unfold cg2 cg; omega)
          have hQ : qu_R B D N OM283 M283 qs := hQ.kept kF (fun c h9 => by unfold cg2 cg; omega)
          have hB : bi_R B D G N OM283 M283 bs := hB.kept kF hIo (fun c h9 => by unfold cg2 cg; omega) (by unfold cg2 cg; omega)
          have hR : rs_R B D N OM283 M283 r := rt_R.kept hR kF (fun c h9 => by unfold cg2 cg; omega)
          have hD : mo_D B D P OM283 M283 I A L := hD.kept kF (fun c h9 => by unfold cg2 cg; omega)
          have hw9o := hw9
          have hw9 : M283 wq = some (.inl (D.1 103, 1, .inr (.inl fw))) := (kF _ _ hw9o).2.1 (by rw [how]; unfold cg2 cg; omega)
          have how : OM283 wq = 50 := (kF _ _ hw9o).1.trans how
          obtain ⟨g285, -⟩ := id hD
          refine lv_aload_n hx hb dd_LW_law_539 rfl (lv_at hl 2 rfl) ?_
          refine hm_cv hS (hm_rV 0 (As := []) (rest := []) ⟨hx, hb, hml, hown, hts⟩ hE hS hP (kc_MO_message l B D G M283 P OM283 I A L hD t ex qs bs key hs fo ps hZ ) rfl g285 tw_1141 tw_1138 tw_1139 tw_1140 tw_46 (by decide +kernel) rfl rfl ⟨by show 0 + 1 ≤ R.frames; omega, by show 8 + (2 + 11) + 0 ≤ R.locals; omega⟩ rfl hl.1 rfl (Nat.le_of_ble_eq_true rfl) dd_LW_law_540 ⟨by omega, by omega⟩) (fun M287 H locs hw288 hP hS => ?_)
          refine W.widen (k := (40 + 10 * k) + 2) (n := (10000 + 300 * k) + 104) (by omega) (by omega) ?_
          obtain ⟨Iz289, Az289, Lz289, hD, hcz289, hZ, kF⟩ := hw288
          have hIo := hI
          have hI : im_R D G N OM283 M287 := hI.kept kF (by unfold pm; omega)
          have hT : tp_R B D N OM283 M287 [] := hT.kept kF (fun c h9 => by unfold pm; omega)
          have hX : ex_R B D N OM283 M287 ex := hX.kept kF (fun c h9 => by unfold pm; omega)
          have hQ : qu_R B D N OM283 M287 qs := hQ.kept kF (fun c h9 => by unfold pm; omega)
          have hB : bi_R B D G N OM283 M287 bs := hB.kept kF hIo (fun c h9 => by unfold pm; omega) (by unfold pm; omega)
          have hM : ms_R B D G N OM283 M287 t [] := hM.kept kF hIo (fun c h9 => by unfold pm; omega) (by unfold pm; omega)
          have hR : rs_R B D N OM283 M287 r := rt_R.kept hR kF (fun c h9 => by unfold pm; omega)
          have hw9o := hw9
          have hw9 : M287 wq = some (.inl (D.1 103, 1, .inr (.inl fw))) := (kF _ _ hw9o).2.1 (by rw [how]; unfold pm; omega)
          have how : OM283 wq = 50 := (kF _ _ hw9o).1.trans how
          obtain ⟨g290, -⟩ := id hD
          refine lv_goto (tgt := 758) hx hb dd_LW_law_543 (by decide) ?_
          refine lv_iinc (v := nI (k + 4)) (lv' := [(4, .int (nI (k + 4))), (0, .ref sb), (1, .ref (N 0)), (2, .ref (P 0)), (3, .ref wq)]) hx hb dd_LW_law_758 hl (k := 4) rfl (nI_add k 4) (by decide) rfl (fun ls hl => ?_)
          refine lv_goto (tgt := 23) hx hb dd_LW_law_761 (by decide) ?_
          refine W.widen (k := (40 + 10 * (k + 4))) (n := (10000 + 300 * (k + 4))) (by omega) (by omega) ?_
          exact ih23 (k + 4) M287 (by omega) (⟨OM283, [], ex, qs, bs, t, [], r, fo, ps, Iz289, Az289, Lz289, fw, hI, hT, hX, hQ, hB, hM, hR, hD, hZ, ⟨hw9, how⟩, hV, hag⟩) (by omega) _ _ _ hP hS (lv_sub hl [1, 2, 3, 4, 0] rfl)
        · refine lv_tableIn (off := 507) (tgt := 546) hx hb dd_LW_law_39 (by omega) (by omega) (by rw [sw5]; rfl) (by decide) ?_
          refine lv_aload_n hx hb dd_LW_law_546 rfl (lv_at hl 1 rfl) ?_
          refine hm_ci hS (hm_rV 0 (As := []) (rest := []) ⟨hx, hb, hml, hown, hts⟩ hE hS hP (kc_RD_header l B D G Mu N O hI t hT key hs hM) rfl hI.o tw_611 tw_608 tw_609 tw_610 tw_36 (by decide +kernel) rfl rfl ⟨by show 8 + 1 ≤ R.frames; omega, by show 8 + (3 + 11) + 194 ≤ R.locals; omega⟩ rfl hl.1 rfl (Nat.le_of_ble_eq_true rfl) dd_LW_law_547 ⟨by omega, by omega⟩) (fun r291 M292 H locs hw293 hP hS => ?_)
          refine W.widen (k := (40 + 10 * k) + 8) (n := (10000 + 300 * k) + 600) (by omega) (by omega) ?_
          obtain ⟨rfl, OM292, kT, kM, kF⟩ := hw293
          have hT := kT
          have hM := kM
          have hIo := hI
          have hI : im_R D G N OM292 M292 := hI.kept kF (by unfold cg2 cg; omega)
          have hX : ex_R B D N OM292 M292 ex := hX.kept kF (fun c h9 => by unfold cg2 cg; omega)
          have hQ : qu_R B D N OM292 M292 qs := hQ.kept kF (fun c h9 => by unfold cg2 cg; omega)
          have hB : bi_R B D G N OM292 M292 bs := hB.kept kF hIo (fun c h9 => by unfold cg2 cg; omega) (by unfold cg2 cg; omega)
          have hR : rs_R B D N OM292 M292 r := rt_R.kept hR kF (fun c h9 => by unfold cg2 cg; omega)
          have hD : mo_D B D P OM292 M292 I A L := hD.kept kF (fun c h9 => by unfold cg2 cg; omega)
          have hw9o := hw9
          have hw9 : M292 wq = some (.inl (D.1 103, 1, .inr (.inl fw))) := (kF _ _ hw9o).2.1 (by rw [how]; unfold cg2 cg; omega)
          have how : OM292 wq = 50 := (kF _ _ hw9o).1.trans how
          obtain ⟨g294, -⟩ := id hD
          refine lv_aload_n hx hb dd_LW_law_550 rfl (lv_at hl 2 rfl) ?_
          refine hm_ci hS (hm_rV 0 (As := []) (rest := [.int (nI (bz (hd_b t hs)))]) ⟨hx, hb, hml, hown, hts⟩ hE hS hP (kc_MO_header l B D G M292 P OM292 I A L hD t ex qs bs key hs fo ps hZ ) rfl g294 tw_1145 tw_1142 tw_1143 tw_1144 tw_46 (by decide +kernel) rfl rfl ⟨by show 3 + 1 ≤ R.frames; omega, by show 8 + (7 + 11) + 64 ≤ R.locals; omega⟩ rfl hl.1 rfl (Nat.le_of_ble_eq_true rfl) dd_LW_law_551 ⟨by omega, by omega⟩) (fun r295 M296 H locs hw297 hP hS => ?_)
          refine W.widen (k := (40 + 10 * k) + 8) (n := (10000 + 300 * k) + 600) (by omega) (by omega) ?_
          obtain ⟨rfl, Iz298, Az298, Lz298, hD, hcz298, hZ, kF⟩ := hw297
          have hIo := hI
          have hI : im_R D G N OM292 M296 := hI.kept kF (by unfold pm; omega)
          have hT : tp_R B D N OM292 M296 [] := hT.kept kF (fun c h9 => by unfold pm; omega)
          have hX : ex_R B D N OM292 M296 ex := hX.kept kF (fun c h9 => by unfold pm; omega)
          have hQ : qu_R B D N OM292 M296 qs := hQ.kept kF (fun c h9 => by unfold pm; omega)
          have hB : bi_R B D G N OM292 M296 bs := hB.kept kF hIo (fun c h9 => by unfold pm; omega) (by unfold pm; omega)
          have hM : ms_R B D G N OM292 M296 key (hd_h t hs) := hM.kept kF hIo (fun c h9 => by unfold pm; omega) (by unfold pm; omega)
          have hR : rs_R B D N OM292 M296 r := rt_R.kept hR kF (fun c h9 => by unfold pm; omega)
          have hw9o := hw9
          have hw9 : M296 wq = some (.inl (D.1 103, 1, .inr (.inl fw))) := (kF _ _ hw9o).2.1 (by rw [how]; unfold pm; omega)
          have how : OM292 wq = 50 := (kF _ _ hw9o).1.trans how
          obtain ⟨g299, -⟩ := id hD
          refine hn_icmp_eq (tgt := 758) hx hb (bz_b _) (bz_b _) dd_LW_law_554 (by decide) (fun c300 => ?_) (fun c300 => absurd c300 (by exact fun h9 => h9 rfl))
          refine lv_iinc (v := nI (k + 4)) (lv' := [(4, .int (nI (k + 4))), (0, .ref sb), (1, .ref (N 0)), (2, .ref (P 0)), (3, .ref wq)]) hx hb dd_LW_law_758 hl (k := 4) rfl (nI_add k 4) (by decide) rfl (fun ls hl => ?_)
          refine lv_goto (tgt := 23) hx hb dd_LW_law_761 (by decide) ?_
          refine W.widen (k := (40 + 10 * (k + 4))) (n := (10000 + 300 * (k + 4))) (by omega) (by omega) ?_
          exact ih23 (k + 4) M296 (by omega) (⟨OM292, [], ex, qs, bs, key, (hd_h t hs), r, fo, ps, Iz298, Az298, Lz298, fw, hI, hT, hX, hQ, hB, hM, hR, hD, hZ, ⟨hw9, how⟩, hV, hag⟩) (by omega) _ _ _ hP hS (lv_sub hl [1, 2, 3, 4, 0] rfl)
        · refine lv_tableIn (off := 520) (tgt := 559) hx hb dd_LW_law_39 (by omega) (by omega) (by rw [sw5]; rfl) (by decide) ?_
          refine lv_aload_n hx hb dd_LW_law_559 rfl (lv_at hl 1 rfl) ?_
          refine lv_aload_n hx hb dd_LW_law_560 rfl (lv_at hl 0 rfl) ?_
          refine lv_iload hx hb dd_LW_law_561 (lv_at hl 4 rfl) ?_
          refine lv_iconst (v := nI 1) hx hb dd_LW_law_563 (by decide +kernel) ?_
          refine hn_iadd hx hb dd_LW_law_564 ?_
          refine va_sld (i := nI (k + 1)) hx hb hXs hbl hbA hS (vp_in_nI (by omega) (by omega)) dd_LW_law_565 ?_
          refine W.eq (g2 := F0 m 566 ls [.int (xs (k + 1)), .ref (N 0)]) (by rw [nI_clamp (by omega)]) ?_
          refine lv_aload_n hx hb dd_LW_law_566 rfl (lv_at hl 3 rfl) ?_
          rcases (lr_case ex (xs (k + 1))) with hx8 | hx8
          · refine hm_ci hS (hm_rSH 3 (As := [.ref (N 0), .int (xs (k + 1)), .ref wq]) (rest := []) ⟨hx, hb, hml, hown, hts⟩ hE hS hP (kc_LR0 l B D G Mu N O hI ex hX bs hB key hs hM r hR wq fw hw9 hA_w9 how hZ.2.2.2.2.1.2.2.1 hV.2 (xs (k + 1)) hx8) tq_route tw_889 tw_890 tw_35 (by decide +kernel) rfl rfl ⟨by show 10 + 1 ≤ R.frames; omega, by show 8 + (4 + 11) + 237 ≤ R.locals; omega⟩ rfl hl.1 rfl (Nat.le_of_ble_eq_true rfl) dd_LW_law_567 ⟨by omega, by omega⟩) (fun r301 M302 H locs hw303 hP hS => ?_)
            refine W.widen (k := (40 + 10 * k)) (n := (10000 + 300 * k)) (by omega) (by omega) ?_
            obtain ⟨rfl, r1, OM302, f1, hf1, kw, krf, kR, kF⟩ := hw303
            have hw9o := hw9
            have hR := kR
            have hw9 := kw
            have hIo := hI
            have hI : im_R D G N OM302 M302 := hI.kept kF (by unfold cw cg pw; omega)
            have hT : tp_R B D N OM302 M302 t := hT.kept kF (fun c h9 => by unfold cw cg pw; omega)
            have hX : ex_R B D N OM302 M302 ex := hX.kept kF (fun c h9 => by unfold cw cg pw; omega)
            have hQ : qu_R B D N OM302 M302 qs := hQ.kept kF (fun c h9 => by unfold cw cg pw; omega)
            have hB : bi_R B D G N OM302 M302 bs := hB.kept kF hIo (fun c h9 => by unfold cw cg pw; omega) (by unfold cw cg pw; omega)
            have hM : ms_R B D G N OM302 M302 key hs := hM.kept kF hIo (fun c h9 => by unfold cw cg pw; omega) (by unfold cw cg pw; omega)
            have hD : mo_D B D P OM302 M302 I A L := hD.kept kF (fun c h9 => by unfold cw cg pw; omega)
            have how : OM302 wq = 50 := (kF _ _ hw9o).1.trans how
            obtain ⟨g304, -⟩ := id hD
            refine lv_istore (lv' := [(5, .int (nI 0)), (0, .ref sb), (1, .ref (N 0)), (2, .ref (P 0)), (3, .ref wq), (4, .int (nI k))]) hx hb dd_LW_law_570 hl (by decide) rfl (fun ls hl => ?_)
            refine lv_aload_n hx hb dd_LW_law_572 rfl (lv_at hl 3 rfl) ?_
            refine lv_aload_n hx hb dd_LW_law_573 rfl (lv_at hl 1 rfl) ?_
            refine lv_iload hx hb dd_LW_law_574 (lv_at hl 5 rfl) ?_
            refine lv_iconst (v := nI 1) hx hb dd_LW_law_576 (by decide +kernel) ?_
            refine hn_iadd hx hb dd_LW_law_577 ?_
            refine va_sld (i := nI (k + 1)) hx hb hXs hbl hbA hS (vp_in_nI (by omega) (by omega)) dd_LW_law_578 ?_
            refine W.eq (g2 := F0 m 579 ls [.int (xs (k + 1)), .ref (P 0)]) (by rw [nI_clamp (by omega)]) ?_
            refine hm_ci hS (hm_rV 1 (As := [.int (xs (k + 1))]) (rest := []) ⟨hx, hb, hml, hown, hts⟩ hE hS hP (kc_MO_route l B D G M302 P OM302 I A L hD t ex qs bs key hs fo ps hZ hV.W hV.W2 (xs (k + 1)) hx8) rfl g304 tw_1153 tw_1150 tw_1151 tw_1152 tw_46 (by decide +kernel) rfl rfl ⟨by show 5 + 1 ≤ R.frames; omega, by show 8 + (5 + 11) + 116 ≤ R.locals; omega⟩ rfl hl.1 rfl (Nat.le_of_ble_eq_true rfl) dd_LW_law_579 ⟨by omega, by omega⟩) (fun r305 M306 H locs hw307 hP hS => ?_)
            refine W.widen (k := (40 + 10 * k)) (n := (10000 + 300 * k)) (by omega) (by omega) ?_
            obtain ⟨Sz308, Fz308, hrpz308, rfl, Iz308, Az308, Lz308, hD, hcz308, hZ, kF⟩ := hw307
            have hag2 := (krf.P hx8 (fun d hd => th_in (hV.1 d hd).1) hV.W2).uni hrpz308
            have hqn : qu_n r1.2.2 = qu_n Fz308 := qu_ext (fun k hk => (hag2 k hk).2)
            have hIo := hI
            have hI : im_R D G N OM302 M306 := hI.kept kF (by unfold pm; omega)
            have hT : tp_R B D N OM302 M306 t := hT.kept kF (fun c h9 => by unfold pm; omega)
            have hX : ex_R B D N OM302 M306 ex := hX.kept kF (fun c h9 => by unfold pm; omega)
            have hQ : qu_R B D N OM302 M306 qs := hQ.kept kF (fun c h9 => by unfold pm; omega)
            have hB : bi_R B D G N OM302 M306 bs := hB.kept kF hIo (fun c h9 => by unfold pm; omega) (by unfold pm; omega)
            have hM : ms_R B D G N OM302 M306 key hs := hM.kept kF hIo (fun c h9 => by unfold pm; omega) (by unfold pm; omega)
            have hR : rs_R B D N OM302 M306 r1 := rt_R.kept hR kF (fun c h9 => by unfold pm; omega)
            have hw9o := hw9
            have hw9 : M306 wq = some (.inl (D.1 103, 1, .inr (.inl f1))) := (kF _ _ hw9o).2.1 (by rw [how]; unfold pm; omega)
            have how : OM302 wq = 50 := (kF _ _ hw9o).1.trans how
            obtain ⟨g309, -⟩ := id hD
            refine lv_istore (lv' := [(6, .int (nI (qu_n Fz308))), (5, .int (nI 0)), (0, .ref sb), (1, .ref (N 0)), (2, .ref (P 0)), (3, .ref wq), (4, .int (nI k))]) hx hb dd_LW_law_582 hl (by decide) rfl (fun ls hl => ?_)
            refine lv_aload_n hx hb dd_LW_law_584 rfl (lv_at hl 4 rfl) ?_
            refine hm_ci hS (hm_rV 0 (As := []) (rest := []) ⟨hx, hb, hml, hown, hts⟩ hE hS hP (kc_MO_thrown l B D G M306 P OM302 Iz308 Az308 Lz308 hD) rfl g309 tw_1057 tw_1054 tw_1055 tw_1056 tw_46 (by decide +kernel) rfl rfl ⟨by show 0 + 1 ≤ R.frames; omega, by show 8 + (1 + 11) + 0 ≤ R.locals; omega⟩ rfl hl.1 rfl (Nat.le_of_ble_eq_true rfl) dd_LW_law_585 ⟨by omega, by omega⟩) (fun r310 M311 H locs hw312 hP hS => ?_)
            refine W.widen (k := (40 + 10 * k)) (n := (10000 + 300 * k)) (by omega) (by omega) ?_
            obtain ⟨hrM311, eM311⟩ := hw312
            rw [eM311] at hP
            obtain rfl : r310 = nI 0 := hrM311.trans hcz308
            refine lv_iload hx hb dd_LW_law_588 (lv_at hl 1 rfl) ?_
            refine hn_icmp_eq (tgt := 595) hx hb (by omega) (by omega) dd_LW_law_590 (by decide) (fun c313 => ?_) (fun c313 => absurd c313 (by omega))
            refine lv_iload hx hb dd_LW_law_595 (lv_at hl 1 rfl) ?_
            refine hn_if_ne (tgt := 612) hx hb (by omega) dd_LW_law_597 (by decide) (fun c314 => absurd c314 (by omega)) (fun c314 => ?_)
            refine lv_aload_n hx hb dd_LW_law_600 rfl (lv_at hl 5 rfl) ?_
            refine lv_iconst (v := nI 0) hx hb dd_LW_law_601 (by decide +kernel) ?_
            refine hm_lald (j := 0) hx hb hE.K hP 3 hw9 rfl (vp_in_nI (by omega) (by omega)) (nI_clamp (by omega)) dd_LW_law_602 ?_
            refine W.eq (g2 := F0 m 603 ls [.long ((nI (qu_n r1.2.2)).toInt64)]) (by rw [hf1]) ?_
            refine lv_iload hx hb dd_LW_law_603 (lv_at hl 0 rfl) ?_
            refine lv_i2l hx hb dd_LW_law_605 rfl ?_
            refine lv_topl (fun w315 ew315 => ?_)
            refine W.lcmp hx hb dd_LW_law_606 ?_
            refine hi_if_eq (tgt := 612) hx hb dd_LW_law_607 (by decide) (fun c316 => ?_) (fun c316 => absurd c316 (by exact fun h9 => h9 (by rw [ew315, hqn]; exact lc_rf _)))
            refine lv_goto (tgt := 758) hx hb dd_LW_law_612 (by decide) ?_
            refine lv_iinc (v := nI (k + 4)) (lv' := [(4, .int (nI (k + 4))), (6, .int (nI (qu_n Fz308))), (5, .int (nI 0)), (0, .ref sb), (1, .ref (N 0)), (2, .ref (P 0)), (3, .ref wq)]) hx hb dd_LW_law_758 hl (k := 6) rfl (nI_add k 4) (by decide) rfl (fun ls hl => ?_)
            refine lv_goto (tgt := 23) hx hb dd_LW_law_761 (by decide) ?_
            refine W.widen (k := (40 + 10 * (k + 4))) (n := (10000 + 300 * (k + 4))) (by omega) (by omega) ?_
            exact ih23 (k + 4) M306 (by omega) (⟨OM302, t, ex, qs, bs, key, hs, r1, Fz308, Sz308, Iz308, Az308, Lz308, f1, hI, hT, hX, hQ, hB, hM, hR, hD, hZ, ⟨hw9, how⟩, hV, hag2⟩) (by omega) _ _ _ hP hS (lv_sub hl [3, 4, 5, 6, 0] rfl)
          · refine hm_ci hS (hm_rSH 3 (As := [.ref (N 0), .int (xs (k + 1)), .ref wq]) (rest := []) ⟨hx, hb, hml, hown, hts⟩ hE hS hP (kc_LR1 l B D G Mu hfl N O hI ex hX wq fw hw9 hA_w9 how (xs (k + 1)) hx8) tq_route tw_889 tw_890 tw_35 (by decide +kernel) rfl rfl ⟨by show 7 + 1 ≤ R.frames; omega, by show 8 + (4 + 11) + 112 ≤ R.locals; omega⟩ rfl hl.1 rfl (Nat.le_of_ble_eq_true rfl) dd_LW_law_567 ⟨by omega, by omega⟩) (fun r317 M318 H locs hw319 hP hS => ?_)
            refine W.widen (k := (40 + 10 * k) + 1) (n := (10000 + 300 * k) + 6) (by omega) (by omega) ?_
            obtain ⟨rfl, eM318⟩ := hw319
            rw [eM318] at hP
            refine lv_istore (lv' := [(5, .int (nI 1)), (0, .ref sb), (1, .ref (N 0)), (2, .ref (P 0)), (3, .ref wq), (4, .int (nI k))]) hx hb dd_LW_law_570 hl (by decide) rfl (fun ls hl => ?_)
            refine lv_aload_n hx hb dd_LW_law_572 rfl (lv_at hl 3 rfl) ?_
            refine lv_aload_n hx hb dd_LW_law_573 rfl (lv_at hl 1 rfl) ?_
            refine lv_iload hx hb dd_LW_law_574 (lv_at hl 5 rfl) ?_
            refine lv_iconst (v := nI 1) hx hb dd_LW_law_576 (by decide +kernel) ?_
            refine hn_iadd hx hb dd_LW_law_577 ?_
            refine va_sld (i := nI (k + 1)) hx hb hXs hbl hbA hS (vp_in_nI (by omega) (by omega)) dd_LW_law_578 ?_
            refine W.eq (g2 := F0 m 579 ls [.int (xs (k + 1)), .ref (P 0)]) (by rw [nI_clamp (by omega)]) ?_
            refine hm_ci hS (hm_rV 1 (As := [.int (xs (k + 1))]) (rest := []) ⟨hx, hb, hml, hown, hts⟩ hE hS hP (kc_MO_route1 l B D G Mu P O I A L hD t ex qs bs key hs fo ps hZ (xs (k + 1)) hx8) rfl g1 tw_1153 tw_1150 tw_1151 tw_1152 tw_46 (by decide +kernel) rfl rfl ⟨by show 1 + 1 ≤ R.frames; omega, by show 8 + (5 + 11) + 21 ≤ R.locals; omega⟩ rfl hl.1 rfl (Nat.le_of_ble_eq_true rfl) dd_LW_law_579 ⟨by omega, by omega⟩) (fun r320 M321 H locs hw322 hP hS => ?_)
            refine W.widen (k := (40 + 10 * k) + 1) (n := (10000 + 300 * k) + 6) (by omega) (by omega) ?_
            obtain ⟨rfl, Iz323, Az323, Lz323, hD, hcz323, hZ, kF⟩ := hw322
            have hIo := hI
            have hI : im_R D G N O M321 := hI.kept kF (by unfold pm; omega)
            have hT : tp_R B D N O M321 t := hT.kept kF (fun c h9 => by unfold pm; omega)
            have hX : ex_R B D N O M321 ex := hX.kept kF (fun c h9 => by unfold pm; omega)
            have hQ : qu_R B D N O M321 qs := hQ.kept kF (fun c h9 => by unfold pm; omega)
            have hB : bi_R B D G N O M321 bs := hB.kept kF hIo (fun c h9 => by unfold pm; omega) (by unfold pm; omega)
            have hM : ms_R B D G N O M321 key hs := hM.kept kF hIo (fun c h9 => by unfold pm; omega) (by unfold pm; omega)
            have hR : rs_R B D N O M321 r := rt_R.kept hR kF (fun c h9 => by unfold pm; omega)
            have hw9o := hw9
            have hw9 : M321 wq = some (.inl (D.1 103, 1, .inr (.inl fw))) := (kF _ _ hw9o).2.1 (by rw [how]; unfold pm; omega)
            have how : O wq = 50 := (kF _ _ hw9o).1.trans how
            obtain ⟨g324, -⟩ := id hD
            refine lv_istore (lv' := [(6, .int (nI 0)), (5, .int (nI 1)), (0, .ref sb), (1, .ref (N 0)), (2, .ref (P 0)), (3, .ref wq), (4, .int (nI k))]) hx hb dd_LW_law_582 hl (by decide) rfl (fun ls hl => ?_)
            refine lv_aload_n hx hb dd_LW_law_584 rfl (lv_at hl 4 rfl) ?_
            refine hm_ci hS (hm_rV 0 (As := []) (rest := []) ⟨hx, hb, hml, hown, hts⟩ hE hS hP (kc_MO_thrown l B D G M321 P O Iz323 Az323 Lz323 hD) rfl g324 tw_1057 tw_1054 tw_1055 tw_1056 tw_46 (by decide +kernel) rfl rfl ⟨by show 0 + 1 ≤ R.frames; omega, by show 8 + (1 + 11) + 0 ≤ R.locals; omega⟩ rfl hl.1 rfl (Nat.le_of_ble_eq_true rfl) dd_LW_law_585 ⟨by omega, by omega⟩) (fun r325 M326 H locs hw327 hP hS => ?_)
            refine W.widen (k := (40 + 10 * k) + 1) (n := (10000 + 300 * k) + 6) (by omega) (by omega) ?_
            obtain ⟨hrM326, eM326⟩ := hw327
            rw [eM326] at hP
            obtain rfl : r325 = nI 1 := hrM326.trans hcz323
            refine lv_iload hx hb dd_LW_law_588 (lv_at hl 1 rfl) ?_
            refine hn_icmp_eq (tgt := 595) hx hb (by omega) (by omega) dd_LW_law_590 (by decide) (fun c328 => ?_) (fun c328 => absurd c328 (by omega))
            refine lv_iload hx hb dd_LW_law_595 (lv_at hl 1 rfl) ?_
            refine hn_if_ne (tgt := 612) hx hb (by omega) dd_LW_law_597 (by decide) (fun c329 => ?_) (fun c329 => absurd c329 (by omega))
            refine lv_goto (tgt := 758) hx hb dd_LW_law_612 (by decide) ?_
            refine lv_iinc (v := nI (k + 4)) (lv' := [(4, .int (nI (k + 4))), (6, .int (nI 0)), (5, .int (nI 1)), (0, .ref sb), (1, .ref (N 0)), (2, .ref (P 0)), (3, .ref wq)]) hx hb dd_LW_law_758 hl (k := 6) rfl (nI_add k 4) (by decide) rfl (fun ls hl => ?_)
            refine lv_goto (tgt := 23) hx hb dd_LW_law_761 (by decide) ?_
            refine W.widen (k := (40 + 10 * (k + 4))) (n := (10000 + 300 * (k + 4))) (by omega) (by omega) ?_
            exact ih23 (k + 4) M321 (by omega) (⟨O, t, ex, qs, bs, key, hs, r, fo, ps, Iz323, Az323, Lz323, fw, hI, hT, hX, hQ, hB, hM, hR, hD, hZ, ⟨hw9, how⟩, hV, hag⟩) (by omega) _ _ _ hP hS (lv_sub hl [3, 4, 5, 6, 0] rfl)
        · refine lv_tableIn (off := 576) (tgt := 615) hx hb dd_LW_law_39 (by omega) (by omega) (by rw [sw5]; rfl) (by decide) ?_
          refine lv_aload_n hx hb dd_LW_law_615 rfl (lv_at hl 1 rfl) ?_
          refine lv_aload_n hx hb dd_LW_law_616 rfl (lv_at hl 0 rfl) ?_
          refine lv_iload hx hb dd_LW_law_617 (lv_at hl 4 rfl) ?_
          refine lv_iconst (v := nI 1) hx hb dd_LW_law_619 (by decide +kernel) ?_
          refine hn_iadd hx hb dd_LW_law_620 ?_
          refine va_sld (i := nI (k + 1)) hx hb hXs hbl hbA hS (vp_in_nI (by omega) (by omega)) dd_LW_law_621 ?_
          refine W.eq (g2 := F0 m 622 ls [.int (xs (k + 1)), .ref (N 0)]) (by rw [nI_clamp (by omega)]) ?_
          refine lv_aload_n hx hb dd_LW_law_622 rfl (lv_at hl 3 rfl) ?_
          rcases (lf_case r.2.2 (xs (k + 1))) with hne | hne
          · have hfe : fo_r r.2.2 (xs (k + 1)) = fo_r fo (xs (k + 1)) := fo_ext (fun k hk => (hag k hk).2) _
            refine hm_ci hS (hm_rSH 3 (As := [.ref (N 0), .int (xs (k + 1)), .ref wq]) (rest := []) ⟨hx, hb, hml, hown, hts⟩ hE hS hP (kc_LF0 l B D G Mu N O hI r.1 r.2.1 r.2.2 hR wq fw hw9 hA_w9 how (xs (k + 1)) hne) tq_found tw_952 tw_953 tw_35 (by decide +kernel) rfl rfl ⟨by show 2 + 1 ≤ R.frames; omega, by show 8 + (4 + 11) + 45 ≤ R.locals; omega⟩ rfl hl.1 rfl (Nat.le_of_ble_eq_true rfl) dd_LW_law_623 ⟨by omega, by omega⟩) (fun r330 M331 H locs hw332 hP hS => ?_)
            refine W.widen (k := (40 + 10 * k)) (n := (10000 + 300 * k)) (by omega) (by omega) ?_
            obtain ⟨rfl, OM331, f1, hf1, kw, kF⟩ := hw332
            have hw9o := hw9
            have hw9 := kw
            have hIo := hI
            have hI : im_R D G N OM331 M331 := hI.kept kF (by unfold pw; omega)
            have hT : tp_R B D N OM331 M331 t := hT.kept kF (fun c h9 => by unfold pw; omega)
            have hX : ex_R B D N OM331 M331 ex := hX.kept kF (fun c h9 => by unfold pw; omega)
            have hQ : qu_R B D N OM331 M331 qs := hQ.kept kF (fun c h9 => by unfold pw; omega)
            have hB : bi_R B D G N OM331 M331 bs := hB.kept kF hIo (fun c h9 => by unfold pw; omega) (by unfold pw; omega)
            have hM : ms_R B D G N OM331 M331 key hs := hM.kept kF hIo (fun c h9 => by unfold pw; omega) (by unfold pw; omega)
            have hR : rs_R B D N OM331 M331 r := rt_R.kept hR kF (fun c h9 => by unfold pw; omega)
            have hD : mo_D B D P OM331 M331 I A L := hD.kept kF (fun c h9 => by unfold pw; omega)
            have how : OM331 wq = 50 := (kF _ _ hw9o).1.trans how
            obtain ⟨g333, -⟩ := id hD
            refine lv_istore (lv' := [(5, .int (nI 0)), (0, .ref sb), (1, .ref (N 0)), (2, .ref (P 0)), (3, .ref wq), (4, .int (nI k))]) hx hb dd_LW_law_626 hl (by decide) rfl (fun ls hl => ?_)
            refine lv_aload_n hx hb dd_LW_law_628 rfl (lv_at hl 3 rfl) ?_
            refine lv_aload_n hx hb dd_LW_law_629 rfl (lv_at hl 1 rfl) ?_
            refine lv_iload hx hb dd_LW_law_630 (lv_at hl 5 rfl) ?_
            refine lv_iconst (v := nI 1) hx hb dd_LW_law_632 (by decide +kernel) ?_
            refine hn_iadd hx hb dd_LW_law_633 ?_
            refine va_sld (i := nI (k + 1)) hx hb hXs hbl hbA hS (vp_in_nI (by omega) (by omega)) dd_LW_law_634 ?_
            refine W.eq (g2 := F0 m 635 ls [.int (xs (k + 1)), .ref (P 0)]) (by rw [nI_clamp (by omega)]) ?_
            refine hm_ci hS (hm_rV 1 (As := [.int (xs (k + 1))]) (rest := []) ⟨hx, hb, hml, hown, hts⟩ hE hS hP (kc_MO_found l B D G M331 P OM331 I A L hD t ex qs bs key hs fo ps hZ (xs (k + 1)) (by rw [← hfe]; exact hne)) rfl g333 tw_1181 tw_1178 tw_1179 tw_1180 tw_46 (by decide +kernel) rfl rfl ⟨by show 0 + 1 ≤ R.frames; omega, by show 8 + (4 + 11) + 0 ≤ R.locals; omega⟩ rfl hl.1 rfl (Nat.le_of_ble_eq_true rfl) dd_LW_law_635 ⟨by omega, by omega⟩) (fun r334 M335 H locs hw336 hP hS => ?_)
            refine W.widen (k := (40 + 10 * k)) (n := (10000 + 300 * k)) (by omega) (by omega) ?_
            obtain ⟨rfl, Iz337, Az337, Lz337, hD, hcz337, hZ, kF⟩ := hw336
            have hIo := hI
            have hI : im_R D G N OM331 M335 := hI.kept kF (by unfold pm; omega)
            have hT : tp_R B D N OM331 M335 t := hT.kept kF (fun c h9 => by unfold pm; omega)
            have hX : ex_R B D N OM331 M335 ex := hX.kept kF (fun c h9 => by unfold pm; omega)
            have hQ : qu_R B D N OM331 M335 qs := hQ.kept kF (fun c h9 => by unfold pm; omega)
            have hB : bi_R B D G N OM331 M335 bs := hB.kept kF hIo (fun c h9 => by unfold pm; omega) (by unfold pm; omega)
            have hM : ms_R B D G N OM331 M335 key hs := hM.kept kF hIo (fun c h9 => by unfold pm; omega) (by unfold pm; omega)
            have hR : rs_R B D N OM331 M335 r := rt_R.kept hR kF (fun c h9 => by unfold pm; omega)
            have hw9o := hw9
            have hw9 : M335 wq = some (.inl (D.1 103, 1, .inr (.inl f1))) := (kF _ _ hw9o).2.1 (by rw [how]; unfold pm; omega)
            have how : OM331 wq = 50 := (kF _ _ hw9o).1.trans how
            obtain ⟨g338, -⟩ := id hD
            refine lv_istore (lv' := [(6, .int (fo_r fo (xs (k + 1)))), (5, .int (nI 0)), (0, .ref sb), (1, .ref (N 0)), (2, .ref (P 0)), (3, .ref wq), (4, .int (nI k))]) hx hb dd_LW_law_638 hl (by decide) rfl (fun ls hl => ?_)
            refine lv_aload_n hx hb dd_LW_law_640 rfl (lv_at hl 4 rfl) ?_
            refine hm_ci hS (hm_rV 0 (As := []) (rest := []) ⟨hx, hb, hml, hown, hts⟩ hE hS hP (kc_MO_thrown l B D G M335 P OM331 Iz337 Az337 Lz337 hD) rfl g338 tw_1057 tw_1054 tw_1055 tw_1056 tw_46 (by decide +kernel) rfl rfl ⟨by show 0 + 1 ≤ R.frames; omega, by show 8 + (1 + 11) + 0 ≤ R.locals; omega⟩ rfl hl.1 rfl (Nat.le_of_ble_eq_true rfl) dd_LW_law_641 ⟨by omega, by omega⟩) (fun r339 M340 H locs hw341 hP hS => ?_)
            refine W.widen (k := (40 + 10 * k)) (n := (10000 + 300 * k)) (by omega) (by omega) ?_
            obtain ⟨hrM340, eM340⟩ := hw341
            rw [eM340] at hP
            obtain rfl : r339 = nI 0 := hrM340.trans hcz337
            refine lv_iload hx hb dd_LW_law_644 (lv_at hl 1 rfl) ?_
            refine hn_icmp_eq (tgt := 651) hx hb (by omega) (by omega) dd_LW_law_646 (by decide) (fun c342 => ?_) (fun c342 => absurd c342 (by omega))
            refine lv_iload hx hb dd_LW_law_651 (lv_at hl 1 rfl) ?_
            refine hn_if_ne (tgt := 668) hx hb (by omega) dd_LW_law_653 (by decide) (fun c343 => absurd c343 (by omega)) (fun c343 => ?_)
            refine lv_aload_n hx hb dd_LW_law_656 rfl (lv_at hl 5 rfl) ?_
            refine lv_iconst (v := nI 0) hx hb dd_LW_law_657 (by decide +kernel) ?_
            refine hm_lald (j := 0) hx hb hE.K hP 3 hw9 rfl (vp_in_nI (by omega) (by omega)) (nI_clamp (by omega)) dd_LW_law_658 ?_
            refine W.eq (g2 := F0 m 659 ls [.long ((fo_r r.2.2 (xs (k + 1))).toInt64)]) (by rw [hf1]) ?_
            refine lv_iload hx hb dd_LW_law_659 (lv_at hl 0 rfl) ?_
            refine lv_i2l hx hb dd_LW_law_661 rfl ?_
            refine lv_topl (fun w344 ew344 => ?_)
            refine W.lcmp hx hb dd_LW_law_662 ?_
            refine hi_if_eq (tgt := 668) hx hb dd_LW_law_663 (by decide) (fun c345 => ?_) (fun c345 => absurd c345 (by exact fun h9 => h9 (by rw [ew344, hfe]; exact lc_rf _)))
            refine lv_goto (tgt := 758) hx hb dd_LW_law_668 (by decide) ?_
            refine lv_iinc (v := nI (k + 4)) (lv' := [(4, .int (nI (k + 4))), (6, .int (fo_r fo (xs (k + 1)))), (5, .int (nI 0)), (0, .ref sb), (1, .ref (N 0)), (2, .ref (P 0)), (3, .ref wq)]) hx hb dd_LW_law_758 hl (k := 6) rfl (nI_add k 4) (by decide) rfl (fun ls hl => ?_)
            refine lv_goto (tgt := 23) hx hb dd_LW_law_761 (by decide) ?_
            refine W.widen (k := (40 + 10 * (k + 4))) (n := (10000 + 300 * (k + 4))) (by omega) (by omega) ?_
            exact ih23 (k + 4) M335 (by omega) (⟨OM331, t, ex, qs, bs, key, hs, r, fo, ps, Iz337, Az337, Lz337, f1, hI, hT, hX, hQ, hB, hM, hR, hD, hZ, ⟨hw9, how⟩, hV, hag⟩) (by omega) _ _ _ hP hS (lv_sub hl [3, 4, 5, 6, 0] rfl)
          · have hfe : fo_r r.2.2 (xs (k + 1)) = fo_r fo (xs (k + 1)) := fo_ext (fun k hk => (hag k hk).2) _
            refine hm_ci hS (hm_rSH 3 (As := [.ref (N 0), .int (xs (k + 1)), .ref wq]) (rest := []) ⟨hx, hb, hml, hown, hts⟩ hE hS hP (kc_LF1 l B D G Mu hfl N O hI r.1 r.2.1 r.2.2 hR wq fw hw9 hA_w9 how (xs (k + 1)) hne) tq_found tw_952 tw_953 tw_35 (by decide +kernel) rfl rfl ⟨by show 7 + 1 ≤ R.frames; omega, by show 8 + (4 + 11) + 112 ≤ R.locals; omega⟩ rfl hl.1 rfl (Nat.le_of_ble_eq_true rfl) dd_LW_law_623 ⟨by omega, by omega⟩) (fun r346 M347 H locs hw348 hP hS => ?_)
            refine W.widen (k := (40 + 10 * k) + 1) (n := (10000 + 300 * k) + 6) (by omega) (by omega) ?_
            obtain ⟨rfl, eM347⟩ := hw348
            rw [eM347] at hP
            refine lv_istore (lv' := [(5, .int (nI 1)), (0, .ref sb), (1, .ref (N 0)), (2, .ref (P 0)), (3, .ref wq), (4, .int (nI k))]) hx hb dd_LW_law_626 hl (by decide) rfl (fun ls hl => ?_)
            refine lv_aload_n hx hb dd_LW_law_628 rfl (lv_at hl 3 rfl) ?_
            refine lv_aload_n hx hb dd_LW_law_629 rfl (lv_at hl 1 rfl) ?_
            refine lv_iload hx hb dd_LW_law_630 (lv_at hl 5 rfl) ?_
            refine lv_iconst (v := nI 1) hx hb dd_LW_law_632 (by decide +kernel) ?_
            refine hn_iadd hx hb dd_LW_law_633 ?_
            refine va_sld (i := nI (k + 1)) hx hb hXs hbl hbA hS (vp_in_nI (by omega) (by omega)) dd_LW_law_634 ?_
            refine W.eq (g2 := F0 m 635 ls [.int (xs (k + 1)), .ref (P 0)]) (by rw [nI_clamp (by omega)]) ?_
            refine hm_ci hS (hm_rV 1 (As := [.int (xs (k + 1))]) (rest := []) ⟨hx, hb, hml, hown, hts⟩ hE hS hP (kc_MO_found1 l B D G Mu P O I A L hD t ex qs bs key hs fo ps hZ (xs (k + 1)) (by rw [← hfe]; exact hne)) rfl g1 tw_1181 tw_1178 tw_1179 tw_1180 tw_46 (by decide +kernel) rfl rfl ⟨by show 1 + 1 ≤ R.frames; omega, by show 8 + (4 + 11) + 21 ≤ R.locals; omega⟩ rfl hl.1 rfl (Nat.le_of_ble_eq_true rfl) dd_LW_law_635 ⟨by omega, by omega⟩) (fun r349 M350 H locs hw351 hP hS => ?_)
            refine W.widen (k := (40 + 10 * k) + 1) (n := (10000 + 300 * k) + 6) (by omega) (by omega) ?_
            obtain ⟨rfl, Iz352, Az352, Lz352, hD, hcz352, hZ, kF⟩ := hw351
            have hIo := hI
            have hI : im_R D G N O M350 := hI.kept kF (by unfold pm; omega)
            have hT : tp_R B D N O M350 t := hT.kept kF (fun c h9 => by unfold pm; omega)
            have hX : ex_R B D N O M350 ex := hX.kept kF (fun c h9 => by unfold pm; omega)
            have hQ : qu_R B D N O M350 qs := hQ.kept kF (fun c h9 => by unfold pm; omega)
            have hB : bi_R B D G N O M350 bs := hB.kept kF hIo (fun c h9 => by unfold pm; omega) (by unfold pm; omega)
            have hM : ms_R B D G N O M350 key hs := hM.kept kF hIo (fun c h9 => by unfold pm; omega) (by unfold pm; omega)
            have hR : rs_R B D N O M350 r := rt_R.kept hR kF (fun c h9 => by unfold pm; omega)
            have hw9o := hw9
            have hw9 : M350 wq = some (.inl (D.1 103, 1, .inr (.inl fw))) := (kF _ _ hw9o).2.1 (by rw [how]; unfold pm; omega)
            have how : O wq = 50 := (kF _ _ hw9o).1.trans how
            obtain ⟨g353, -⟩ := id hD
            refine lv_istore (lv' := [(6, .int (nI 0)), (5, .int (nI 1)), (0, .ref sb), (1, .ref (N 0)), (2, .ref (P 0)), (3, .ref wq), (4, .int (nI k))]) hx hb dd_LW_law_638 hl (by decide) rfl (fun ls hl => ?_)
            refine lv_aload_n hx hb dd_LW_law_640 rfl (lv_at hl 4 rfl) ?_
            refine hm_ci hS (hm_rV 0 (As := []) (rest := []) ⟨hx, hb, hml, hown, hts⟩ hE hS hP (kc_MO_thrown l B D G M350 P O Iz352 Az352 Lz352 hD) rfl g353 tw_1057 tw_1054 tw_1055 tw_1056 tw_46 (by decide +kernel) rfl rfl ⟨by show 0 + 1 ≤ R.frames; omega, by show 8 + (1 + 11) + 0 ≤ R.locals; omega⟩ rfl hl.1 rfl (Nat.le_of_ble_eq_true rfl) dd_LW_law_641 ⟨by omega, by omega⟩) (fun r354 M355 H locs hw356 hP hS => ?_)
            refine W.widen (k := (40 + 10 * k) + 1) (n := (10000 + 300 * k) + 6) (by omega) (by omega) ?_
            obtain ⟨hrM355, eM355⟩ := hw356
            rw [eM355] at hP
            obtain rfl : r354 = nI 1 := hrM355.trans hcz352
            refine lv_iload hx hb dd_LW_law_644 (lv_at hl 1 rfl) ?_
            refine hn_icmp_eq (tgt := 651) hx hb (by omega) (by omega) dd_LW_law_646 (by decide) (fun c357 => ?_) (fun c357 => absurd c357 (by omega))
            refine lv_iload hx hb dd_LW_law_651 (lv_at hl 1 rfl) ?_
            refine hn_if_ne (tgt := 668) hx hb (by omega) dd_LW_law_653 (by decide) (fun c358 => ?_) (fun c358 => absurd c358 (by omega))
            refine lv_goto (tgt := 758) hx hb dd_LW_law_668 (by decide) ?_
            refine lv_iinc (v := nI (k + 4)) (lv' := [(4, .int (nI (k + 4))), (6, .int (nI 0)), (5, .int (nI 1)), (0, .ref sb), (1, .ref (N 0)), (2, .ref (P 0)), (3, .ref wq)]) hx hb dd_LW_law_758 hl (k := 6) rfl (nI_add k 4) (by decide) rfl (fun ls hl => ?_)
            refine lv_goto (tgt := 23) hx hb dd_LW_law_761 (by decide) ?_
            refine W.widen (k := (40 + 10 * (k + 4))) (n := (10000 + 300 * (k + 4))) (by omega) (by omega) ?_
            exact ih23 (k + 4) M350 (by omega) (⟨O, t, ex, qs, bs, key, hs, r, fo, ps, Iz352, Az352, Lz352, fw, hI, hT, hX, hQ, hB, hM, hR, hD, hZ, ⟨hw9, how⟩, hV, hag⟩) (by omega) _ _ _ hP hS (lv_sub hl [3, 4, 5, 6, 0] rfl)
        · refine lv_tableIn (off := 632) (tgt := 671) hx hb dd_LW_law_39 (by omega) (by omega) (by rw [sw5]; rfl) (by decide) ?_
          refine lv_aload_n hx hb dd_LW_law_671 rfl (lv_at hl 1 rfl) ?_
          refine lv_aload_n hx hb dd_LW_law_672 rfl (lv_at hl 0 rfl) ?_
          refine lv_iload hx hb dd_LW_law_673 (lv_at hl 4 rfl) ?_
          refine lv_iconst (v := nI 1) hx hb dd_LW_law_675 (by decide +kernel) ?_
          refine hn_iadd hx hb dd_LW_law_676 ?_
          refine va_sld (i := nI (k + 1)) hx hb hXs hbl hbA hS (vp_in_nI (by omega) (by omega)) dd_LW_law_677 ?_
          refine W.eq (g2 := F0 m 678 ls [.int (xs (k + 1)), .ref (N 0)]) (by rw [nI_clamp (by omega)]) ?_
          refine hm_ci hS (hm_rV 1 (As := [.int (xs (k + 1))]) (rest := []) ⟨hx, hb, hml, hown, hts⟩ hE hS hP (kc_RD_passed l B D G Mu N O hI r.1 r.2.1 r.2.2 hR (xs (k + 1))) rfl hI.o tw_748 tw_745 tw_746 tw_747 tw_36 (by decide +kernel) rfl rfl ⟨by show 0 + 1 ≤ R.frames; omega, by show 8 + (2 + 11) + 0 ≤ R.locals; omega⟩ rfl hl.1 rfl (Nat.le_of_ble_eq_true rfl) dd_LW_law_678 ⟨by omega, by omega⟩) (fun r359 M360 H locs hw361 hP hS => ?_)
          refine W.widen (k := (40 + 10 * k)) (n := (10000 + 300 * k)) (by omega) (by omega) ?_
          obtain ⟨rfl, eM360⟩ := hw361
          rw [eM360] at hP
          refine lv_aload_n hx hb dd_LW_law_681 rfl (lv_at hl 2 rfl) ?_
          refine lv_aload_n hx hb dd_LW_law_682 rfl (lv_at hl 0 rfl) ?_
          refine lv_iload hx hb dd_LW_law_683 (lv_at hl 4 rfl) ?_
          refine lv_iconst (v := nI 1) hx hb dd_LW_law_685 (by decide +kernel) ?_
          refine hn_iadd hx hb dd_LW_law_686 ?_
          refine va_sld (i := nI (k + 1)) hx hb hXs hbl hbA hS (vp_in_nI (by omega) (by omega)) dd_LW_law_687 ?_
          refine W.eq (g2 := F0 m 688 ls [.int (xs (k + 1)), .ref (P 0), .int (nI (bz (qu_at r.1 (xs (k + 1)))))]) (by rw [nI_clamp (by omega)]) ?_
          refine hm_ci hS (hm_rV 1 (As := [.int (xs (k + 1))]) (rest := [.int (nI (bz (qu_at r.1 (xs (k + 1)))))]) ⟨hx, hb, hml, hown, hts⟩ hE hS hP (kc_MO_passed l B D G Mu P O I A L hD ps hZ.2.2.2.2.2.2.2 (xs (k + 1))) rfl g1 tw_1185 tw_1182 tw_1183 tw_1184 tw_46 (by decide +kernel) rfl rfl ⟨by show 0 + 1 ≤ R.frames; omega, by show 8 + (2 + 11) + 0 ≤ R.locals; omega⟩ rfl hl.1 rfl (Nat.le_of_ble_eq_true rfl) dd_LW_law_688 ⟨by omega, by omega⟩) (fun r362 M363 H locs hw364 hP hS => ?_)
          refine W.widen (k := (40 + 10 * k)) (n := (10000 + 300 * k)) (by omega) (by omega) ?_
          obtain ⟨rfl, hD, kF⟩ := hw364
          have hZ : mo_S (va_up I 0 (nI 0)) A L t ex qs bs key hs fo ps := hZ
          have hIo := hI
          have hI : im_R D G N O M363 := hI.kept kF (by unfold pm; omega)
          have hT : tp_R B D N O M363 t := hT.kept kF (fun c h9 => by unfold pm; omega)
          have hX : ex_R B D N O M363 ex := hX.kept kF (fun c h9 => by unfold pm; omega)
          have hQ : qu_R B D N O M363 qs := hQ.kept kF (fun c h9 => by unfold pm; omega)
          have hB : bi_R B D G N O M363 bs := hB.kept kF hIo (fun c h9 => by unfold pm; omega) (by unfold pm; omega)
          have hM : ms_R B D G N O M363 key hs := hM.kept kF hIo (fun c h9 => by unfold pm; omega) (by unfold pm; omega)
          have hR : rs_R B D N O M363 r := rt_R.kept hR kF (fun c h9 => by unfold pm; omega)
          have hw9o := hw9
          have hw9 : M363 wq = some (.inl (D.1 103, 1, .inr (.inl fw))) := (kF _ _ hw9o).2.1 (by rw [how]; unfold pm; omega)
          have how : O wq = 50 := (kF _ _ hw9o).1.trans how
          obtain ⟨g365, -⟩ := id hD
          refine hn_icmp_eq (tgt := 758) hx hb (bz_b _) (bz_b _) dd_LW_law_691 (by decide) (fun c366 => ?_) (fun c366 => absurd c366 (by exact fun h9 => h9 (by rw [qa_ext (fun k hk => (hag k hk).1)])))
          refine lv_iinc (v := nI (k + 4)) (lv' := [(4, .int (nI (k + 4))), (0, .ref sb), (1, .ref (N 0)), (2, .ref (P 0)), (3, .ref wq)]) hx hb dd_LW_law_758 hl (k := 4) rfl (nI_add k 4) (by decide) rfl (fun ls hl => ?_)
          refine lv_goto (tgt := 23) hx hb dd_LW_law_761 (by decide) ?_
          refine W.widen (k := (40 + 10 * (k + 4))) (n := (10000 + 300 * (k + 4))) (by omega) (by omega) ?_
          exact ih23 (k + 4) M363 (by omega) (⟨O, t, ex, qs, bs, key, hs, r, fo, ps, (va_up I 0 (nI 0)), A, L, fw, hI, hT, hX, hQ, hB, hM, hR, hD, hZ, ⟨hw9, how⟩, hV, hag⟩) (by omega) _ _ _ hP hS (lv_sub hl [1, 2, 3, 4, 0] rfl)
        · refine lv_tableIn (off := 657) (tgt := 696) hx hb dd_LW_law_39 (by omega) (by omega) (by rw [sw5]; rfl) (by decide) ?_
          refine lv_aload_n hx hb dd_LW_law_696 rfl (lv_at hl 1 rfl) ?_
          refine lv_aload_n hx hb dd_LW_law_697 rfl (lv_at hl 0 rfl) ?_
          refine lv_iload hx hb dd_LW_law_698 (lv_at hl 4 rfl) ?_
          refine lv_iconst (v := nI 1) hx hb dd_LW_law_700 (by decide +kernel) ?_
          refine hn_iadd hx hb dd_LW_law_701 ?_
          refine va_sld (i := nI (k + 1)) hx hb hXs hbl hbA hS (vp_in_nI (by omega) (by omega)) dd_LW_law_702 ?_
          refine W.eq (g2 := F0 m 703 ls [.int (xs (k + 1)), .ref (N 0)]) (by rw [nI_clamp (by omega)]) ?_
          refine lv_aload_n hx hb dd_LW_law_703 rfl (lv_at hl 0 rfl) ?_
          refine lv_iload hx hb dd_LW_law_704 (lv_at hl 4 rfl) ?_
          refine lv_iconst (v := nI 2) hx hb dd_LW_law_706 (by decide +kernel) ?_
          refine hn_iadd hx hb dd_LW_law_707 ?_
          refine va_sld (i := nI (k + 2)) hx hb hXs hbl hbA hS (vp_in_nI (by omega) (by omega)) dd_LW_law_708 ?_
          refine W.eq (g2 := F0 m 709 ls [.int (xs (k + 2)), .int (xs (k + 1)), .ref (N 0)]) (by rw [nI_clamp (by omega)]) ?_
          refine hm_ci hS (hm_rV 2 (As := [.int (xs (k + 1)), .int (xs (k + 2))]) (rest := []) ⟨hx, hb, hml, hown, hts⟩ hE hS hP (kc_RD_of l B D G Mu N O hI ex hX qs hQ bs hB (xs (k + 1)) (xs (k + 2))) rfl hI.o tw_752 tw_749 tw_750 tw_751 tw_36 (by decide +kernel) rfl rfl ⟨by show 4 + 1 ≤ R.frames; omega, by show 8 + (4 + 11) + 88 ≤ R.locals; omega⟩ rfl hl.1 rfl (Nat.le_of_ble_eq_true rfl) dd_LW_law_709 ⟨by omega, by omega⟩) (fun r367 M368 H locs hw369 hP hS => ?_)
          refine W.widen (k := (40 + 10 * k)) (n := (10000 + 300 * k)) (by omega) (by omega) ?_
          obtain ⟨rfl, eM368⟩ := hw369
          rw [eM368] at hP
          refine lv_aload_n hx hb dd_LW_law_712 rfl (lv_at hl 2 rfl) ?_
          refine lv_aload_n hx hb dd_LW_law_713 rfl (lv_at hl 0 rfl) ?_
          refine lv_iload hx hb dd_LW_law_714 (lv_at hl 4 rfl) ?_
          refine lv_iconst (v := nI 1) hx hb dd_LW_law_716 (by decide +kernel) ?_
          refine hn_iadd hx hb dd_LW_law_717 ?_
          refine va_sld (i := nI (k + 1)) hx hb hXs hbl hbA hS (vp_in_nI (by omega) (by omega)) dd_LW_law_718 ?_
          refine W.eq (g2 := F0 m 719 ls [.int (xs (k + 1)), .ref (P 0), .int (of_r ex qs bs (xs (k + 1)) (xs (k + 2)))]) (by rw [nI_clamp (by omega)]) ?_
          refine lv_aload_n hx hb dd_LW_law_719 rfl (lv_at hl 0 rfl) ?_
          refine lv_iload hx hb dd_LW_law_720 (lv_at hl 4 rfl) ?_
          refine lv_iconst (v := nI 2) hx hb dd_LW_law_722 (by decide +kernel) ?_
          refine hn_iadd hx hb dd_LW_law_723 ?_
          refine va_sld (i := nI (k + 2)) hx hb hXs hbl hbA hS (vp_in_nI (by omega) (by omega)) dd_LW_law_724 ?_
          refine W.eq (g2 := F0 m 725 ls [.int (xs (k + 2)), .int (xs (k + 1)), .ref (P 0), .int (of_r ex qs bs (xs (k + 1)) (xs (k + 2)))]) (by rw [nI_clamp (by omega)]) ?_
          refine hm_ci hS (hm_rV 2 (As := [.int (xs (k + 1)), .int (xs (k + 2))]) (rest := [.int (of_r ex qs bs (xs (k + 1)) (xs (k + 2)))]) ⟨hx, hb, hml, hown, hts⟩ hE hS hP (kc_MO_of l B D G Mu P O I A L hD t ex qs bs key hs fo ps hZ (xs (k + 1)) (xs (k + 2))) rfl g1 tw_1189 tw_1186 tw_1187 tw_1188 tw_46 (by decide +kernel) rfl rfl ⟨by show 1 + 1 ≤ R.frames; omega, by show 8 + (5 + 11) + 21 ≤ R.locals; omega⟩ rfl hl.1 rfl (Nat.le_of_ble_eq_true rfl) dd_LW_law_725 ⟨by omega, by omega⟩) (fun r370 M371 H locs hw372 hP hS => ?_)
          refine W.widen (k := (40 + 10 * k)) (n := (10000 + 300 * k)) (by omega) (by omega) ?_
          obtain ⟨rfl, Iz373, Az373, Lz373, hD, hcz373, hZ, kF⟩ := hw372
          have hIo := hI
          have hI : im_R D G N O M371 := hI.kept kF (by unfold pm; omega)
          have hT : tp_R B D N O M371 t := hT.kept kF (fun c h9 => by unfold pm; omega)
          have hX : ex_R B D N O M371 ex := hX.kept kF (fun c h9 => by unfold pm; omega)
          have hQ : qu_R B D N O M371 qs := hQ.kept kF (fun c h9 => by unfold pm; omega)
          have hB : bi_R B D G N O M371 bs := hB.kept kF hIo (fun c h9 => by unfold pm; omega) (by unfold pm; omega)
          have hM : ms_R B D G N O M371 key hs := hM.kept kF hIo (fun c h9 => by unfold pm; omega) (by unfold pm; omega)
          have hR : rs_R B D N O M371 r := rt_R.kept hR kF (fun c h9 => by unfold pm; omega)
          have hw9o := hw9
          have hw9 : M371 wq = some (.inl (D.1 103, 1, .inr (.inl fw))) := (kF _ _ hw9o).2.1 (by rw [how]; unfold pm; omega)
          have how : O wq = 50 := (kF _ _ hw9o).1.trans how
          obtain ⟨g374, -⟩ := id hD
          refine hi_icmp_eq (tgt := 758) hx hb dd_LW_law_728 (by decide) (fun c375 => ?_) (fun c375 => absurd c375 (by exact fun h9 => h9 rfl))
          refine lv_iinc (v := nI (k + 4)) (lv' := [(4, .int (nI (k + 4))), (0, .ref sb), (1, .ref (N 0)), (2, .ref (P 0)), (3, .ref wq)]) hx hb dd_LW_law_758 hl (k := 4) rfl (nI_add k 4) (by decide) rfl (fun ls hl => ?_)
          refine lv_goto (tgt := 23) hx hb dd_LW_law_761 (by decide) ?_
          refine W.widen (k := (40 + 10 * (k + 4))) (n := (10000 + 300 * (k + 4))) (by omega) (by omega) ?_
          exact ih23 (k + 4) M371 (by omega) (⟨O, t, ex, qs, bs, key, hs, r, fo, ps, Iz373, Az373, Lz373, fw, hI, hT, hX, hQ, hB, hM, hR, hD, hZ, ⟨hw9, how⟩, hV, hag⟩) (by omega) _ _ _ hP hS (lv_sub hl [1, 2, 3, 4, 0] rfl)
        · refine lv_tableIn (off := 694) (tgt := 733) hx hb dd_LW_law_39 (by omega) (by omega) (by rw [sw5]; rfl) (by decide) ?_
          refine lv_aload_n hx hb dd_LW_law_733 rfl (lv_at hl 1 rfl) ?_
          refine lv_aload_n hx hb dd_LW_law_734 rfl (lv_at hl 0 rfl) ?_
          refine lv_iload hx hb dd_LW_law_735 (lv_at hl 4 rfl) ?_
          refine lv_iconst (v := nI 1) hx hb dd_LW_law_737 (by decide +kernel) ?_
          refine hn_iadd hx hb dd_LW_law_738 ?_
          refine va_sld (i := nI (k + 1)) hx hb hXs hbl hbA hS (vp_in_nI (by omega) (by omega)) dd_LW_law_739 ?_
          refine W.eq (g2 := F0 m 740 ls [.int (xs (k + 1)), .ref (N 0)]) (by rw [nI_clamp (by omega)]) ?_
          refine hm_ci hS (hm_rV 1 (As := [.int (xs (k + 1))]) (rest := []) ⟨hx, hb, hml, hown, hts⟩ hE hS hP (kc_RD_total l B D G Mu N O hI ex hX qs hQ bs hB key hs hM (xs (k + 1))) rfl hI.o tw_764 tw_761 tw_762 tw_763 tw_36 (by decide +kernel) rfl rfl ⟨by show 2 + 1 ≤ R.frames; omega, by show 8 + (2 + 11) + 40 ≤ R.locals; omega⟩ rfl hl.1 rfl (Nat.le_of_ble_eq_true rfl) dd_LW_law_740 ⟨by omega, by omega⟩) (fun r376 M377 H locs hw378 hP hS => ?_)
          refine W.widen (k := (40 + 10 * k)) (n := (10000 + 300 * k)) (by omega) (by omega) ?_
          obtain ⟨rfl, eM377⟩ := hw378
          rw [eM377] at hP
          refine lv_aload_n hx hb dd_LW_law_743 rfl (lv_at hl 2 rfl) ?_
          refine lv_aload_n hx hb dd_LW_law_744 rfl (lv_at hl 0 rfl) ?_
          refine lv_iload hx hb dd_LW_law_745 (lv_at hl 4 rfl) ?_
          refine lv_iconst (v := nI 1) hx hb dd_LW_law_747 (by decide +kernel) ?_
          refine hn_iadd hx hb dd_LW_law_748 ?_
          refine va_sld (i := nI (k + 1)) hx hb hXs hbl hbA hS (vp_in_nI (by omega) (by omega)) dd_LW_law_749 ?_
          refine W.eq (g2 := F0 m 750 ls [.int (xs (k + 1)), .ref (P 0), .int (tt_r ex qs bs.length hs.length key.length (xs (k + 1)))]) (by rw [nI_clamp (by omega)]) ?_
          refine hm_ci hS (hm_rV 1 (As := [.int (xs (k + 1))]) (rest := [.int (tt_r ex qs bs.length hs.length key.length (xs (k + 1)))]) ⟨hx, hb, hml, hown, hts⟩ hE hS hP (kc_MO_total l B D G Mu P O I A L hD t ex qs bs key hs fo ps hZ (xs (k + 1))) rfl g1 tw_1193 tw_1190 tw_1191 tw_1192 tw_46 (by decide +kernel) rfl rfl ⟨by show 0 + 1 ≤ R.frames; omega, by show 8 + (5 + 11) + 0 ≤ R.locals; omega⟩ rfl hl.1 rfl (Nat.le_of_ble_eq_true rfl) dd_LW_law_750 ⟨by omega, by omega⟩) (fun r379 M380 H locs hw381 hP hS => ?_)
          refine W.widen (k := (40 + 10 * k)) (n := (10000 + 300 * k)) (by omega) (by omega) ?_
          obtain ⟨rfl, Iz382, Az382, Lz382, hD, hcz382, hZ, kF⟩ := hw381
          have hIo := hI
          have hI : im_R D G N O M380 := hI.kept kF (by unfold pm; omega)
          have hT : tp_R B D N O M380 t := hT.kept kF (fun c h9 => by unfold pm; omega)
          have hX : ex_R B D N O M380 ex := hX.kept kF (fun c h9 => by unfold pm; omega)
          have hQ : qu_R B D N O M380 qs := hQ.kept kF (fun c h9 => by unfold pm; omega)
          have hB : bi_R B D G N O M380 bs := hB.kept kF hIo (fun c h9 => by unfold pm; omega) (by unfold pm; omega)
          have hM : ms_R B D G N O M380 key hs := hM.kept kF hIo (fun c h9 => by unfold pm; omega) (by unfold pm; omega)
          have hR : rs_R B D N O M380 r := rt_R.kept hR kF (fun c h9 => by unfold pm; omega)
          have hw9o := hw9
          have hw9 : M380 wq = some (.inl (D.1 103, 1, .inr (.inl fw))) := (kF _ _ hw9o).2.1 (by rw [how]; unfold pm; omega)
          have how : O wq = 50 := (kF _ _ hw9o).1.trans how
          obtain ⟨g383, -⟩ := id hD
          refine hi_icmp_eq (tgt := 758) hx hb dd_LW_law_753 (by decide) (fun c384 => ?_) (fun c384 => absurd c384 (by exact fun h9 => h9 rfl))
          refine lv_iinc (v := nI (k + 4)) (lv' := [(4, .int (nI (k + 4))), (0, .ref sb), (1, .ref (N 0)), (2, .ref (P 0)), (3, .ref wq)]) hx hb dd_LW_law_758 hl (k := 4) rfl (nI_add k 4) (by decide) rfl (fun ls hl => ?_)
          refine lv_goto (tgt := 23) hx hb dd_LW_law_761 (by decide) ?_
          refine W.widen (k := (40 + 10 * (k + 4))) (n := (10000 + 300 * (k + 4))) (by omega) (by omega) ?_
          exact ih23 (k + 4) M380 (by omega) (⟨O, t, ex, qs, bs, key, hs, r, fo, ps, Iz382, Az382, Lz382, fw, hI, hT, hX, hQ, hB, hM, hR, hD, hZ, ⟨hw9, how⟩, hV, hag⟩) (by omega) _ _ _ hP hS (lv_sub hl [1, 2, 3, 4, 0] rfl)
        · refine lv_tableOut (tgt := 758) hx hb dd_LW_law_39 sw5 (by decide) ?_
          refine lv_iinc (v := nI (k + 4)) (lv' := [(4, .int (nI (k + 4))), (0, .ref sb), (1, .ref (N 0)), (2, .ref (P 0)), (3, .ref wq)]) hx hb dd_LW_law_758 hl (k := 4) rfl (nI_add k 4) (by decide) rfl (fun ls hl => ?_)
          refine lv_goto (tgt := 23) hx hb dd_LW_law_761 (by decide) ?_
          refine W.widen (k := (40 + 10 * (k + 4))) (n := (10000 + 300 * (k + 4))) (by omega) (by omega) ?_
          exact ih23 (k + 4) Mu (by omega) (⟨O, t, ex, qs, bs, key, hs, r, fo, ps, I, A, L, fw, hI, hT, hX, hQ, hB, hM, hR, hD, hZ, ⟨hw9, how⟩, hV, hag⟩) (by omega) _ _ _ hP hS (lv_sub hl [1, 2, 3, 4, 0] rfl)
  refine W.widen (k := (40 + 10 * 0)) (n := (10000 + 300 * 0)) (by omega) (by omega) ?_
  exact lp23 _ 0 M (Nat.zero_le _) (hJ) (Nat.lt_succ_self _) _ _ _ hP hS (lv_sub hl [0, 1, 2, 3, 4] rfl)
