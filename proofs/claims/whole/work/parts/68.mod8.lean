/-! the routing, as the model does it -/
theorem mp_k {ps : Nat → Bool} {x : Int32} (hx : in16 x) (k : Nat) : mp_s ps x k = (ps k || decide (x.toInt.toNat = k)) := by
  by_cases e : x.toInt.toNat = k
  · rw [decide_eq_true e, Bool.or_true]
    unfold mp_s mp_c
    rw [decide_eq_true hx, Bool.true_and]
    by_cases h : ps x.toInt.toNat = true
    · rw [h]; rw [if_neg (by decide), ← e, h]
    · rw [Bool.eq_false_iff.mpr h, if_pos (by decide), ← e, va_s]
  · rw [decide_eq_false e, Bool.or_false]
    unfold mp_s
    split
    · exact va_o (fun q => e q.symm)
    · rfl
/-- where an exchange leads: to exchanges, to queues -/
def lX (ex : Nat → Option (Int32 × Int32)) (bs : List bd_T) (key : List Nat) (hs : List (List Nat × List Nat)) (e k : Nat) : Bool := match ex e with
  | none => false
  | some z => if bs.any (ld_P key hs (nI e) z.1) = true then bs.any (fun b => ld_P key hs (nI e) z.1 b && (!b.2.2.1 && decide (b.2.1.toInt.toNat = k))) else (ex_at ex z.2).isSome && decide (z.2.toInt.toNat = k)
def lF (ex : Nat → Option (Int32 × Int32)) (bs : List bd_T) (key : List Nat) (hs : List (List Nat × List Nat)) (e k : Nat) : Bool := match ex e with
  | none => false
  | some z => bs.any (fun b => ld_P key hs (nI e) z.1 b && (b.2.2.1 && decide (b.2.1.toInt.toNat = k)))
theorem rs_fo (l : List bd_T) (h : ∀ b ∈ l, in16 b.2.1) : ∀ (r : rs_T) (k : Nat), (l.foldl rs_w r).1 k = (r.1 k || l.any (fun b => !b.2.2.1 && decide (b.2.1.toInt.toNat = k))) ∧ (l.foldl rs_w r).2.2 k = (r.2.2 k || l.any (fun b => b.2.2.1 && decide (b.2.1.toInt.toNat = k))) := by
  induction l with
  | nil => intro r k; simp
  | cons b l ih =>
    intro r k
    have h1 := ih (fun c hc => h c (List.mem_cons_of_mem _ hc)) (rs_w r b) k
    have h2 := h b List.mem_cons_self
    rw [List.foldl_cons, h1.1, h1.2, List.any_cons, List.any_cons]
    unfold rs_w
    cases hq : b.2.2.1
    · rw [if_neg (by decide)]
      show (mp_s r.1 b.2.1 k || _) = _ ∧ (r.2.2 k || _) = _
      rw [mp_k h2]
      simp [Bool.or_assoc]
    · rw [if_pos rfl]
      show (r.1 k || _) = _ ∧ (mp_s r.2.2 b.2.1 k || _) = _
      rw [mp_k h2]
      simp [Bool.or_assoc]
theorem ld_1 {ex : Nat → Option (Int32 × Int32)} {bs : List bd_T} {key : List Nat} {hs : List (List Nat × List Nat)} {r : rs_T} {x : Int32} {e : Nat} (hx : x = nI e) (he : e < 16) (hs9 : (ex e).isSome = true) (hb : ∀ b ∈ bs, in16 b.2.1) (k : Nat) : (ld_r ex bs key hs r x).1 k = (r.1 k || lX ex bs key hs e k) ∧ (ld_r ex bs key hs r x).2.2 k = (r.2.2 k || lF ex bs key hs e k) := by
  subst hx
  obtain ⟨z, hz⟩ := Option.isSome_iff_exists.mp hs9
  have t0 : (nI e).toInt = e := nI_toInt (by omega)
  have hin : in16 (nI e) := ⟨by omega, by omega⟩
  have hat : ex_at ex (nI e) = some z := by rw [ex_in hin, t0]; exact hz
  rw [ld_r, hat, lX, lF, hz]
  show (if _ then _ else _ : rs_T).1 k = (r.1 k || (if _ then _ else _)) ∧ (if _ then _ else _ : rs_T).2.2 k = _
  by_cases ha : bs.any (ld_P key hs (nI e) z.1) = true
  · rw [if_pos ha, if_pos ha]
    have h1 := rs_fo (bs.filter (ld_P key hs (nI e) z.1)) (fun b hb9 => hb b (List.mem_filter.mp hb9).1) r k
    rw [rs_l, h1.1, h1.2, List.any_filter, List.any_filter]
    exact ⟨rfl, rfl⟩
  · rw [if_neg ha, if_neg ha]
    have hn : bs.any (fun b => ld_P key hs (nI e) z.1 b && (b.2.2.1 && decide (b.2.1.toInt.toNat = k))) = false := by
      rw [List.any_eq_false]
      intro b hb9 h9
      exact ha (List.any_eq_true.mpr ⟨b, hb9, (Bool.and_eq_true_iff.mp h9).1⟩)
    show _ ∧ _ = (r.2.2 k || bs.any (fun b => ld_P key hs (nI e) z.1 b && (b.2.2.1 && decide (b.2.1.toInt.toNat = k))))
    rw [hn, Bool.or_false]
    by_cases ho : (ex_at ex z.2).isSome = true
    · rw [if_pos ho, ho, Bool.true_and]
      exact ⟨mp_k (ex_some ho) k, rfl⟩
    · rw [if_neg ho, Bool.eq_false_iff.mpr ho, Bool.false_and, Bool.or_false]
      exact ⟨rfl, rfl⟩
/-- what a routing ends with: the least closed set of exchanges, and the queues to which they lead -/
def rt_C (ex : Nat → Option (Int32 × Int32)) (bs : List bd_T) (key : List Nat) (hs : List (List Nat × List Nat)) (S : Nat → Bool) : Prop := ∀ e, e < 16 → S e = true → ∀ k, k < 16 → lX ex bs key hs e k = true → S k = true
def rt_P (ex : Nat → Option (Int32 × Int32)) (bs : List bd_T) (key : List Nat) (hs : List (List Nat × List Nat)) (x : Int32) (S F : Nat → Bool) : Prop := S x.toInt.toNat = true ∧ rt_C ex bs key hs S ∧ (∀ T, T x.toInt.toNat = true → rt_C ex bs key hs T → ∀ k, k < 16 → S k = true → T k = true) ∧ (∀ k, k < 16 → (F k = true ↔ ∃ e, e < 16 ∧ S e = true ∧ lF ex bs key hs e k = true))
theorem rt_P.uni {ex : Nat → Option (Int32 × Int32)} {bs : List bd_T} {key : List Nat} {hs : List (List Nat × List Nat)} {x : Int32} {S F S2 F2 : Nat → Bool} (h : rt_P ex bs key hs x S F) (h2 : rt_P ex bs key hs x S2 F2) : ∀ k, k < 16 → S k = S2 k ∧ F k = F2 k := by
  have hS : ∀ k, k < 16 → S k = S2 k := fun k hk => by
    have a := h.2.2.1 S2 h2.1 h2.2.1 k hk
    have b := h2.2.2.1 S h.1 h.2.1 k hk
    cases q : S k <;> cases q2 : S2 k
    · rfl
    · rw [b q2] at q; cases q
    · rw [a q] at q2; cases q2
    · rfl
  refine fun k hk => ⟨hS k hk, ?_⟩
  have a := h.2.2.2 k hk
  have b := h2.2.2.2 k hk
  have c : (F k = true) ↔ (F2 k = true) := by
    rw [a, b]
    constructor
    · rintro ⟨e, he, h1, h3⟩; exact ⟨e, he, by rw [← hS e he]; exact h1, h3⟩
    · rintro ⟨e, he, h1, h3⟩; exact ⟨e, he, by rw [hS e he]; exact h1, h3⟩
  cases q : F k <;> cases q2 : F2 k
  · rfl
  · rw [q, q2] at c; exact absurd (c.mpr rfl) (by decide)
  · rw [q, q2] at c; exact absurd (c.mp rfl) (by decide)
  · rfl
theorem rg_mono {a b : Nat → Bool} (h : ∀ k, a k = true → b k = true) : ∀ n, (List.range n).countP a ≤ (List.range n).countP b ∧ ((List.range n).countP a = (List.range n).countP b → ∀ k, k < n → a k = b k)
  | 0 => ⟨Nat.le_refl _, fun _ k hk => absurd hk (Nat.not_lt_zero _)⟩
  | n + 1 => by
    obtain ⟨h1, h2⟩ := rg_mono h n
    rw [rg_step, rg_step]
    have h3 : bz (a n) ≤ bz (b n) := by
      cases q : a n
      · exact Nat.zero_le _
      · rw [h n q]; exact Nat.le_refl _
    refine ⟨by omega, fun he k hk => ?_⟩
    by_cases e : k = n
    · rw [e]; exact bz_inj (by omega)
    · exact h2 (by omega) k (by omega)
theorem qu_mono {a b : Nat → Bool} (h : ∀ k, a k = true → b k = true) : qu_n a ≤ qu_n b ∧ (qu_n a = qu_n b → ∀ k, k < 16 → a k = b k) := rg_mono h 16
/-- the invariants of a routing -/
def rt_I (ex : Nat → Option (Int32 × Int32)) (bs : List bd_T) (key : List Nat) (hs : List (List Nat × List Nat)) (x : Int32) (S F : Nat → Bool) : Prop := S x.toInt.toNat = true ∧ (∀ T, T x.toInt.toNat = true → rt_C ex bs key hs T → ∀ k, k < 16 → S k = true → T k = true) ∧ (∀ k, k < 16 → F k = true → ∃ e, e < 16 ∧ S e = true ∧ lF ex bs key hs e k = true) ∧ (∀ k, k < 16 → S k = true → (ex k).isSome = true)
theorem lX_ex {ex : Nat → Option (Int32 × Int32)} {bs : List bd_T} {key : List Nat} {hs : List (List Nat × List Nat)} {e k : Nat} (hb : ∀ b ∈ bs, b.2.2.1 = false → (ex_at ex b.2.1).isSome = true) (h : lX ex bs key hs e k = true) : (ex k).isSome = true ∧ k < 16 := by
  have go : ∀ y : Int32, (ex_at ex y).isSome = true → y.toInt.toNat = k → (ex k).isSome = true ∧ k < 16 := fun y hy e2 => by
    have hin := ex_some hy
    rw [ex_in hin, e2] at hy
    exact ⟨hy, by have := hin.1; have := hin.2; omega⟩
  unfold lX at h
  split at h
  · cases h
  · rename_i z hz
    split at h
    · obtain ⟨b, hb1, hb2⟩ := List.any_eq_true.mp h
      rw [Bool.and_eq_true, Bool.and_eq_true] at hb2
      exact go b.2.1 (hb b hb1 (by simpa using hb2.2.1)) (of_decide_eq_true hb2.2.2)
    · rw [Bool.and_eq_true] at h
      exact go z.2 h.1 (of_decide_eq_true h.2)
theorem rt_I.step {ex : Nat → Option (Int32 × Int32)} {bs : List bd_T} {key : List Nat} {hs : List (List Nat × List Nat)} {x y : Int32} {r : rs_T} {e : Nat} (h : rt_I ex bs key hs x r.1 r.2.2) (hy : y = nI e) (he : e < 16) (hp : r.1 e = true) (hb : ∀ b ∈ bs, in16 b.2.1) (hb2 : ∀ b ∈ bs, b.2.2.1 = false → (ex_at ex b.2.1).isSome = true) : rt_I ex bs key hs x (ld_r ex bs key hs r y).1 (ld_r ex bs key hs r y).2.2 := by
  obtain ⟨h1, h2, h3, h4⟩ := h
  have hl := ld_1 (r := r) (key := key) (hs := hs) hy he (h4 e he hp) hb
  refine ⟨by rw [(hl _).1, h1]; rfl, fun T hT hC k hk hS => ?_, fun k hk hF => ?_, fun k hk hS => ?_⟩
  · rw [(hl k).1, Bool.or_eq_true] at hS
    rcases hS with hS | hS
    · exact h2 T hT hC k hk hS
    · exact hC e he (h2 T hT hC e he hp) k hk hS
  · rw [(hl k).2, Bool.or_eq_true] at hF
    rcases hF with hF | hF
    · obtain ⟨e2, a1, a2, a3⟩ := h3 k hk hF
      exact ⟨e2, a1, by rw [(hl e2).1, a2]; rfl, a3⟩
    · exact ⟨e, he, by rw [(hl e).1, hp]; rfl, hF⟩
  · rw [(hl k).1, Bool.or_eq_true] at hS
    rcases hS with hS | hS
    · exact h4 k hk hS
    · exact (lX_ex hb2 hS).1
theorem rt_I.fin {ex : Nat → Option (Int32 × Int32)} {bs : List bd_T} {key : List Nat} {hs : List (List Nat × List Nat)} {x : Int32} {S F : Nat → Bool} (h : rt_I ex bs key hs x S F) (hc : ∀ e, e < 16 → S e = true → (∀ k, k < 16 → lX ex bs key hs e k = true → S k = true) ∧ (∀ k, k < 16 → lF ex bs key hs e k = true → F k = true)) : rt_P ex bs key hs x S F :=
  ⟨h.1, fun e he hS => (hc e he hS).1, h.2.1, fun k hk => ⟨h.2.2.1 k hk, fun ⟨e, he, h1, h2⟩ => (hc e he h1).2 k hk h2⟩⟩
/-- the class's row of those that are passed -/
def od_I (r : rs_T) : Prop := (∀ j, j < qu_n r.1 → in16 (r.2.1 j) ∧ r.1 (r.2.1 j).toInt.toNat = true) ∧ (∀ k, k < 16 → r.1 k = true → ∃ j, j < qu_n r.1 ∧ r.2.1 j = nI k)
theorem mp_n {ps : Nat → Bool} {x : Int32} (hx : in16 x) : qu_n (mp_s ps x) = if mp_c ps x = true then qu_n ps + 1 else qu_n ps := by
  unfold mp_s
  by_cases h : mp_c ps x = true
  · rw [if_pos h, if_pos h]
    unfold mp_c at h
    rw [Bool.and_eq_true] at h
    exact qu_up (by simpa using h.2) (by have := hx.1; have := hx.2; omega)
  · rw [if_neg h, if_neg h]
theorem od_p {r : rs_T} {x : Int32} (h : od_I r) (hx : in16 x) : od_I (rs_p r x) := by
  obtain ⟨h1, h2⟩ := h
  have hn := mp_n (ps := r.1) hx
  by_cases hc : mp_c r.1 x = true
  · rw [if_pos hc] at hn
    have ho : mp_o r.1 r.2.1 x = upd r.2.1 (qu_n r.1) x := (mp_1 hc).2 _
    constructor
    · intro j hj
      have hj : j < qu_n (mp_s r.1 x) := hj
      show in16 (mp_o r.1 r.2.1 x j) ∧ mp_s r.1 x (mp_o r.1 r.2.1 x j).toInt.toNat = true
      rw [ho]
      by_cases e : j = qu_n r.1
      · rw [e, up_s]; exact ⟨hx, by rw [mp_k hx]; simp⟩
      · rw [up_o e, mp_k hx]
        have := h1 j (by omega)
        exact ⟨this.1, by rw [this.2]; rfl⟩
    · intro k hk hS
      have hS : mp_s r.1 x k = true := hS
      rw [mp_k hx, Bool.or_eq_true] at hS
      show ∃ j, j < qu_n (mp_s r.1 x) ∧ mp_o r.1 r.2.1 x j = nI k
      rw [ho, hn]
      by_cases hk2 : r.1 k = true
      · obtain ⟨j, a, b⟩ := h2 k hk hk2
        exact ⟨j, by omega, by rw [up_o (by omega)]; exact b⟩
      · have e := of_decide_eq_true (hS.resolve_left hk2)
        exact ⟨qu_n r.1, by omega, by rw [up_s, ← e]; exact hi_nI hx.1⟩
  · have hf := Bool.eq_false_iff.mpr hc
    have e : rs_p r x = r := by
      show (mp_s r.1 x, mp_o r.1 r.2.1 x, r.2.2) = r
      rw [(mp_0 hf).1, (mp_0 hf).2]
    rw [e]; exact ⟨h1, h2⟩
theorem od_w (l : List bd_T) (hl : ∀ b ∈ l, in16 b.2.1) : ∀ r : rs_T, od_I r → od_I (l.foldl rs_w r) := by
  induction l with
  | nil => intro r h; exact h
  | cons b l ih =>
    intro r h
    rw [List.foldl_cons]
    refine ih (fun c hc => hl c (List.mem_cons_of_mem _ hc)) _ ?_
    unfold rs_w
    split
    · exact h
    · exact od_p h (hl b List.mem_cons_self)
theorem od_l {ex : Nat → Option (Int32 × Int32)} {bs : List bd_T} {key : List Nat} {hs : List (List Nat × List Nat)} {r : rs_T} {x : Int32} (h : od_I r) (hb : ∀ b ∈ bs, in16 b.2.1) : od_I (ld_r ex bs key hs r x) := by
  unfold ld_r
  split
  · exact h
  · split
    · exact od_w _ (fun b hb9 => hb b (List.mem_filter.mp hb9).1) r h
    · split
      · rename_i h9; exact od_p h (ex_some h9)
      · exact h
/-- the invariant of the class's row -/
def rc_I (ex : Nat → Option (Int32 × Int32)) (bs : List bd_T) (key : List Nat) (hs : List (List Nat × List Nat)) (x : Int32) (r : rs_T) (k : Nat) : Prop := rt_I ex bs key hs x r.1 r.2.2 ∧ od_I r ∧ ∀ j, j < k → j < qu_n r.1 ∧ (∀ q, q < 16 → lX ex bs key hs (r.2.1 j).toInt.toNat q = true → r.1 q = true) ∧ (∀ q, q < 16 → lF ex bs key hs (r.2.1 j).toInt.toNat q = true → r.2.2 q = true)
theorem mp_oj {ps : Nat → Bool} {od : Nat → Int32} {x : Int32} {j : Nat} (h : j < qu_n ps) : mp_o ps od x j = od j := by
  unfold mp_o
  split
  · exact up_o (by omega)
  · rfl
theorem mp_ge {ps : Nat → Bool} {x : Int32} (hx : in16 x) : qu_n ps ≤ qu_n (mp_s ps x) := by rw [mp_n hx]; split <;> omega
theorem rw_o (l : List bd_T) (hl : ∀ b ∈ l, in16 b.2.1) : ∀ (r : rs_T) (j : Nat), j < qu_n r.1 → (l.foldl rs_w r).2.1 j = r.2.1 j := by
  induction l with
  | nil => intro r j _; rfl
  | cons b l ih =>
    intro r j hj
    rw [List.foldl_cons]
    by_cases hq : b.2.2.1 = true
    · rw [show rs_w r b = rs_f r b.2.1 from if_pos hq]
      exact ih (fun c hc => hl c (List.mem_cons_of_mem _ hc)) _ j hj
    · rw [show rs_w r b = rs_p r b.2.1 from if_neg hq]
      rw [ih (fun c hc => hl c (List.mem_cons_of_mem _ hc)) (rs_p r b.2.1) j (Nat.lt_of_lt_of_le hj (mp_ge (hl b List.mem_cons_self)))]
      exact mp_oj hj
theorem ld_o {ex : Nat → Option (Int32 × Int32)} {bs : List bd_T} {key : List Nat} {hs : List (List Nat × List Nat)} {r : rs_T} {x : Int32} {j : Nat} (hj : j < qu_n r.1) (hb : ∀ b ∈ bs, in16 b.2.1) : (ld_r ex bs key hs r x).2.1 j = r.2.1 j := by
  unfold ld_r
  split
  · rfl
  · split
    · exact rw_o _ (fun b hb9 => hb b (List.mem_filter.mp hb9).1) r j hj
    · split
      · exact mp_oj hj
      · rfl
theorem rc_st {ex : Nat → Option (Int32 × Int32)} {bs : List bd_T} {key : List Nat} {hs : List (List Nat × List Nat)} {x : Int32} {r : rs_T} {k : Nat} (h : rc_I ex bs key hs x r k) (hk : k < qu_n r.1) (hb : ∀ b ∈ bs, in16 b.2.1) (hb2 : ∀ b ∈ bs, b.2.2.1 = false → (ex_at ex b.2.1).isSome = true) : rc_I ex bs key hs x (ld_r ex bs key hs r (r.2.1 k)) (k + 1) := by
  obtain ⟨h1, h2, h3⟩ := h
  obtain ⟨a1, a2⟩ := h2.1 k hk
  have hy := hi_nI a1.1
  have he : (r.2.1 k).toInt.toNat < 16 := by have := a1.1; have := a1.2; omega
  have hl := ld_1 (r := r) (key := key) (hs := hs) hy he (h1.2.2.2 _ he a2) hb
  have hm : ∀ q, r.1 q = true → (ld_r ex bs key hs r (r.2.1 k)).1 q = true := fun q hq => by rw [(hl q).1, hq]; rfl
  refine ⟨h1.step hy he a2 hb hb2, od_l h2 hb, fun j hj => ?_⟩
  have hjn : j < qu_n r.1 := by
    by_cases e : j = k
    · omega
    · exact (h3 j (by omega)).1
  rw [ld_o hjn hb]
  refine ⟨Nat.lt_of_lt_of_le hjn (qu_mono hm).1, fun q hq hX => ?_, fun q hq hF => ?_⟩
  · rw [(hl q).1]
    by_cases e : j = k
    · rw [← e, hX, Bool.or_true]
    · rw [(h3 j (by omega)).2.1 q hq hX]; rfl
  · rw [(hl q).2]
    by_cases e : j = k
    · rw [← e, hF, Bool.or_true]
    · rw [(h3 j (by omega)).2.2 q hq hF]; rfl
theorem qu_one {n : Nat} (hn : n < 16) : qu_n (fun j => decide (n = j)) = 1 := by
  have h : ∀ n, n < 16 → qu_n (fun j => decide (n = j)) = 1 := by decide
  exact h n hn
theorem qu_ext {a b : Nat → Bool} (h : ∀ k, k < 16 → a k = b k) : qu_n a = qu_n b := by
  unfold qu_n
  apply List.countP_congr
  intro k hk
  rw [h k (List.mem_range.mp hk)]
theorem rt_I0 {ex : Nat → Option (Int32 × Int32)} {bs : List bd_T} {key : List Nat} {hs : List (List Nat × List Nat)} {x : Int32} {S F : Nat → Bool} (hx : (ex_at ex x).isSome = true) (hS : ∀ k, k < 16 → S k = decide (x.toInt.toNat = k)) (hF : ∀ k, k < 16 → F k = false) : rt_I ex bs key hs x S F := by
  have hin := ex_some hx
  have hlt : x.toInt.toNat < 16 := by have := hin.1; have := hin.2; omega
  refine ⟨by rw [hS _ hlt]; simp, fun T hT _ k hk h => ?_, fun k hk h => ?_, fun k hk h => ?_⟩
  · rw [hS k hk] at h; rw [← of_decide_eq_true h]; exact hT
  · rw [hF k hk] at h; cases h
  · rw [hS k hk] at h; rw [← of_decide_eq_true h]; rw [ex_in hin] at hx; exact hx
theorem rt_0S {r : rs_T} {x : Int32} (hin : in16 x) : (∀ k, k < 16 → (rt_0 r x).1 k = decide (x.toInt.toNat = k)) ∧ (∀ k, k < 16 → (rt_0 r x).2.2 k = false) := by
  constructor
  · intro k hk
    show mp_s (cl_b r.1 16) x k = _
    rw [mp_k hin, cl_b, if_pos hk, Bool.false_or]
  · intro k hk
    show cl_b r.2.2 16 k = false
    rw [cl_b, if_pos hk]
theorem rc_0 {ex : Nat → Option (Int32 × Int32)} {bs : List bd_T} {key : List Nat} {hs : List (List Nat × List Nat)} {x : Int32} {r : rs_T} (hx : (ex_at ex x).isSome = true) : rc_I ex bs key hs x (rt_0 r x) 0 := by
  have hin := ex_some hx
  have hs0 := rt_0S (r := r) hin
  refine ⟨rt_I0 hx hs0.1 hs0.2, ?_, fun j hj => absurd hj (Nat.not_lt_zero _)⟩
  refine od_p (r := (cl_b r.1 16, r.2.1, cl_b r.2.2 16)) ⟨fun j hj => ?_, fun k hk h => ?_⟩ hin
  · have hj : j < qu_n (cl_b r.1 16) := hj
    rw [cl_n] at hj; exact absurd hj (Nat.not_lt_zero _)
  · have h : cl_b r.1 16 k = true := h
    rw [cl_b, if_pos hk] at h; cases h
theorem rt_F.P {ex : Nat → Option (Int32 × Int32)} {bs : List bd_T} {key : List Nat} {hs : List (List Nat × List Nat)} {x : Int32} {r r1 : rs_T} (h : rt_F ex bs key hs (rt_0 r x) r1) (hx : (ex_at ex x).isSome = true) (hb : ∀ b ∈ bs, in16 b.2.1) (hb2 : ∀ b ∈ bs, b.2.2.1 = false → (ex_at ex b.2.1).isSome = true) : rt_P ex bs key hs x r1.1 r1.2.2 := by
  obtain ⟨k, h1, h2, h3, h4⟩ := h
  have go : ∀ i, i ≤ k → rc_I ex bs key hs x (rt_at ex bs key hs (rt_0 r x) i) i := by
    intro i
    induction i with
    | zero => intro _; exact rc_0 hx
    | succ i ih => intro hi; exact rc_st (ih (by omega)) (h4 i (by omega)) hb hb2
  have hk := go k (Nat.le_refl _)
  rw [← h1] at hk
  have hle : qu_n r1.1 ≤ k := by
    rcases h3 with h3 | h3
    · rw [h3]; exact qu_le _
    · exact h3
  refine hk.1.fin (fun e he hS => ?_)
  obtain ⟨j, a, b⟩ := hk.2.1.2 e he hS
  have c := hk.2.2 j (by omega)
  rw [b, nI_toInt (by omega)] at c
  exact ⟨c.2.1, c.2.2⟩

set_option maxHeartbeats 4000000 in
set_option maxRecDepth 100000 in
theorem kc_MO_leads (l : Launch) (B : Nat) (D : va_G) (G : Nat → Nat) (M : hm_M) (P O : Nat → Nat) (I : Nat → Int32) (A : Nat → Nat → Int32) (L : Nat → Nat → Int64) (hD : mo_D B D P O M I A L) (bs : List bd_T) (hB : bdS (I 6) (A 7) (A 8) (A 9) (A 10) bs) (key : List Nat) (hK : tpS (I 12) (A 11) key) (hs : List (List Nat × List Nat)) (hH : hdS (I 13) (L 14) (L 15) hs) (ex : Nat → Option (Int32 × Int32)) (hX : exS (A 3) (A 4) ex) (k9 : Nat) (b : bd_T) (hb1 : bs[k9]? = some b) (s9 o9 : Int32) (hev : ex_at ex b.1 = some (s9, o9)) (htx : tx_for s9 b.2.2.2 = true) : Met l yy_MO_leads ws_MO_leads ({ frames := 3, cells := 0, slots := 0, locals := 71 }) (hm_Pc B D G M [.ref (P 0), .int (nI k9)]) (hm_Ni B D (fun r M1 => r = nI (bz (mt_for s9 key hs b.2.2.2)) ∧ ∃ fa fb fc, mo_D B D P O M1 I (va_up (va_up (va_up A 19 fa) 20 fb) 21 fc) L ∧ cz_F O M O M1 pm)) (0) (0) (hm_A B) := by
  refine Met.ofW (cc := cd_MO_leads) (maxL := 2) (ret := ((some FieldType.boolean))) (by decide) rfl ?_
  intro p e s m args below meth c s₁ B0 hml hv
  obtain ⟨rfl, hE, hP⟩ := hv
  have hx := B0.exec
  have hb := B0.bytes
  have hr := B0.returns
  have hts : ∀ w ∈ tb_G, w.before _ s = true := fun w h => atoms_spec (ws := ws_MO_leads) B0.pre w (List.mem_cons_of_mem _ h)
  have hown : s.vm.findClass "RouteDeskModel" = some m.cls := findClass_of_methodNamed B0.named
  have hlocks := B0.notSynchronized
  have hRf : (headSpec ws_MO_leads { frames := 3, cells := 0, slots := 0, locals := 71 }).room.frames = 3 := rfl
  have hRl : (headSpec ws_MO_leads { frames := 3, cells := 0, slots := 0, locals := 71 }).room.locals = 71 := rfl
  have hRc : (headSpec ws_MO_leads { frames := 3, cells := 0, slots := 0, locals := 71 }).room.cells = 0 := rfl
  have hRs : (headSpec ws_MO_leads { frames := 3, cells := 0, slots := 0, locals := 71 }).room.slots = 0 := rfl
  generalize (headSpec ws_MO_leads { frames := 3, cells := 0, slots := 0, locals := 71 }).room = R at hRf hRl hRc hRs ⊢
  have hS : va_S (hm_A B) s.heap s.heap [] := va_S.rf
  have hl := lv_entry ([.ref (P 0), .int (nI k9)]) (n := 2) (Nat.le_of_ble_eq_true rfl)
  rw [lg_entry_eq]
  generalize (lg_sl ([.ref (P 0), .int (nI k9)]) ++ List.replicate (2 - (lg_sl ([.ref (P 0), .int (nI k9)])).length) Slot.unset).toArray = ls at hl ⊢
  have hl : lv_has ls 2 [(0, .ref (P 0)), (1, .int (nI k9))] := hl
  have t16 : (nI 16).toInt = 16 := by decide
  have tm1 : (-1 : Int32).toInt = -1 := by decide
  have t0 : (nI 0).toInt = 0 := by decide
  have t2 : (nI 2).toInt = 2 := by decide
  have t3 : (nI 3).toInt = 3 := by decide
  have t1 : (nI 1).toInt = 1 := by decide
  have t4 : (nI 4).toInt = 4 := by decide
  obtain ⟨p0, p1, p3, p4, p5, p7, p8, p9, p10, p11, p14, p15, p16, p17, p19, p20, p21, po, pb⟩ := id hD
  obtain ⟨bi1, bi2, bi3⟩ := id hB
  obtain ⟨bf1, bf2, bf3, bf4, bf5⟩ := bi3 k9 b hb1
  have hk120 := (List.getElem?_eq_some_iff.mp hb1).1
  have hso : A 3 b.1.toInt.toNat = s9 := by
    obtain ⟨s8, o8, q1, q2, q3⟩ := exS_v hX (x := b.1) (by rw [hev]; rfl)
    rw [hev] at q1
    cases q1
    exact q2
  have bf41 := bf4.1
  have bf42 := bf4.2
  refine lv_aload_n hx hb dd_MO_leads_0 rfl (lv_at hl 0 rfl) ?_
  refine hm_get (ci := 6) (C := rn_MO) (T := ft_MO) (N := 22) hx hb hts fi_MO hown hE.K hP p0 rfl 3 (by decide) (hts _ tw_989) (fun _ h9 => h9) rfl dd_MO_leads_1 ?_
  refine lv_aload_n hx hb dd_MO_leads_4 rfl (lv_at hl 0 rfl) ?_
  refine hm_get (ci := 6) (C := rn_MO) (T := ft_MO) (N := 22) hx hb hts fi_MO hown hE.K hP p0 rfl 7 (by decide) (hts _ tw_993) (fun _ h9 => h9) rfl dd_MO_leads_5 ?_
  refine lv_iload_n hx hb dd_MO_leads_8 rfl (lv_at hl 1 rfl) ?_
  refine hm_iald (j := k9) hx hb hE.K hP 2 p7 rfl (vp_in_nI (by omega) (by omega)) (nI_clamp (by omega)) dd_MO_leads_9 ?_
  refine W.eq (g2 := F0 m 10 ls [.int b.1, .ref (P 3)]) (by rw [bf1]) ?_
  refine hm_iald (j := b.1.toInt.toNat) hx hb hE.K hP 2 p3 rfl (hi_in (by omega) (by omega)) hi_clamp dd_MO_leads_10 ?_
  refine W.eq (g2 := F0 m 11 ls [.int s9]) (by rw [hso]) ?_
  rcases (show s9.toInt = 0 ∨ s9.toInt = 1 ∨ s9.toInt = 2 ∨ (s9.toInt < 0 ∨ 2 < s9.toInt) from by omega) with sw1 | sw1 | sw1 | sw1
  · refine lv_tableIn (off := 25) (tgt := 36) hx hb dd_MO_leads_11 (by omega) (by omega) (by rw [sw1]; rfl) (by decide) ?_
    refine lv_aload_n hx hb dd_MO_leads_36 rfl (lv_at hl 0 rfl) ?_
    refine lv_iload_n hx hb dd_MO_leads_37 rfl (lv_at hl 1 rfl) ?_
    have hd2 : mo_D B D P O M I A L := ⟨p0, p1, p3, p4, p5, p7, p8, p9, p10, p11, p14, p15, p16, p17, p19, p20, p21, po, pb⟩
    refine hm_ci hS (hm_rV 1 (As := [.int (nI k9)]) (rest := []) ⟨hx, hb, hml, hown, hts⟩ hE hS hP (kc_MO_isDirect l B D G M P O I A L hd2 bs hB key hK k9 b hb1) rfl p0 tw_1165 tw_1162 tw_1164 tw_31 tw_46 (by decide +kernel) rfl rfl ⟨by show 0 + 1 ≤ R.frames; omega, by show 8 + (4 + 11) + 0 ≤ R.locals; omega⟩ rfl hl.1 rfl (Nat.le_of_ble_eq_true rfl) dd_MO_leads_38 ⟨by omega, by omega⟩) (fun r3 M4 H locs hw5 hP hS => ?_)
    refine W.widen (k := 0) (n := 0) (by omega) (by omega) ?_
    obtain ⟨hrM4, eM4⟩ := hw5
    rw [eM4] at hP
    obtain rfl : r3 = nI (bz (decide (b.2.2.2 = key))) := hrM4
    exact hm_Ei (v := nI (bz (decide (b.2.2.2 = key)))) hx hb hr (bz_n _) hS hP (⟨by rw [mt_for, if_pos (by omega)], (A 19), (A 20), (A 21), ⟨p0, p1, p3, p4, p5, p7, p8, p9, p10, p11, p14, p15, p16, p17, p19, p20, p21, po, pb⟩, cz_F.rf⟩) hlocks (by omega) (by omega) dd_MO_leads_41
  · refine lv_tableIn (off := 31) (tgt := 42) hx hb dd_MO_leads_11 (by omega) (by omega) (by rw [sw1]; rfl) (by decide) ?_
    refine lv_iconst (v := nI 1) hx hb dd_MO_leads_42 (by decide +kernel) ?_
    exact hm_Ei (v := nI 1) hx hb hr rfl hS hP (⟨bz_1 (by rw [mt_for, if_neg (by omega), if_pos (by omega)]), (A 19), (A 20), (A 21), ⟨p0, p1, p3, p4, p5, p7, p8, p9, p10, p11, p14, p15, p16, p17, p19, p20, p21, po, pb⟩, cz_F.rf⟩) hlocks (by omega) (by omega) dd_MO_leads_43
  · refine lv_tableIn (off := 33) (tgt := 44) hx hb dd_MO_leads_11 (by omega) (by omega) (by rw [sw1]; rfl) (by decide) ?_
    refine lv_aload_n hx hb dd_MO_leads_44 rfl (lv_at hl 0 rfl) ?_
    refine lv_iload_n hx hb dd_MO_leads_45 rfl (lv_at hl 1 rfl) ?_
    have hF7 : cz_F O M O M pm := cz_F.rf
    have hd6 : mo_D B D P O M I A L := ⟨p0, p1, p3, p4, p5, p7, p8, p9, p10, p11, p14, p15, p16, p17, p19, p20, p21, po, pb⟩
    refine hm_ci hS (hm_rV 1 (As := [.int (nI k9)]) (rest := []) ⟨hx, hb, hml, hown, hts⟩ hE hS hP (kc_MO_isTopic l B D G M P O I A L hd6 bs hB key hK k9 b hb1) rfl p0 tw_1169 tw_1166 tw_1168 tw_32 tw_46 (by decide +kernel) rfl rfl ⟨by show 1 + 1 ≤ R.frames; omega, by show 8 + (9 + 11) + 26 ≤ R.locals; omega⟩ rfl hl.1 rfl (Nat.le_of_ble_eq_true rfl) dd_MO_leads_46 ⟨by omega, by omega⟩) (fun r8 M9 H locs hw10 hP hS => ?_)
    refine W.widen (k := 0) (n := 0) (by omega) (by omega) ?_
    obtain ⟨rfl, fa, fb, fc, hd11, hF12⟩ := hw10
    have hF12 := hF7.trans hF12
    obtain ⟨g13_0, g13_1, g13_3, g13_4, g13_5, g13_7, g13_8, g13_9, g13_10, g13_11, g13_14, g13_15, g13_16, g13_17, g13_19, g13_20, g13_21, -, -⟩ := id hd11
    have g13_1 : M9 (P 1) = some (.inl (D.1 102, 48, .inl (A 1))) := g13_1
    have g13_3 : M9 (P 3) = some (.inl (D.1 102, 16, .inl (A 3))) := g13_3
    have g13_4 : M9 (P 4) = some (.inl (D.1 102, 16, .inl (A 4))) := g13_4
    have g13_5 : M9 (P 5) = some (.inl (D.1 101, 16, .inl (A 5))) := g13_5
    have g13_7 : M9 (P 7) = some (.inl (D.1 102, 120, .inl (A 7))) := g13_7
    have g13_8 : M9 (P 8) = some (.inl (D.1 102, 120, .inl (A 8))) := g13_8
    have g13_9 : M9 (P 9) = some (.inl (D.1 102, 120, .inl (A 9))) := g13_9
    have g13_10 : M9 (P 10) = some (.inl (D.1 102, 5760, .inl (A 10))) := g13_10
    have g13_11 : M9 (P 11) = some (.inl (D.1 102, 48, .inl (A 11))) := g13_11
    have g13_16 : M9 (P 16) = some (.inl (D.1 101, 16, .inl (A 16))) := g13_16
    have g13_17 : M9 (P 17) = some (.inl (D.1 101, 16, .inl (A 17))) := g13_17
    have g13_19 : M9 (P 19) = some (.inl (D.1 101, 2601, .inl fa)) := g13_19
    have g13_20 : M9 (P 20) = some (.inl (D.1 102, 52, .inl fb)) := g13_20
    have g13_21 : M9 (P 21) = some (.inl (D.1 102, 52, .inl fc)) := g13_21
    exact hm_Ei (v := nI (bz (tp_like b.2.2.2 key))) hx hb hr (bz_n _) hS hP (⟨by rw [mt_for, if_neg (by omega), if_neg (by omega), if_pos (by omega)], fa, fb, fc, ⟨g13_0, g13_1, g13_3, g13_4, g13_5, g13_7, g13_8, g13_9, g13_10, g13_11, g13_14, g13_15, g13_16, g13_17, g13_19, g13_20, g13_21, po, pb⟩, hF12⟩) hlocks (by omega) (by omega) dd_MO_leads_49
  · refine lv_tableOut (tgt := 50) hx hb dd_MO_leads_11 sw1 (by decide) ?_
    refine lv_aload_n hx hb dd_MO_leads_50 rfl (lv_at hl 0 rfl) ?_
    refine lv_iload_n hx hb dd_MO_leads_51 rfl (lv_at hl 1 rfl) ?_
    have hd14 : mo_D B D P O M I A L := ⟨p0, p1, p3, p4, p5, p7, p8, p9, p10, p11, p14, p15, p16, p17, p19, p20, p21, po, pb⟩
    refine hm_ci hS (hm_rV 1 (As := [.int (nI k9)]) (rest := []) ⟨hx, hb, hml, hown, hts⟩ hE hS hP (kc_MO_isMet l B D G M P O I A L hd14 bs hB hs hH k9 b hb1 (by rw [tx_for, if_neg (by omega), if_neg (by omega), if_neg (by omega)] at htx; exact htx)) rfl p0 tw_1177 tw_1174 tw_1176 tw_34 tw_46 (by decide +kernel) rfl rfl ⟨by show 2 + 1 ≤ R.frames; omega, by show 8 + (12 + 11) + 40 ≤ R.locals; omega⟩ rfl hl.1 rfl (Nat.le_of_ble_eq_true rfl) dd_MO_leads_52 ⟨by omega, by omega⟩) (fun r15 M16 H locs hw17 hP hS => ?_)
    refine W.widen (k := 0) (n := 0) (by omega) (by omega) ?_
    obtain ⟨hrM16, eM16⟩ := hw17
    rw [eM16] at hP
    obtain rfl : r15 = nI (bz (ru_met hs b.2.2.2)) := hrM16
    exact hm_Ei (v := nI (bz (ru_met hs b.2.2.2))) hx hb hr (bz_n _) hS hP (⟨by rw [mt_for, if_neg (by omega), if_neg (by omega), if_neg (by omega)], (A 19), (A 20), (A 21), ⟨p0, p1, p3, p4, p5, p7, p8, p9, p10, p11, p14, p15, p16, p17, p19, p20, p21, po, pb⟩, cz_F.rf⟩) hlocks (by omega) (by omega) dd_MO_leads_55
theorem va_t {f : Nat → Bool} {j : Nat} (h : f j = true) : va_up f j true = f := by
  funext k
  by_cases e : k = j
  · rw [e, va_s, h]
  · rw [va_o e]
theorem mp_va {ps : Nat → Bool} {x : Int32} (hx : in16 x) : mp_s ps x = va_up ps x.toInt.toNat true := by
  funext k
  rw [mp_k hx]
  by_cases e : x.toInt.toNat = k
  · rw [decide_eq_true e, ← e, va_s, Bool.or_true]
  · rw [decide_eq_false e, va_o (fun q => e q.symm), Bool.or_false]
theorem qu_va {ps : Nat → Bool} {j : Nat} : qu_n ps ≤ qu_n (va_up ps j true) := (qu_mono (fun k h => by
  by_cases e : k = j
  · rw [e, va_s]
  · rw [va_o e]; exact h)).1

set_option maxHeartbeats 4000000 in
set_option maxRecDepth 100000 in
theorem kc_MO_goOn (l : Launch) (B : Nat) (D : va_G) (G : Nat → Nat) (M : hm_M) (P O : Nat → Nat) (I : Nat → Int32) (A : Nat → Nat → Int32) (L : Nat → Nat → Int64) (hD : mo_D B D P O M I A L) (bs : List bd_T) (hB : bdS (I 6) (A 7) (A 8) (A 9) (A 10) bs) (key : List Nat) (hK : tpS (I 12) (A 11) key) (hs : List (List Nat × List Nat)) (hH : hdS (I 13) (L 14) (L 15) hs) (ex : Nat → Option (Int32 × Int32)) (hX : exS (A 3) (A 4) ex) (hW : ∀ d ∈ bs, ∀ s o, ex_at ex d.1 = some (s, o) → tx_for s d.2.2.2 = true) (ps fo : Nat → Bool) (od : Nat → Int32) (hFo : A 16 = fun k => nI (bz (fo k))) (hPs : A 17 = fun k => nI (bz (ps k))) (e9 : Nat) (he9 : e9 < 16) (s9 o9 : Int32) (hev : ex e9 = some (s9, o9)) : Met l yy_MO_goOn ws_MO_goOn ({ frames := 4, cells := 0, slots := 0, locals := 92 }) (hm_Pc B D G M [.ref (P 0), .int (nI e9)]) (hm_Ni B D (fun r M1 => ∃ fa fb fc, r = nI (bz (decide (qu_n ps < qu_n (ld_r ex bs key hs (ps, od, fo) (nI e9)).1))) ∧ mo_D B D P O M1 I (va_up (va_up (va_up (va_up (va_up A 16 (fun k => nI (bz ((ld_r ex bs key hs (ps, od, fo) (nI e9)).2.2 k)))) 17 (fun k => nI (bz ((ld_r ex bs key hs (ps, od, fo) (nI e9)).1 k)))) 19 fa) 20 fb) 21 fc) L ∧ cz_F O M O M1 pm)) (0) (0) (hm_A B) := by
  refine Met.ofW (cc := cd_MO_goOn) (maxL := 5) (ret := ((some FieldType.boolean))) (by decide) rfl ?_
  intro p e s m args below meth c s₁ B0 hml hv
  obtain ⟨rfl, hE, hP⟩ := hv
  have hx := B0.exec
  have hb := B0.bytes
  have hr := B0.returns
  have hts : ∀ w ∈ tb_G, w.before _ s = true := fun w h => atoms_spec (ws := ws_MO_goOn) B0.pre w (List.mem_cons_of_mem _ h)
  have hown : s.vm.findClass "RouteDeskModel" = some m.cls := findClass_of_methodNamed B0.named
  have hlocks := B0.notSynchronized
  have hRf : (headSpec ws_MO_goOn { frames := 4, cells := 0, slots := 0, locals := 92 }).room.frames = 4 := rfl
  have hRl : (headSpec ws_MO_goOn { frames := 4, cells := 0, slots := 0, locals := 92 }).room.locals = 92 := rfl
  have hRc : (headSpec ws_MO_goOn { frames := 4, cells := 0, slots := 0, locals := 92 }).room.cells = 0 := rfl
  have hRs : (headSpec ws_MO_goOn { frames := 4, cells := 0, slots := 0, locals := 92 }).room.slots = 0 := rfl
  generalize (headSpec ws_MO_goOn { frames := 4, cells := 0, slots := 0, locals := 92 }).room = R at hRf hRl hRc hRs ⊢
  have hS : va_S (hm_A B) s.heap s.heap [] := va_S.rf
  have hl := lv_entry ([.ref (P 0), .int (nI e9)]) (n := 5) (Nat.le_of_ble_eq_true rfl)
  rw [lg_entry_eq]
  generalize (lg_sl ([.ref (P 0), .int (nI e9)]) ++ List.replicate (5 - (lg_sl ([.ref (P 0), .int (nI e9)])).length) Slot.unset).toArray = ls at hl ⊢
  have hl : lv_has ls 5 [(0, .ref (P 0)), (1, .int (nI e9))] := hl
  have t16 : (nI 16).toInt = 16 := by decide
  have tm1 : (-1 : Int32).toInt = -1 := by decide
  have t0 : (nI 0).toInt = 0 := by decide
  have t2 : (nI 2).toInt = 2 := by decide
  have t3 : (nI 3).toInt = 3 := by decide
  have t1 : (nI 1).toInt = 1 := by decide
  have t4 : (nI 4).toInt = 4 := by decide
  obtain ⟨p0, p1, p3, p4, p5, p7, p8, p9, p10, p11, p14, p15, p16, p17, p19, p20, p21, po, pb⟩ := id hD
  obtain ⟨bi1, bi2, bi3⟩ := id hB
  have hin9 : ∀ d ∈ bs, in16 d.2.1 := fun d hd => by
    obtain ⟨j, hj⟩ := List.getElem?_of_mem hd
    exact (bi3 j d hj).2.2.2.2
  have te9 : (nI e9).toInt = e9 := nI_toInt (by omega)
  have hevx : ex_at ex (nI e9) = some (s9, o9) := by rw [ex_in ⟨by omega, by omega⟩, te9]; exact hev
  have hot : A 4 e9 = o9 := by
    rcases hX e9 he9 with h9 | ⟨s8, o8, q1, q2, q3, q4⟩
    · rw [hev] at h9; cases h9.1
    · rw [hev] at q1; cases q1; exact q3
  refine lv_iconst (v := nI 0) hx hb dd_MO_goOn_0 (by decide +kernel) ?_
  refine lv_istore_n (lv' := [(2, .int (nI 0)), (0, .ref (P 0)), (1, .int (nI e9))]) hx hb dd_MO_goOn_1 rfl hl (by decide) rfl (fun ls hl => ?_)
  refine lv_iconst (v := nI 0) hx hb dd_MO_goOn_2 (by decide +kernel) ?_
  refine lv_istore_n (lv' := [(3, .int (nI 0)), (2, .int (nI 0)), (0, .ref (P 0)), (1, .int (nI e9))]) hx hb dd_MO_goOn_3 rfl hl (by decide) rfl (fun ls hl => ?_)
  refine lv_iconst (v := nI 0) hx hb dd_MO_goOn_4 (by decide +kernel) ?_
  refine lv_istore (lv' := [(4, .int (nI 0)), (3, .int (nI 0)), (2, .int (nI 0)), (0, .ref (P 0)), (1, .int (nI e9))]) hx hb dd_MO_goOn_5 hl (by decide) rfl (fun ls hl => ?_)
  have lp7 : ∀ (n9 : Nat) (k : Nat) (ca : rs_T) (fr : Bool) (an : Bool) (fa : Nat → Int32) (fb : Nat → Int32) (fc : Nat → Int32) (Mu7 : hm_M), (k ≤ bs.length) → (ca = rs_l (ld_P key hs (nI e9) s9) (bs.take k) (ps, od, fo)) → (fr = decide (qu_n ps < qu_n ca.1)) → (an = (bs.take k).any (ld_P key hs (nI e9) s9)) → (mo_D B D P O Mu7 I (va_up (va_up (va_up (va_up (va_up A 16 (fun k => nI (bz (ca.2.2 k)))) 17 (fun k => nI (bz (ca.1 k)))) 19 fa) 20 fb) 21 fc) L) → (cz_F O M O Mu7 pm) → bs.length - k < n9 → ∀ (H : Heap) (locs : List Loc) (ls : Array Slot), hm_P D cl_W Mu7 H → va_S (hm_A B) s.heap H locs → lv_has ls 5 [(0, .ref (P 0)), (1, .int (nI e9)), (2, .int (nI (bz fr))), (3, .int (nI (bz an))), (4, .int (nI k))] → W p l e R s m ([.ref (P 0), .int (nI e9)] : List Value).toArray below meth c H locs (0) (0) (MQ below (hm_Ni B D (fun r M1 => ∃ fa fb fc, r = nI (bz (decide (qu_n ps < qu_n (ld_r ex bs key hs (ps, od, fo) (nI e9)).1))) ∧ mo_D B D P O M1 I (va_up (va_up (va_up (va_up (va_up A 16 (fun k => nI (bz ((ld_r ex bs key hs (ps, od, fo) (nI e9)).2.2 k)))) 17 (fun k => nI (bz ((ld_r ex bs key hs (ps, od, fo) (nI e9)).1 k)))) 19 fa) 20 fb) 21 fc) L ∧ cz_F O M O M1 pm)) ([.ref (P 0), .int (nI e9)] : List Value).toArray s (0) (0) (hm_A B)) (F0 m 7 ls []) := by
    intro n9
    induction n9 with
    | zero => intro k ca fr an fa fb fc Mu7 hk hca hfr han hd7 hF7 hm; exact absurd hm (Nat.not_lt_zero _)
    | succ n9 ih7 =>
      intro k ca fr an fa fb fc Mu7 hk hca hfr han hd7 hF7 hm H locs ls hP hS hl
      obtain ⟨g1_0, g1_1, g1_3, g1_4, g1_5, g1_7, g1_8, g1_9, g1_10, g1_11, g1_14, g1_15, g1_16, g1_17, g1_19, g1_20, g1_21, -, -⟩ := id hd7
      have g1_1 : Mu7 (P 1) = some (.inl (D.1 102, 48, .inl (A 1))) := g1_1
      have g1_3 : Mu7 (P 3) = some (.inl (D.1 102, 16, .inl (A 3))) := g1_3
      have g1_4 : Mu7 (P 4) = some (.inl (D.1 102, 16, .inl (A 4))) := g1_4
      have g1_5 : Mu7 (P 5) = some (.inl (D.1 101, 16, .inl (A 5))) := g1_5
      have g1_7 : Mu7 (P 7) = some (.inl (D.1 102, 120, .inl (A 7))) := g1_7
      have g1_8 : Mu7 (P 8) = some (.inl (D.1 102, 120, .inl (A 8))) := g1_8
      have g1_9 : Mu7 (P 9) = some (.inl (D.1 102, 120, .inl (A 9))) := g1_9
      have g1_10 : Mu7 (P 10) = some (.inl (D.1 102, 5760, .inl (A 10))) := g1_10
      have g1_11 : Mu7 (P 11) = some (.inl (D.1 102, 48, .inl (A 11))) := g1_11
      have g1_16 : Mu7 (P 16) = some (.inl (D.1 101, 16, .inl (fun k => nI (bz (ca.2.2 k))))) := g1_16
      have g1_17 : Mu7 (P 17) = some (.inl (D.1 101, 16, .inl (fun k => nI (bz (ca.1 k))))) := g1_17
      have g1_19 : Mu7 (P 19) = some (.inl (D.1 101, 2601, .inl fa)) := g1_19
      have g1_20 : Mu7 (P 20) = some (.inl (D.1 102, 52, .inl fb)) := g1_20
      have g1_21 : Mu7 (P 21) = some (.inl (D.1 102, 52, .inl fc)) := g1_21
      refine lv_iload hx hb dd_MO_goOn_7 (lv_at hl 4 rfl) ?_
      refine lv_aload_n hx hb dd_MO_goOn_9 rfl (lv_at hl 0 rfl) ?_
      refine hm_get (ci := 6) (C := rn_MO) (T := ft_MO) (N := 22) hx hb hts fi_MO hown hE.K hP g1_0 rfl 6 (by decide) (hts _ tw_992) (fun _ h9 => h9) rfl dd_MO_goOn_10 ?_
      refine W.eq (g2 := F0 m 13 ls [.int (nI bs.length), .int (nI k)]) (by rw [bi1]) ?_
      refine hn_icmp_ge (tgt := 116) hx hb (by omega) (by omega) dd_MO_goOn_13 (by decide) (fun c2 => ?_) (fun c2 => ?_)
      · have hba : an = bs.any (ld_P key hs (nI e9) s9) := by rw [han, List.take_of_length_le (by omega)]
        have hcab : ca = rs_l (ld_P key hs (nI e9) s9) bs (ps, od, fo) := by rw [hca, List.take_of_length_le (by omega)]
        refine lv_iload_n hx hb dd_MO_goOn_116 rfl (lv_at hl 3 rfl) ?_
        refine hn_if_ne (tgt := 133) hx hb (bz_b _) dd_MO_goOn_117 (by decide) (fun c3 => ?_) (fun c3 => ?_)
        · have hAn := bz_t c3
          refine lv_iload_n hx hb dd_MO_goOn_133 rfl (lv_at hl 2 rfl) ?_
          have hld : (ld_r ex bs key hs (ps, od, fo) (nI e9)) = ca := by rw [ld_r, hevx]; show (if _ then _ else _ : rs_T) = _; rw [if_pos (by rw [← hba]; exact hAn), hcab]
          exact hm_Ei (v := nI (bz fr)) hx hb hr (bz_n _) hS hP (⟨fa, fb, fc, by rw [hld, hfr], by rw [hld]; exact ⟨g1_0, g1_1, g1_3, g1_4, g1_5, g1_7, g1_8, g1_9, g1_10, g1_11, g1_14, g1_15, g1_16, g1_17, g1_19, g1_20, g1_21, po, pb⟩, hF7⟩) hlocks (by omega) (by omega) dd_MO_goOn_134
        · have hAn := bz_f c3
          refine lv_aload_n hx hb dd_MO_goOn_120 rfl (lv_at hl 0 rfl) ?_
          refine lv_aload_n hx hb dd_MO_goOn_121 rfl (lv_at hl 0 rfl) ?_
          refine hm_get (ci := 6) (C := rn_MO) (T := ft_MO) (N := 22) hx hb hts fi_MO hown hE.K hP g1_0 rfl 4 (by decide) (hts _ tw_990) (fun _ h9 => h9) rfl dd_MO_goOn_122 ?_
          refine lv_iload_n hx hb dd_MO_goOn_125 rfl (lv_at hl 1 rfl) ?_
          refine hm_iald (j := e9) hx hb hE.K hP 2 g1_4 rfl (vp_in_nI (by omega) (by omega)) (nI_clamp (by omega)) dd_MO_goOn_126 ?_
          refine W.eq (g2 := F0 m 127 ls [.int o9, .ref (P 0)]) (by rw [hot]) ?_
          have hd4 : mo_D B D P O Mu7 I (va_up (va_up (va_up (va_up (va_up A 16 (fun k => nI (bz (ca.2.2 k)))) 17 (fun k => nI (bz (ca.1 k)))) 19 fa) 20 fb) 21 fc) L := ⟨g1_0, g1_1, g1_3, g1_4, g1_5, g1_7, g1_8, g1_9, g1_10, g1_11, g1_14, g1_15, g1_16, g1_17, g1_19, g1_20, g1_21, po, pb⟩
          refine hm_ci hS (hm_rV 1 (As := [.int o9]) (rest := []) ⟨hx, hb, hml, hown, hts⟩ hE hS hP (kc_MO_isExchange l B D G Mu7 P O I (va_up (va_up (va_up (va_up (va_up A 16 (fun k => nI (bz (ca.2.2 k)))) 17 (fun k => nI (bz (ca.1 k)))) 19 fa) 20 fb) 21 fc) L hd4 o9) rfl g1_0 tw_1078 tw_1075 tw_1077 tw_18 tw_46 (by decide +kernel) rfl rfl ⟨by show 0 + 1 ≤ R.frames; omega, by show 8 + (2 + 11) + 0 ≤ R.locals; omega⟩ rfl hl.1 rfl (Nat.le_of_ble_eq_true rfl) dd_MO_goOn_127 ⟨by omega, by omega⟩) (fun r5 M6 H locs hw7 hP hS => ?_)
          refine W.widen (k := 0) (n := 0) (by omega) (by omega) ?_
          obtain ⟨hrM6, eM6⟩ := hw7
          rw [eM6] at hP
          have hrM6 := hrM6.trans (by rw [exS_x (A := (va_up (va_up (va_up (va_up (va_up A 16 (fun k => nI (bz (ca.2.2 k)))) 17 (fun k => nI (bz (ca.1 k)))) 19 fa) 20 fb) 21 fc)) hX])
          obtain rfl : r5 = nI (bz (ex_at ex o9).isSome) := hrM6
          refine hn_if_ne (tgt := 135) hx hb (bz_b _) dd_MO_goOn_130 (by decide) (fun c8 => ?_) (fun c8 => ?_)
          · have hoe := bz_t c8
            have hoin := ex_some hoe
            have hoin1 := hoin.1
            have hoin2 := hoin.2
            refine lv_aload_n hx hb dd_MO_goOn_135 rfl (lv_at hl 0 rfl) ?_
            refine hm_get (ci := 6) (C := rn_MO) (T := ft_MO) (N := 22) hx hb hts fi_MO hown hE.K hP g1_0 rfl 17 (by decide) (hts _ tw_1003) (fun _ h9 => h9) rfl dd_MO_goOn_136 ?_
            refine lv_aload_n hx hb dd_MO_goOn_139 rfl (lv_at hl 0 rfl) ?_
            refine hm_get (ci := 6) (C := rn_MO) (T := ft_MO) (N := 22) hx hb hts fi_MO hown hE.K hP g1_0 rfl 4 (by decide) (hts _ tw_990) (fun _ h9 => h9) rfl dd_MO_goOn_140 ?_
            refine lv_iload_n hx hb dd_MO_goOn_143 rfl (lv_at hl 1 rfl) ?_
            refine hm_iald (j := e9) hx hb hE.K hP 2 g1_4 rfl (vp_in_nI (by omega) (by omega)) (nI_clamp (by omega)) dd_MO_goOn_144 ?_
            refine W.eq (g2 := F0 m 145 ls [.int o9, .ref (P 17)]) (by rw [hot]) ?_
            refine hm_zald (j := o9.toInt.toNat) hx hb hE.K hP 1 g1_17 rfl (hi_in (by omega) (by omega)) hi_clamp dd_MO_goOn_145 ?_
            refine W.eq (g2 := F0 m 146 ls [.int (nI (bz (ca.1 o9.toInt.toNat)))]) rfl ?_
            refine hn_if_ne (tgt := 153) hx hb (bz_b _) dd_MO_goOn_146 (by decide) (fun c9 => ?_) (fun c9 => ?_)
            · have hp2 := bz_t c9
              refine lv_iconst (v := nI 0) hx hb dd_MO_goOn_153 (by decide +kernel) ?_
              refine lv_istore_n (lv' := [(2, .int (nI 0)), (0, .ref (P 0)), (1, .int (nI e9)), (3, .int (nI (bz an))), (4, .int (nI k))]) hx hb dd_MO_goOn_154 rfl hl (by decide) rfl (fun ls hl => ?_)
              refine lv_aload_n hx hb dd_MO_goOn_155 rfl (lv_at hl 1 rfl) ?_
              refine hm_get (ci := 6) (C := rn_MO) (T := ft_MO) (N := 22) hx hb hts fi_MO hown hE.K hP g1_0 rfl 17 (by decide) (hts _ tw_1003) (fun _ h9 => h9) rfl dd_MO_goOn_156 ?_
              refine lv_aload_n hx hb dd_MO_goOn_159 rfl (lv_at hl 1 rfl) ?_
              refine hm_get (ci := 6) (C := rn_MO) (T := ft_MO) (N := 22) hx hb hts fi_MO hown hE.K hP g1_0 rfl 4 (by decide) (hts _ tw_990) (fun _ h9 => h9) rfl dd_MO_goOn_160 ?_
              refine lv_iload_n hx hb dd_MO_goOn_163 rfl (lv_at hl 2 rfl) ?_
              refine hm_iald (j := e9) hx hb hE.K hP 2 g1_4 rfl (vp_in_nI (by omega) (by omega)) (nI_clamp (by omega)) dd_MO_goOn_164 ?_
              refine W.eq (g2 := F0 m 165 ls [.int o9, .ref (P 17)]) (by rw [hot]) ?_
              refine lv_iconst (v := nI 1) hx hb dd_MO_goOn_165 (by decide +kernel) ?_
              refine hm_zast (y := nI (bz true)) (j := o9.toInt.toNat) hx hb hE.K hP hS (pb 17 (by decide)) 1 g1_17 rfl (hi_in (by omega) (by omega)) hi_clamp rfl dd_MO_goOn_166 (fun H locs hP hS => ?_)
              obtain ⟨M10, eM10⟩ : ∃ z, z = hm_up Mu7 (P 17) (.inl (D.1 101, 16, .inl (upd (fun k => nI (bz (ca.1 k))) o9.toInt.toNat (nI (bz true))))) := ⟨_, rfl⟩
              rw [← eM10] at hP
              have f11 : M10 (P 0) = some (.inr (6, [.int (I 0), .ref (P 1), .int (I 2), .ref (P 3), .ref (P 4), .ref (P 5), .int (I 6), .ref (P 7), .ref (P 8), .ref (P 9), .ref (P 10), .ref (P 11), .int (I 12), .int (I 13), .ref (P 14), .ref (P 15), .ref (P 16), .ref (P 17), .int (I 18), .ref (P 19), .ref (P 20), .ref (P 21)])) := by rw [eM10]; exact hm_up_o (hm_neO (po 0 (by decide)) (po 17 (by decide)) (by decide)) g1_0
              have f12 : M10 (P 1) = some (.inl (D.1 102, 48, .inl (A 1))) := by rw [eM10]; exact hm_up_o (hm_neO (po 1 (by decide)) (po 17 (by decide)) (by decide)) g1_1
              have f13 : M10 (P 3) = some (.inl (D.1 102, 16, .inl (A 3))) := by rw [eM10]; exact hm_up_o (hm_neO (po 3 (by decide)) (po 17 (by decide)) (by decide)) g1_3
              have f14 : M10 (P 4) = some (.inl (D.1 102, 16, .inl (A 4))) := by rw [eM10]; exact hm_up_o (hm_neO (po 4 (by decide)) (po 17 (by decide)) (by decide)) g1_4
              have f15 : M10 (P 5) = some (.inl (D.1 101, 16, .inl (A 5))) := by rw [eM10]; exact hm_up_o (hm_neO (po 5 (by decide)) (po 17 (by decide)) (by decide)) g1_5
              have f16 : M10 (P 7) = some (.inl (D.1 102, 120, .inl (A 7))) := by rw [eM10]; exact hm_up_o (hm_neO (po 7 (by decide)) (po 17 (by decide)) (by decide)) g1_7
              have f17 : M10 (P 8) = some (.inl (D.1 102, 120, .inl (A 8))) := by rw [eM10]; exact hm_up_o (hm_neO (po 8 (by decide)) (po 17 (by decide)) (by decide)) g1_8
              have f18 : M10 (P 9) = some (.inl (D.1 102, 120, .inl (A 9))) := by rw [eM10]; exact hm_up_o (hm_neO (po 9 (by decide)) (po 17 (by decide)) (by decide)) g1_9
              have f19 : M10 (P 10) = some (.inl (D.1 102, 5760, .inl (A 10))) := by rw [eM10]; exact hm_up_o (hm_neO (po 10 (by decide)) (po 17 (by decide)) (by decide)) g1_10
              have f20 : M10 (P 11) = some (.inl (D.1 102, 48, .inl (A 11))) := by rw [eM10]; exact hm_up_o (hm_neO (po 11 (by decide)) (po 17 (by decide)) (by decide)) g1_11
              have f21 : M10 (P 14) = some (.inl (D.1 103, 6, .inr (.inl (L 14)))) := by rw [eM10]; exact hm_up_o (hm_neO (po 14 (by decide)) (po 17 (by decide)) (by decide)) g1_14
              have f22 : M10 (P 15) = some (.inl (D.1 103, 6, .inr (.inl (L 15)))) := by rw [eM10]; exact hm_up_o (hm_neO (po 15 (by decide)) (po 17 (by decide)) (by decide)) g1_15
              have f23 : M10 (P 16) = some (.inl (D.1 101, 16, .inl (fun k => nI (bz (ca.2.2 k))))) := by rw [eM10]; exact hm_up_o (hm_neO (po 16 (by decide)) (po 17 (by decide)) (by decide)) g1_16
              have f24 : M10 (P 19) = some (.inl (D.1 101, 2601, .inl fa)) := by rw [eM10]; exact hm_up_o (hm_neO (po 19 (by decide)) (po 17 (by decide)) (by decide)) g1_19
              have f25 : M10 (P 20) = some (.inl (D.1 102, 52, .inl fb)) := by rw [eM10]; exact hm_up_o (hm_neO (po 20 (by decide)) (po 17 (by decide)) (by decide)) g1_20
              have f26 : M10 (P 21) = some (.inl (D.1 102, 52, .inl fc)) := by rw [eM10]; exact hm_up_o (hm_neO (po 21 (by decide)) (po 17 (by decide)) (by decide)) g1_21
              have f27 : M10 (P 17) = some (.inl (D.1 101, 16, .inl (upd (fun k => nI (bz (ca.1 k))) o9.toInt.toNat (nI (bz true))))) := by rw [eM10]; exact hm_up_s
              refine lv_iload_n hx hb dd_MO_goOn_167 rfl (lv_at hl 0 rfl) ?_
              have hcr : ca = (ps, od, fo) := by rw [hcab, rs_none (by rw [← hba]; exact hAn)]
              have hld : (ld_r ex bs key hs (ps, od, fo) (nI e9)) = rs_p ca o9 := by rw [ld_r, hevx]; show (if _ then _ else _ : rs_T) = _; rw [if_neg (by rw [← hba, hAn]; decide), if_pos hoe, hcr]
              have hl1 : (rs_p ca o9).1 = va_up ca.1 o9.toInt.toNat true := mp_va hoin
              have f28 : M10 (P 17) = some (.inl (D.1 101, 16, .inl (fun k => nI (bz ((rs_p ca o9).1 k))))) := f27.trans (by rw [bz_up, hl1])
              have kk29 : hm_k Mu7 Mu7 [(P 17)] := hm_krf
              have kk30 : hm_k Mu7 M10 [(P 17)] := hm_ku kk29 (Or.inr (by simp)) eM10
              exact hm_Ei (v := nI 0) hx hb hr rfl hS hP (⟨fa, fb, fc, by rw [hld, hl1, va_t hp2, hcr]; exact bz_0 (decide_eq_false (Nat.lt_irrefl _)), by rw [hld]; exact ⟨f11, f12, f13, f14, f15, f16, f17, f18, f19, f20, f21, f22, f23, f28, f24, f25, f26, po, pb⟩, (hF7).trans (cz_F.k0 kk30 (hm_a1 ⟨by rw [po 17 (by decide)]; unfold pm; omega, _, f28⟩))⟩) hlocks (by omega) (by omega) dd_MO_goOn_168
            · have hp2 := bz_f c9
              refine lv_iconst (v := nI 1) hx hb dd_MO_goOn_149 (by decide +kernel) ?_
              refine lv_goto (tgt := 154) hx hb dd_MO_goOn_150 (by decide) ?_
              refine lv_istore_n (lv' := [(2, .int (nI 1)), (0, .ref (P 0)), (1, .int (nI e9)), (3, .int (nI (bz an))), (4, .int (nI k))]) hx hb dd_MO_goOn_154 rfl hl (by decide) rfl (fun ls hl => ?_)
              refine lv_aload_n hx hb dd_MO_goOn_155 rfl (lv_at hl 1 rfl) ?_
              refine hm_get (ci := 6) (C := rn_MO) (T := ft_MO) (N := 22) hx hb hts fi_MO hown hE.K hP g1_0 rfl 17 (by decide) (hts _ tw_1003) (fun _ h9 => h9) rfl dd_MO_goOn_156 ?_
              refine lv_aload_n hx hb dd_MO_goOn_159 rfl (lv_at hl 1 rfl) ?_
              refine hm_get (ci := 6) (C := rn_MO) (T := ft_MO) (N := 22) hx hb hts fi_MO hown hE.K hP g1_0 rfl 4 (by decide) (hts _ tw_990) (fun _ h9 => h9) rfl dd_MO_goOn_160 ?_
              refine lv_iload_n hx hb dd_MO_goOn_163 rfl (lv_at hl 2 rfl) ?_
              refine hm_iald (j := e9) hx hb hE.K hP 2 g1_4 rfl (vp_in_nI (by omega) (by omega)) (nI_clamp (by omega)) dd_MO_goOn_164 ?_
              refine W.eq (g2 := F0 m 165 ls [.int o9, .ref (P 17)]) (by rw [hot]) ?_
              refine lv_iconst (v := nI 1) hx hb dd_MO_goOn_165 (by decide +kernel) ?_
              refine hm_zast (y := nI (bz true)) (j := o9.toInt.toNat) hx hb hE.K hP hS (pb 17 (by decide)) 1 g1_17 rfl (hi_in (by omega) (by omega)) hi_clamp rfl dd_MO_goOn_166 (fun H locs hP hS => ?_)
              obtain ⟨M31, eM31⟩ : ∃ z, z = hm_up Mu7 (P 17) (.inl (D.1 101, 16, .inl (upd (fun k => nI (bz (ca.1 k))) o9.toInt.toNat (nI (bz true))))) := ⟨_, rfl⟩
              rw [← eM31] at hP
              have f32 : M31 (P 0) = some (.inr (6, [.int (I 0), .ref (P 1), .int (I 2), .ref (P 3), .ref (P 4), .ref (P 5), .int (I 6), .ref (P 7), .ref (P 8), .ref (P 9), .ref (P 10), .ref (P 11), .int (I 12), .int (I 13), .ref (P 14), .ref (P 15), .ref (P 16), .ref (P 17), .int (I 18), .ref (P 19), .ref (P 20), .ref (P 21)])) := by rw [eM31]; exact hm_up_o (hm_neO (po 0 (by decide)) (po 17 (by decide)) (by decide)) g1_0
              have f33 : M31 (P 1) = some (.inl (D.1 102, 48, .inl (A 1))) := by rw [eM31]; exact hm_up_o (hm_neO (po 1 (by decide)) (po 17 (by decide)) (by decide)) g1_1
              have f34 : M31 (P 3) = some (.inl (D.1 102, 16, .inl (A 3))) := by rw [eM31]; exact hm_up_o (hm_neO (po 3 (by decide)) (po 17 (by decide)) (by decide)) g1_3
              have f35 : M31 (P 4) = some (.inl (D.1 102, 16, .inl (A 4))) := by rw [eM31]; exact hm_up_o (hm_neO (po 4 (by decide)) (po 17 (by decide)) (by decide)) g1_4
              have f36 : M31 (P 5) = some (.inl (D.1 101, 16, .inl (A 5))) := by rw [eM31]; exact hm_up_o (hm_neO (po 5 (by decide)) (po 17 (by decide)) (by decide)) g1_5
              have f37 : M31 (P 7) = some (.inl (D.1 102, 120, .inl (A 7))) := by rw [eM31]; exact hm_up_o (hm_neO (po 7 (by decide)) (po 17 (by decide)) (by decide)) g1_7
              have f38 : M31 (P 8) = some (.inl (D.1 102, 120, .inl (A 8))) := by rw [eM31]; exact hm_up_o (hm_neO (po 8 (by decide)) (po 17 (by decide)) (by decide)) g1_8
              have f39 : M31 (P 9) = some (.inl (D.1 102, 120, .inl (A 9))) := by rw [eM31]; exact hm_up_o (hm_neO (po 9 (by decide)) (po 17 (by decide)) (by decide)) g1_9
              have f40 : M31 (P 10) = some (.inl (D.1 102, 5760, .inl (A 10))) := by rw [eM31]; exact hm_up_o (hm_neO (po 10 (by decide)) (po 17 (by decide)) (by decide)) g1_10
              have f41 : M31 (P 11) = some (.inl (D.1 102, 48, .inl (A 11))) := by rw [eM31]; exact hm_up_o (hm_neO (po 11 (by decide)) (po 17 (by decide)) (by decide)) g1_11
              have f42 : M31 (P 14) = some (.inl (D.1 103, 6, .inr (.inl (L 14)))) := by rw [eM31]; exact hm_up_o (hm_neO (po 14 (by decide)) (po 17 (by decide)) (by decide)) g1_14
              have f43 : M31 (P 15) = some (.inl (D.1 103, 6, .inr (.inl (L 15)))) := by rw [eM31]; exact hm_up_o (hm_neO (po 15 (by decide)) (po 17 (by decide)) (by decide)) g1_15
              have f44 : M31 (P 16) = some (.inl (D.1 101, 16, .inl (fun k => nI (bz (ca.2.2 k))))) := by rw [eM31]; exact hm_up_o (hm_neO (po 16 (by decide)) (po 17 (by decide)) (by decide)) g1_16
              have f45 : M31 (P 19) = some (.inl (D.1 101, 2601, .inl fa)) := by rw [eM31]; exact hm_up_o (hm_neO (po 19 (by decide)) (po 17 (by decide)) (by decide)) g1_19
              have f46 : M31 (P 20) = some (.inl (D.1 102, 52, .inl fb)) := by rw [eM31]; exact hm_up_o (hm_neO (po 20 (by decide)) (po 17 (by decide)) (by decide)) g1_20
              have f47 : M31 (P 21) = some (.inl (D.1 102, 52, .inl fc)) := by rw [eM31]; exact hm_up_o (hm_neO (po 21 (by decide)) (po 17 (by decide)) (by decide)) g1_21
              have f48 : M31 (P 17) = some (.inl (D.1 101, 16, .inl (upd (fun k => nI (bz (ca.1 k))) o9.toInt.toNat (nI (bz true))))) := by rw [eM31]; exact hm_up_s
              refine lv_iload_n hx hb dd_MO_goOn_167 rfl (lv_at hl 0 rfl) ?_
              have hcr : ca = (ps, od, fo) := by rw [hcab, rs_none (by rw [← hba]; exact hAn)]
              have hld : (ld_r ex bs key hs (ps, od, fo) (nI e9)) = rs_p ca o9 := by rw [ld_r, hevx]; show (if _ then _ else _ : rs_T) = _; rw [if_neg (by rw [← hba, hAn]; decide), if_pos hoe, hcr]
              have hl1 : (rs_p ca o9).1 = va_up ca.1 o9.toInt.toNat true := mp_va hoin
              have f49 : M31 (P 17) = some (.inl (D.1 101, 16, .inl (fun k => nI (bz ((rs_p ca o9).1 k))))) := f48.trans (by rw [bz_up, hl1])
              have kk50 : hm_k Mu7 Mu7 [(P 17)] := hm_krf
              have kk51 : hm_k Mu7 M31 [(P 17)] := hm_ku kk50 (Or.inr (by simp)) eM31
              exact hm_Ei (v := nI 1) hx hb hr rfl hS hP (⟨fa, fb, fc, by rw [hld, hl1, qu_up hp2 (by omega), hcr]; exact bz_1 (decide_eq_true (Nat.lt_succ_self _)), by rw [hld]; exact ⟨f32, f33, f34, f35, f36, f37, f38, f39, f40, f41, f42, f43, f44, f49, f45, f46, f47, po, pb⟩, (hF7).trans (cz_F.k0 kk51 (hm_a1 ⟨by rw [po 17 (by decide)]; unfold pm; omega, _, f49⟩))⟩) hlocks (by omega) (by omega) dd_MO_goOn_168
          · have hoe := bz_f c8
            refine lv_iload_n hx hb dd_MO_goOn_133 rfl (lv_at hl 2 rfl) ?_
            have hld : (ld_r ex bs key hs (ps, od, fo) (nI e9)) = ca := by rw [ld_r, hevx]; show (if _ then _ else _ : rs_T) = _; rw [if_neg (by rw [← hba, hAn]; decide), if_neg (by rw [hoe]; decide), hcab, rs_none (by rw [← hba]; exact hAn)]
            exact hm_Ei (v := nI (bz fr)) hx hb hr (bz_n _) hS hP (⟨fa, fb, fc, by rw [hld, hfr], by rw [hld]; exact ⟨g1_0, g1_1, g1_3, g1_4, g1_5, g1_7, g1_8, g1_9, g1_10, g1_11, g1_14, g1_15, g1_16, g1_17, g1_19, g1_20, g1_21, po, pb⟩, hF7⟩) hlocks (by omega) (by omega) dd_MO_goOn_134
      · obtain ⟨b, hb1⟩ : ∃ b, bs[k]? = some b := ⟨_, List.getElem?_eq_getElem (by omega)⟩
        obtain ⟨bf1, bf2, bf3, bf4, bf5⟩ := bi3 k b hb1
        have hbm := List.mem_of_getElem? hb1
        have bf51 := bf5.1
        have bf52 := bf5.2
        have htv := to_v b.2.2.1 bf5
        refine lv_aload_n hx hb dd_MO_goOn_16 rfl (lv_at hl 0 rfl) ?_
        refine hm_get (ci := 6) (C := rn_MO) (T := ft_MO) (N := 22) hx hb hts fi_MO hown hE.K hP g1_0 rfl 7 (by decide) (hts _ tw_993) (fun _ h9 => h9) rfl dd_MO_goOn_17 ?_
        refine lv_iload hx hb dd_MO_goOn_20 (lv_at hl 4 rfl) ?_
        refine hm_iald (j := k) hx hb hE.K hP 2 g1_7 rfl (vp_in_nI (by omega) (by omega)) (nI_clamp (by omega)) dd_MO_goOn_22 ?_
        refine W.eq (g2 := F0 m 23 ls [.int b.1]) (by rw [bf1]) ?_
        refine lv_iload_n hx hb dd_MO_goOn_23 rfl (lv_at hl 1 rfl) ?_
        refine hi_icmp_ne (tgt := 110) hx hb dd_MO_goOn_24 (by decide) (fun c52 => ?_) (fun c52 => ?_)
        · have hPb : (ld_P key hs (nI e9) s9) b = false := by rw [ld_P, bd_fr, decide_eq_false (hi_ne c52)]; rfl
          refine lv_iinc (v := nI (k + 1)) (lv' := [(4, .int (nI (k + 1))), (0, .ref (P 0)), (1, .int (nI e9)), (2, .int (nI (bz fr))), (3, .int (nI (bz an)))]) hx hb dd_MO_goOn_110 hl (k := 4) rfl (nI_1 k) (by decide) rfl (fun ls hl => ?_)
          refine lv_goto (tgt := 7) hx hb dd_MO_goOn_113 (by decide) ?_
          exact ih7 (k + 1) ca fr an fa fb fc Mu7 (by omega) (by rw [hca, rs_step hb1, if_neg (by rw [hPb]; decide)]) (hfr) (by rw [an_step hb1, ← han, hPb, Bool.or_false]) (⟨g1_0, g1_1, g1_3, g1_4, g1_5, g1_7, g1_8, g1_9, g1_10, g1_11, g1_14, g1_15, g1_16, g1_17, g1_19, g1_20, g1_21, po, pb⟩) (hF7) (by omega) _ _ _ hP hS (lv_sub hl [1, 2, 3, 4, 0] rfl)
        · have hbe : b.1 = nI e9 := hi_eq c52
          have hevb : ex_at ex b.1 = some (s9, o9) := by rw [hbe]; exact hevx
          refine lv_aload_n hx hb dd_MO_goOn_27 rfl (lv_at hl 0 rfl) ?_
          refine lv_iload hx hb dd_MO_goOn_28 (lv_at hl 4 rfl) ?_
          have hF54 : cz_F O M O Mu7 pm := hF7
          have hd53 : mo_D B D P O Mu7 I (va_up (va_up (va_up (va_up (va_up A 16 (fun k => nI (bz (ca.2.2 k)))) 17 (fun k => nI (bz (ca.1 k)))) 19 fa) 20 fb) 21 fc) L := ⟨g1_0, g1_1, g1_3, g1_4, g1_5, g1_7, g1_8, g1_9, g1_10, g1_11, g1_14, g1_15, g1_16, g1_17, g1_19, g1_20, g1_21, po, pb⟩
          refine hm_ci hS (hm_rV 1 (As := [.int (nI k)]) (rest := []) ⟨hx, hb, hml, hown, hts⟩ hE hS hP (kc_MO_leads l B D G Mu7 P O I (va_up (va_up (va_up (va_up (va_up A 16 (fun k => nI (bz (ca.2.2 k)))) 17 (fun k => nI (bz (ca.1 k)))) 19 fa) 20 fb) 21 fc) L hd53 bs hB key hK hs hH ex hX k b hb1 s9 o9 hevb (hW b hbm s9 o9 hevb)) rfl g1_0 tw_1161 tw_1158 tw_1160 tw_30 tw_46 (by decide +kernel) rfl rfl ⟨by show 3 + 1 ≤ R.frames; omega, by show 8 + (2 + 11) + 71 ≤ R.locals; omega⟩ rfl hl.1 rfl (Nat.le_of_ble_eq_true rfl) dd_MO_goOn_30 ⟨by omega, by omega⟩) (fun r55 M56 H locs hw57 hP hS => ?_)
          refine W.widen (k := 0) (n := 0) (by omega) (by omega) ?_
          obtain ⟨rfl, far55, fbr55, fcr55, hd58, hF59⟩ := hw57
          have hF59 := hF54.trans hF59
          obtain ⟨g60_0, g60_1, g60_3, g60_4, g60_5, g60_7, g60_8, g60_9, g60_10, g60_11, g60_14, g60_15, g60_16, g60_17, g60_19, g60_20, g60_21, -, -⟩ := id hd58
          have g60_1 : M56 (P 1) = some (.inl (D.1 102, 48, .inl (A 1))) := g60_1
          have g60_3 : M56 (P 3) = some (.inl (D.1 102, 16, .inl (A 3))) := g60_3
          have g60_4 : M56 (P 4) = some (.inl (D.1 102, 16, .inl (A 4))) := g60_4
          have g60_5 : M56 (P 5) = some (.inl (D.1 101, 16, .inl (A 5))) := g60_5
          have g60_7 : M56 (P 7) = some (.inl (D.1 102, 120, .inl (A 7))) := g60_7
          have g60_8 : M56 (P 8) = some (.inl (D.1 102, 120, .inl (A 8))) := g60_8
          have g60_9 : M56 (P 9) = some (.inl (D.1 102, 120, .inl (A 9))) := g60_9
          have g60_10 : M56 (P 10) = some (.inl (D.1 102, 5760, .inl (A 10))) := g60_10
          have g60_11 : M56 (P 11) = some (.inl (D.1 102, 48, .inl (A 11))) := g60_11
          have g60_16 : M56 (P 16) = some (.inl (D.1 101, 16, .inl (fun k => nI (bz (ca.2.2 k))))) := g60_16
          have g60_17 : M56 (P 17) = some (.inl (D.1 101, 16, .inl (fun k => nI (bz (ca.1 k))))) := g60_17
          have g60_19 : M56 (P 19) = some (.inl (D.1 101, 2601, .inl far55)) := g60_19
          have g60_20 : M56 (P 20) = some (.inl (D.1 102, 52, .inl fbr55)) := g60_20
          have g60_21 : M56 (P 21) = some (.inl (D.1 102, 52, .inl fcr55)) := g60_21
          refine hn_if_ne (tgt := 39) hx hb (bz_b _) dd_MO_goOn_33 (by decide) (fun c61 => ?_) (fun c61 => ?_)
          · have hPb : (ld_P key hs (nI e9) s9) b = true := by rw [ld_P, bd_fr, decide_eq_true hbe, bz_t c61]; rfl
            refine lv_iconst (v := nI 1) hx hb dd_MO_goOn_39 (by decide +kernel) ?_
            refine lv_istore_n (lv' := [(3, .int (nI 1)), (0, .ref (P 0)), (1, .int (nI e9)), (2, .int (nI (bz fr))), (4, .int (nI k))]) hx hb dd_MO_goOn_40 rfl hl (by decide) rfl (fun ls hl => ?_)
            refine lv_aload_n hx hb dd_MO_goOn_41 rfl (lv_at hl 1 rfl) ?_
            refine hm_get (ci := 6) (C := rn_MO) (T := ft_MO) (N := 22) hx hb hts fi_MO hown hE.K hP g60_0 rfl 8 (by decide) (hts _ tw_994) (fun _ h9 => h9) rfl dd_MO_goOn_42 ?_
            refine lv_iload hx hb dd_MO_goOn_45 (lv_at hl 4 rfl) ?_
            refine hm_iald (j := k) hx hb hE.K hP 2 g60_8 rfl (vp_in_nI (by omega) (by omega)) (nI_clamp (by omega)) dd_MO_goOn_47 ?_
            refine W.eq (g2 := F0 m 48 ls [.int (to_I b.2.1 b.2.2.1)]) (by rw [bf2]) ?_
            refine lv_bipush (v := nI 16) hx hb dd_MO_goOn_48 (by decide +kernel) ?_
            refine hi_icmp_lt (tgt := 72) hx hb dd_MO_goOn_50 (by decide) (fun c62 => ?_) (fun c62 => ?_)
            · have hbq : b.2.2.1 = false := by
                cases h9 : b.2.2.1
                · rfl
                · rw [htv, h9, t16] at c62; have h8 : bz true = 1 := rfl; omega
              have hrw1 : (rs_w ca b).1 = va_up ca.1 b.2.1.toInt.toNat true := by rw [rs_w, hbq]; exact mp_va bf5
              have hrw2 : (rs_w ca b).2.2 = ca.2.2 := by rw [rs_w, hbq]; rfl
              refine lv_iload_n hx hb dd_MO_goOn_72 rfl (lv_at hl 3 rfl) ?_
              refine hn_if_ne (tgt := 91) hx hb (bz_b _) dd_MO_goOn_73 (by decide) (fun c63 => ?_) (fun c63 => ?_)
              · have hf1 := bz_t c63
                refine lv_iconst (v := nI 1) hx hb dd_MO_goOn_91 (by decide +kernel) ?_
                refine lv_goto (tgt := 96) hx hb dd_MO_goOn_92 (by decide) ?_
                have hfr2 : true = decide (qu_n ps < qu_n (rs_w ca b).1) := by
                  rw [hrw1]
                  have h9 := of_decide_eq_true (hfr.symm.trans hf1)
                  exact (decide_eq_true (Nat.lt_of_lt_of_le h9 qu_va)).symm
                refine lv_istore_n (lv' := [(2, .int (nI 1)), (3, .int (nI 1)), (0, .ref (P 0)), (1, .int (nI e9)), (4, .int (nI k))]) hx hb dd_MO_goOn_96 rfl hl (by decide) rfl (fun ls hl => ?_)
                refine lv_aload_n hx hb dd_MO_goOn_97 rfl (lv_at hl 2 rfl) ?_
                refine hm_get (ci := 6) (C := rn_MO) (T := ft_MO) (N := 22) hx hb hts fi_MO hown hE.K hP g60_0 rfl 17 (by decide) (hts _ tw_1003) (fun _ h9 => h9) rfl dd_MO_goOn_98 ?_
                refine lv_aload_n hx hb dd_MO_goOn_101 rfl (lv_at hl 2 rfl) ?_
                refine hm_get (ci := 6) (C := rn_MO) (T := ft_MO) (N := 22) hx hb hts fi_MO hown hE.K hP g60_0 rfl 8 (by decide) (hts _ tw_994) (fun _ h9 => h9) rfl dd_MO_goOn_102 ?_
                refine lv_iload hx hb dd_MO_goOn_105 (lv_at hl 4 rfl) ?_
                refine hm_iald (j := k) hx hb hE.K hP 2 g60_8 rfl (vp_in_nI (by omega) (by omega)) (nI_clamp (by omega)) dd_MO_goOn_107 ?_
                refine W.eq (g2 := F0 m 108 ls [.int b.2.1, .ref (P 17)]) (by rw [show A 8 k = b.2.1 from bf2.trans (by rw [hbq]; rfl)]) ?_
                refine lv_iconst (v := nI 1) hx hb dd_MO_goOn_108 (by decide +kernel) ?_
                refine hm_zast (y := nI (bz true)) (j := b.2.1.toInt.toNat) hx hb hE.K hP hS (pb 17 (by decide)) 1 g60_17 rfl (hi_in (by omega) (by omega)) hi_clamp rfl dd_MO_goOn_109 (fun H locs hP hS => ?_)
                obtain ⟨M64, eM64⟩ : ∃ z, z = hm_up M56 (P 17) (.inl (D.1 101, 16, .inl (upd (fun k => nI (bz (ca.1 k))) b.2.1.toInt.toNat (nI (bz true))))) := ⟨_, rfl⟩
                rw [← eM64] at hP
                have f65 : M64 (P 0) = some (.inr (6, [.int (I 0), .ref (P 1), .int (I 2), .ref (P 3), .ref (P 4), .ref (P 5), .int (I 6), .ref (P 7), .ref (P 8), .ref (P 9), .ref (P 10), .ref (P 11), .int (I 12), .int (I 13), .ref (P 14), .ref (P 15), .ref (P 16), .ref (P 17), .int (I 18), .ref (P 19), .ref (P 20), .ref (P 21)])) := by rw [eM64]; exact hm_up_o (hm_neO (po 0 (by decide)) (po 17 (by decide)) (by decide)) g60_0
                have f66 : M64 (P 1) = some (.inl (D.1 102, 48, .inl (A 1))) := by rw [eM64]; exact hm_up_o (hm_neO (po 1 (by decide)) (po 17 (by decide)) (by decide)) g60_1
                have f67 : M64 (P 3) = some (.inl (D.1 102, 16, .inl (A 3))) := by rw [eM64]; exact hm_up_o (hm_neO (po 3 (by decide)) (po 17 (by decide)) (by decide)) g60_3
                have f68 : M64 (P 4) = some (.inl (D.1 102, 16, .inl (A 4))) := by rw [eM64]; exact hm_up_o (hm_neO (po 4 (by decide)) (po 17 (by decide)) (by decide)) g60_4
                have f69 : M64 (P 5) = some (.inl (D.1 101, 16, .inl (A 5))) := by rw [eM64]; exact hm_up_o (hm_neO (po 5 (by decide)) (po 17 (by decide)) (by decide)) g60_5
                have f70 : M64 (P 7) = some (.inl (D.1 102, 120, .inl (A 7))) := by rw [eM64]; exact hm_up_o (hm_neO (po 7 (by decide)) (po 17 (by decide)) (by decide)) g60_7
                have f71 : M64 (P 8) = some (.inl (D.1 102, 120, .inl (A 8))) := by rw [eM64]; exact hm_up_o (hm_neO (po 8 (by decide)) (po 17 (by decide)) (by decide)) g60_8
                have f72 : M64 (P 9) = some (.inl (D.1 102, 120, .inl (A 9))) := by rw [eM64]; exact hm_up_o (hm_neO (po 9 (by decide)) (po 17 (by decide)) (by decide)) g60_9
                have f73 : M64 (P 10) = some (.inl (D.1 102, 5760, .inl (A 10))) := by rw [eM64]; exact hm_up_o (hm_neO (po 10 (by decide)) (po 17 (by decide)) (by decide)) g60_10
                have f74 : M64 (P 11) = some (.inl (D.1 102, 48, .inl (A 11))) := by rw [eM64]; exact hm_up_o (hm_neO (po 11 (by decide)) (po 17 (by decide)) (by decide)) g60_11
                have f75 : M64 (P 14) = some (.inl (D.1 103, 6, .inr (.inl (L 14)))) := by rw [eM64]; exact hm_up_o (hm_neO (po 14 (by decide)) (po 17 (by decide)) (by decide)) g60_14
                have f76 : M64 (P 15) = some (.inl (D.1 103, 6, .inr (.inl (L 15)))) := by rw [eM64]; exact hm_up_o (hm_neO (po 15 (by decide)) (po 17 (by decide)) (by decide)) g60_15
                have f77 : M64 (P 16) = some (.inl (D.1 101, 16, .inl (fun k => nI (bz (ca.2.2 k))))) := by rw [eM64]; exact hm_up_o (hm_neO (po 16 (by decide)) (po 17 (by decide)) (by decide)) g60_16
                have f78 : M64 (P 19) = some (.inl (D.1 101, 2601, .inl far55)) := by rw [eM64]; exact hm_up_o (hm_neO (po 19 (by decide)) (po 17 (by decide)) (by decide)) g60_19
                have f79 : M64 (P 20) = some (.inl (D.1 102, 52, .inl fbr55)) := by rw [eM64]; exact hm_up_o (hm_neO (po 20 (by decide)) (po 17 (by decide)) (by decide)) g60_20
                have f80 : M64 (P 21) = some (.inl (D.1 102, 52, .inl fcr55)) := by rw [eM64]; exact hm_up_o (hm_neO (po 21 (by decide)) (po 17 (by decide)) (by decide)) g60_21
                have f81 : M64 (P 17) = some (.inl (D.1 101, 16, .inl (upd (fun k => nI (bz (ca.1 k))) b.2.1.toInt.toNat (nI (bz true))))) := by rw [eM64]; exact hm_up_s
                refine lv_iinc (v := nI (k + 1)) (lv' := [(4, .int (nI (k + 1))), (2, .int (nI 1)), (3, .int (nI 1)), (0, .ref (P 0)), (1, .int (nI e9))]) hx hb dd_MO_goOn_110 hl (k := 4) rfl (nI_1 k) (by decide) rfl (fun ls hl => ?_)
                refine lv_goto (tgt := 7) hx hb dd_MO_goOn_113 (by decide) ?_
                have f82 : M64 (P 17) = some (.inl (D.1 101, 16, .inl (fun k => nI (bz ((rs_w ca b).1 k))))) := f81.trans (by rw [bz_up, hrw1])
                have f83 : M64 (P 16) = some (.inl (D.1 101, 16, .inl (fun k => nI (bz ((rs_w ca b).2.2 k))))) := f77.trans (by rw [hrw2])
                have kk84 : hm_k M56 M56 [(P 17)] := hm_krf
                have kk85 : hm_k M56 M64 [(P 17)] := hm_ku kk84 (Or.inr (by simp)) eM64
                exact ih7 (k + 1) (rs_w ca b) true true far55 fbr55 fcr55 M64 (by omega) (by rw [rs_step hb1, if_pos hPb, ← hca]) (hfr2) (by rw [an_step hb1, hPb, Bool.or_true]) (⟨f65, f66, f67, f68, f69, f70, f71, f72, f73, f74, f75, f76, f83, f82, f78, f79, f80, po, pb⟩) ((hF59).trans (cz_F.k0 kk85 (hm_a1 ⟨by rw [po 17 (by decide)]; unfold pm; omega, _, f82⟩))) (by omega) _ _ _ hP hS (lv_sub hl [3, 4, 1, 2, 0] rfl)
              · have hf1 := bz_f c63
                refine lv_aload_n hx hb dd_MO_goOn_76 rfl (lv_at hl 1 rfl) ?_
                refine hm_get (ci := 6) (C := rn_MO) (T := ft_MO) (N := 22) hx hb hts fi_MO hown hE.K hP g60_0 rfl 17 (by decide) (hts _ tw_1003) (fun _ h9 => h9) rfl dd_MO_goOn_77 ?_
                refine lv_aload_n hx hb dd_MO_goOn_80 rfl (lv_at hl 1 rfl) ?_
                refine hm_get (ci := 6) (C := rn_MO) (T := ft_MO) (N := 22) hx hb hts fi_MO hown hE.K hP g60_0 rfl 8 (by decide) (hts _ tw_994) (fun _ h9 => h9) rfl dd_MO_goOn_81 ?_
                refine lv_iload hx hb dd_MO_goOn_84 (lv_at hl 4 rfl) ?_
                refine hm_iald (j := k) hx hb hE.K hP 2 g60_8 rfl (vp_in_nI (by omega) (by omega)) (nI_clamp (by omega)) dd_MO_goOn_86 ?_
                refine W.eq (g2 := F0 m 87 ls [.int b.2.1, .ref (P 17)]) (by rw [show A 8 k = b.2.1 from bf2.trans (by rw [hbq]; rfl)]) ?_
                refine hm_zald (j := b.2.1.toInt.toNat) hx hb hE.K hP 1 g60_17 rfl (hi_in (by omega) (by omega)) hi_clamp dd_MO_goOn_87 ?_
                refine W.eq (g2 := F0 m 88 ls [.int (nI (bz (ca.1 b.2.1.toInt.toNat)))]) rfl ?_
                refine hn_if_ne (tgt := 95) hx hb (bz_b _) dd_MO_goOn_88 (by decide) (fun c86 => ?_) (fun c86 => ?_)
                · have hp1 := bz_t c86
                  refine lv_iconst (v := nI 0) hx hb dd_MO_goOn_95 (by decide +kernel) ?_
                  have hfr2 : false = decide (qu_n ps < qu_n (rs_w ca b).1) := by
                    rw [hrw1, va_t hp1, ← hfr, hf1]
                  refine lv_istore_n (lv' := [(2, .int (nI 0)), (3, .int (nI 1)), (0, .ref (P 0)), (1, .int (nI e9)), (4, .int (nI k))]) hx hb dd_MO_goOn_96 rfl hl (by decide) rfl (fun ls hl => ?_)
                  refine lv_aload_n hx hb dd_MO_goOn_97 rfl (lv_at hl 2 rfl) ?_
                  refine hm_get (ci := 6) (C := rn_MO) (T := ft_MO) (N := 22) hx hb hts fi_MO hown hE.K hP g60_0 rfl 17 (by decide) (hts _ tw_1003) (fun _ h9 => h9) rfl dd_MO_goOn_98 ?_
                  refine lv_aload_n hx hb dd_MO_goOn_101 rfl (lv_at hl 2 rfl) ?_
                  refine hm_get (ci := 6) (C := rn_MO) (T := ft_MO) (N := 22) hx hb hts fi_MO hown hE.K hP g60_0 rfl 8 (by decide) (hts _ tw_994) (fun _ h9 => h9) rfl dd_MO_goOn_102 ?_
                  refine lv_iload hx hb dd_MO_goOn_105 (lv_at hl 4 rfl) ?_
                  refine hm_iald (j := k) hx hb hE.K hP 2 g60_8 rfl (vp_in_nI (by omega) (by omega)) (nI_clamp (by omega)) dd_MO_goOn_107 ?_
                  refine W.eq (g2 := F0 m 108 ls [.int b.2.1, .ref (P 17)]) (by rw [show A 8 k = b.2.1 from bf2.trans (by rw [hbq]; rfl)]) ?_
                  refine lv_iconst (v := nI 1) hx hb dd_MO_goOn_108 (by decide +kernel) ?_
                  refine hm_zast (y := nI (bz true)) (j := b.2.1.toInt.toNat) hx hb hE.K hP hS (pb 17 (by decide)) 1 g60_17 rfl (hi_in (by omega) (by omega)) hi_clamp rfl dd_MO_goOn_109 (fun H locs hP hS => ?_)
                  obtain ⟨M87, eM87⟩ : ∃ z, z = hm_up M56 (P 17) (.inl (D.1 101, 16, .inl (upd (fun k => nI (bz (ca.1 k))) b.2.1.toInt.toNat (nI (bz true))))) := ⟨_, rfl⟩
                  rw [← eM87] at hP
                  have f88 : M87 (P 0) = some (.inr (6, [.int (I 0), .ref (P 1), .int (I 2), .ref (P 3), .ref (P 4), .ref (P 5), .int (I 6), .ref (P 7), .ref (P 8), .ref (P 9), .ref (P 10), .ref (P 11), .int (I 12), .int (I 13), .ref (P 14), .ref (P 15), .ref (P 16), .ref (P 17), .int (I 18), .ref (P 19), .ref (P 20), .ref (P 21)])) := by rw [eM87]; exact hm_up_o (hm_neO (po 0 (by decide)) (po 17 (by decide)) (by decide)) g60_0
                  have f89 : M87 (P 1) = some (.inl (D.1 102, 48, .inl (A 1))) := by rw [eM87]; exact hm_up_o (hm_neO (po 1 (by decide)) (po 17 (by decide)) (by decide)) g60_1
                  have f90 : M87 (P 3) = some (.inl (D.1 102, 16, .inl (A 3))) := by rw [eM87]; exact hm_up_o (hm_neO (po 3 (by decide)) (po 17 (by decide)) (by decide)) g60_3
                  have f91 : M87 (P 4) = some (.inl (D.1 102, 16, .inl (A 4))) := by rw [eM87]; exact hm_up_o (hm_neO (po 4 (by decide)) (po 17 (by decide)) (by decide)) g60_4
                  have f92 : M87 (P 5) = some (.inl (D.1 101, 16, .inl (A 5))) := by rw [eM87]; exact hm_up_o (hm_neO (po 5 (by decide)) (po 17 (by decide)) (by decide)) g60_5
                  have f93 : M87 (P 7) = some (.inl (D.1 102, 120, .inl (A 7))) := by rw [eM87]; exact hm_up_o (hm_neO (po 7 (by decide)) (po 17 (by decide)) (by decide)) g60_7
                  have f94 : M87 (P 8) = some (.inl (D.1 102, 120, .inl (A 8))) := by rw [eM87]; exact hm_up_o (hm_neO (po 8 (by decide)) (po 17 (by decide)) (by decide)) g60_8
                  have f95 : M87 (P 9) = some (.inl (D.1 102, 120, .inl (A 9))) := by rw [eM87]; exact hm_up_o (hm_neO (po 9 (by decide)) (po 17 (by decide)) (by decide)) g60_9
                  have f96 : M87 (P 10) = some (.inl (D.1 102, 5760, .inl (A 10))) := by rw [eM87]; exact hm_up_o (hm_neO (po 10 (by decide)) (po 17 (by decide)) (by decide)) g60_10
                  have f97 : M87 (P 11) = some (.inl (D.1 102, 48, .inl (A 11))) := by rw [eM87]; exact hm_up_o (hm_neO (po 11 (by decide)) (po 17 (by decide)) (by decide)) g60_11
                  have f98 : M87 (P 14) = some (.inl (D.1 103, 6, .inr (.inl (L 14)))) := by rw [eM87]; exact hm_up_o (hm_neO (po 14 (by decide)) (po 17 (by decide)) (by decide)) g60_14
                  have f99 : M87 (P 15) = some (.inl (D.1 103, 6, .inr (.inl (L 15)))) := by rw [eM87]; exact hm_up_o (hm_neO (po 15 (by decide)) (po 17 (by decide)) (by decide)) g60_15
                  have f100 : M87 (P 16) = some (.inl (D.1 101, 16, .inl (fun k => nI (bz (ca.2.2 k))))) := by rw [eM87]; exact hm_up_o (hm_neO (po 16 (by decide)) (po 17 (by decide)) (by decide)) g60_16
                  have f101 : M87 (P 19) = some (.inl (D.1 101, 2601, .inl far55)) := by rw [eM87]; exact hm_up_o (hm_neO (po 19 (by decide)) (po 17 (by decide)) (by decide)) g60_19
                  have f102 : M87 (P 20) = some (.inl (D.1 102, 52, .inl fbr55)) := by rw [eM87]; exact hm_up_o (hm_neO (po 20 (by decide)) (po 17 (by decide)) (by decide)) g60_20
                  have f103 : M87 (P 21) = some (.inl (D.1 102, 52, .inl fcr55)) := by rw [eM87]; exact hm_up_o (hm_neO (po 21 (by decide)) (po 17 (by decide)) (by decide)) g60_21
                  have f104 : M87 (P 17) = some (.inl (D.1 101, 16, .inl (upd (fun k => nI (bz (ca.1 k))) b.2.1.toInt.toNat (nI (bz true))))) := by rw [eM87]; exact hm_up_s
                  refine lv_iinc (v := nI (k + 1)) (lv' := [(4, .int (nI (k + 1))), (2, .int (nI 0)), (3, .int (nI 1)), (0, .ref (P 0)), (1, .int (nI e9))]) hx hb dd_MO_goOn_110 hl (k := 4) rfl (nI_1 k) (by decide) rfl (fun ls hl => ?_)
                  refine lv_goto (tgt := 7) hx hb dd_MO_goOn_113 (by decide) ?_
                  have f105 : M87 (P 17) = some (.inl (D.1 101, 16, .inl (fun k => nI (bz ((rs_w ca b).1 k))))) := f104.trans (by rw [bz_up, hrw1])
                  have f106 : M87 (P 16) = some (.inl (D.1 101, 16, .inl (fun k => nI (bz ((rs_w ca b).2.2 k))))) := f100.trans (by rw [hrw2])
                  have kk107 : hm_k M56 M56 [(P 17)] := hm_krf
                  have kk108 : hm_k M56 M87 [(P 17)] := hm_ku kk107 (Or.inr (by simp)) eM87
                  exact ih7 (k + 1) (rs_w ca b) false true far55 fbr55 fcr55 M87 (by omega) (by rw [rs_step hb1, if_pos hPb, ← hca]) (hfr2) (by rw [an_step hb1, hPb, Bool.or_true]) (⟨f88, f89, f90, f91, f92, f93, f94, f95, f96, f97, f98, f99, f106, f105, f101, f102, f103, po, pb⟩) ((hF59).trans (cz_F.k0 kk108 (hm_a1 ⟨by rw [po 17 (by decide)]; unfold pm; omega, _, f105⟩))) (by omega) _ _ _ hP hS (lv_sub hl [3, 4, 1, 2, 0] rfl)
                · have hp1 := bz_f c86
                  have hqm : qu_n ps ≤ qu_n ca.1 := by
                    rw [hca, rs_l]
                    exact (qu_mono (fun q h9 => by rw [(rs_fo _ (fun d hd => hin9 d (List.mem_of_mem_take (List.mem_filter.mp hd).1)) _ q).1]; show (ps q || _) = true; rw [h9]; rfl)).1
                  refine lv_iconst (v := nI 1) hx hb dd_MO_goOn_91 (by decide +kernel) ?_
                  refine lv_goto (tgt := 96) hx hb dd_MO_goOn_92 (by decide) ?_
                  have hfr2 : true = decide (qu_n ps < qu_n (rs_w ca b).1) := by
                    rw [hrw1, qu_up hp1 (by omega)]
                    exact (decide_eq_true (by have := hqm; omega)).symm
                  refine lv_istore_n (lv' := [(2, .int (nI 1)), (3, .int (nI 1)), (0, .ref (P 0)), (1, .int (nI e9)), (4, .int (nI k))]) hx hb dd_MO_goOn_96 rfl hl (by decide) rfl (fun ls hl => ?_)
                  refine lv_aload_n hx hb dd_MO_goOn_97 rfl (lv_at hl 2 rfl) ?_
                  refine hm_get (ci := 6) (C := rn_MO) (T := ft_MO) (N := 22) hx hb hts fi_MO hown hE.K hP g60_0 rfl 17 (by decide) (hts _ tw_1003) (fun _ h9 => h9) rfl dd_MO_goOn_98 ?_
                  refine lv_aload_n hx hb dd_MO_goOn_101 rfl (lv_at hl 2 rfl) ?_
                  refine hm_get (ci := 6) (C := rn_MO) (T := ft_MO) (N := 22) hx hb hts fi_MO hown hE.K hP g60_0 rfl 8 (by decide) (hts _ tw_994) (fun _ h9 => h9) rfl dd_MO_goOn_102 ?_
                  refine lv_iload hx hb dd_MO_goOn_105 (lv_at hl 4 rfl) ?_
                  refine hm_iald (j := k) hx hb hE.K hP 2 g60_8 rfl (vp_in_nI (by omega) (by omega)) (nI_clamp (by omega)) dd_MO_goOn_107 ?_
                  refine W.eq (g2 := F0 m 108 ls [.int b.2.1, .ref (P 17)]) (by rw [show A 8 k = b.2.1 from bf2.trans (by rw [hbq]; rfl)]) ?_
                  refine lv_iconst (v := nI 1) hx hb dd_MO_goOn_108 (by decide +kernel) ?_
                  refine hm_zast (y := nI (bz true)) (j := b.2.1.toInt.toNat) hx hb hE.K hP hS (pb 17 (by decide)) 1 g60_17 rfl (hi_in (by omega) (by omega)) hi_clamp rfl dd_MO_goOn_109 (fun H locs hP hS => ?_)
                  obtain ⟨M109, eM109⟩ : ∃ z, z = hm_up M56 (P 17) (.inl (D.1 101, 16, .inl (upd (fun k => nI (bz (ca.1 k))) b.2.1.toInt.toNat (nI (bz true))))) := ⟨_, rfl⟩
                  rw [← eM109] at hP
                  have f110 : M109 (P 0) = some (.inr (6, [.int (I 0), .ref (P 1), .int (I 2), .ref (P 3), .ref (P 4), .ref (P 5), .int (I 6), .ref (P 7), .ref (P 8), .ref (P 9), .ref (P 10), .ref (P 11), .int (I 12), .int (I 13), .ref (P 14), .ref (P 15), .ref (P 16), .ref (P 17), .int (I 18), .ref (P 19), .ref (P 20), .ref (P 21)])) := by rw [eM109]; exact hm_up_o (hm_neO (po 0 (by decide)) (po 17 (by decide)) (by decide)) g60_0
                  have f111 : M109 (P 1) = some (.inl (D.1 102, 48, .inl (A 1))) := by rw [eM109]; exact hm_up_o (hm_neO (po 1 (by decide)) (po 17 (by decide)) (by decide)) g60_1
                  have f112 : M109 (P 3) = some (.inl (D.1 102, 16, .inl (A 3))) := by rw [eM109]; exact hm_up_o (hm_neO (po 3 (by decide)) (po 17 (by decide)) (by decide)) g60_3
                  have f113 : M109 (P 4) = some (.inl (D.1 102, 16, .inl (A 4))) := by rw [eM109]; exact hm_up_o (hm_neO (po 4 (by decide)) (po 17 (by decide)) (by decide)) g60_4
                  have f114 : M109 (P 5) = some (.inl (D.1 101, 16, .inl (A 5))) := by rw [eM109]; exact hm_up_o (hm_neO (po 5 (by decide)) (po 17 (by decide)) (by decide)) g60_5
                  have f115 : M109 (P 7) = some (.inl (D.1 102, 120, .inl (A 7))) := by rw [eM109]; exact hm_up_o (hm_neO (po 7 (by decide)) (po 17 (by decide)) (by decide)) g60_7
                  have f116 : M109 (P 8) = some (.inl (D.1 102, 120, .inl (A 8))) := by rw [eM109]; exact hm_up_o (hm_neO (po 8 (by decide)) (po 17 (by decide)) (by decide)) g60_8
                  have f117 : M109 (P 9) = some (.inl (D.1 102, 120, .inl (A 9))) := by rw [eM109]; exact hm_up_o (hm_neO (po 9 (by decide)) (po 17 (by decide)) (by decide)) g60_9
                  have f118 : M109 (P 10) = some (.inl (D.1 102, 5760, .inl (A 10))) := by rw [eM109]; exact hm_up_o (hm_neO (po 10 (by decide)) (po 17 (by decide)) (by decide)) g60_10
                  have f119 : M109 (P 11) = some (.inl (D.1 102, 48, .inl (A 11))) := by rw [eM109]; exact hm_up_o (hm_neO (po 11 (by decide)) (po 17 (by decide)) (by decide)) g60_11
                  have f120 : M109 (P 14) = some (.inl (D.1 103, 6, .inr (.inl (L 14)))) := by rw [eM109]; exact hm_up_o (hm_neO (po 14 (by decide)) (po 17 (by decide)) (by decide)) g60_14
                  have f121 : M109 (P 15) = some (.inl (D.1 103, 6, .inr (.inl (L 15)))) := by rw [eM109]; exact hm_up_o (hm_neO (po 15 (by decide)) (po 17 (by decide)) (by decide)) g60_15
                  have f122 : M109 (P 16) = some (.inl (D.1 101, 16, .inl (fun k => nI (bz (ca.2.2 k))))) := by rw [eM109]; exact hm_up_o (hm_neO (po 16 (by decide)) (po 17 (by decide)) (by decide)) g60_16
                  have f123 : M109 (P 19) = some (.inl (D.1 101, 2601, .inl far55)) := by rw [eM109]; exact hm_up_o (hm_neO (po 19 (by decide)) (po 17 (by decide)) (by decide)) g60_19
                  have f124 : M109 (P 20) = some (.inl (D.1 102, 52, .inl fbr55)) := by rw [eM109]; exact hm_up_o (hm_neO (po 20 (by decide)) (po 17 (by decide)) (by decide)) g60_20
                  have f125 : M109 (P 21) = some (.inl (D.1 102, 52, .inl fcr55)) := by rw [eM109]; exact hm_up_o (hm_neO (po 21 (by decide)) (po 17 (by decide)) (by decide)) g60_21
                  have f126 : M109 (P 17) = some (.inl (D.1 101, 16, .inl (upd (fun k => nI (bz (ca.1 k))) b.2.1.toInt.toNat (nI (bz true))))) := by rw [eM109]; exact hm_up_s
                  refine lv_iinc (v := nI (k + 1)) (lv' := [(4, .int (nI (k + 1))), (2, .int (nI 1)), (3, .int (nI 1)), (0, .ref (P 0)), (1, .int (nI e9))]) hx hb dd_MO_goOn_110 hl (k := 4) rfl (nI_1 k) (by decide) rfl (fun ls hl => ?_)
                  refine lv_goto (tgt := 7) hx hb dd_MO_goOn_113 (by decide) ?_
                  have f127 : M109 (P 17) = some (.inl (D.1 101, 16, .inl (fun k => nI (bz ((rs_w ca b).1 k))))) := f126.trans (by rw [bz_up, hrw1])
                  have f128 : M109 (P 16) = some (.inl (D.1 101, 16, .inl (fun k => nI (bz ((rs_w ca b).2.2 k))))) := f122.trans (by rw [hrw2])
                  have kk129 : hm_k M56 M56 [(P 17)] := hm_krf
                  have kk130 : hm_k M56 M109 [(P 17)] := hm_ku kk129 (Or.inr (by simp)) eM109
                  exact ih7 (k + 1) (rs_w ca b) true true far55 fbr55 fcr55 M109 (by omega) (by rw [rs_step hb1, if_pos hPb, ← hca]) (hfr2) (by rw [an_step hb1, hPb, Bool.or_true]) (⟨f110, f111, f112, f113, f114, f115, f116, f117, f118, f119, f120, f121, f128, f127, f123, f124, f125, po, pb⟩) ((hF59).trans (cz_F.k0 kk130 (hm_a1 ⟨by rw [po 17 (by decide)]; unfold pm; omega, _, f127⟩))) (by omega) _ _ _ hP hS (lv_sub hl [3, 4, 1, 2, 0] rfl)
            · have hbq : b.2.2.1 = true := by
                cases h9 : b.2.2.1
                · rw [htv, h9, t16] at c62; have h8 : bz false = 0 := rfl; omega
                · rfl
              have hrw1 : (rs_w ca b).1 = ca.1 := by rw [rs_w, hbq]; rfl
              have hrw2 : (rs_w ca b).2.2 = va_up ca.2.2 b.2.1.toInt.toNat true := by rw [rs_w, hbq]; exact mp_va bf5
              refine lv_aload_n hx hb dd_MO_goOn_53 rfl (lv_at hl 1 rfl) ?_
              refine hm_get (ci := 6) (C := rn_MO) (T := ft_MO) (N := 22) hx hb hts fi_MO hown hE.K hP g60_0 rfl 16 (by decide) (hts _ tw_1002) (fun _ h9 => h9) rfl dd_MO_goOn_54 ?_
              refine lv_aload_n hx hb dd_MO_goOn_57 rfl (lv_at hl 1 rfl) ?_
              refine hm_get (ci := 6) (C := rn_MO) (T := ft_MO) (N := 22) hx hb hts fi_MO hown hE.K hP g60_0 rfl 8 (by decide) (hts _ tw_994) (fun _ h9 => h9) rfl dd_MO_goOn_58 ?_
              refine lv_iload hx hb dd_MO_goOn_61 (lv_at hl 4 rfl) ?_
              refine hm_iald (j := k) hx hb hE.K hP 2 g60_8 rfl (vp_in_nI (by omega) (by omega)) (nI_clamp (by omega)) dd_MO_goOn_63 ?_
              refine W.eq (g2 := F0 m 64 ls [.int (to_I b.2.1 b.2.2.1), .ref (P 16)]) (by rw [bf2]) ?_
              refine lv_bipush (v := nI 16) hx hb dd_MO_goOn_64 (by decide +kernel) ?_
              refine lv_isub hx hb dd_MO_goOn_66 ?_
              refine lv_topi (fun x131 ex131 => ?_)
              obtain rfl : x131 = b.2.1 := Int32.toInt_inj.mp (by rw [ex131, hi_sub (by rw [htv, t16, hbq]; show _ ≤ _ + 16 * (1 : Int) - 16; omega) (by rw [htv, t16, hbq]; show _ + 16 * (1 : Int) - 16 < _; omega), htv, t16, hbq]; show _ + 16 * (1 : Int) - 16 = _; omega)
              refine lv_iconst (v := nI 1) hx hb dd_MO_goOn_67 (by decide +kernel) ?_
              refine hm_zast (y := nI (bz true)) (j := b.2.1.toInt.toNat) hx hb hE.K hP hS (pb 16 (by decide)) 1 g60_16 rfl (hi_in (by omega) (by omega)) hi_clamp rfl dd_MO_goOn_68 (fun H locs hP hS => ?_)
              obtain ⟨M132, eM132⟩ : ∃ z, z = hm_up M56 (P 16) (.inl (D.1 101, 16, .inl (upd (fun k => nI (bz (ca.2.2 k))) b.2.1.toInt.toNat (nI (bz true))))) := ⟨_, rfl⟩
              rw [← eM132] at hP
              have f133 : M132 (P 0) = some (.inr (6, [.int (I 0), .ref (P 1), .int (I 2), .ref (P 3), .ref (P 4), .ref (P 5), .int (I 6), .ref (P 7), .ref (P 8), .ref (P 9), .ref (P 10), .ref (P 11), .int (I 12), .int (I 13), .ref (P 14), .ref (P 15), .ref (P 16), .ref (P 17), .int (I 18), .ref (P 19), .ref (P 20), .ref (P 21)])) := by rw [eM132]; exact hm_up_o (hm_neO (po 0 (by decide)) (po 16 (by decide)) (by decide)) g60_0
              have f134 : M132 (P 1) = some (.inl (D.1 102, 48, .inl (A 1))) := by rw [eM132]; exact hm_up_o (hm_neO (po 1 (by decide)) (po 16 (by decide)) (by decide)) g60_1
              have f135 : M132 (P 3) = some (.inl (D.1 102, 16, .inl (A 3))) := by rw [eM132]; exact hm_up_o (hm_neO (po 3 (by decide)) (po 16 (by decide)) (by decide)) g60_3
              have f136 : M132 (P 4) = some (.inl (D.1 102, 16, .inl (A 4))) := by rw [eM132]; exact hm_up_o (hm_neO (po 4 (by decide)) (po 16 (by decide)) (by decide)) g60_4
              have f137 : M132 (P 5) = some (.inl (D.1 101, 16, .inl (A 5))) := by rw [eM132]; exact hm_up_o (hm_neO (po 5 (by decide)) (po 16 (by decide)) (by decide)) g60_5
              have f138 : M132 (P 7) = some (.inl (D.1 102, 120, .inl (A 7))) := by rw [eM132]; exact hm_up_o (hm_neO (po 7 (by decide)) (po 16 (by decide)) (by decide)) g60_7
              have f139 : M132 (P 8) = some (.inl (D.1 102, 120, .inl (A 8))) := by rw [eM132]; exact hm_up_o (hm_neO (po 8 (by decide)) (po 16 (by decide)) (by decide)) g60_8
              have f140 : M132 (P 9) = some (.inl (D.1 102, 120, .inl (A 9))) := by rw [eM132]; exact hm_up_o (hm_neO (po 9 (by decide)) (po 16 (by decide)) (by decide)) g60_9
              have f141 : M132 (P 10) = some (.inl (D.1 102, 5760, .inl (A 10))) := by rw [eM132]; exact hm_up_o (hm_neO (po 10 (by decide)) (po 16 (by decide)) (by decide)) g60_10
              have f142 : M132 (P 11) = some (.inl (D.1 102, 48, .inl (A 11))) := by rw [eM132]; exact hm_up_o (hm_neO (po 11 (by decide)) (po 16 (by decide)) (by decide)) g60_11
              have f143 : M132 (P 14) = some (.inl (D.1 103, 6, .inr (.inl (L 14)))) := by rw [eM132]; exact hm_up_o (hm_neO (po 14 (by decide)) (po 16 (by decide)) (by decide)) g60_14
              have f144 : M132 (P 15) = some (.inl (D.1 103, 6, .inr (.inl (L 15)))) := by rw [eM132]; exact hm_up_o (hm_neO (po 15 (by decide)) (po 16 (by decide)) (by decide)) g60_15
              have f145 : M132 (P 17) = some (.inl (D.1 101, 16, .inl (fun k => nI (bz (ca.1 k))))) := by rw [eM132]; exact hm_up_o (hm_neO (po 17 (by decide)) (po 16 (by decide)) (by decide)) g60_17
              have f146 : M132 (P 19) = some (.inl (D.1 101, 2601, .inl far55)) := by rw [eM132]; exact hm_up_o (hm_neO (po 19 (by decide)) (po 16 (by decide)) (by decide)) g60_19
              have f147 : M132 (P 20) = some (.inl (D.1 102, 52, .inl fbr55)) := by rw [eM132]; exact hm_up_o (hm_neO (po 20 (by decide)) (po 16 (by decide)) (by decide)) g60_20
              have f148 : M132 (P 21) = some (.inl (D.1 102, 52, .inl fcr55)) := by rw [eM132]; exact hm_up_o (hm_neO (po 21 (by decide)) (po 16 (by decide)) (by decide)) g60_21
              have f149 : M132 (P 16) = some (.inl (D.1 101, 16, .inl (upd (fun k => nI (bz (ca.2.2 k))) b.2.1.toInt.toNat (nI (bz true))))) := by rw [eM132]; exact hm_up_s
              refine lv_goto (tgt := 110) hx hb dd_MO_goOn_69 (by decide) ?_
              refine lv_iinc (v := nI (k + 1)) (lv' := [(4, .int (nI (k + 1))), (3, .int (nI 1)), (0, .ref (P 0)), (1, .int (nI e9)), (2, .int (nI (bz fr)))]) hx hb dd_MO_goOn_110 hl (k := 4) rfl (nI_1 k) (by decide) rfl (fun ls hl => ?_)
              refine lv_goto (tgt := 7) hx hb dd_MO_goOn_113 (by decide) ?_
              have f150 : M132 (P 16) = some (.inl (D.1 101, 16, .inl (fun k => nI (bz ((rs_w ca b).2.2 k))))) := f149.trans (by rw [bz_up, hrw2])
              have f151 : M132 (P 17) = some (.inl (D.1 101, 16, .inl (fun k => nI (bz ((rs_w ca b).1 k))))) := f145.trans (by rw [hrw1])
              have kk152 : hm_k M56 M56 [(P 16)] := hm_krf
              have kk153 : hm_k M56 M132 [(P 16)] := hm_ku kk152 (Or.inr (by simp)) eM132
              exact ih7 (k + 1) (rs_w ca b) fr true far55 fbr55 fcr55 M132 (by omega) (by rw [rs_step hb1, if_pos hPb, ← hca]) (by rw [hrw1]; exact hfr) (by rw [an_step hb1, hPb, Bool.or_true]) (⟨f133, f134, f135, f136, f137, f138, f139, f140, f141, f142, f143, f144, f150, f151, f146, f147, f148, po, pb⟩) ((hF59).trans (cz_F.k0 kk153 (hm_a1 ⟨by rw [po 16 (by decide)]; unfold pm; omega, _, f150⟩))) (by omega) _ _ _ hP hS (lv_sub hl [2, 3, 4, 1, 0] rfl)
          · have hPb : (ld_P key hs (nI e9) s9) b = false := by rw [ld_P, bz_f c61, Bool.and_false]
            refine lv_goto (tgt := 110) hx hb dd_MO_goOn_36 (by decide) ?_
            refine lv_iinc (v := nI (k + 1)) (lv' := [(4, .int (nI (k + 1))), (0, .ref (P 0)), (1, .int (nI e9)), (2, .int (nI (bz fr))), (3, .int (nI (bz an)))]) hx hb dd_MO_goOn_110 hl (k := 4) rfl (nI_1 k) (by decide) rfl (fun ls hl => ?_)
            refine lv_goto (tgt := 7) hx hb dd_MO_goOn_113 (by decide) ?_
            exact ih7 (k + 1) ca fr an far55 fbr55 fcr55 M56 (by omega) (by rw [hca, rs_step hb1, if_neg (by rw [hPb]; decide)]) (hfr) (by rw [an_step hb1, ← han, hPb, Bool.or_false]) (⟨g60_0, g60_1, g60_3, g60_4, g60_5, g60_7, g60_8, g60_9, g60_10, g60_11, g60_14, g60_15, g60_16, g60_17, g60_19, g60_20, g60_21, po, pb⟩) (hF59) (by omega) _ _ _ hP hS (lv_sub hl [1, 2, 3, 4, 0] rfl)
  have f154 : M (P 16) = some (.inl (D.1 101, 16, .inl (fun k => nI (bz ((ps, od, fo).2.2 k))))) := p16.trans (by rw [hFo])
  have f155 : M (P 17) = some (.inl (D.1 101, 16, .inl (fun k => nI (bz ((ps, od, fo).1 k))))) := p17.trans (by rw [hPs])
  exact lp7 _ 0 (ps, od, fo) false false (A 19) (A 20) (A 21) M (Nat.zero_le _) (rfl) ((decide_eq_false (Nat.lt_irrefl _)).symm) (rfl) (⟨p0, p1, p3, p4, p5, p7, p8, p9, p10, p11, p14, p15, f154, f155, p19, p20, p21, po, pb⟩) (cz_F.rf) (Nat.lt_succ_self _) _ _ _ hP hS (lv_sub hl [3, 4, 2, 1, 0] rfl)
def pz (x : Int32) (ps : Nat → Bool) (k j : Nat) : Bool := if j < k then decide (x.toInt.toNat = j) else ps j
theorem pz_0 (x : Int32) (ps : Nat → Bool) : pz x ps 0 = ps := by funext j; simp [pz]
theorem pz_up (x : Int32) (ps : Nat → Bool) (k : Nat) : upd (fun j => nI (bz (pz x ps k j))) k (nI (bz (decide (x.toInt.toNat = k)))) = fun j => nI (bz (pz x ps (k + 1) j)) := by
  rw [bz_up]
  funext j
  unfold va_up pz
  by_cases h : j = k
  · rw [if_pos h, if_pos (by omega), h]
  · rw [if_neg h]
    by_cases h2 : j < k
    · rw [if_pos h2, if_pos (by omega)]
    · rw [if_neg h2, if_neg (by omega)]

set_option maxHeartbeats 4000000 in
set_option maxRecDepth 100000 in
theorem kc_MO_route (l : Launch) (B : Nat) (D : va_G) (G : Nat → Nat) (M : hm_M) (P O : Nat → Nat) (I : Nat → Int32) (A : Nat → Nat → Int32) (L : Nat → Nat → Int64) (hD : mo_D B D P O M I A L) (t : List Nat) (ex : Nat → Option (Int32 × Int32)) (qs : Nat → Bool) (bs : List bd_T) (key : List Nat) (hs : List (List Nat × List Nat)) (fo ps : Nat → Bool) (hZ : mo_S I A L t ex qs bs key hs fo ps) (hW : ∀ d ∈ bs, ∀ s o, ex_at ex d.1 = some (s, o) → tx_for s d.2.2.2 = true) (hW2 : ∀ b ∈ bs, b.2.2.1 = false → (ex_at ex b.2.1).isSome = true) (x : Int32) (hx8 : (ex_at ex x).isSome = true) : Met l yy_MO_route ws_MO_route ({ frames := 5, cells := 0, slots := 0, locals := 116 }) (hm_Pc B D G M [.ref (P 0), .int x]) (hm_Ni B D (fun r M1 => ∃ S F, rt_P ex bs key hs x S F ∧ (r = nI (qu_n F) ∧ ∃ I1 A1 L1, mo_D B D P O M1 I1 A1 L1 ∧ I1 0 = nI 0 ∧ mo_S I1 A1 L1 t ex qs bs key hs F S ∧ cz_F O M O M1 pm))) (0) (0) (hm_A B) := by
  refine Met.ofW (cc := cd_MO_route) (maxL := 5) (ret := ((some FieldType.int))) (by decide) rfl ?_
  intro p e s m args below meth c s₁ B0 hml hv
  obtain ⟨rfl, hE, hP⟩ := hv
  have hx := B0.exec
  have hb := B0.bytes
  have hr := B0.returns
  have hts : ∀ w ∈ tb_G, w.before _ s = true := fun w h => atoms_spec (ws := ws_MO_route) B0.pre w (List.mem_cons_of_mem _ h)
  have hown : s.vm.findClass "RouteDeskModel" = some m.cls := findClass_of_methodNamed B0.named
  have hlocks := B0.notSynchronized
  have hRf : (headSpec ws_MO_route { frames := 5, cells := 0, slots := 0, locals := 116 }).room.frames = 5 := rfl
  have hRl : (headSpec ws_MO_route { frames := 5, cells := 0, slots := 0, locals := 116 }).room.locals = 116 := rfl
  have hRc : (headSpec ws_MO_route { frames := 5, cells := 0, slots := 0, locals := 116 }).room.cells = 0 := rfl
  have hRs : (headSpec ws_MO_route { frames := 5, cells := 0, slots := 0, locals := 116 }).room.slots = 0 := rfl
  generalize (headSpec ws_MO_route { frames := 5, cells := 0, slots := 0, locals := 116 }).room = R at hRf hRl hRc hRs ⊢
  have hS : va_S (hm_A B) s.heap s.heap [] := va_S.rf
  have hl := lv_entry ([.ref (P 0), .int x]) (n := 5) (Nat.le_of_ble_eq_true rfl)
  rw [lg_entry_eq]
  generalize (lg_sl ([.ref (P 0), .int x]) ++ List.replicate (5 - (lg_sl ([.ref (P 0), .int x])).length) Slot.unset).toArray = ls at hl ⊢
  have hl : lv_has ls 5 [(0, .ref (P 0)), (1, .int x)] := hl
  have t16 : (nI 16).toInt = 16 := by decide
  have tm1 : (-1 : Int32).toInt = -1 := by decide
  have t0 : (nI 0).toInt = 0 := by decide
  have t2 : (nI 2).toInt = 2 := by decide
  have t3 : (nI 3).toInt = 3 := by decide
  have t1 : (nI 1).toInt = 1 := by decide
  have t4 : (nI 4).toInt = 4 := by decide
  obtain ⟨p0, p1, p3, p4, p5, p7, p8, p9, p10, p11, p14, p15, p16, p17, p19, p20, p21, po, pb⟩ := id hD
  obtain ⟨hT, hX, hQ, hB, hK, hH, hFo, hPs⟩ := id hZ
  obtain ⟨ti1, ti2, ti3, ti4⟩ := id hT
  obtain ⟨bi1, bi2, bi3⟩ := id hB
  obtain ⟨ki1, ki2, ki3, ki4⟩ := id hK
  obtain ⟨hi1, hi2, hi3⟩ := id hH
  have hxin := ex_some hx8
  have hxa := hxin.1
  have hxb := hxin.2
  have hin9 : ∀ d ∈ bs, in16 d.2.1 := fun d hd => by
    obtain ⟨j, hj⟩ := List.getElem?_of_mem hd
    exact (bi3 j d hj).2.2.2.2
  refine lv_aload_n hx hb dd_MO_route_0 rfl (lv_at hl 0 rfl) ?_
  refine lv_iload_n hx hb dd_MO_route_1 rfl (lv_at hl 1 rfl) ?_
  have hd1 : mo_D B D P O M I A L := ⟨p0, p1, p3, p4, p5, p7, p8, p9, p10, p11, p14, p15, p16, p17, p19, p20, p21, po, pb⟩
  refine hm_ci hS (hm_rV 1 (As := [.int x]) (rest := []) ⟨hx, hb, hml, hown, hts⟩ hE hS hP (kc_MO_isExchange l B D G M P O I A L hd1 x) rfl p0 tw_1078 tw_1075 tw_1077 tw_18 tw_46 (by decide +kernel) rfl rfl ⟨by show 0 + 1 ≤ R.frames; omega, by show 8 + (2 + 11) + 0 ≤ R.locals; omega⟩ rfl hl.1 rfl (Nat.le_of_ble_eq_true rfl) dd_MO_route_2 ⟨by omega, by omega⟩) (fun r2 M3 H locs hw4 hP hS => ?_)
  refine W.widen (k := 0) (n := 0) (by omega) (by omega) ?_
  obtain ⟨hrM3, eM3⟩ := hw4
  rw [eM3] at hP
  have hrM3 := hrM3.trans (by rw [exS_x (A := A) hX])
  obtain rfl : r2 = nI (bz (ex_at ex x).isSome) := hrM3
  refine hn_if_ne (tgt := 14) hx hb (bz_b _) dd_MO_route_5 (by decide) (fun c5 => ?_) (fun c5 => absurd c5 (by rw [hx8]; decide))
  refine lv_aload_n hx hb dd_MO_route_14 rfl (lv_at hl 0 rfl) ?_
  refine lv_iconst (v := nI 0) hx hb dd_MO_route_15 (by decide +kernel) ?_
  refine hm_put (ci := 6) (v := .int (nI 0)) (ty := .int) (C := rn_MO) (T := ft_MO) (N := 22) hx hb hts fi_MO fy_MO fo_MO fn_MO hown hE.K hP hS (pb 0 (by decide)) p0 rfl 0 (by decide) (hts _ tw_986) (fun _ h9 => h9) rfl (by decide +kernel) rfl rfl (Nat.le_of_ble_eq_true rfl) dd_MO_route_16 (fun H locs hP hS => ?_)
  have hP : hm_P D cl_W (hm_up M (P 0) (.inr (6, [.int (nI 0), .ref (P 1), .int (I 2), .ref (P 3), .ref (P 4), .ref (P 5), .int (I 6), .ref (P 7), .ref (P 8), .ref (P 9), .ref (P 10), .ref (P 11), .int (I 12), .int (I 13), .ref (P 14), .ref (P 15), .ref (P 16), .ref (P 17), .int (I 18), .ref (P 19), .ref (P 20), .ref (P 21)]))) H := hP
  obtain ⟨M6, eM6⟩ : ∃ z, z = hm_up M (P 0) (.inr (6, [.int (nI 0), .ref (P 1), .int (I 2), .ref (P 3), .ref (P 4), .ref (P 5), .int (I 6), .ref (P 7), .ref (P 8), .ref (P 9), .ref (P 10), .ref (P 11), .int (I 12), .int (I 13), .ref (P 14), .ref (P 15), .ref (P 16), .ref (P 17), .int (I 18), .ref (P 19), .ref (P 20), .ref (P 21)])) := ⟨_, rfl⟩
  rw [← eM6] at hP
  have f7 : M6 (P 1) = some (.inl (D.1 102, 48, .inl (A 1))) := by rw [eM6]; exact hm_up_o (hm_neO (po 1 (by decide)) (po 0 (by decide)) (by decide)) p1
  have f8 : M6 (P 3) = some (.inl (D.1 102, 16, .inl (A 3))) := by rw [eM6]; exact hm_up_o (hm_neO (po 3 (by decide)) (po 0 (by decide)) (by decide)) p3
  have f9 : M6 (P 4) = some (.inl (D.1 102, 16, .inl (A 4))) := by rw [eM6]; exact hm_up_o (hm_neO (po 4 (by decide)) (po 0 (by decide)) (by decide)) p4
  have f10 : M6 (P 5) = some (.inl (D.1 101, 16, .inl (A 5))) := by rw [eM6]; exact hm_up_o (hm_neO (po 5 (by decide)) (po 0 (by decide)) (by decide)) p5
  have f11 : M6 (P 7) = some (.inl (D.1 102, 120, .inl (A 7))) := by rw [eM6]; exact hm_up_o (hm_neO (po 7 (by decide)) (po 0 (by decide)) (by decide)) p7
  have f12 : M6 (P 8) = some (.inl (D.1 102, 120, .inl (A 8))) := by rw [eM6]; exact hm_up_o (hm_neO (po 8 (by decide)) (po 0 (by decide)) (by decide)) p8
  have f13 : M6 (P 9) = some (.inl (D.1 102, 120, .inl (A 9))) := by rw [eM6]; exact hm_up_o (hm_neO (po 9 (by decide)) (po 0 (by decide)) (by decide)) p9
  have f14 : M6 (P 10) = some (.inl (D.1 102, 5760, .inl (A 10))) := by rw [eM6]; exact hm_up_o (hm_neO (po 10 (by decide)) (po 0 (by decide)) (by decide)) p10
  have f15 : M6 (P 11) = some (.inl (D.1 102, 48, .inl (A 11))) := by rw [eM6]; exact hm_up_o (hm_neO (po 11 (by decide)) (po 0 (by decide)) (by decide)) p11
  have f16 : M6 (P 14) = some (.inl (D.1 103, 6, .inr (.inl (L 14)))) := by rw [eM6]; exact hm_up_o (hm_neO (po 14 (by decide)) (po 0 (by decide)) (by decide)) p14
  have f17 : M6 (P 15) = some (.inl (D.1 103, 6, .inr (.inl (L 15)))) := by rw [eM6]; exact hm_up_o (hm_neO (po 15 (by decide)) (po 0 (by decide)) (by decide)) p15
  have f18 : M6 (P 16) = some (.inl (D.1 101, 16, .inl (A 16))) := by rw [eM6]; exact hm_up_o (hm_neO (po 16 (by decide)) (po 0 (by decide)) (by decide)) p16
  have f19 : M6 (P 17) = some (.inl (D.1 101, 16, .inl (A 17))) := by rw [eM6]; exact hm_up_o (hm_neO (po 17 (by decide)) (po 0 (by decide)) (by decide)) p17
  have f20 : M6 (P 19) = some (.inl (D.1 101, 2601, .inl (A 19))) := by rw [eM6]; exact hm_up_o (hm_neO (po 19 (by decide)) (po 0 (by decide)) (by decide)) p19
  have f21 : M6 (P 20) = some (.inl (D.1 102, 52, .inl (A 20))) := by rw [eM6]; exact hm_up_o (hm_neO (po 20 (by decide)) (po 0 (by decide)) (by decide)) p20
  have f22 : M6 (P 21) = some (.inl (D.1 102, 52, .inl (A 21))) := by rw [eM6]; exact hm_up_o (hm_neO (po 21 (by decide)) (po 0 (by decide)) (by decide)) p21
  have f23 : M6 (P 0) = some (.inr (6, [.int (nI 0), .ref (P 1), .int (I 2), .ref (P 3), .ref (P 4), .ref (P 5), .int (I 6), .ref (P 7), .ref (P 8), .ref (P 9), .ref (P 10), .ref (P 11), .int (I 12), .int (I 13), .ref (P 14), .ref (P 15), .ref (P 16), .ref (P 17), .int (I 18), .ref (P 19), .ref (P 20), .ref (P 21)])) := by rw [eM6]; exact hm_up_s
  refine lv_iconst (v := nI 0) hx hb dd_MO_route_19 (by decide +kernel) ?_
  refine lv_istore_n (lv' := [(2, .int (nI 0)), (0, .ref (P 0)), (1, .int x)]) hx hb dd_MO_route_20 rfl hl (by decide) rfl (fun ls hl => ?_)
  have lp21 : ∀ (n9 : Nat) (k : Nat) (Mu21 : hm_M), (k ≤ 16) → (mo_D B D P O Mu21 (va_up I 0 (nI 0)) (va_up (va_up A 16 (fun j => nI (bz (cl_b fo k j)))) 17 (fun j => nI (bz (pz x ps k j)))) L) → (cz_F O M O Mu21 pm) → 16 - k < n9 → ∀ (H : Heap) (locs : List Loc) (ls : Array Slot), hm_P D cl_W Mu21 H → va_S (hm_A B) s.heap H locs → lv_has ls 5 [(0, .ref (P 0)), (1, .int x), (2, .int (nI k))] → W p l e R s m ([.ref (P 0), .int x] : List Value).toArray below meth c H locs (0) (0) (MQ below (hm_Ni B D (fun r M1 => ∃ S F, rt_P ex bs key hs x S F ∧ (r = nI (qu_n F) ∧ ∃ I1 A1 L1, mo_D B D P O M1 I1 A1 L1 ∧ I1 0 = nI 0 ∧ mo_S I1 A1 L1 t ex qs bs key hs F S ∧ cz_F O M O M1 pm))) ([.ref (P 0), .int x] : List Value).toArray s (0) (0) (hm_A B)) (F0 m 21 ls []) := by
    intro n9
    induction n9 with
    | zero => intro k Mu21 hk hd21 hF21 hm; exact absurd hm (Nat.not_lt_zero _)
    | succ n9 ih21 =>
      intro k Mu21 hk hd21 hF21 hm H locs ls hP hS hl
      obtain ⟨g24_0, g24_1, g24_3, g24_4, g24_5, g24_7, g24_8, g24_9, g24_10, g24_11, g24_14, g24_15, g24_16, g24_17, g24_19, g24_20, g24_21, -, -⟩ := id hd21
      have g24_0 : Mu21 (P 0) = some (.inr (6, [.int (nI 0), .ref (P 1), .int (I 2), .ref (P 3), .ref (P 4), .ref (P 5), .int (I 6), .ref (P 7), .ref (P 8), .ref (P 9), .ref (P 10), .ref (P 11), .int (I 12), .int (I 13), .ref (P 14), .ref (P 15), .ref (P 16), .ref (P 17), .int (I 18), .ref (P 19), .ref (P 20), .ref (P 21)])) := g24_0
      have g24_1 : Mu21 (P 1) = some (.inl (D.1 102, 48, .inl (A 1))) := g24_1
      have g24_3 : Mu21 (P 3) = some (.inl (D.1 102, 16, .inl (A 3))) := g24_3
      have g24_4 : Mu21 (P 4) = some (.inl (D.1 102, 16, .inl (A 4))) := g24_4
      have g24_5 : Mu21 (P 5) = some (.inl (D.1 101, 16, .inl (A 5))) := g24_5
      have g24_7 : Mu21 (P 7) = some (.inl (D.1 102, 120, .inl (A 7))) := g24_7
      have g24_8 : Mu21 (P 8) = some (.inl (D.1 102, 120, .inl (A 8))) := g24_8
      have g24_9 : Mu21 (P 9) = some (.inl (D.1 102, 120, .inl (A 9))) := g24_9
      have g24_10 : Mu21 (P 10) = some (.inl (D.1 102, 5760, .inl (A 10))) := g24_10
      have g24_11 : Mu21 (P 11) = some (.inl (D.1 102, 48, .inl (A 11))) := g24_11
      have g24_16 : Mu21 (P 16) = some (.inl (D.1 101, 16, .inl (fun j => nI (bz (cl_b fo k j))))) := g24_16
      have g24_17 : Mu21 (P 17) = some (.inl (D.1 101, 16, .inl (fun j => nI (bz (pz x ps k j))))) := g24_17
      have g24_19 : Mu21 (P 19) = some (.inl (D.1 101, 2601, .inl (A 19))) := g24_19
      have g24_20 : Mu21 (P 20) = some (.inl (D.1 102, 52, .inl (A 20))) := g24_20
      have g24_21 : Mu21 (P 21) = some (.inl (D.1 102, 52, .inl (A 21))) := g24_21
      refine lv_iload_n hx hb dd_MO_route_21 rfl (lv_at hl 2 rfl) ?_
      refine lv_bipush (v := nI 16) hx hb dd_MO_route_22 (by decide +kernel) ?_
      refine hn_icmp_ge (tgt := 56) hx hb (by omega) (by omega) dd_MO_route_24 (by decide) (fun c25 => ?_) (fun c25 => ?_)
      · refine lv_iconst (v := nI 1) hx hb dd_MO_route_56 (by decide +kernel) ?_
        refine lv_istore_n (lv' := [(2, .int (nI 1)), (0, .ref (P 0)), (1, .int x)]) hx hb dd_MO_route_57 rfl hl (by decide) rfl (fun ls hl => ?_)
        have lp58 : ∀ (n9 : Nat) (ra : rs_T) (mo : Bool) (fa : Nat → Int32) (fb : Nat → Int32) (fc : Nat → Int32) (Mu58 : hm_M), (rt_I ex bs key hs x ra.1 ra.2.2) → (mo = false → ∀ e9, e9 < 16 → ra.1 e9 = true → (∀ k, k < 16 → lX ex bs key hs e9 k = true → ra.1 k = true) ∧ (∀ k, k < 16 → lF ex bs key hs e9 k = true → ra.2.2 k = true)) → (mo_D B D P O Mu58 (va_up I 0 (nI 0)) (va_up (va_up (va_up (va_up (va_up A 16 (fun k => nI (bz (ra.2.2 k)))) 17 (fun k => nI (bz (ra.1 k)))) 19 fa) 20 fb) 21 fc) L) → (cz_F O M O Mu58 pm) → 2 * (16 - qu_n ra.1) + bz mo < n9 → ∀ (H : Heap) (locs : List Loc) (ls : Array Slot), hm_P D cl_W Mu58 H → va_S (hm_A B) s.heap H locs → lv_has ls 5 [(0, .ref (P 0)), (1, .int x), (2, .int (nI (bz mo)))] → W p l e R s m ([.ref (P 0), .int x] : List Value).toArray below meth c H locs (0) (0) (MQ below (hm_Ni B D (fun r M1 => ∃ S F, rt_P ex bs key hs x S F ∧ (r = nI (qu_n F) ∧ ∃ I1 A1 L1, mo_D B D P O M1 I1 A1 L1 ∧ I1 0 = nI 0 ∧ mo_S I1 A1 L1 t ex qs bs key hs F S ∧ cz_F O M O M1 pm))) ([.ref (P 0), .int x] : List Value).toArray s (0) (0) (hm_A B)) (F0 m 58 ls []) := by
          intro n9
          induction n9 with
          | zero => intro ra mo fa fb fc Mu58 hIa hcl hd58 hF58 hm; exact absurd hm (Nat.not_lt_zero _)
          | succ n9 ih58 =>
            intro ra mo fa fb fc Mu58 hIa hcl hd58 hF58 hm H locs ls hP hS hl
            obtain ⟨g26_0, g26_1, g26_3, g26_4, g26_5, g26_7, g26_8, g26_9, g26_10, g26_11, g26_14, g26_15, g26_16, g26_17, g26_19, g26_20, g26_21, -, -⟩ := id hd58
            have g26_0 : Mu58 (P 0) = some (.inr (6, [.int (nI 0), .ref (P 1), .int (I 2), .ref (P 3), .ref (P 4), .ref (P 5), .int (I 6), .ref (P 7), .ref (P 8), .ref (P 9), .ref (P 10), .ref (P 11), .int (I 12), .int (I 13), .ref (P 14), .ref (P 15), .ref (P 16), .ref (P 17), .int (I 18), .ref (P 19), .ref (P 20), .ref (P 21)])) := g26_0
            have g26_1 : Mu58 (P 1) = some (.inl (D.1 102, 48, .inl (A 1))) := g26_1
            have g26_3 : Mu58 (P 3) = some (.inl (D.1 102, 16, .inl (A 3))) := g26_3
            have g26_4 : Mu58 (P 4) = some (.inl (D.1 102, 16, .inl (A 4))) := g26_4
            have g26_5 : Mu58 (P 5) = some (.inl (D.1 101, 16, .inl (A 5))) := g26_5
            have g26_7 : Mu58 (P 7) = some (.inl (D.1 102, 120, .inl (A 7))) := g26_7
            have g26_8 : Mu58 (P 8) = some (.inl (D.1 102, 120, .inl (A 8))) := g26_8
            have g26_9 : Mu58 (P 9) = some (.inl (D.1 102, 120, .inl (A 9))) := g26_9
            have g26_10 : Mu58 (P 10) = some (.inl (D.1 102, 5760, .inl (A 10))) := g26_10
            have g26_11 : Mu58 (P 11) = some (.inl (D.1 102, 48, .inl (A 11))) := g26_11
            have g26_16 : Mu58 (P 16) = some (.inl (D.1 101, 16, .inl (fun k => nI (bz (ra.2.2 k))))) := g26_16
            have g26_17 : Mu58 (P 17) = some (.inl (D.1 101, 16, .inl (fun k => nI (bz (ra.1 k))))) := g26_17
            have g26_19 : Mu58 (P 19) = some (.inl (D.1 101, 2601, .inl fa)) := g26_19
            have g26_20 : Mu58 (P 20) = some (.inl (D.1 102, 52, .inl fb)) := g26_20
            have g26_21 : Mu58 (P 21) = some (.inl (D.1 102, 52, .inl fc)) := g26_21
            have hqa := qu_le ra.1
            refine lv_iload_n hx hb dd_MO_route_58 rfl (lv_at hl 2 rfl) ?_
            refine hn_if_eq (tgt := 108) hx hb (bz_b _) dd_MO_route_59 (by decide) (fun c27 => ?_) (fun c27 => ?_)
            · have hmo0 := bz_f c27
              refine lv_iconst (v := nI 0) hx hb dd_MO_route_108 (by decide +kernel) ?_
              refine lv_istore_n (lv' := [(3, .int (nI 0)), (0, .ref (P 0)), (1, .int x), (2, .int (nI (bz mo)))]) hx hb dd_MO_route_109 rfl hl (by decide) rfl (fun ls hl => ?_)
              refine lv_iconst (v := nI 0) hx hb dd_MO_route_110 (by decide +kernel) ?_
              refine lv_istore (lv' := [(4, .int (nI 0)), (3, .int (nI 0)), (0, .ref (P 0)), (1, .int x), (2, .int (nI (bz mo)))]) hx hb dd_MO_route_111 hl (by decide) rfl (fun ls hl => ?_)
              have lp113 : ∀ (n9 : Nat) (k4 : Nat) (q9 : Nat), (k4 ≤ 16) → (q9 = (List.range k4).countP ra.2.2) → 16 - k4 < n9 → ∀ (H : Heap) (locs : List Loc) (ls : Array Slot), hm_P D cl_W Mu58 H → va_S (hm_A B) s.heap H locs → lv_has ls 5 [(0, .ref (P 0)), (3, .int (nI q9)), (4, .int (nI k4))] → W p l e R s m ([.ref (P 0), .int x] : List Value).toArray below meth c H locs (0) (0) (MQ below (hm_Ni B D (fun r M1 => ∃ S F, rt_P ex bs key hs x S F ∧ (r = nI (qu_n F) ∧ ∃ I1 A1 L1, mo_D B D P O M1 I1 A1 L1 ∧ I1 0 = nI 0 ∧ mo_S I1 A1 L1 t ex qs bs key hs F S ∧ cz_F O M O M1 pm))) ([.ref (P 0), .int x] : List Value).toArray s (0) (0) (hm_A B)) (F0 m 113 ls []) := by
                intro n9
                induction n9 with
                | zero => intro k4 q9 hk4 hq9 hm; exact absurd hm (Nat.not_lt_zero _)
                | succ n9 ih113 =>
                  intro k4 q9 hk4 hq9 hm H locs ls hP hS hl
                  have hq8 : q9 ≤ k4 := by rw [hq9]; exact rg_le
                  refine lv_iload hx hb dd_MO_route_113 (lv_at hl 2 rfl) ?_
                  refine lv_bipush (v := nI 16) hx hb dd_MO_route_115 (by decide +kernel) ?_
                  refine hn_icmp_ge (tgt := 144) hx hb (by omega) (by omega) dd_MO_route_117 (by decide) (fun c28 => ?_) (fun c28 => ?_)
                  · refine lv_iload_n hx hb dd_MO_route_144 rfl (lv_at hl 1 rfl) ?_
                    have hk16 : k4 = 16 := by omega
                    exact hm_Ei (v := nI q9) hx hb hr rfl hS hP (⟨ra.1, ra.2.2, hIa.fin (hcl hmo0), ⟨by rw [hq9, hk16]; rfl, (va_up I 0 (nI 0)), (va_up (va_up (va_up (va_up (va_up A 16 (fun k => nI (bz (ra.2.2 k)))) 17 (fun k => nI (bz (ra.1 k)))) 19 fa) 20 fb) 21 fc), L, ⟨g26_0, g26_1, g26_3, g26_4, g26_5, g26_7, g26_8, g26_9, g26_10, g26_11, g26_14, g26_15, g26_16, g26_17, g26_19, g26_20, g26_21, po, pb⟩, rfl, ⟨hT, hX, hQ, hB, hK, hH, rfl, rfl⟩, hF58⟩⟩) hlocks (by omega) (by omega) dd_MO_route_145
                  · refine lv_iload_n hx hb dd_MO_route_120 rfl (lv_at hl 1 rfl) ?_
                    refine lv_aload_n hx hb dd_MO_route_121 rfl (lv_at hl 0 rfl) ?_
                    refine hm_get (ci := 6) (C := rn_MO) (T := ft_MO) (N := 22) hx hb hts fi_MO hown hE.K hP g26_0 rfl 16 (by decide) (hts _ tw_1002) (fun _ h9 => h9) rfl dd_MO_route_122 ?_
                    refine lv_iload hx hb dd_MO_route_125 (lv_at hl 2 rfl) ?_
                    refine hm_zald (j := k4) hx hb hE.K hP 1 g26_16 rfl (vp_in_nI (by omega) (by omega)) (nI_clamp (by omega)) dd_MO_route_127 ?_
                    refine W.eq (g2 := F0 m 128 ls [.int (nI (bz (ra.2.2 k4))), .int (nI q9)]) rfl ?_
                    refine hn_if_eq (tgt := 135) hx hb (bz_b _) dd_MO_route_128 (by decide) (fun c29 => ?_) (fun c29 => ?_)
                    · have hf9 := bz_f c29
                      refine lv_iconst (v := nI 0) hx hb dd_MO_route_135 (by decide +kernel) ?_
                      refine hn_iadd hx hb dd_MO_route_136 ?_
                      refine lv_istore_n (lv' := [(3, .int (nI (q9 + 0))), (0, .ref (P 0)), (4, .int (nI k4))]) hx hb dd_MO_route_137 rfl hl (by decide) rfl (fun ls hl => ?_)
                      refine lv_iinc (v := nI (k4 + 1)) (lv' := [(4, .int (nI (k4 + 1))), (3, .int (nI (q9 + 0))), (0, .ref (P 0))]) hx hb dd_MO_route_138 hl (k := 2) rfl (nI_1 k4) (by decide) rfl (fun ls hl => ?_)
                      refine lv_goto (tgt := 113) hx hb dd_MO_route_141 (by decide) ?_
                      exact ih113 (k4 + 1) (q9 + 0) (by omega) (by rw [rg_step, ← hq9, hf9]; rfl) (by omega) _ _ _ hP hS (lv_sub hl [2, 1, 0] rfl)
                    · have hf9 := bz_t c29
                      refine lv_iconst (v := nI 1) hx hb dd_MO_route_131 (by decide +kernel) ?_
                      refine lv_goto (tgt := 136) hx hb dd_MO_route_132 (by decide) ?_
                      refine hn_iadd hx hb dd_MO_route_136 ?_
                      refine lv_istore_n (lv' := [(3, .int (nI (q9 + 1))), (0, .ref (P 0)), (4, .int (nI k4))]) hx hb dd_MO_route_137 rfl hl (by decide) rfl (fun ls hl => ?_)
                      refine lv_iinc (v := nI (k4 + 1)) (lv' := [(4, .int (nI (k4 + 1))), (3, .int (nI (q9 + 1))), (0, .ref (P 0))]) hx hb dd_MO_route_138 hl (k := 2) rfl (nI_1 k4) (by decide) rfl (fun ls hl => ?_)
                      refine lv_goto (tgt := 113) hx hb dd_MO_route_141 (by decide) ?_
                      exact ih113 (k4 + 1) (q9 + 1) (by omega) (by rw [rg_step, ← hq9, hf9]; rfl) (by omega) _ _ _ hP hS (lv_sub hl [2, 1, 0] rfl)
              exact lp113 _ 0 0 (Nat.zero_le _) (rfl) (Nat.lt_succ_self _) _ _ _ hP hS (lv_sub hl [2, 1, 0] rfl)
            · have hmo1 := bz_t c27
              have hmo2 : bz mo = 1 := by rw [hmo1]; rfl
              refine lv_iconst (v := nI 0) hx hb dd_MO_route_62 (by decide +kernel) ?_
              refine lv_istore_n (lv' := [(2, .int (nI 0)), (0, .ref (P 0)), (1, .int x)]) hx hb dd_MO_route_63 rfl hl (by decide) rfl (fun ls hl => ?_)
              refine lv_iconst (v := nI 0) hx hb dd_MO_route_64 (by decide +kernel) ?_
              refine lv_istore_n (lv' := [(3, .int (nI 0)), (2, .int (nI 0)), (0, .ref (P 0)), (1, .int x)]) hx hb dd_MO_route_65 rfl hl (by decide) rfl (fun ls hl => ?_)
              have lp66 : ∀ (n9 : Nat) (ea : Nat) (rb : rs_T) (mb : Bool) (fd : Nat → Int32) (fe : Nat → Int32) (ff : Nat → Int32) (Mu66 : hm_M), (ea ≤ 16) → (rt_I ex bs key hs x rb.1 rb.2.2) → (mb = decide (qu_n ra.1 < qu_n rb.1)) → (∀ k, ra.1 k = true → rb.1 k = true) → (∀ e9, e9 < ea → ra.1 e9 = true → (∀ k, k < 16 → lX ex bs key hs e9 k = true → rb.1 k = true) ∧ (∀ k, k < 16 → lF ex bs key hs e9 k = true → rb.2.2 k = true)) → (mo_D B D P O Mu66 (va_up I 0 (nI 0)) (va_up (va_up (va_up (va_up (va_up A 16 (fun k => nI (bz (rb.2.2 k)))) 17 (fun k => nI (bz (rb.1 k)))) 19 fd) 20 fe) 21 ff) L) → (cz_F O M O Mu66 pm) → 16 - ea < n9 → ∀ (H : Heap) (locs : List Loc) (ls : Array Slot), hm_P D cl_W Mu66 H → va_S (hm_A B) s.heap H locs → lv_has ls 5 [(0, .ref (P 0)), (1, .int x), (2, .int (nI (bz mb))), (3, .int (nI ea))] → W p l e R s m ([.ref (P 0), .int x] : List Value).toArray below meth c H locs (0) (0) (MQ below (hm_Ni B D (fun r M1 => ∃ S F, rt_P ex bs key hs x S F ∧ (r = nI (qu_n F) ∧ ∃ I1 A1 L1, mo_D B D P O M1 I1 A1 L1 ∧ I1 0 = nI 0 ∧ mo_S I1 A1 L1 t ex qs bs key hs F S ∧ cz_F O M O M1 pm))) ([.ref (P 0), .int x] : List Value).toArray s (0) (0) (hm_A B)) (F0 m 66 ls []) := by
                intro n9
                induction n9 with
                | zero => intro ea rb mb fd fe ff Mu66 hea hIb hmb hmo1 hpr hd66 hF66 hm; exact absurd hm (Nat.not_lt_zero _)
                | succ n9 ih66 =>
                  intro ea rb mb fd fe ff Mu66 hea hIb hmb hmo1 hpr hd66 hF66 hm H locs ls hP hS hl
                  obtain ⟨g30_0, g30_1, g30_3, g30_4, g30_5, g30_7, g30_8, g30_9, g30_10, g30_11, g30_14, g30_15, g30_16, g30_17, g30_19, g30_20, g30_21, -, -⟩ := id hd66
                  have g30_0 : Mu66 (P 0) = some (.inr (6, [.int (nI 0), .ref (P 1), .int (I 2), .ref (P 3), .ref (P 4), .ref (P 5), .int (I 6), .ref (P 7), .ref (P 8), .ref (P 9), .ref (P 10), .ref (P 11), .int (I 12), .int (I 13), .ref (P 14), .ref (P 15), .ref (P 16), .ref (P 17), .int (I 18), .ref (P 19), .ref (P 20), .ref (P 21)])) := g30_0
                  have g30_1 : Mu66 (P 1) = some (.inl (D.1 102, 48, .inl (A 1))) := g30_1
                  have g30_3 : Mu66 (P 3) = some (.inl (D.1 102, 16, .inl (A 3))) := g30_3
                  have g30_4 : Mu66 (P 4) = some (.inl (D.1 102, 16, .inl (A 4))) := g30_4
                  have g30_5 : Mu66 (P 5) = some (.inl (D.1 101, 16, .inl (A 5))) := g30_5
                  have g30_7 : Mu66 (P 7) = some (.inl (D.1 102, 120, .inl (A 7))) := g30_7
                  have g30_8 : Mu66 (P 8) = some (.inl (D.1 102, 120, .inl (A 8))) := g30_8
                  have g30_9 : Mu66 (P 9) = some (.inl (D.1 102, 120, .inl (A 9))) := g30_9
                  have g30_10 : Mu66 (P 10) = some (.inl (D.1 102, 5760, .inl (A 10))) := g30_10
                  have g30_11 : Mu66 (P 11) = some (.inl (D.1 102, 48, .inl (A 11))) := g30_11
                  have g30_16 : Mu66 (P 16) = some (.inl (D.1 101, 16, .inl (fun k => nI (bz (rb.2.2 k))))) := g30_16
                  have g30_17 : Mu66 (P 17) = some (.inl (D.1 101, 16, .inl (fun k => nI (bz (rb.1 k))))) := g30_17
                  have g30_19 : Mu66 (P 19) = some (.inl (D.1 101, 2601, .inl fd)) := g30_19
                  have g30_20 : Mu66 (P 20) = some (.inl (D.1 102, 52, .inl fe)) := g30_20
                  have g30_21 : Mu66 (P 21) = some (.inl (D.1 102, 52, .inl ff)) := g30_21
                  have hqb := qu_le rb.1
                  refine lv_iload_n hx hb dd_MO_route_66 rfl (lv_at hl 3 rfl) ?_
                  refine lv_bipush (v := nI 16) hx hb dd_MO_route_67 (by decide +kernel) ?_
                  refine hn_icmp_ge (tgt := 105) hx hb (by omega) (by omega) dd_MO_route_69 (by decide) (fun c31 => ?_) (fun c31 => ?_)
                  · have hmb9 : bz mb = 1 → qu_n ra.1 < qu_n rb.1 := fun h9 => of_decide_eq_true (hmb.symm.trans (bz_t (by omega)))
                    have hmb8 := (qu_mono hmo1).1
                    have hmb7 : bz mb ≤ 1 := by cases mb <;> decide
                    refine lv_goto (tgt := 58) hx hb dd_MO_route_105 (by decide) ?_
                    exact ih58 rb mb fd fe ff Mu66 (hIb) (fun h9 e9 he9 hS => by
                        have h8 := of_decide_eq_false (hmb.symm.trans h9)
                        have h7 := qu_mono hmo1
                        exact hpr e9 (by omega) (by rw [h7.2 (by omega) e9 he9]; exact hS)) (⟨g30_0, g30_1, g30_3, g30_4, g30_5, g30_7, g30_8, g30_9, g30_10, g30_11, g30_14, g30_15, g30_16, g30_17, g30_19, g30_20, g30_21, po, pb⟩) (hF66) (by omega) _ _ _ hP hS (lv_sub hl [0, 1, 2] rfl)
                  · refine lv_aload_n hx hb dd_MO_route_72 rfl (lv_at hl 0 rfl) ?_
                    refine hm_get (ci := 6) (C := rn_MO) (T := ft_MO) (N := 22) hx hb hts fi_MO hown hE.K hP g30_0 rfl 17 (by decide) (hts _ tw_1003) (fun _ h9 => h9) rfl dd_MO_route_73 ?_
                    refine lv_iload_n hx hb dd_MO_route_76 rfl (lv_at hl 3 rfl) ?_
                    refine hm_zald (j := ea) hx hb hE.K hP 1 g30_17 rfl (vp_in_nI (by omega) (by omega)) (nI_clamp (by omega)) dd_MO_route_77 ?_
                    refine W.eq (g2 := F0 m 78 ls [.int (nI (bz (rb.1 ea)))]) rfl ?_
                    refine hn_if_eq (tgt := 99) hx hb (bz_b _) dd_MO_route_78 (by decide) (fun c32 => ?_) (fun c32 => ?_)
                    · have hpe := bz_f c32
                      refine lv_iinc (v := nI (ea + 1)) (lv' := [(3, .int (nI (ea + 1))), (0, .ref (P 0)), (1, .int x), (2, .int (nI (bz mb)))]) hx hb dd_MO_route_99 hl (k := 3) rfl (nI_1 ea) (by decide) rfl (fun ls hl => ?_)
                      refine lv_goto (tgt := 66) hx hb dd_MO_route_102 (by decide) ?_
                      exact ih66 (ea + 1) rb mb fd fe ff Mu66 (by omega) (hIb) (hmb) (hmo1) (fun e9 he9 hS => by
                          by_cases h9 : e9 = ea
                          · rw [h9] at hS; rw [hmo1 ea hS] at hpe; cases hpe
                          · exact hpr e9 (by omega) hS) (⟨g30_0, g30_1, g30_3, g30_4, g30_5, g30_7, g30_8, g30_9, g30_10, g30_11, g30_14, g30_15, g30_16, g30_17, g30_19, g30_20, g30_21, po, pb⟩) (hF66) (by omega) _ _ _ hP hS (lv_sub hl [1, 2, 3, 0] rfl)
                    · have hpe := bz_t c32
                      refine lv_aload_n hx hb dd_MO_route_81 rfl (lv_at hl 0 rfl) ?_
                      refine lv_iload_n hx hb dd_MO_route_82 rfl (lv_at hl 3 rfl) ?_
                      have hee := hIb.2.2.2 ea (by omega) hpe
                      obtain ⟨⟨s9, o9⟩, hev⟩ := Option.isSome_iff_exists.mp hee
                      have hl9 := ld_1 (r := (rb.1, rb.2.1, rb.2.2)) (key := key) (hs := hs) (x := nI ea) rfl (by omega) hee hin9
                      have hgm : ∀ k, rb.1 k = true → (ld_r ex bs key hs (rb.1, rb.2.1, rb.2.2) (nI ea)).1 k = true := fun k h9 => by rw [(hl9 k).1]; show (rb.1 k || _) = true; rw [h9]; rfl
                      have hF34 : cz_F O M O Mu66 pm := hF66
                      have hd33 : mo_D B D P O Mu66 (va_up I 0 (nI 0)) (va_up (va_up (va_up (va_up (va_up A 16 (fun k => nI (bz (rb.2.2 k)))) 17 (fun k => nI (bz (rb.1 k)))) 19 fd) 20 fe) 21 ff) L := ⟨g30_0, g30_1, g30_3, g30_4, g30_5, g30_7, g30_8, g30_9, g30_10, g30_11, g30_14, g30_15, g30_16, g30_17, g30_19, g30_20, g30_21, po, pb⟩
                      refine hm_ci hS (hm_rV 1 (As := [.int (nI ea)]) (rest := []) ⟨hx, hb, hml, hown, hts⟩ hE hS hP (kc_MO_goOn l B D G Mu66 P O (va_up I 0 (nI 0)) (va_up (va_up (va_up (va_up (va_up A 16 (fun k => nI (bz (rb.2.2 k)))) 17 (fun k => nI (bz (rb.1 k)))) 19 fd) 20 fe) 21 ff) L hd33 bs hB key hK hs hH ex hX hW rb.1 rb.2.2 rb.2.1 rfl rfl ea (by omega) s9 o9 hev) rfl g30_0 tw_1157 tw_1154 tw_1156 tw_29 tw_46 (by decide +kernel) rfl rfl ⟨by show 4 + 1 ≤ R.frames; omega, by show 8 + (5 + 11) + 92 ≤ R.locals; omega⟩ rfl hl.1 rfl (Nat.le_of_ble_eq_true rfl) dd_MO_route_83 ⟨by omega, by omega⟩) (fun r35 M36 H locs hw37 hP hS => ?_)
                      refine W.widen (k := 0) (n := 0) (by omega) (by omega) ?_
                      obtain ⟨far35, fbr35, fcr35, rfl, hd38, hF39⟩ := hw37
                      have hF39 := hF34.trans hF39
                      obtain ⟨g40_0, g40_1, g40_3, g40_4, g40_5, g40_7, g40_8, g40_9, g40_10, g40_11, g40_14, g40_15, g40_16, g40_17, g40_19, g40_20, g40_21, -, -⟩ := id hd38
                      have g40_0 : M36 (P 0) = some (.inr (6, [.int (nI 0), .ref (P 1), .int (I 2), .ref (P 3), .ref (P 4), .ref (P 5), .int (I 6), .ref (P 7), .ref (P 8), .ref (P 9), .ref (P 10), .ref (P 11), .int (I 12), .int (I 13), .ref (P 14), .ref (P 15), .ref (P 16), .ref (P 17), .int (I 18), .ref (P 19), .ref (P 20), .ref (P 21)])) := g40_0
                      have g40_1 : M36 (P 1) = some (.inl (D.1 102, 48, .inl (A 1))) := g40_1
                      have g40_3 : M36 (P 3) = some (.inl (D.1 102, 16, .inl (A 3))) := g40_3
                      have g40_4 : M36 (P 4) = some (.inl (D.1 102, 16, .inl (A 4))) := g40_4
                      have g40_5 : M36 (P 5) = some (.inl (D.1 101, 16, .inl (A 5))) := g40_5
                      have g40_7 : M36 (P 7) = some (.inl (D.1 102, 120, .inl (A 7))) := g40_7
                      have g40_8 : M36 (P 8) = some (.inl (D.1 102, 120, .inl (A 8))) := g40_8
                      have g40_9 : M36 (P 9) = some (.inl (D.1 102, 120, .inl (A 9))) := g40_9
                      have g40_10 : M36 (P 10) = some (.inl (D.1 102, 5760, .inl (A 10))) := g40_10
                      have g40_11 : M36 (P 11) = some (.inl (D.1 102, 48, .inl (A 11))) := g40_11
                      have g40_16 : M36 (P 16) = some (.inl (D.1 101, 16, .inl (fun k => nI (bz ((ld_r ex bs key hs (rb.1, rb.2.1, rb.2.2) (nI ea)).2.2 k))))) := g40_16
                      have g40_17 : M36 (P 17) = some (.inl (D.1 101, 16, .inl (fun k => nI (bz ((ld_r ex bs key hs (rb.1, rb.2.1, rb.2.2) (nI ea)).1 k))))) := g40_17
                      have g40_19 : M36 (P 19) = some (.inl (D.1 101, 2601, .inl far35)) := g40_19
                      have g40_20 : M36 (P 20) = some (.inl (D.1 102, 52, .inl fbr35)) := g40_20
                      have g40_21 : M36 (P 21) = some (.inl (D.1 102, 52, .inl fcr35)) := g40_21
                      refine hn_if_ne (tgt := 93) hx hb (bz_b _) dd_MO_route_86 (by decide) (fun c41 => ?_) (fun c41 => ?_)
                      · have hg1 := of_decide_eq_true (bz_t c41)
                        refine lv_iconst (v := nI 1) hx hb dd_MO_route_93 (by decide +kernel) ?_
                        refine lv_goto (tgt := 98) hx hb dd_MO_route_94 (by decide) ?_
                        refine lv_istore_n (lv' := [(2, .int (nI 1)), (0, .ref (P 0)), (1, .int x), (3, .int (nI ea))]) hx hb dd_MO_route_98 rfl hl (by decide) rfl (fun ls hl => ?_)
                        refine lv_iinc (v := nI (ea + 1)) (lv' := [(3, .int (nI (ea + 1))), (2, .int (nI 1)), (0, .ref (P 0)), (1, .int x)]) hx hb dd_MO_route_99 hl (k := 3) rfl (nI_1 ea) (by decide) rfl (fun ls hl => ?_)
                        refine lv_goto (tgt := 66) hx hb dd_MO_route_102 (by decide) ?_
                        have hq1 := (qu_mono hmo1).1
                        have hq2 := (qu_mono hgm).1
                        exact ih66 (ea + 1) (ld_r ex bs key hs (rb.1, rb.2.1, rb.2.2) (nI ea)) true far35 fbr35 fcr35 M36 (by omega) (hIb.step rfl (by omega) hpe hin9 hW2) ((decide_eq_true (by omega)).symm) (fun k h9 => hgm k (hmo1 k h9)) (fun e9 he9 hS => by
                            by_cases h9 : e9 = ea
                            · subst h9
                              exact ⟨fun k hk hX9 => by rw [(hl9 k).1, hX9, Bool.or_true], fun k hk hF9 => by rw [(hl9 k).2, hF9, Bool.or_true]⟩
                            · have h8 := hpr e9 (by omega) hS
                              exact ⟨fun k hk hX9 => hgm k (h8.1 k hk hX9), fun k hk hF9 => by rw [(hl9 k).2, h8.2 k hk hF9]; rfl⟩) (⟨g40_0, g40_1, g40_3, g40_4, g40_5, g40_7, g40_8, g40_9, g40_10, g40_11, g40_14, g40_15, g40_16, g40_17, g40_19, g40_20, g40_21, po, pb⟩) (hF39) (by omega) _ _ _ hP hS (lv_sub hl [2, 3, 1, 0] rfl)
                      · have hg1 := of_decide_eq_false (bz_f c41)
                        refine lv_iload_n hx hb dd_MO_route_89 rfl (lv_at hl 2 rfl) ?_
                        refine hn_if_eq (tgt := 97) hx hb (bz_b _) dd_MO_route_90 (by decide) (fun c42 => ?_) (fun c42 => ?_)
                        · have hb9 := of_decide_eq_false (hmb.symm.trans (bz_f c42))
                          refine lv_iconst (v := nI 0) hx hb dd_MO_route_97 (by decide +kernel) ?_
                          refine lv_istore_n (lv' := [(2, .int (nI 0)), (0, .ref (P 0)), (1, .int x), (3, .int (nI ea))]) hx hb dd_MO_route_98 rfl hl (by decide) rfl (fun ls hl => ?_)
                          refine lv_iinc (v := nI (ea + 1)) (lv' := [(3, .int (nI (ea + 1))), (2, .int (nI 0)), (0, .ref (P 0)), (1, .int x)]) hx hb dd_MO_route_99 hl (k := 3) rfl (nI_1 ea) (by decide) rfl (fun ls hl => ?_)
                          refine lv_goto (tgt := 66) hx hb dd_MO_route_102 (by decide) ?_
                          have hq1 := (qu_mono hmo1).1
                          have hq2 := (qu_mono hgm).1
                          exact ih66 (ea + 1) (ld_r ex bs key hs (rb.1, rb.2.1, rb.2.2) (nI ea)) false far35 fbr35 fcr35 M36 (by omega) (hIb.step rfl (by omega) hpe hin9 hW2) ((decide_eq_false (by omega)).symm) (fun k h9 => hgm k (hmo1 k h9)) (fun e9 he9 hS => by
                              by_cases h9 : e9 = ea
                              · subst h9
                                exact ⟨fun k hk hX9 => by rw [(hl9 k).1, hX9, Bool.or_true], fun k hk hF9 => by rw [(hl9 k).2, hF9, Bool.or_true]⟩
                              · have h8 := hpr e9 (by omega) hS
                                exact ⟨fun k hk hX9 => hgm k (h8.1 k hk hX9), fun k hk hF9 => by rw [(hl9 k).2, h8.2 k hk hF9]; rfl⟩) (⟨g40_0, g40_1, g40_3, g40_4, g40_5, g40_7, g40_8, g40_9, g40_10, g40_11, g40_14, g40_15, g40_16, g40_17, g40_19, g40_20, g40_21, po, pb⟩) (hF39) (by omega) _ _ _ hP hS (lv_sub hl [2, 3, 1, 0] rfl)
                        · have hb9 := of_decide_eq_true (hmb.symm.trans (bz_t c42))
                          refine lv_iconst (v := nI 1) hx hb dd_MO_route_93 (by decide +kernel) ?_
                          refine lv_goto (tgt := 98) hx hb dd_MO_route_94 (by decide) ?_
                          refine lv_istore_n (lv' := [(2, .int (nI 1)), (0, .ref (P 0)), (1, .int x), (3, .int (nI ea))]) hx hb dd_MO_route_98 rfl hl (by decide) rfl (fun ls hl => ?_)
                          refine lv_iinc (v := nI (ea + 1)) (lv' := [(3, .int (nI (ea + 1))), (2, .int (nI 1)), (0, .ref (P 0)), (1, .int x)]) hx hb dd_MO_route_99 hl (k := 3) rfl (nI_1 ea) (by decide) rfl (fun ls hl => ?_)
                          refine lv_goto (tgt := 66) hx hb dd_MO_route_102 (by decide) ?_
                          have hq1 := (qu_mono hmo1).1
                          have hq2 := (qu_mono hgm).1
                          exact ih66 (ea + 1) (ld_r ex bs key hs (rb.1, rb.2.1, rb.2.2) (nI ea)) true far35 fbr35 fcr35 M36 (by omega) (hIb.step rfl (by omega) hpe hin9 hW2) ((decide_eq_true (by omega)).symm) (fun k h9 => hgm k (hmo1 k h9)) (fun e9 he9 hS => by
                              by_cases h9 : e9 = ea
                              · subst h9
                                exact ⟨fun k hk hX9 => by rw [(hl9 k).1, hX9, Bool.or_true], fun k hk hF9 => by rw [(hl9 k).2, hF9, Bool.or_true]⟩
                              · have h8 := hpr e9 (by omega) hS
                                exact ⟨fun k hk hX9 => hgm k (h8.1 k hk hX9), fun k hk hF9 => by rw [(hl9 k).2, h8.2 k hk hF9]; rfl⟩) (⟨g40_0, g40_1, g40_3, g40_4, g40_5, g40_7, g40_8, g40_9, g40_10, g40_11, g40_14, g40_15, g40_16, g40_17, g40_19, g40_20, g40_21, po, pb⟩) (hF39) (by omega) _ _ _ hP hS (lv_sub hl [2, 3, 1, 0] rfl)
              exact lp66 _ 0 ra false fa fb fc Mu58 (Nat.zero_le _) (hIa) ((decide_eq_false (Nat.lt_irrefl _)).symm) (fun _ h9 => h9) (fun e9 h9 => absurd h9 (Nat.not_lt_zero _)) (⟨g26_0, g26_1, g26_3, g26_4, g26_5, g26_7, g26_8, g26_9, g26_10, g26_11, g26_14, g26_15, g26_16, g26_17, g26_19, g26_20, g26_21, po, pb⟩) (hF58) (Nat.lt_succ_self _) _ _ _ hP hS (lv_sub hl [2, 3, 1, 0] rfl)
        have hk16 : k = 16 := by omega
        have f43 : Mu21 (P 16) = some (.inl (D.1 101, 16, .inl (fun k => nI (bz (((pz x ps 16, (fun _ => 0), cl_b fo 16) : rs_T).2.2 k))))) := g24_16.trans (by rw [hk16])
        have f44 : Mu21 (P 17) = some (.inl (D.1 101, 16, .inl (fun k => nI (bz (((pz x ps 16, (fun _ => 0), cl_b fo 16) : rs_T).1 k))))) := g24_17.trans (by rw [hk16])
        exact lp58 _ ((pz x ps 16, (fun _ => 0), cl_b fo 16) : rs_T) true (A 19) (A 20) (A 21) Mu21 (rt_I0 hx8 (fun k hk => by show pz x ps 16 k = _; rw [pz, if_pos hk]) (fun k hk => by show cl_b fo 16 k = _; rw [cl_b, if_pos hk])) (fun h9 => by cases h9) (⟨g24_0, g24_1, g24_3, g24_4, g24_5, g24_7, g24_8, g24_9, g24_10, g24_11, g24_14, g24_15, f43, f44, g24_19, g24_20, g24_21, po, pb⟩) (hF21) (Nat.lt_succ_self _) _ _ _ hP hS (lv_sub hl [1, 2, 0] rfl)
      · refine lv_aload_n hx hb dd_MO_route_27 rfl (lv_at hl 0 rfl) ?_
        refine hm_get (ci := 6) (C := rn_MO) (T := ft_MO) (N := 22) hx hb hts fi_MO hown hE.K hP g24_0 rfl 16 (by decide) (hts _ tw_1002) (fun _ h9 => h9) rfl dd_MO_route_28 ?_
        refine lv_iload_n hx hb dd_MO_route_31 rfl (lv_at hl 2 rfl) ?_
        refine lv_iconst (v := nI 0) hx hb dd_MO_route_32 (by decide +kernel) ?_
        refine hm_zast (y := nI (bz false)) (j := k) hx hb hE.K hP hS (pb 16 (by decide)) 1 g24_16 rfl (vp_in_nI (by omega) (by omega)) (nI_clamp (by omega)) rfl dd_MO_route_33 (fun H locs hP hS => ?_)
        obtain ⟨M45, eM45⟩ : ∃ z, z = hm_up Mu21 (P 16) (.inl (D.1 101, 16, .inl (upd (fun j => nI (bz (cl_b fo k j))) k (nI (bz false))))) := ⟨_, rfl⟩
        rw [← eM45] at hP
        have f46 : M45 (P 0) = some (.inr (6, [.int (nI 0), .ref (P 1), .int (I 2), .ref (P 3), .ref (P 4), .ref (P 5), .int (I 6), .ref (P 7), .ref (P 8), .ref (P 9), .ref (P 10), .ref (P 11), .int (I 12), .int (I 13), .ref (P 14), .ref (P 15), .ref (P 16), .ref (P 17), .int (I 18), .ref (P 19), .ref (P 20), .ref (P 21)])) := by rw [eM45]; exact hm_up_o (hm_neO (po 0 (by decide)) (po 16 (by decide)) (by decide)) g24_0
        have f47 : M45 (P 1) = some (.inl (D.1 102, 48, .inl (A 1))) := by rw [eM45]; exact hm_up_o (hm_neO (po 1 (by decide)) (po 16 (by decide)) (by decide)) g24_1
        have f48 : M45 (P 3) = some (.inl (D.1 102, 16, .inl (A 3))) := by rw [eM45]; exact hm_up_o (hm_neO (po 3 (by decide)) (po 16 (by decide)) (by decide)) g24_3
        have f49 : M45 (P 4) = some (.inl (D.1 102, 16, .inl (A 4))) := by rw [eM45]; exact hm_up_o (hm_neO (po 4 (by decide)) (po 16 (by decide)) (by decide)) g24_4
        have f50 : M45 (P 5) = some (.inl (D.1 101, 16, .inl (A 5))) := by rw [eM45]; exact hm_up_o (hm_neO (po 5 (by decide)) (po 16 (by decide)) (by decide)) g24_5
        have f51 : M45 (P 7) = some (.inl (D.1 102, 120, .inl (A 7))) := by rw [eM45]; exact hm_up_o (hm_neO (po 7 (by decide)) (po 16 (by decide)) (by decide)) g24_7
        have f52 : M45 (P 8) = some (.inl (D.1 102, 120, .inl (A 8))) := by rw [eM45]; exact hm_up_o (hm_neO (po 8 (by decide)) (po 16 (by decide)) (by decide)) g24_8
        have f53 : M45 (P 9) = some (.inl (D.1 102, 120, .inl (A 9))) := by rw [eM45]; exact hm_up_o (hm_neO (po 9 (by decide)) (po 16 (by decide)) (by decide)) g24_9
        have f54 : M45 (P 10) = some (.inl (D.1 102, 5760, .inl (A 10))) := by rw [eM45]; exact hm_up_o (hm_neO (po 10 (by decide)) (po 16 (by decide)) (by decide)) g24_10
        have f55 : M45 (P 11) = some (.inl (D.1 102, 48, .inl (A 11))) := by rw [eM45]; exact hm_up_o (hm_neO (po 11 (by decide)) (po 16 (by decide)) (by decide)) g24_11
        have f56 : M45 (P 14) = some (.inl (D.1 103, 6, .inr (.inl (L 14)))) := by rw [eM45]; exact hm_up_o (hm_neO (po 14 (by decide)) (po 16 (by decide)) (by decide)) g24_14
        have f57 : M45 (P 15) = some (.inl (D.1 103, 6, .inr (.inl (L 15)))) := by rw [eM45]; exact hm_up_o (hm_neO (po 15 (by decide)) (po 16 (by decide)) (by decide)) g24_15
        have f58 : M45 (P 17) = some (.inl (D.1 101, 16, .inl (fun j => nI (bz (pz x ps k j))))) := by rw [eM45]; exact hm_up_o (hm_neO (po 17 (by decide)) (po 16 (by decide)) (by decide)) g24_17
        have f59 : M45 (P 19) = some (.inl (D.1 101, 2601, .inl (A 19))) := by rw [eM45]; exact hm_up_o (hm_neO (po 19 (by decide)) (po 16 (by decide)) (by decide)) g24_19
        have f60 : M45 (P 20) = some (.inl (D.1 102, 52, .inl (A 20))) := by rw [eM45]; exact hm_up_o (hm_neO (po 20 (by decide)) (po 16 (by decide)) (by decide)) g24_20
        have f61 : M45 (P 21) = some (.inl (D.1 102, 52, .inl (A 21))) := by rw [eM45]; exact hm_up_o (hm_neO (po 21 (by decide)) (po 16 (by decide)) (by decide)) g24_21
        have f62 : M45 (P 16) = some (.inl (D.1 101, 16, .inl (upd (fun j => nI (bz (cl_b fo k j))) k (nI (bz false))))) := by rw [eM45]; exact hm_up_s
        refine lv_aload_n hx hb dd_MO_route_34 rfl (lv_at hl 0 rfl) ?_
        refine hm_get (ci := 6) (C := rn_MO) (T := ft_MO) (N := 22) hx hb hts fi_MO hown hE.K hP f46 rfl 17 (by decide) (hts _ tw_1003) (fun _ h9 => h9) rfl dd_MO_route_35 ?_
        refine lv_iload_n hx hb dd_MO_route_38 rfl (lv_at hl 2 rfl) ?_
        refine lv_iload_n hx hb dd_MO_route_39 rfl (lv_at hl 2 rfl) ?_
        refine lv_iload_n hx hb dd_MO_route_40 rfl (lv_at hl 1 rfl) ?_
        refine hi_icmp_ne (tgt := 48) hx hb dd_MO_route_41 (by decide) (fun c63 => ?_) (fun c63 => ?_)
        · have hxk : decide (x.toInt.toNat = k) = false := decide_eq_false (fun h9 => c63 (by rw [nI_toInt (by omega)]; omega))
          refine lv_iconst (v := nI 0) hx hb dd_MO_route_48 (by decide +kernel) ?_
          refine hm_zast (y := nI 0) (j := k) hx hb hE.K hP hS (pb 17 (by decide)) 1 f58 rfl (vp_in_nI (by omega) (by omega)) (nI_clamp (by omega)) rfl dd_MO_route_49 (fun H locs hP hS => ?_)
          obtain ⟨M64, eM64⟩ : ∃ z, z = hm_up M45 (P 17) (.inl (D.1 101, 16, .inl (upd (fun j => nI (bz (pz x ps k j))) k (nI 0)))) := ⟨_, rfl⟩
          rw [← eM64] at hP
          have f65 : M64 (P 0) = some (.inr (6, [.int (nI 0), .ref (P 1), .int (I 2), .ref (P 3), .ref (P 4), .ref (P 5), .int (I 6), .ref (P 7), .ref (P 8), .ref (P 9), .ref (P 10), .ref (P 11), .int (I 12), .int (I 13), .ref (P 14), .ref (P 15), .ref (P 16), .ref (P 17), .int (I 18), .ref (P 19), .ref (P 20), .ref (P 21)])) := by rw [eM64]; exact hm_up_o (hm_neO (po 0 (by decide)) (po 17 (by decide)) (by decide)) f46
          have f66 : M64 (P 1) = some (.inl (D.1 102, 48, .inl (A 1))) := by rw [eM64]; exact hm_up_o (hm_neO (po 1 (by decide)) (po 17 (by decide)) (by decide)) f47
          have f67 : M64 (P 3) = some (.inl (D.1 102, 16, .inl (A 3))) := by rw [eM64]; exact hm_up_o (hm_neO (po 3 (by decide)) (po 17 (by decide)) (by decide)) f48
          have f68 : M64 (P 4) = some (.inl (D.1 102, 16, .inl (A 4))) := by rw [eM64]; exact hm_up_o (hm_neO (po 4 (by decide)) (po 17 (by decide)) (by decide)) f49
          have f69 : M64 (P 5) = some (.inl (D.1 101, 16, .inl (A 5))) := by rw [eM64]; exact hm_up_o (hm_neO (po 5 (by decide)) (po 17 (by decide)) (by decide)) f50
          have f70 : M64 (P 7) = some (.inl (D.1 102, 120, .inl (A 7))) := by rw [eM64]; exact hm_up_o (hm_neO (po 7 (by decide)) (po 17 (by decide)) (by decide)) f51
          have f71 : M64 (P 8) = some (.inl (D.1 102, 120, .inl (A 8))) := by rw [eM64]; exact hm_up_o (hm_neO (po 8 (by decide)) (po 17 (by decide)) (by decide)) f52
          have f72 : M64 (P 9) = some (.inl (D.1 102, 120, .inl (A 9))) := by rw [eM64]; exact hm_up_o (hm_neO (po 9 (by decide)) (po 17 (by decide)) (by decide)) f53
          have f73 : M64 (P 10) = some (.inl (D.1 102, 5760, .inl (A 10))) := by rw [eM64]; exact hm_up_o (hm_neO (po 10 (by decide)) (po 17 (by decide)) (by decide)) f54
          have f74 : M64 (P 11) = some (.inl (D.1 102, 48, .inl (A 11))) := by rw [eM64]; exact hm_up_o (hm_neO (po 11 (by decide)) (po 17 (by decide)) (by decide)) f55
          have f75 : M64 (P 14) = some (.inl (D.1 103, 6, .inr (.inl (L 14)))) := by rw [eM64]; exact hm_up_o (hm_neO (po 14 (by decide)) (po 17 (by decide)) (by decide)) f56
          have f76 : M64 (P 15) = some (.inl (D.1 103, 6, .inr (.inl (L 15)))) := by rw [eM64]; exact hm_up_o (hm_neO (po 15 (by decide)) (po 17 (by decide)) (by decide)) f57
          have f77 : M64 (P 16) = some (.inl (D.1 101, 16, .inl (upd (fun j => nI (bz (cl_b fo k j))) k (nI (bz false))))) := by rw [eM64]; exact hm_up_o (hm_neO (po 16 (by decide)) (po 17 (by decide)) (by decide)) f62
          have f78 : M64 (P 19) = some (.inl (D.1 101, 2601, .inl (A 19))) := by rw [eM64]; exact hm_up_o (hm_neO (po 19 (by decide)) (po 17 (by decide)) (by decide)) f59
          have f79 : M64 (P 20) = some (.inl (D.1 102, 52, .inl (A 20))) := by rw [eM64]; exact hm_up_o (hm_neO (po 20 (by decide)) (po 17 (by decide)) (by decide)) f60
          have f80 : M64 (P 21) = some (.inl (D.1 102, 52, .inl (A 21))) := by rw [eM64]; exact hm_up_o (hm_neO (po 21 (by decide)) (po 17 (by decide)) (by decide)) f61
          have f81 : M64 (P 17) = some (.inl (D.1 101, 16, .inl (upd (fun j => nI (bz (pz x ps k j))) k (nI 0)))) := by rw [eM64]; exact hm_up_s
          refine lv_iinc (v := nI (k + 1)) (lv' := [(2, .int (nI (k + 1))), (0, .ref (P 0)), (1, .int x)]) hx hb dd_MO_route_50 hl (k := 2) rfl (nI_1 k) (by decide) rfl (fun ls hl => ?_)
          refine lv_goto (tgt := 21) hx hb dd_MO_route_53 (by decide) ?_
          have f82 : M64 (P 16) = some (.inl (D.1 101, 16, .inl (fun j => nI (bz (cl_b fo (k + 1) j))))) := f77.trans (by rw [cl_up])
          have f83 : M64 (P 17) = some (.inl (D.1 101, 16, .inl (fun j => nI (bz (pz x ps (k + 1) j))))) := f81.trans (by rw [show upd (fun j => nI (bz (pz x ps k j))) k (nI 0) = (fun j => nI (bz (pz x ps (k + 1) j))) from (by rw [← pz_up, hxk]; rfl)])
          have kk84 : hm_k Mu21 Mu21 [(P 16), (P 17)] := hm_krf
          have kk85 : hm_k Mu21 M45 [(P 16), (P 17)] := hm_ku kk84 (Or.inr (by simp)) eM45
          have kk86 : hm_k Mu21 M64 [(P 16), (P 17)] := hm_ku kk85 (Or.inr (by simp)) eM64
          exact ih21 (k + 1) M64 (by omega) (⟨f65, f66, f67, f68, f69, f70, f71, f72, f73, f74, f75, f76, f82, f83, f78, f79, f80, po, pb⟩) ((hF21).trans (cz_F.k0 kk86 (hm_a2 ⟨by rw [po 16 (by decide)]; unfold pm; omega, _, f82⟩ ⟨by rw [po 17 (by decide)]; unfold pm; omega, _, f83⟩))) (by omega) _ _ _ hP hS (lv_sub hl [1, 2, 0] rfl)
        · have hxk : decide (x.toInt.toNat = k) = true := decide_eq_true (by have h9 := c63; rw [nI_toInt (by omega)] at h9; omega)
          refine lv_iconst (v := nI 1) hx hb dd_MO_route_44 (by decide +kernel) ?_
          refine lv_goto (tgt := 49) hx hb dd_MO_route_45 (by decide) ?_
          refine hm_zast (y := nI 1) (j := k) hx hb hE.K hP hS (pb 17 (by decide)) 1 f58 rfl (vp_in_nI (by omega) (by omega)) (nI_clamp (by omega)) rfl dd_MO_route_49 (fun H locs hP hS => ?_)
          obtain ⟨M87, eM87⟩ : ∃ z, z = hm_up M45 (P 17) (.inl (D.1 101, 16, .inl (upd (fun j => nI (bz (pz x ps k j))) k (nI 1)))) := ⟨_, rfl⟩
          rw [← eM87] at hP
          have f88 : M87 (P 0) = some (.inr (6, [.int (nI 0), .ref (P 1), .int (I 2), .ref (P 3), .ref (P 4), .ref (P 5), .int (I 6), .ref (P 7), .ref (P 8), .ref (P 9), .ref (P 10), .ref (P 11), .int (I 12), .int (I 13), .ref (P 14), .ref (P 15), .ref (P 16), .ref (P 17), .int (I 18), .ref (P 19), .ref (P 20), .ref (P 21)])) := by rw [eM87]; exact hm_up_o (hm_neO (po 0 (by decide)) (po 17 (by decide)) (by decide)) f46
          have f89 : M87 (P 1) = some (.inl (D.1 102, 48, .inl (A 1))) := by rw [eM87]; exact hm_up_o (hm_neO (po 1 (by decide)) (po 17 (by decide)) (by decide)) f47
          have f90 : M87 (P 3) = some (.inl (D.1 102, 16, .inl (A 3))) := by rw [eM87]; exact hm_up_o (hm_neO (po 3 (by decide)) (po 17 (by decide)) (by decide)) f48
          have f91 : M87 (P 4) = some (.inl (D.1 102, 16, .inl (A 4))) := by rw [eM87]; exact hm_up_o (hm_neO (po 4 (by decide)) (po 17 (by decide)) (by decide)) f49
          have f92 : M87 (P 5) = some (.inl (D.1 101, 16, .inl (A 5))) := by rw [eM87]; exact hm_up_o (hm_neO (po 5 (by decide)) (po 17 (by decide)) (by decide)) f50
          have f93 : M87 (P 7) = some (.inl (D.1 102, 120, .inl (A 7))) := by rw [eM87]; exact hm_up_o (hm_neO (po 7 (by decide)) (po 17 (by decide)) (by decide)) f51
          have f94 : M87 (P 8) = some (.inl (D.1 102, 120, .inl (A 8))) := by rw [eM87]; exact hm_up_o (hm_neO (po 8 (by decide)) (po 17 (by decide)) (by decide)) f52
          have f95 : M87 (P 9) = some (.inl (D.1 102, 120, .inl (A 9))) := by rw [eM87]; exact hm_up_o (hm_neO (po 9 (by decide)) (po 17 (by decide)) (by decide)) f53
          have f96 : M87 (P 10) = some (.inl (D.1 102, 5760, .inl (A 10))) := by rw [eM87]; exact hm_up_o (hm_neO (po 10 (by decide)) (po 17 (by decide)) (by decide)) f54
          have f97 : M87 (P 11) = some (.inl (D.1 102, 48, .inl (A 11))) := by rw [eM87]; exact hm_up_o (hm_neO (po 11 (by decide)) (po 17 (by decide)) (by decide)) f55
          have f98 : M87 (P 14) = some (.inl (D.1 103, 6, .inr (.inl (L 14)))) := by rw [eM87]; exact hm_up_o (hm_neO (po 14 (by decide)) (po 17 (by decide)) (by decide)) f56
          have f99 : M87 (P 15) = some (.inl (D.1 103, 6, .inr (.inl (L 15)))) := by rw [eM87]; exact hm_up_o (hm_neO (po 15 (by decide)) (po 17 (by decide)) (by decide)) f57
          have f100 : M87 (P 16) = some (.inl (D.1 101, 16, .inl (upd (fun j => nI (bz (cl_b fo k j))) k (nI (bz false))))) := by rw [eM87]; exact hm_up_o (hm_neO (po 16 (by decide)) (po 17 (by decide)) (by decide)) f62
          have f101 : M87 (P 19) = some (.inl (D.1 101, 2601, .inl (A 19))) := by rw [eM87]; exact hm_up_o (hm_neO (po 19 (by decide)) (po 17 (by decide)) (by decide)) f59
          have f102 : M87 (P 20) = some (.inl (D.1 102, 52, .inl (A 20))) := by rw [eM87]; exact hm_up_o (hm_neO (po 20 (by decide)) (po 17 (by decide)) (by decide)) f60
          have f103 : M87 (P 21) = some (.inl (D.1 102, 52, .inl (A 21))) := by rw [eM87]; exact hm_up_o (hm_neO (po 21 (by decide)) (po 17 (by decide)) (by decide)) f61
          have f104 : M87 (P 17) = some (.inl (D.1 101, 16, .inl (upd (fun j => nI (bz (pz x ps k j))) k (nI 1)))) := by rw [eM87]; exact hm_up_s
          refine lv_iinc (v := nI (k + 1)) (lv' := [(2, .int (nI (k + 1))), (0, .ref (P 0)), (1, .int x)]) hx hb dd_MO_route_50 hl (k := 2) rfl (nI_1 k) (by decide) rfl (fun ls hl => ?_)
          refine lv_goto (tgt := 21) hx hb dd_MO_route_53 (by decide) ?_
          have f105 : M87 (P 16) = some (.inl (D.1 101, 16, .inl (fun j => nI (bz (cl_b fo (k + 1) j))))) := f100.trans (by rw [cl_up])
          have f106 : M87 (P 17) = some (.inl (D.1 101, 16, .inl (fun j => nI (bz (pz x ps (k + 1) j))))) := f104.trans (by rw [show upd (fun j => nI (bz (pz x ps k j))) k (nI 1) = (fun j => nI (bz (pz x ps (k + 1) j))) from (by rw [← pz_up, hxk]; rfl)])
          have kk107 : hm_k Mu21 Mu21 [(P 16), (P 17)] := hm_krf
          have kk108 : hm_k Mu21 M45 [(P 16), (P 17)] := hm_ku kk107 (Or.inr (by simp)) eM45
          have kk109 : hm_k Mu21 M87 [(P 16), (P 17)] := hm_ku kk108 (Or.inr (by simp)) eM87
          exact ih21 (k + 1) M87 (by omega) (⟨f88, f89, f90, f91, f92, f93, f94, f95, f96, f97, f98, f99, f105, f106, f101, f102, f103, po, pb⟩) ((hF21).trans (cz_F.k0 kk109 (hm_a2 ⟨by rw [po 16 (by decide)]; unfold pm; omega, _, f105⟩ ⟨by rw [po 17 (by decide)]; unfold pm; omega, _, f106⟩))) (by omega) _ _ _ hP hS (lv_sub hl [1, 2, 0] rfl)
  have f110 : M6 (P 16) = some (.inl (D.1 101, 16, .inl (fun j => nI (bz (cl_b fo 0 j))))) := f18.trans (by rw [hFo, cl_0])
  have f111 : M6 (P 17) = some (.inl (D.1 101, 16, .inl (fun j => nI (bz (pz x ps 0 j))))) := f19.trans (by rw [hPs, pz_0])
  have kk112 : hm_k M M [(P 0)] := hm_krf
  have kk113 : hm_k M M6 [(P 0)] := hm_ku kk112 (Or.inr (by simp)) eM6
  exact lp21 _ 0 M6 (Nat.zero_le _) (⟨f23, f7, f8, f9, f10, f11, f12, f13, f14, f15, f16, f17, f110, f111, f20, f21, f22, po, pb⟩) (cz_F.k0 kk113 (hm_a1 ⟨by rw [po 0 (by decide)]; unfold pm; omega, _, f23⟩)) (Nat.lt_succ_self _) _ _ _ hP hS (lv_sub hl [1, 2, 0] rfl)
set_option maxHeartbeats 4000000 in
set_option maxRecDepth 100000 in
theorem kc_MO_route1 (l : Launch) (B : Nat) (D : va_G) (G : Nat → Nat) (M : hm_M) (P O : Nat → Nat) (I : Nat → Int32) (A : Nat → Nat → Int32) (L : Nat → Nat → Int64) (hD : mo_D B D P O M I A L) (t : List Nat) (ex : Nat → Option (Int32 × Int32)) (qs : Nat → Bool) (bs : List bd_T) (key : List Nat) (hs : List (List Nat × List Nat)) (fo ps : Nat → Bool) (hZ : mo_S I A L t ex qs bs key hs fo ps) (x : Int32) (hx8 : ex_at ex x = none) : Met l yy_MO_route ws_MO_route ({ frames := 1, cells := 0, slots := 0, locals := 21 }) (hm_Pc B D G M [.ref (P 0), .int x]) (hm_Ni B D (fun r M1 => r = nI 0 ∧ ∃ I1 A1 L1, mo_D B D P O M1 I1 A1 L1 ∧ I1 0 = nI 1 ∧ mo_S I1 A1 L1 t ex qs bs key hs fo ps ∧ cz_F O M O M1 pm)) (0) (0) (hm_A B) := by
  refine Met.ofW (cc := cd_MO_route) (maxL := 5) (ret := ((some FieldType.int))) (by decide) rfl ?_
  intro p e s m args below meth c s₁ B0 hml hv
  obtain ⟨rfl, hE, hP⟩ := hv
  have hx := B0.exec
  have hb := B0.bytes
  have hr := B0.returns
  have hts : ∀ w ∈ tb_G, w.before _ s = true := fun w h => atoms_spec (ws := ws_MO_route) B0.pre w (List.mem_cons_of_mem _ h)
  have hown : s.vm.findClass "RouteDeskModel" = some m.cls := findClass_of_methodNamed B0.named
  have hlocks := B0.notSynchronized
  have hRf : (headSpec ws_MO_route { frames := 1, cells := 0, slots := 0, locals := 21 }).room.frames = 1 := rfl
  have hRl : (headSpec ws_MO_route { frames := 1, cells := 0, slots := 0, locals := 21 }).room.locals = 21 := rfl
  have hRc : (headSpec ws_MO_route { frames := 1, cells := 0, slots := 0, locals := 21 }).room.cells = 0 := rfl
  have hRs : (headSpec ws_MO_route { frames := 1, cells := 0, slots := 0, locals := 21 }).room.slots = 0 := rfl
  generalize (headSpec ws_MO_route { frames := 1, cells := 0, slots := 0, locals := 21 }).room = R at hRf hRl hRc hRs ⊢
  have hS : va_S (hm_A B) s.heap s.heap [] := va_S.rf
  have hl := lv_entry ([.ref (P 0), .int x]) (n := 5) (Nat.le_of_ble_eq_true rfl)
  rw [lg_entry_eq]
  generalize (lg_sl ([.ref (P 0), .int x]) ++ List.replicate (5 - (lg_sl ([.ref (P 0), .int x])).length) Slot.unset).toArray = ls at hl ⊢
  have hl : lv_has ls 5 [(0, .ref (P 0)), (1, .int x)] := hl
  have t16 : (nI 16).toInt = 16 := by decide
  have tm1 : (-1 : Int32).toInt = -1 := by decide
  have t0 : (nI 0).toInt = 0 := by decide
  have t2 : (nI 2).toInt = 2 := by decide
  have t3 : (nI 3).toInt = 3 := by decide
  have t1 : (nI 1).toInt = 1 := by decide
  have t4 : (nI 4).toInt = 4 := by decide
  obtain ⟨p0, p1, p3, p4, p5, p7, p8, p9, p10, p11, p14, p15, p16, p17, p19, p20, p21, po, pb⟩ := id hD
  obtain ⟨hT, hX, hQ, hB, hK, hH, hFo, hPs⟩ := id hZ
  obtain ⟨ti1, ti2, ti3, ti4⟩ := id hT
  obtain ⟨bi1, bi2, bi3⟩ := id hB
  obtain ⟨ki1, ki2, ki3, ki4⟩ := id hK
  obtain ⟨hi1, hi2, hi3⟩ := id hH
  refine lv_aload_n hx hb dd_MO_route_0 rfl (lv_at hl 0 rfl) ?_
  refine lv_iload_n hx hb dd_MO_route_1 rfl (lv_at hl 1 rfl) ?_
  have hd1 : mo_D B D P O M I A L := ⟨p0, p1, p3, p4, p5, p7, p8, p9, p10, p11, p14, p15, p16, p17, p19, p20, p21, po, pb⟩
  refine hm_ci hS (hm_rV 1 (As := [.int x]) (rest := []) ⟨hx, hb, hml, hown, hts⟩ hE hS hP (kc_MO_isExchange l B D G M P O I A L hd1 x) rfl p0 tw_1078 tw_1075 tw_1077 tw_18 tw_46 (by decide +kernel) rfl rfl ⟨by show 0 + 1 ≤ R.frames; omega, by show 8 + (2 + 11) + 0 ≤ R.locals; omega⟩ rfl hl.1 rfl (Nat.le_of_ble_eq_true rfl) dd_MO_route_2 ⟨by omega, by omega⟩) (fun r2 M3 H locs hw4 hP hS => ?_)
  refine W.widen (k := 0) (n := 0) (by omega) (by omega) ?_
  obtain ⟨hrM3, eM3⟩ := hw4
  rw [eM3] at hP
  have hrM3 := hrM3.trans (by rw [exS_x (A := A) hX])
  obtain rfl : r2 = nI (bz (ex_at ex x).isSome) := hrM3
  refine hn_if_ne (tgt := 14) hx hb (bz_b _) dd_MO_route_5 (by decide) (fun c5 => absurd c5 (by rw [hx8]; decide)) (fun c5 => ?_)
  refine lv_aload_n hx hb dd_MO_route_8 rfl (lv_at hl 0 rfl) ?_
  refine lv_iconst (v := nI 1) hx hb dd_MO_route_9 (by decide +kernel) ?_
  have hF7 : cz_F O M O M pm := cz_F.rf
  have hd6 : mo_D B D P O M I A L := ⟨p0, p1, p3, p4, p5, p7, p8, p9, p10, p11, p14, p15, p16, p17, p19, p20, p21, po, pb⟩
  refine hm_ci hS (hm_rV 1 (As := [.int (nI 1)]) (rest := []) ⟨hx, hb, hml, hown, hts⟩ hE hS hP (kc_MO_raise l B D G M P O I A L hd6 (nI 1)) rfl p0 tw_1070 tw_1067 tw_1069 tw_17 tw_46 (by decide +kernel) rfl rfl ⟨by show 0 + 1 ≤ R.frames; omega, by show 8 + (2 + 11) + 0 ≤ R.locals; omega⟩ rfl hl.1 rfl (Nat.le_of_ble_eq_true rfl) dd_MO_route_10 ⟨by omega, by omega⟩) (fun r8 M9 H locs hw10 hP hS => ?_)
  refine W.widen (k := 0) (n := 0) (by omega) (by omega) ?_
  obtain ⟨rfl, hd11, hF12⟩ := hw10
  have hF12 := hF7.trans hF12
  obtain ⟨g13_0, g13_1, g13_3, g13_4, g13_5, g13_7, g13_8, g13_9, g13_10, g13_11, g13_14, g13_15, g13_16, g13_17, g13_19, g13_20, g13_21, -, -⟩ := id hd11
  have g13_0 : M9 (P 0) = some (.inr (6, [.int (nI 1), .ref (P 1), .int (I 2), .ref (P 3), .ref (P 4), .ref (P 5), .int (I 6), .ref (P 7), .ref (P 8), .ref (P 9), .ref (P 10), .ref (P 11), .int (I 12), .int (I 13), .ref (P 14), .ref (P 15), .ref (P 16), .ref (P 17), .int (I 18), .ref (P 19), .ref (P 20), .ref (P 21)])) := g13_0
  exact hm_Ei (v := nI 0) hx hb hr rfl hS hP (⟨rfl, (va_up I 0 (nI 1)), A, L, ⟨g13_0, g13_1, g13_3, g13_4, g13_5, g13_7, g13_8, g13_9, g13_10, g13_11, g13_14, g13_15, g13_16, g13_17, g13_19, g13_20, g13_21, po, pb⟩, rfl, ⟨hT, hX, hQ, hB, hK, hH, hFo, hPs⟩, hF12⟩) hlocks (by omega) (by omega) dd_MO_route_13
