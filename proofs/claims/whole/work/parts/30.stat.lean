/-! the class's state. N: where its cells stand; O: their colours (a colour's hundreds are the part that it belongs to); p of a frame: what may be written -/
def cg (g c : Nat) : Prop := c / 100 = g
/-- the tape -/
def tp_R (B : Nat) (D : va_G) (N O : Nat → Nat) (M : hm_M) (t : List Nat) : Prop := ∃ v, sb_T B D M (N 1) v t ∧ O (N 1) = 100 ∧ O v = 101 ∧ t.length ≤ 48
/-- the exchanges: sort and alternate -/
def ex_D (B : Nat) (D : va_G) (N O : Nat → Nat) (M : hm_M) (ex : Nat → Option (Int32 × Int32)) (f : Nat → Option Nat) : Prop := M (N 2) = some (.inl (D.1 105, 16, .inr (.inr (.inr (.inr f))))) ∧ O (N 2) = 200 ∧ B ≤ N 2 ∧ ∀ k, k < 16 → (ex k = none ∧ f k = none) ∨ ∃ a s o, ex k = some (s, o) ∧ f k = some a ∧ M a = some (.inr (2, [.int s, .int o])) ∧ O a = 201 + k ∧ B ≤ a
def ex_R (B : Nat) (D : va_G) (N O : Nat → Nat) (M : hm_M) (ex : Nat → Option (Int32 × Int32)) : Prop := ∃ f : Nat → Option Nat, ex_D B D N O M ex f
/-- the queues -/
def qu_R (B : Nat) (D : va_G) (N O : Nat → Nat) (M : hm_M) (qs : Nat → Bool) : Prop := M (N 3) = some (.inl (D.1 101, 16, .inl (fun k => nI (bz (qs k))))) ∧ O (N 3) = 300 ∧ B ≤ N 3
/-- the bindings: from, to, to a queue, text -/
abbrev bd_T : Type := Int32 × Int32 × Bool × List Nat
def bd_R (D : va_G) (I : hm_M) (a : Nat) (b : bd_T) : Prop := ∃ s, I a = some (.inr (1, [.int b.1, .int b.2.1, .int (nI (bz b.2.2.1)), .ref s])) ∧ tx_S D I s b.2.2.2
def bi_R (B : Nat) (D : va_G) (G N O : Nat → Nat) (M : hm_M) (bs : List bd_T) : Prop := ∃ d xs, al_D B D G M 1 (N 4) d xs ∧ O (N 4) = 400 ∧ B ≤ N 4 ∧ (d = G 0 ∨ O d = 401) ∧ xs.length = bs.length ∧ (∀ (j x : Nat) (b : bd_T), xs[j]? = some x → bs[j]? = some b → bd_R D (cz_I O M) x b) ∧ bs.length ≤ 120
/-- the current message: key, headers -/
def hh_R (B : Nat) (D : va_G) (O : Nat → Nat) (M : hm_M) (j x : Nat) (h : List Nat × List Nat) : Prop := ∃ s1 s2, M x = some (.inr (3, [.ref s1, .ref s2])) ∧ O x = 503 + j ∧ B ≤ x ∧ tx_S D (cz_I O M) s1 h.1 ∧ tx_S D (cz_I O M) s2 h.2
def ms_R (B : Nat) (D : va_G) (G N O : Nat → Nat) (M : hm_M) (key : List Nat) (hs : List (List Nat × List Nat)) : Prop := ∃ kk d xs, M (N 5) = some (.inr (4, [.ref kk, .ref (N 6)])) ∧ O (N 5) = 500 ∧ B ≤ N 5 ∧ tx_S D (cz_I O M) kk key ∧ al_D B D G M 3 (N 6) d xs ∧ O (N 6) = 501 ∧ B ≤ N 6 ∧ (d = G 0 ∨ O d = 502) ∧ xs.length = hs.length ∧ (∀ (j x : Nat) (h : List Nat × List Nat), xs[j]? = some x → hs[j]? = some h → hh_R B D O M j x h) ∧ hs.length ≤ 6
/-- how many of 16 -/
def qu_n (qs : Nat → Bool) : Nat := (List.range 16).countP qs
theorem rg_step {P : Nat → Bool} {k : Nat} : (List.range (k + 1)).countP P = (List.range k).countP P + bz (P k) := by
  rw [List.range_succ, List.countP_append]
  cases hp : P k <;> simp [bz, hp]
theorem rg_le {P : Nat → Bool} {k : Nat} : (List.range k).countP P ≤ k := Nat.le_trans List.countP_le_length (by rw [List.length_range]; omega)
theorem rg_up {P : Nat → Bool} {j : Nat} (h : P j = false) : ∀ n, (List.range n).countP (va_up P j true) = (List.range n).countP P + (if j < n then 1 else 0) := by
  intro n
  induction n with
  | zero => rfl
  | succ n ih =>
    rw [rg_step, rg_step, ih]
    by_cases e : n = j
    · subst e
      rw [va_up_self, h, if_neg (Nat.lt_irrefl _), if_pos (Nat.lt_succ_self _)]
      rfl
    · rw [va_up_ne _ _ e]
      by_cases h2 : j < n
      · rw [if_pos h2, if_pos (by omega)]; omega
      · rw [if_neg h2, if_neg (by omega)]; omega
theorem qu_up {P : Nat → Bool} {j : Nat} (h : P j = false) (hj : j < 16) : qu_n (va_up P j true) = qu_n P + 1 := by
  unfold qu_n
  rw [rg_up h, if_pos hj]
theorem qu_le (P : Nat → Bool) : qu_n P ≤ 16 := rg_le
theorem qu_lt {P : Nat → Bool} {j : Nat} (h : P j = false) (hj : j < 16) : qu_n P < 16 := by
  have h1 := qu_up h hj
  have h2 := qu_le (va_up P j true)
  omega
theorem qu_0 : qu_n (fun _ => false) = 0 := by decide
/-- the latest routing: the passed, their order, the found -/
def rt_R (B : Nat) (D : va_G) (N O : Nat → Nat) (M : hm_M) (ps : Nat → Bool) (od : Nat → Int32) (fo : Nat → Bool) : Prop := M (N 7) = some (.inr (5, [.ref (N 8), .ref (N 9), .int (nI (qu_n ps)), .ref (N 10), .int (nI (qu_n fo))])) ∧ M (N 8) = some (.inl (D.1 101, 16, .inl (fun k => nI (bz (ps k))))) ∧ M (N 9) = some (.inl (D.1 102, 16, .inl od)) ∧ M (N 10) = some (.inl (D.1 101, 16, .inl (fun k => nI (bz (fo k))))) ∧ (O (N 7) = 600 ∧ O (N 8) = 601 ∧ O (N 9) = 602 ∧ O (N 10) = 603) ∧ (B ≤ N 7 ∧ B ≤ N 8 ∧ B ≤ N 9 ∧ B ≤ N 10)
/-- what never changes -/
def im_R (D : va_G) (G N O : Nat → Nat) (M : hm_M) : Prop := cz_I O M (N 0) = some (.inr (0, [.ref (N 1), .ref (N 2), .ref (N 3), .ref (N 4), .ref (N 5), .ref (N 7)])) ∧ cz_I O M (G 0) = some (.inl (D.1 104, 0, .inr (.inr (.inr (.inr (fun _ => none)))))) ∧ tx_S D (cz_I O M) (G 1) [97, 108, 108] ∧ tx_S D (cz_I O M) (G 2) [97, 110, 121] ∧ tx_S D (cz_I O M) (G 3) [] ∧ tx_S D (cz_I O M) (G 4) []
section KEPT
variable {B : Nat} {D : va_G} {G N O O1 : Nat → Nat} {M M1 : hm_M} {p : Nat → Prop}
theorem tp_R.kept {t : List Nat} (h : tp_R B D N O M t) (hf : cz_F O M O1 M1 p) (hp : ∀ c, c / 100 = 1 → ¬ p c) : tp_R B D N O1 M1 t := by
  obtain ⟨v, ⟨mm, f, ml, h1, h2, h3⟩, h4, h5, h6⟩ := h
  have a := hf _ _ h1
  have b := hf _ _ h2
  exact ⟨v, ⟨mm, f, ml, a.2.1 (hp _ (by rw [h4])), b.2.1 (hp _ (by rw [h5])), h3⟩, a.1.trans h4, b.1.trans h5, h6⟩
theorem ex_R.kept {ex : Nat → Option (Int32 × Int32)} (h : ex_R B D N O M ex) (hf : cz_F O M O1 M1 p) (hp : ∀ c, c / 100 = 2 → ¬ p c) : ex_R B D N O1 M1 ex := by
  obtain ⟨f, h1, h2, h3, h4⟩ := h
  have a := hf _ _ h1
  refine ⟨f, a.2.1 (hp _ (by rw [h2])), a.1.trans h2, h3, fun k hk => ?_⟩
  rcases h4 k hk with h | ⟨x, s, o, g1, g2, g3, g4, g5⟩
  · exact Or.inl h
  · have b := hf _ _ g3
    exact Or.inr ⟨x, s, o, g1, g2, b.2.1 (hp _ (by rw [g4]; omega)), b.1.trans g4, g5⟩
theorem qu_R.kept {qs : Nat → Bool} (h : qu_R B D N O M qs) (hf : cz_F O M O1 M1 p) (hp : ∀ c, c / 100 = 3 → ¬ p c) : qu_R B D N O1 M1 qs := by
  obtain ⟨h1, h2, h3⟩ := h
  have a := hf _ _ h1
  exact ⟨a.2.1 (hp _ (by rw [h2])), a.1.trans h2, h3⟩
theorem bd_R.kept {a : Nat} {b : bd_T} (h : bd_R D (cz_I O M) a b) (hf : cz_F O M O1 M1 p) (h0 : ¬ p 0) : bd_R D (cz_I O1 M1) a b := by
  obtain ⟨s, h1, h2⟩ := h
  exact ⟨s, hf.imm h0 h1, hf.tx h0 h2⟩
theorem al_D.kept {ci a d : Nat} {xs : List Nat} (h : al_D B D G M ci a d xs) (h1 : ∀ e, M a = some e → M1 a = some e) (h2 : ∀ e, M d = some e → M1 d = some e) (h3 : ∀ x ∈ xs, ∀ fs, M x = some (.inr (ci, fs)) → ∃ fs2, M1 x = some (.inr (ci, fs2))) : al_D B D G M1 ci a d xs := by
  obtain ⟨n, f, mo, g1, g2, g3, g4, g5, g6, g7⟩ := h
  exact ⟨n, f, mo, h1 _ g1, h2 _ g2, g3, g4, g5, fun x hx => by
    obtain ⟨fs, hfs⟩ := g6 x hx
    exact h3 x hx fs hfs, g7⟩
theorem bi_R.kept {bs : List bd_T} (h : bi_R B D G N O M bs) (hf : cz_F O M O1 M1 p) (hI : im_R D G N O M) (hp : ∀ c, c / 100 = 4 → ¬ p c) (h0 : ¬ p 0) : bi_R B D G N O1 M1 bs := by
  obtain ⟨d, xs, h1, h2, h3, h4, h5, h6, h7⟩ := h
  have hd : ∀ e, M d = some e → M1 d = some e ∧ O1 d = O d := fun e he => by
    have a := hf _ _ he
    rcases h4 with g | g
    · exact ⟨a.2.1 (by rw [g, (cz_I_i hI.2.1).1]; exact h0), a.1⟩
    · exact ⟨a.2.1 (hp _ (by rw [g])), a.1⟩
  have hx : ∀ (j x : Nat), xs[j]? = some x → ∃ b, bs[j]? = some b := fun j x hj => by
    have : j < bs.length := by rw [← h5]; exact (List.getElem?_eq_some_iff.mp hj).1
    exact ⟨_, List.getElem?_eq_getElem this⟩
  have h1' := h1
  obtain ⟨n, f, mo, g1, g2, g3⟩ := h1'
  have ha := hf _ _ g1
  refine ⟨d, xs, h1.kept (fun e he => (hf _ _ he).2.1 (hp _ (by rw [h2]))) (fun e he => (hd e he).1) (fun x hxm fs hfs => ?_), ha.1.trans h2, h3, h4.imp id (fun g => (hd _ g2).2.trans g), h5, fun j x b hj hb => (h6 j x b hj hb).kept hf h0, h7⟩
  obtain ⟨j, hj⟩ := List.getElem?_of_mem hxm
  obtain ⟨b, hb⟩ := hx j x hj
  obtain ⟨s, q1, q2⟩ := h6 j x b hj hb
  have := (cz_I_i (hf.imm h0 q1)).2
  have e1 := (cz_I_i q1).2
  rw [hfs] at e1
  cases e1
  exact ⟨_, this⟩
theorem hh_R.kept {j x : Nat} {hd : List Nat × List Nat} (h : hh_R B D O M j x hd) (hf : cz_F O M O1 M1 p) (hp : ¬ p (503 + j)) (h0 : ¬ p 0) : hh_R B D O1 M1 j x hd := by
  obtain ⟨s1, s2, h1, h2, h3, h4, h5⟩ := h
  have a := hf _ _ h1
  exact ⟨s1, s2, a.2.1 (by rw [h2]; exact hp), a.1.trans h2, h3, hf.tx h0 h4, hf.tx h0 h5⟩
theorem ms_R.kept {key : List Nat} {hs : List (List Nat × List Nat)} (h : ms_R B D G N O M key hs) (hf : cz_F O M O1 M1 p) (hI : im_R D G N O M) (hp : ∀ c, c / 100 = 5 → ¬ p c) (h0 : ¬ p 0) : ms_R B D G N O1 M1 key hs := by
  obtain ⟨kk, d, xs, m1, m2, m3, m4, h1, h2, h3, h4, h5, h6, h7⟩ := h
  have hd : ∀ e, M d = some e → M1 d = some e ∧ O1 d = O d := fun e he => by
    have a := hf _ _ he
    rcases h4 with g | g
    · exact ⟨a.2.1 (by rw [g, (cz_I_i hI.2.1).1]; exact h0), a.1⟩
    · exact ⟨a.2.1 (hp _ (by rw [g])), a.1⟩
  have hx : ∀ (j x : Nat), xs[j]? = some x → ∃ b, hs[j]? = some b ∧ j < 6 := fun j x hj => by
    have : j < hs.length := by rw [← h5]; exact (List.getElem?_eq_some_iff.mp hj).1
    exact ⟨_, List.getElem?_eq_getElem this, by omega⟩
  have h1' := h1
  obtain ⟨n, f, mo, g1, g2, g3⟩ := h1'
  have ha := hf _ _ g1
  have hm := hf _ _ m1
  refine ⟨kk, d, xs, hm.2.1 (hp _ (by rw [m2])), hm.1.trans m2, m3, hf.tx h0 m4, h1.kept (fun e he => (hf _ _ he).2.1 (hp _ (by rw [h2]))) (fun e he => (hd e he).1) (fun x hxm fs hfs => ?_), ha.1.trans h2, h3, h4.imp id (fun g => (hd _ g2).2.trans g), h5, fun j x b hj hb => (h6 j x b hj hb).kept hf (hp _ (by have := hx j x hj; omega)) h0, h7⟩
  obtain ⟨j, hj⟩ := List.getElem?_of_mem hxm
  obtain ⟨b, hb, hj6⟩ := hx j x hj
  obtain ⟨s1, s2, q1, q2⟩ := h6 j x b hj hb
  have := (hf _ _ q1).2.1 (hp _ (by rw [q2.1]; omega))
  rw [hfs] at q1
  cases q1
  exact ⟨_, this⟩
theorem rt_R.kept {ps fo : Nat → Bool} {od : Nat → Int32} (h : rt_R B D N O M ps od fo) (hf : cz_F O M O1 M1 p) (hp : ∀ c, c / 100 = 6 → ¬ p c) : rt_R B D N O1 M1 ps od fo := by
  obtain ⟨h1, h2, h3, h4, ⟨c1, c2, c3, c4⟩, h6⟩ := h
  have a1 := hf _ _ h1
  have a2 := hf _ _ h2
  have a3 := hf _ _ h3
  have a4 := hf _ _ h4
  exact ⟨a1.2.1 (hp _ (by rw [c1])), a2.2.1 (hp _ (by rw [c2])), a3.2.1 (hp _ (by rw [c3])), a4.2.1 (hp _ (by rw [c4])), ⟨a1.1.trans c1, a2.1.trans c2, a3.1.trans c3, a4.1.trans c4⟩, h6⟩
theorem im_R.kept (h : im_R D G N O M) (hf : cz_F O M O1 M1 p) (h0 : ¬ p 0) : im_R D G N O1 M1 := by
  obtain ⟨h1, h2, h3, h4, h5, h6⟩ := h
  exact ⟨hf.imm h0 h1, hf.imm h0 h2, hf.tx h0 h3, hf.tx h0 h4, hf.tx h0 h5, hf.tx h0 h6⟩
theorem im_R.o (h : im_R D G N O M) : M (N 0) = some (.inr (0, [.ref (N 1), .ref (N 2), .ref (N 3), .ref (N 4), .ref (N 5), .ref (N 7)])) := cz_I_sub h.1
theorem im_R.g (h : im_R D G N O M) : M (G 0) = some (.inl (D.1 104, 0, .inr (.inr (.inr (.inr (fun _ => none)))))) := cz_I_sub h.2.1
theorem cz_tx {a : Nat} {t : List Nat} (h : tx_S D (cz_I O M) a t) : tx_S D M a t := tx_mono (fun _ _ hq => cz_I_sub hq) h
/-- the message as its readers want it -/
theorem ms_R.mg {key : List Nat} {hs : List (List Nat × List Nat)} (h : ms_R B D G N O M key hs) : mg_M B D G M (N 5) key hs := by
  obtain ⟨kk, d, xs, m1, m2, m3, m4, h1, h2, h3, h4, h5, h6, h7⟩ := h
  refine ⟨kk, N 6, xs, m1, cz_tx m4, h1.L, h5, fun j hj => ?_⟩
  have e1 : xs[j]? = some (xs.getD j 0) := al_get (by omega)
  have e2 : hs[j]? = some (hs.getD j ([], [])) := by rw [List.getD_eq_getElem?_getD, List.getElem?_eq_getElem hj]; rfl
  obtain ⟨s1, s2, q1, -, -, q4, q5⟩ := h6 j _ _ e1 e2
  exact ⟨s1, s2, q1, cz_tx q4, cz_tx q5⟩
end KEPT
/-! the pure answers -/
abbrev in16 (x : Int32) : Prop := 0 ≤ x.toInt ∧ x.toInt < 16
def ex_at (ex : Nat → Option (Int32 × Int32)) (x : Int32) : Option (Int32 × Int32) := if in16 x then ex x.toInt.toNat else none
def qu_at (qs : Nat → Bool) (x : Int32) : Bool := decide (in16 x) && qs x.toInt.toNat
def th_at (ex : Nat → Option (Int32 × Int32)) (qs : Nat → Bool) (x : Int32) (q : Bool) : Bool := if q then qu_at qs x else (ex_at ex x).isSome
def bd_to (x : Int32) (q : Bool) (b : bd_T) : Bool := decide (b.2.1 = x) && (b.2.2.1 == q)
def bd_fr (x : Int32) (b : bd_T) : Bool := decide (b.1 = x)
def bd_is (x y : Int32) (q : Bool) (t : List Nat) (b : bd_T) : Bool := bd_fr x b && (bd_to y q b && decide (b.2.2.2 = t))

