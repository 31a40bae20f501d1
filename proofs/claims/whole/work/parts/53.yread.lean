/-! The parser: the reference's check of goals, copying, the whole reading. -/
def or1 (a b : Option Nat) : Option Nat := match a with
  | some x => some x
  | none => b
theorem or1_none (a : Option Nat) : or1 a none = a := by cases a <;> rfl
theorem or1_assoc (a b c : Option Nat) : or1 (or1 a b) c = or1 a (or1 b c) := by cases a <;> rfl
def gck (f : zf) (oe : Option Nat) : zf := match oe with
  | none => f
  | some x => uf (uf f 183 3 4) 183 4 (nn x)
theorem gck_a (f : zf) (oe : Option Nat) {a : Nat} (h : a ≠ 183) : gck f oe a = f a := by
  cases oe with
  | none => rfl
  | some x => show uf (uf f 183 3 4) 183 4 (nn x) a = f a; simp (disch := (first | assumption | omega)) only [true_and, and_true, zr_u, zi_u, zI_u, Option.some.injEq, exists_eq_left', nn_tn, nn_add, nn_s, nn_2, nn_5, nn_7, nn_8, na0, na2, na3, na4, na5, na6, uf_ne, uf_eq, ur_eq, ur_ne, true_or, or_true, not_true_eq_false, not_false_eq_true, true_implies, false_implies, implies_true, e10, e01, reduceIte, Option.isSome_none, Option.isSome_some, Bool.false_eq_true, bi_t, bi_f]
theorem gck_11 (f : zf) (oe : Option Nat) : gck f oe 183 11 = f 183 11 := by
  cases oe with
  | none => rfl
  | some x => show uf (uf f 183 3 4) 183 4 (nn x) 183 11 = f 183 11; simp (disch := (first | assumption | omega)) only [true_and, and_true, zr_u, zi_u, zI_u, Option.some.injEq, exists_eq_left', nn_tn, nn_add, nn_s, nn_2, nn_5, nn_7, nn_8, na0, na2, na3, na4, na5, na6, uf_ne, uf_eq, ur_eq, ur_ne, true_or, or_true, not_true_eq_false, not_false_eq_true, true_implies, false_implies, implies_true, e10, e01, reduceIte, Option.isSome_none, Option.isSome_some, Bool.false_eq_true, bi_t, bi_f]
theorem le2 {k : Nat} (h : k < 2147483648) : ((2 : Int32) ≤ nn k) = (2 ≤ k) := nn_le (a := 2) (by decide) h
theorem Y_ckfail {f : zf} {ρ : zo} {oe : Option Nat} {x : Nat} {Q : zS → Prop} (h3 : f 183 3 = 0) (h : Q (gck f (or1 oe (some x)), ρ)) : P_M_fail 201 183 4 (nn x) (gck f oe, ρ) Q := by
  cases oe with
  | none => exact Y_fail h3 h
  | some y =>
    have e : ((4 : Int32) = 0) = False := eq_false (by decide)
    show P_M_fail 201 183 4 (nn x) (uf (uf f 183 3 4) 183 4 (nn y), ρ) Q
    unfold P_M_fail P_M_fail_17
    simp (disch := (first | assumption | omega)) only [true_and, and_true, zr_u, zi_u, zI_u, Option.some.injEq, exists_eq_left', nn_tn, nn_add, nn_s, nn_2, nn_5, nn_7, nn_8, na0, na2, na3, na4, na5, na6, uf_ne, uf_eq, ur_eq, ur_ne, true_or, or_true, not_true_eq_false, not_false_eq_true, true_implies, false_implies, implies_true, e10, e01, reduceIte, Option.isSome_none, Option.isSome_some, Bool.false_eq_true, bi_t, bi_f, ko_183, e]
    exact h
theorem ct_step {f : zf} {ρ : zo} (hC : zC ρ) {b k m nb : Nat} {oe c : Option Nat} {Q : zS → Prop} {K2 : Nat → Int32 → zS → Prop} (h3 : f 183 3 = 0) (h11 : f 183 11 = nn nb) (hb : b < 24) (hnb : nb ≤ 24) (hk : k < 2) (hc : (f 191 (2 * b + k) = -1 ∧ c = none) ∨ ∃ x v, f 191 (2 * b + k) = nn x ∧ x ≤ 700 ∧ f 189 (5 * b + 3 + k) = nn v ∧ v < 2147483648 ∧ ((v < nb ∧ c = none) ∨ (nb ≤ v ∧ c = some x))) (h : P_M_checkTargets_12 201 Q K2 m 183 (nn b) (nn (k + 1)) (gck f (or1 oe c), ρ)) : P_M_checkTargets_12 201 Q K2 (m + 1) 183 (nn b) (nn k) (gck f oe, ρ) := by
  have a191 : gck f oe 191 = f 191 := gck_a f oe (by decide)
  have a189 : gck f oe 189 = f 189 := gck_a f oe (by decide)
  unfold P_M_checkTargets_12 P_M_checkTargets_64
  simp (disch := (first | assumption | omega)) only [true_and, and_true, zr_u, zi_u, zI_u, Option.some.injEq, exists_eq_left', nn_tn, nn_add, nn_s, nn_2, nn_5, nn_7, nn_8, na0, na2, na3, na4, na5, na6, uf_ne, uf_eq, ur_eq, ur_ne, true_or, or_true, not_true_eq_false, not_false_eq_true, true_implies, false_implies, implies_true, e10, e01, reduceIte, Option.isSome_none, Option.isSome_some, Bool.false_eq_true, bi_t, bi_f, ko_183, rc_183_16 hC, rc_183_14 hC, ka_191, ka_189, le2, a191, a189, gck_11, h11]
  refine ⟨fun z => absurd z (by omega), fun _ => ?_⟩
  rcases hc with ⟨e1, e2⟩ | ⟨x, v, e1, e2, e3, e4, e5⟩
  · rw [e2, or1_none] at h
    simp (disch := (first | assumption | omega)) only [true_and, and_true, zr_u, zi_u, zI_u, Option.some.injEq, exists_eq_left', nn_tn, nn_add, nn_s, nn_2, nn_5, nn_7, nn_8, na0, na2, na3, na4, na5, na6, uf_ne, uf_eq, ur_eq, ur_ne, true_or, or_true, not_true_eq_false, not_false_eq_true, true_implies, false_implies, implies_true, e10, e01, reduceIte, Option.isSome_none, Option.isSome_some, Bool.false_eq_true, bi_t, bi_f, e1, m1_n0]
    exact h
  · simp (disch := (first | assumption | omega)) only [true_and, and_true, zr_u, zi_u, zI_u, Option.some.injEq, exists_eq_left', nn_tn, nn_add, nn_s, nn_2, nn_5, nn_7, nn_8, na0, na2, na3, na4, na5, na6, uf_ne, uf_eq, ur_eq, ur_ne, true_or, or_true, not_true_eq_false, not_false_eq_true, true_implies, false_implies, implies_true, e10, e01, reduceIte, Option.isSome_none, Option.isSome_some, Bool.false_eq_true, bi_t, bi_f, e1, e3, nn_n0]
    rw [nn_lt e4 (by omega)]
    refine ⟨fun z => ?_, fun z => ?_⟩
    · rcases e5 with ⟨_, e6⟩ | ⟨e6, _⟩
      · rw [e6, or1_none] at h; exact h
      · exact absurd z (by omega)
    · rcases e5 with ⟨e6, _⟩ | ⟨_, e6⟩
      · exact absurd e6 z
      · rw [e6] at h
        exact Y_ckfail h3 h
theorem ct_end {f : zf} {ρ : zo} {b m : Nat} {oe : Option Nat} {Q : zS → Prop} {K2 : Nat → Int32 → zS → Prop} (h : K2 183 (nn (b + 1)) (gck f oe, ρ)) : P_M_checkTargets_12 201 Q K2 (m + 1) 183 (nn b) (nn 2) (gck f oe, ρ) := by
  unfold P_M_checkTargets_12
  simp (disch := (first | assumption | omega)) only [true_and, and_true, zr_u, zi_u, zI_u, Option.some.injEq, exists_eq_left', nn_tn, nn_add, nn_s, nn_2, nn_5, nn_7, nn_8, na0, na2, na3, na4, na5, na6, uf_ne, uf_eq, ur_eq, ur_ne, true_or, or_true, not_true_eq_false, not_false_eq_true, true_implies, false_implies, implies_true, e10, e01, reduceIte, Option.isSome_none, Option.isSome_some, Bool.false_eq_true, bi_t, bi_f, le2]
  exact ⟨fun _ => h, fun z => absurd (Nat.le_refl 2) z⟩
theorem qck1_or {nb b : Nat} {e : mE} {PL : Nat → Nat} : qck1 nb e PL b = or1 (if e.1 ≠ 0 ∧ nb ≤ e.2.2.1 then some (PL (2 * b)) else none) (if e.1 = 2 ∧ nb ≤ e.2.2.2 then some (PL (2 * b + 1)) else none) := by
  unfold qck1
  by_cases c : e.1 ≠ 0 ∧ nb ≤ e.2.2.1
  · rw [if_pos c, if_pos c]; rfl
  · rw [if_neg c, if_neg c]; rfl
theorem qck_or {G : mG} {PL : Nat → Nat} {m b : Nat} : qck G PL (m + 1) b = or1 (qck1 G.1 (G.2.2.2.2 b) PL b) (qck G PL m (b + 1)) := by
  cases e : qck1 G.1 (G.2.2.2.2 b) PL b with
  | some x => rw [qck_1 e]; rfl
  | none => rw [qck_0 e]; rfl
theorem Y_check {f : zf} {ρ : zo} (hC : zC ρ) {nb ns : Nat} {T : Nat → mT} {fs : Nat → Nat} {E : Nat → mE} {PL : Nat → Nat} {Q : zS → Prop} (hW' : hW f nb ns T fs E PL) (h3 : f 183 3 = 0) (hnb : nb ≤ 24) (hB : ∀ b, b < nb → eB (E b)) (h : Q (gck f (qck (nb, ns, fs, T, E) PL nb 0), ρ)) : P_M_checkTargets 201 183 (f, ρ) Q := by
  have key : ∀ (m b : Nat) (oe : Option Nat), b + m = nb → or1 oe (qck (nb, ns, fs, T, E) PL m b) = qck (nb, ns, fs, T, E) PL nb 0 → P_M_checkTargets_2 201 Q (m + 1) 183 (nn b) (gck f oe, ρ) := by
    intro m
    induction m with
    | zero =>
      intro b oe hb hq
      unfold P_M_checkTargets_2
      simp (disch := (first | assumption | omega)) only [true_and, and_true, zr_u, zi_u, zI_u, Option.some.injEq, exists_eq_left', nn_tn, nn_add, nn_s, nn_2, nn_5, nn_7, nn_8, na0, na2, na3, na4, na5, na6, uf_ne, uf_eq, ur_eq, ur_ne, true_or, or_true, not_true_eq_false, not_false_eq_true, true_implies, false_implies, implies_true, e10, e01, reduceIte, Option.isSome_none, Option.isSome_some, Bool.false_eq_true, bi_t, bi_f, ko_183, gck_11, hW'.1]
      simp (disch := omega) only [nn_le]
      refine ⟨fun _ => ?_, fun z => absurd (by omega) z⟩
      rw [show qck (nb, ns, fs, T, E) PL 0 b = none from rfl, or1_none] at hq
      rw [hq]; exact h
    | succ m ih =>
      intro b oe hb hq
      unfold P_M_checkTargets_2
      simp (disch := (first | assumption | omega)) only [true_and, and_true, zr_u, zi_u, zI_u, Option.some.injEq, exists_eq_left', nn_tn, nn_add, nn_s, nn_2, nn_5, nn_7, nn_8, na0, na2, na3, na4, na5, na6, uf_ne, uf_eq, ur_eq, ur_ne, true_or, or_true, not_true_eq_false, not_false_eq_true, true_implies, false_implies, implies_true, e10, e01, reduceIte, Option.isSome_none, Option.isSome_some, Bool.false_eq_true, bi_t, bi_f, ko_183, gck_11, hW'.1]
      simp (disch := omega) only [nn_le]
      refine ⟨fun z => absurd z (by omega), fun _ => ?_⟩
      obtain ⟨⟨c1, c2, c3, c4, c5⟩, p1, p2, p3, p4⟩ := hW'.2.2.2.2 b (by omega)
      obtain ⟨b1, b2, b3⟩ := hB b (by omega)
      refine ⟨0 + 1 + 1 + 1, ?_⟩
      refine ct_step (k := 0) (c := if (E b).1 ≠ 0 ∧ nb ≤ (E b).2.2.1 then some (PL (2 * b)) else none) hC h3 hW'.1 (by omega) hnb (by decide) ?_ ?_
      · by_cases z : (E b).1 = 0
        · exact Or.inl ⟨p2 z, if_neg (fun y => y.1 z)⟩
        · refine Or.inr ⟨PL (2 * b), (E b).2.2.1, (p1 z).1, (p1 z).2, c4 z, b2, ?_⟩
          by_cases y : nb ≤ (E b).2.2.1
          · exact Or.inr ⟨y, if_pos ⟨z, y⟩⟩
          · exact Or.inl ⟨by omega, if_neg (fun w => y w.2)⟩
      refine ct_step (k := 1) (c := if (E b).1 = 2 ∧ nb ≤ (E b).2.2.2 then some (PL (2 * b + 1)) else none) hC h3 hW'.1 (by omega) hnb (by decide) ?_ ?_
      · by_cases z : (E b).1 = 2
        · refine Or.inr ⟨PL (2 * b + 1), (E b).2.2.2, (p3 z).1, (p3 z).2, c5 z, b3, ?_⟩
          by_cases y : nb ≤ (E b).2.2.2
          · exact Or.inr ⟨y, if_pos ⟨z, y⟩⟩
          · exact Or.inl ⟨by omega, if_neg (fun w => y w.2)⟩
        · exact Or.inl ⟨p4 z, if_neg (fun y => z y.1)⟩
      refine ct_end ?_
      refine ih (b + 1) _ (by omega) ?_
      rw [← hq, qck_or, ← or1_assoc]
      show or1 (or1 (or1 oe _) _) _ = or1 (or1 oe (qck1 nb (E b) PL b)) _
      rw [qck1_or, ← or1_assoc]
  exact ⟨_, key nb 0 none (by omega) rfl⟩
/-! copying -/
def cpy (f : zf) (a s i : Nat) : zf := fun r => if r = a then (fun j => if j < i then f s j else f a j) else f r
theorem cpy_ne (f : zf) {a s i r : Nat} (h : r ≠ a) : cpy f a s i r = f r := if_neg h
theorem cpy_lt (f : zf) {a s i j : Nat} (h : j < i) : cpy f a s i a j = f s j := by
  unfold cpy; rw [if_pos rfl]; exact if_pos h
theorem cpy_0 (f : zf) (a s : Nat) : cpy f a s 0 = f := by
  funext r j
  unfold cpy
  by_cases e : r = a
  · subst e; rw [if_pos rfl]; exact if_neg (by omega)
  · rw [if_neg e]
theorem cpy_s (f : zf) {a s i : Nat} : uf (cpy f a s i) a i (f s i) = cpy f a s (i + 1) := by
  funext r j
  by_cases e : r = a
  · subst e
    rw [uf_eq]
    by_cases ej : j = i
    · subst ej; rw [ur_eq, cpy_lt f (by omega)]
    · rw [ur_ne _ ej]
      unfold cpy
      rw [if_pos rfl, if_pos rfl]
      by_cases h : j < i
      · show (if j < i then _ else _) = if j < i + 1 then _ else _
        rw [if_pos h, if_pos (by omega)]
      · show (if j < i then _ else _) = if j < i + 1 then _ else _
        rw [if_neg h, if_neg (by omega)]
  · rw [uf_ne _ e, cpy_ne f e, cpy_ne f e]
theorem Y_179 {f : zf} {ρ : zo} (hC : zC ρ) {nb ns : Nat} {Q : Int32 → zS → Prop} (h6 : f 183 6 = nn nb) (h7 : f 183 7 = nn ns) (hnb : nb ≤ 24) (h : Q (nn nb) (uf (uf (cpy f 187 190 nb) 187 nb (nn ns)) 183 19 0, ρ)) : ∃ g, P_M_read_179 201 Q g 183 0 (f, ρ) := by
  have key : ∀ m i, i + m = nb → P_M_read_179 201 Q (m + 1) 183 (nn i) (cpy f 187 190 i, ρ) := by
    intro m
    induction m with
    | zero =>
      intro i hi
      have e183 : cpy f 187 190 i 183 = f 183 := cpy_ne f (by decide)
      unfold P_M_read_179
      simp (disch := (first | assumption | omega)) only [true_and, and_true, zr_u, zi_u, zI_u, Option.some.injEq, exists_eq_left', nn_tn, nn_add, nn_s, nn_2, nn_5, nn_7, nn_8, na0, na2, na3, na4, na5, na6, uf_ne, uf_eq, ur_eq, ur_ne, true_or, or_true, not_true_eq_false, not_false_eq_true, true_implies, false_implies, implies_true, e10, e01, reduceIte, Option.isSome_none, Option.isSome_some, Bool.false_eq_true, bi_t, bi_f, ko_183, rc_183_10 hC, e183, h6, h7, ka_187]
      simp (disch := omega) only [nn_le]
      refine ⟨fun _ => ?_, fun z => absurd (by omega) z⟩
      rw [show i = nb by omega]; exact h
    | succ m ih =>
      intro i hi
      have e183 : cpy f 187 190 i 183 = f 183 := cpy_ne f (by decide)
      have e190 : cpy f 187 190 i 190 = f 190 := cpy_ne f (by decide)
      unfold P_M_read_179
      simp (disch := (first | assumption | omega)) only [true_and, and_true, zr_u, zi_u, zI_u, Option.some.injEq, exists_eq_left', nn_tn, nn_add, nn_s, nn_2, nn_5, nn_7, nn_8, na0, na2, na3, na4, na5, na6, uf_ne, uf_eq, ur_eq, ur_ne, true_or, or_true, not_true_eq_false, not_false_eq_true, true_implies, false_implies, implies_true, e10, e01, reduceIte, Option.isSome_none, Option.isSome_some, Bool.false_eq_true, bi_t, bi_f, ko_183, rc_183_10 hC, rc_183_15 hC, e183, e190, h6, h7, ka_187, ka_190]
      simp (disch := omega) only [nn_le]
      refine ⟨fun z => absurd z (by omega), fun _ => ?_⟩
      rw [cpy_s]
      exact ih (i + 1) (by omega)
  have := key nb 0 (by omega)
  rw [cpy_0] at this
  exact ⟨_, this⟩
theorem Y_153 {f : zf} {ρ : zo} (hC : zC ρ) {Q : Int32 → zS → Prop} (h : ∃ g, P_M_read_179 201 Q g 183 0 (cpy f 186 189 120, ρ)) : ∃ g, P_M_read_153 201 Q g 183 0 (f, ρ) := by
  have key : ∀ m i, i + m = 120 → P_M_read_153 201 Q (m + 1) 183 (nn i) (cpy f 186 189 i, ρ) := by
    intro m
    induction m with
    | zero =>
      intro i hi
      unfold P_M_read_153
      rw [show (120 : Int32) = nn 120 from rfl, nn_le (by omega) (by omega)]
      refine ⟨fun _ => ?_, fun z => absurd (by omega) z⟩
      rw [show i = 120 by omega]; exact h
    | succ m ih =>
      intro i hi
      have e189 : cpy f 186 189 i 189 = f 189 := cpy_ne f (by decide)
      unfold P_M_read_153
      rw [show (120 : Int32) = nn 120 from rfl, nn_le (by omega) (by omega)]
      refine ⟨fun z => absurd z (by omega), fun _ => ?_⟩
      simp (disch := (first | assumption | omega)) only [true_and, and_true, zr_u, zi_u, zI_u, Option.some.injEq, exists_eq_left', nn_tn, nn_add, nn_s, nn_2, nn_5, nn_7, nn_8, na0, na2, na3, na4, na5, na6, uf_ne, uf_eq, ur_eq, ur_ne, true_or, or_true, not_true_eq_false, not_false_eq_true, true_implies, false_implies, implies_true, e10, e01, reduceIte, Option.isSome_none, Option.isSome_some, Bool.false_eq_true, bi_t, bi_f, ko_183, rc_183_9 hC, rc_183_14 hC, e189, ka_186, ka_189]
      rw [cpy_s]
      exact ih (i + 1) (by omega)
  have := key 120 0 (by omega)
  rw [cpy_0] at this
  exact ⟨_, this⟩
theorem Y_126 {f : zf} {ρ : zo} (hC : zC ρ) {Q : Int32 → zS → Prop} (h : ∃ g, P_M_read_153 201 Q g 183 0 (cpy f 185 188 560, ρ)) : ∃ g, P_M_read_126 201 Q g 183 0 (f, ρ) := by
  have key : ∀ m i, i + m = 560 → P_M_read_126 201 Q (m + 1) 183 (nn i) (cpy f 185 188 i, ρ) := by
    intro m
    induction m with
    | zero =>
      intro i hi
      unfold P_M_read_126
      rw [show (560 : Int32) = nn 560 from rfl, nn_le (by omega) (by omega)]
      refine ⟨fun _ => ?_, fun z => absurd (by omega) z⟩
      rw [show i = 560 by omega]; exact h
    | succ m ih =>
      intro i hi
      have e188 : cpy f 185 188 i 188 = f 188 := cpy_ne f (by decide)
      unfold P_M_read_126
      rw [show (560 : Int32) = nn 560 from rfl, nn_le (by omega) (by omega)]
      refine ⟨fun z => absurd z (by omega), fun _ => ?_⟩
      simp (disch := (first | assumption | omega)) only [true_and, and_true, zr_u, zi_u, zI_u, Option.some.injEq, exists_eq_left', nn_tn, nn_add, nn_s, nn_2, nn_5, nn_7, nn_8, na0, na2, na3, na4, na5, na6, uf_ne, uf_eq, ur_eq, ur_ne, true_or, or_true, not_true_eq_false, not_false_eq_true, true_implies, false_implies, implies_true, e10, e01, reduceIte, Option.isSome_none, Option.isSome_some, Bool.false_eq_true, bi_t, bi_f, ko_183, rc_183_8 hC, rc_183_13 hC, e188, ka_185, ka_188]
      rw [cpy_s]
      exact ih (i + 1) (by omega)
  have := key 560 0 (by omega)
  rw [cpy_0] at this
  exact ⟨_, this⟩
/-- what a whole reading may change in the reference -/
def frJ (f f' : zf) : Prop := (∀ a, a ≠ 183 → a ≠ 185 → a ≠ 186 → a ≠ 187 → a ≠ 188 → a ≠ 189 → a ≠ 190 → a ≠ 191 → f' a = f a) ∧ ∀ j, j ≠ 0 → j ≠ 3 → j ≠ 4 → j ≠ 5 → j ≠ 6 → j ≠ 7 → j ≠ 11 → j ≠ 12 → j ≠ 17 → j ≠ 18 → j ≠ 19 → f' 183 j = f 183 j
/-- what a reading that finds a fault may change -/
def frI (f f' : zf) : Prop := (∀ a, a ≠ 183 → a ≠ 188 → a ≠ 189 → a ≠ 190 → a ≠ 191 → f' a = f a) ∧ ∀ j, j ≠ 0 → j ≠ 3 → j ≠ 4 → j ≠ 5 → j ≠ 11 → j ≠ 12 → j ≠ 17 → j ≠ 18 → f' 183 j = f 183 j
theorem Y_read {f : zf} {ρ : zo} (hC : zC ρ) {t : Nat → Nat} {n : Nat} {Q : Int32 → zS → Prop} (h' : hY f t n) (h1 : ∀ f' G, qread t n = .inr G → frJ f f' → pM f' G → f' 183 0 = 0 → f' 183 3 = 0 → f' 183 4 = -1 → f' 183 19 = 0 → Q (nn G.1) (f', ρ)) (h0 : ∀ f' e, qread t n = .inl e → frI f f' → f' 183 0 = 0 → f' 183 3 = nn e.1 → f' 183 4 = nn e.2 → Q (-1) (f', ρ)) : P_M_read 201 183 (f, ρ) Q := by
  have hn := h'.2.1
  unfold P_M_read
  simp (disch := (first | assumption | omega)) only [true_and, and_true, zr_u, zi_u, zI_u, Option.some.injEq, exists_eq_left', nn_tn, nn_add, nn_s, nn_2, nn_5, nn_7, nn_8, na0, na2, na3, na4, na5, na6, uf_ne, uf_eq, ur_eq, ur_ne, true_or, or_true, not_true_eq_false, not_false_eq_true, true_implies, false_implies, implies_true, e10, e01, reduceIte, Option.isSome_none, Option.isSome_some, Bool.false_eq_true, bi_t, bi_f, ko_183]
  have I0 : frI f (uf (uf (uf (uf (uf (uf f 183 0 0) 183 3 0) 183 4 (-1)) 183 5 0) 183 11 0) 183 12 0) := ⟨fun a z1 z2 z3 z4 z5 => by simp (disch := (first | assumption | omega)) only [true_and, and_true, zr_u, zi_u, zI_u, Option.some.injEq, exists_eq_left', nn_tn, nn_add, nn_s, nn_2, nn_5, nn_7, nn_8, na0, na2, na3, na4, na5, na6, uf_ne, uf_eq, ur_eq, ur_ne, true_or, or_true, not_true_eq_false, not_false_eq_true, true_implies, false_implies, implies_true, e10, e01, reduceIte, Option.isSome_none, Option.isSome_some, Bool.false_eq_true, bi_t, bi_f], fun j z0 z1 z2 z3 z4 z5 z6 z7 => by simp (disch := (first | assumption | omega)) only [true_and, and_true, zr_u, zi_u, zI_u, Option.some.injEq, exists_eq_left', nn_tn, nn_add, nn_s, nn_2, nn_5, nn_7, nn_8, na0, na2, na3, na4, na5, na6, uf_ne, uf_eq, ur_eq, ur_ne, true_or, or_true, not_true_eq_false, not_false_eq_true, true_implies, false_implies, implies_true, e10, e01, reduceIte, Option.isSome_none, Option.isSome_some, Bool.false_eq_true, bi_t, bi_f]⟩
  have O0 : okY (uf (uf (uf (uf (uf (uf f 183 0 0) 183 3 0) 183 4 (-1)) 183 5 0) 183 11 0) 183 12 0) 0 := ⟨by simp (disch := (first | assumption | omega)) only [true_and, and_true, zr_u, zi_u, zI_u, Option.some.injEq, exists_eq_left', nn_tn, nn_add, nn_s, nn_2, nn_5, nn_7, nn_8, na0, na2, na3, na4, na5, na6, uf_ne, uf_eq, ur_eq, ur_ne, true_or, or_true, not_true_eq_false, not_false_eq_true, true_implies, false_implies, implies_true, e10, e01, reduceIte, Option.isSome_none, Option.isSome_some, Bool.false_eq_true, bi_t, bi_f]; rfl, by simp (disch := (first | assumption | omega)) only [true_and, and_true, zr_u, zi_u, zI_u, Option.some.injEq, exists_eq_left', nn_tn, nn_add, nn_s, nn_2, nn_5, nn_7, nn_8, na0, na2, na3, na4, na5, na6, uf_ne, uf_eq, ur_eq, ur_ne, true_or, or_true, not_true_eq_false, not_false_eq_true, true_implies, false_implies, implies_true, e10, e01, reduceIte, Option.isSome_none, Option.isSome_some, Bool.false_eq_true, bi_t, bi_f], by simp (disch := (first | assumption | omega)) only [true_and, and_true, zr_u, zi_u, zI_u, Option.some.injEq, exists_eq_left', nn_tn, nn_add, nn_s, nn_2, nn_5, nn_7, nn_8, na0, na2, na3, na4, na5, na6, uf_ne, uf_eq, ur_eq, ur_ne, true_or, or_true, not_true_eq_false, not_false_eq_true, true_implies, false_implies, implies_true, e10, e01, reduceIte, Option.isSome_none, Option.isSome_some, Bool.false_eq_true, bi_t, bi_f]⟩
  have H0 : hW (uf (uf (uf (uf (uf (uf f 183 0 0) 183 3 0) 183 4 (-1)) 183 5 0) 183 11 0) 183 12 0) 0 0 (fun _ => (0, 0, .inr 0, .inr 0)) (fun _ => 0) (fun _ => (0, .inr 0, 0, 0)) (fun _ => 0) := ⟨by simp (disch := (first | assumption | omega)) only [true_and, and_true, zr_u, zi_u, zI_u, Option.some.injEq, exists_eq_left', nn_tn, nn_add, nn_s, nn_2, nn_5, nn_7, nn_8, na0, na2, na3, na4, na5, na6, uf_ne, uf_eq, ur_eq, ur_ne, true_or, or_true, not_true_eq_false, not_false_eq_true, true_implies, false_implies, implies_true, e10, e01, reduceIte, Option.isSome_none, Option.isSome_some, Bool.false_eq_true, bi_t, bi_f]; rfl, by simp (disch := (first | assumption | omega)) only [true_and, and_true, zr_u, zi_u, zI_u, Option.some.injEq, exists_eq_left', nn_tn, nn_add, nn_s, nn_2, nn_5, nn_7, nn_8, na0, na2, na3, na4, na5, na6, uf_ne, uf_eq, ur_eq, ur_ne, true_or, or_true, not_true_eq_false, not_false_eq_true, true_implies, false_implies, implies_true, e10, e01, reduceIte, Option.isSome_none, Option.isSome_some, Bool.false_eq_true, bi_t, bi_f]; rfl, fun b hb => absurd hb (by omega), fun b hb => absurd hb (by omega), fun b hb => absurd hb (by omega)⟩
  have T0 : uf (uf (uf (uf (uf (uf f 183 0 0) 183 3 0) 183 4 (-1)) 183 5 0) 183 11 0) 183 12 0 183 0 = 0 := by simp (disch := (first | assumption | omega)) only [true_and, and_true, zr_u, zi_u, zI_u, Option.some.injEq, exists_eq_left', nn_tn, nn_add, nn_s, nn_2, nn_5, nn_7, nn_8, na0, na2, na3, na4, na5, na6, uf_ne, uf_eq, ur_eq, ur_ne, true_or, or_true, not_true_eq_false, not_false_eq_true, true_implies, false_implies, implies_true, e10, e01, reduceIte, Option.isSome_none, Option.isSome_some, Bool.false_eq_true, bi_t, bi_f]
  have Y0 : hY (uf (uf (uf (uf (uf (uf f 183 0 0) 183 3 0) 183 4 (-1)) 183 5 0) 183 11 0) 183 12 0) t n := h'.same (by simp (disch := (first | assumption | omega)) only [true_and, and_true, zr_u, zi_u, zI_u, Option.some.injEq, exists_eq_left', nn_tn, nn_add, nn_s, nn_2, nn_5, nn_7, nn_8, na0, na2, na3, na4, na5, na6, uf_ne, uf_eq, ur_eq, ur_ne, true_or, or_true, not_true_eq_false, not_false_eq_true, true_implies, false_implies, implies_true, e10, e01, reduceIte, Option.isSome_none, Option.isSome_some, Bool.false_eq_true, bi_t, bi_f]) (by simp (disch := (first | assumption | omega)) only [true_and, and_true, zr_u, zi_u, zI_u, Option.some.injEq, exists_eq_left', nn_tn, nn_add, nn_s, nn_2, nn_5, nn_7, nn_8, na0, na2, na3, na4, na5, na6, uf_ne, uf_eq, ur_eq, ur_ne, true_or, or_true, not_true_eq_false, not_false_eq_true, true_implies, false_implies, implies_true, e10, e01, reduceIte, Option.isSome_none, Option.isSome_some, Bool.false_eq_true, bi_t, bi_f])
  generalize uf (uf (uf (uf (uf (uf f 183 0 0) 183 3 0) 183 4 (-1)) 183 5 0) 183 11 0) 183 12 0 = f0 at I0 O0 H0 T0 Y0 ⊢
  have IW : ∀ g, frYw f0 g → frI f g := fun g a => ⟨fun k z1 z2 z3 z4 z5 => by rw [a.1 k z1 z2 z3 z4 z5]; exact I0.1 k z1 z2 z3 z4 z5, fun j z0 z1 z2 z3 z4 z5 z6 z7 => by rw [a.2 j z1 z2 z3 z4 z5 z6 z7]; exact I0.2 j z0 z1 z2 z3 z4 z5 z6 z7⟩
  have TW : ∀ g, frYw f0 g → g 183 0 = 0 := fun g a => by rw [a.2 0 (by decide) (by decide) (by decide) (by decide) (by decide) (by decide) (by decide)]; exact T0
  have bad88 : ∀ (g : zf) (e : Nat × Nat), frYw f0 g → fM g n e → qread t n = .inl e → P_M_read_88 201 Q 183 (g, ρ) := by
    intro g e W M hq
    have ne := eq_false M.ne
    have le : (g 183 3 ≤ 0) = False := by
      rw [M.1, show (0 : Int32) = nn 0 from rfl, nn_le (by have := M.2.2.2.1; omega) (by decide)]
      exact eq_false (by have := M.2.2.1; omega)
    unfold P_M_read_88 P_M_read_99
    simp (disch := (first | assumption | omega)) only [true_and, and_true, zr_u, zi_u, zI_u, Option.some.injEq, exists_eq_left', nn_tn, nn_add, nn_s, nn_2, nn_5, nn_7, nn_8, na0, na2, na3, na4, na5, na6, uf_ne, uf_eq, ur_eq, ur_ne, true_or, or_true, not_true_eq_false, not_false_eq_true, true_implies, false_implies, implies_true, e10, e01, reduceIte, Option.isSome_none, Option.isSome_some, Bool.false_eq_true, bi_t, bi_f, ko_183, ne, le]
    exact h0 g e hq (IW g W) (TW g W) M.1 M.2.1
  have good88 : ∀ (g : zf) (q nb ns : Nat) (T : Nat → mT) (fs : Nat → Nat) (E : Nat → mE) (PL : Nat → Nat), frYw f0 g → okY g q → hW g nb ns T fs E PL → iQ nb ns fs E → nb ≤ 24 → qblks t n 23 0 0 0 (fun _ => (0, 0, .inr 0, .inr 0)) (fun _ => 0) (fun _ => (0, .inr 0, 0, 0)) (fun _ => 0) = .inr ((nb, ns, fs, T, E), PL) → P_M_read_88 201 Q 183 (g, ρ) := by
    intro g q nb ns T fs E PL W O H I lb hq
    unfold P_M_read_88
    simp (disch := (first | assumption | omega)) only [true_and, and_true, zr_u, zi_u, zI_u, Option.some.injEq, exists_eq_left', nn_tn, nn_add, nn_s, nn_2, nn_5, nn_7, nn_8, na0, na2, na3, na4, na5, na6, uf_ne, uf_eq, ur_eq, ur_ne, true_or, or_true, not_true_eq_false, not_false_eq_true, true_implies, false_implies, implies_true, e10, e01, reduceIte, Option.isSome_none, Option.isSome_some, Bool.false_eq_true, bi_t, bi_f, ko_183, O.2.1]
    refine Y_check hC H O.2.1 lb I.2.2.2.1 ?_
    cases e : qck (nb, ns, fs, T, E) PL nb 0 with
    | some x =>
      show P_M_read_99 201 Q 183 (uf (uf g 183 3 4) 183 4 (nn x), ρ)
      have le : ((4 : Int32) ≤ 0) = False := eq_false (by decide)
      unfold P_M_read_99
      simp (disch := (first | assumption | omega)) only [true_and, and_true, zr_u, zi_u, zI_u, Option.some.injEq, exists_eq_left', nn_tn, nn_add, nn_s, nn_2, nn_5, nn_7, nn_8, na0, na2, na3, na4, na5, na6, uf_ne, uf_eq, ur_eq, ur_ne, true_or, or_true, not_true_eq_false, not_false_eq_true, true_implies, false_implies, implies_true, e10, e01, reduceIte, Option.isSome_none, Option.isSome_some, Bool.false_eq_true, bi_t, bi_f, ko_183, le]
      refine h0 _ (4, x) (qread_g hq e) (IW _ (W.trans (fr3.fail _ _ _).W)) (TW _ (W.trans (fr3.fail _ _ _).W)) ?_ ?_
      · simp (disch := (first | assumption | omega)) only [true_and, and_true, zr_u, zi_u, zI_u, Option.some.injEq, exists_eq_left', nn_tn, nn_add, nn_s, nn_2, nn_5, nn_7, nn_8, na0, na2, na3, na4, na5, na6, uf_ne, uf_eq, ur_eq, ur_ne, true_or, or_true, not_true_eq_false, not_false_eq_true, true_implies, false_implies, implies_true, e10, e01, reduceIte, Option.isSome_none, Option.isSome_some, Bool.false_eq_true, bi_t, bi_f]; rfl
      · simp (disch := (first | assumption | omega)) only [true_and, and_true, zr_u, zi_u, zI_u, Option.some.injEq, exists_eq_left', nn_tn, nn_add, nn_s, nn_2, nn_5, nn_7, nn_8, na0, na2, na3, na4, na5, na6, uf_ne, uf_eq, ur_eq, ur_ne, true_or, or_true, not_true_eq_false, not_false_eq_true, true_implies, false_implies, implies_true, e10, e01, reduceIte, Option.isSome_none, Option.isSome_some, Bool.false_eq_true, bi_t, bi_f]
    | none =>
      show P_M_read_99 201 Q 183 (g, ρ)
      have le : ((0 : Int32) ≤ 0) = True := eq_true (by decide)
      unfold P_M_read_99
      simp (disch := (first | assumption | omega)) only [true_and, and_true, zr_u, zi_u, zI_u, Option.some.injEq, exists_eq_left', nn_tn, nn_add, nn_s, nn_2, nn_5, nn_7, nn_8, na0, na2, na3, na4, na5, na6, uf_ne, uf_eq, ur_eq, ur_ne, true_or, or_true, not_true_eq_false, not_false_eq_true, true_implies, false_implies, implies_true, e10, e01, reduceIte, Option.isSome_none, Option.isSome_some, Bool.false_eq_true, bi_t, bi_f, ko_183, O.2.1, le, H.1, H.2.1]
      refine Y_126 hC (Y_153 hC (Y_179 (nb := nb) (ns := ns) hC ?_ ?_ lb ?_))
      · rw [cpy_ne _ (show 183 ≠ 186 by decide), cpy_ne _ (show 183 ≠ 185 by decide)]; simp (disch := (first | assumption | omega)) only [true_and, and_true, zr_u, zi_u, zI_u, Option.some.injEq, exists_eq_left', nn_tn, nn_add, nn_s, nn_2, nn_5, nn_7, nn_8, na0, na2, na3, na4, na5, na6, uf_ne, uf_eq, ur_eq, ur_ne, true_or, or_true, not_true_eq_false, not_false_eq_true, true_implies, false_implies, implies_true, e10, e01, reduceIte, Option.isSome_none, Option.isSome_some, Bool.false_eq_true, bi_t, bi_f]
      · rw [cpy_ne _ (show 183 ≠ 186 by decide), cpy_ne _ (show 183 ≠ 185 by decide)]; simp (disch := (first | assumption | omega)) only [true_and, and_true, zr_u, zi_u, zI_u, Option.some.injEq, exists_eq_left', nn_tn, nn_add, nn_s, nn_2, nn_5, nn_7, nn_8, na0, na2, na3, na4, na5, na6, uf_ne, uf_eq, ur_eq, ur_ne, true_or, or_true, not_true_eq_false, not_false_eq_true, true_implies, false_implies, implies_true, e10, e01, reduceIte, Option.isSome_none, Option.isSome_some, Bool.false_eq_true, bi_t, bi_f]
      have r185 : ∀ j, j < 560 → uf (uf (cpy (cpy (cpy (uf (uf g 183 6 (nn nb)) 183 7 (nn ns)) 185 188 560) 186 189 120) 187 190 nb) 187 nb (nn ns)) 183 19 0 185 j = g 188 j := by
        intro j hj
        rw [uf_ne _ (by decide), uf_ne _ (by decide), cpy_ne _ (by decide), cpy_ne _ (by decide), cpy_lt _ hj]; simp (disch := (first | assumption | omega)) only [true_and, and_true, zr_u, zi_u, zI_u, Option.some.injEq, exists_eq_left', nn_tn, nn_add, nn_s, nn_2, nn_5, nn_7, nn_8, na0, na2, na3, na4, na5, na6, uf_ne, uf_eq, ur_eq, ur_ne, true_or, or_true, not_true_eq_false, not_false_eq_true, true_implies, false_implies, implies_true, e10, e01, reduceIte, Option.isSome_none, Option.isSome_some, Bool.false_eq_true, bi_t, bi_f]
      have r186 : ∀ j, j < 120 → uf (uf (cpy (cpy (cpy (uf (uf g 183 6 (nn nb)) 183 7 (nn ns)) 185 188 560) 186 189 120) 187 190 nb) 187 nb (nn ns)) 183 19 0 186 j = g 189 j := by
        intro j hj
        rw [uf_ne _ (by decide), uf_ne _ (by decide), cpy_ne _ (by decide), cpy_lt _ hj, cpy_ne _ (by decide)]; simp (disch := (first | assumption | omega)) only [true_and, and_true, zr_u, zi_u, zI_u, Option.some.injEq, exists_eq_left', nn_tn, nn_add, nn_s, nn_2, nn_5, nn_7, nn_8, na0, na2, na3, na4, na5, na6, uf_ne, uf_eq, ur_eq, ur_ne, true_or, or_true, not_true_eq_false, not_false_eq_true, true_implies, false_implies, implies_true, e10, e01, reduceIte, Option.isSome_none, Option.isSome_some, Bool.false_eq_true, bi_t, bi_f]
      have r187 : ∀ j, j < nb → uf (uf (cpy (cpy (cpy (uf (uf g 183 6 (nn nb)) 183 7 (nn ns)) 185 188 560) 186 189 120) 187 190 nb) 187 nb (nn ns)) 183 19 0 187 j = g 190 j := by
        intro j hj
        rw [uf_ne _ (by decide), uf_eq, ur_ne _ (by omega), cpy_lt _ hj, cpy_ne _ (by decide), cpy_ne _ (by decide)]; simp (disch := (first | assumption | omega)) only [true_and, and_true, zr_u, zi_u, zI_u, Option.some.injEq, exists_eq_left', nn_tn, nn_add, nn_s, nn_2, nn_5, nn_7, nn_8, na0, na2, na3, na4, na5, na6, uf_ne, uf_eq, ur_eq, ur_ne, true_or, or_true, not_true_eq_false, not_false_eq_true, true_implies, false_implies, implies_true, e10, e01, reduceIte, Option.isSome_none, Option.isSome_some, Bool.false_eq_true, bi_t, bi_f]
      have r187' : uf (uf (cpy (cpy (cpy (uf (uf g 183 6 (nn nb)) 183 7 (nn ns)) 185 188 560) 186 189 120) 187 190 nb) 187 nb (nn ns)) 183 19 0 187 nb = nn ns := by
        rw [uf_ne _ (by decide), uf_eq, ur_eq]
      have r183 : uf (uf (cpy (cpy (cpy (uf (uf g 183 6 (nn nb)) 183 7 (nn ns)) 185 188 560) 186 189 120) 187 190 nb) 187 nb (nn ns)) 183 19 0 183 = ur (ur (ur (g 183) 6 (nn nb)) 7 (nn ns)) 19 0 := by
        rw [uf_eq, uf_ne _ (by decide), cpy_ne _ (by decide), cpy_ne _ (by decide), cpy_ne _ (by decide), uf_eq, uf_eq]
      have rr : ∀ a, a ≠ 183 → a ≠ 185 → a ≠ 186 → a ≠ 187 → uf (uf (cpy (cpy (cpy (uf (uf g 183 6 (nn nb)) 183 7 (nn ns)) 185 188 560) 186 189 120) 187 190 nb) 187 nb (nn ns)) 183 19 0 a = g a := by
        intro a z1 z2 z3 z4
        rw [uf_ne _ z1, uf_ne _ z4, cpy_ne _ z4, cpy_ne _ z3, cpy_ne _ z2, uf_ne _ z1, uf_ne _ z1]
      have IG := IW g W
      have TG := TW g W
      generalize uf (uf (cpy (cpy (cpy (uf (uf g 183 6 (nn nb)) 183 7 (nn ns)) 185 188 560) 186 189 120) 187 190 nb) 187 nb (nn ns)) 183 19 0 = f' at r185 r186 r187 r187' r183 rr ⊢
      refine h1 f' _ (qread_1 hq e) ⟨fun a z1 z2 z3 z4 z5 z6 z7 z8 => ?_, fun j z0 z1 z2 z3 z4 z5 z6 z7 z8 z9 z10 => ?_⟩ ⟨?_, ?_, fun b hb => ?_, fun s hs => ?_, fun b hb => ?_⟩ ?_ ?_ ?_ ?_
      · rw [rr a z1 z2 z3 z4]; exact IG.1 a z1 z5 z6 z7 z8
      · rw [r183]; simp (disch := (first | assumption | omega)) only [true_and, and_true, zr_u, zi_u, zI_u, Option.some.injEq, exists_eq_left', nn_tn, nn_add, nn_s, nn_2, nn_5, nn_7, nn_8, na0, na2, na3, na4, na5, na6, uf_ne, uf_eq, ur_eq, ur_ne, true_or, or_true, not_true_eq_false, not_false_eq_true, true_implies, false_implies, implies_true, e10, e01, reduceIte, Option.isSome_none, Option.isSome_some, Bool.false_eq_true, bi_t, bi_f]; exact IG.2 j z0 z1 z2 z3 z6 z7 z8 z9
      · rw [r183]; simp (disch := (first | assumption | omega)) only [true_and, and_true, zr_u, zi_u, zI_u, Option.some.injEq, exists_eq_left', nn_tn, nn_add, nn_s, nn_2, nn_5, nn_7, nn_8, na0, na2, na3, na4, na5, na6, uf_ne, uf_eq, ur_eq, ur_ne, true_or, or_true, not_true_eq_false, not_false_eq_true, true_implies, false_implies, implies_true, e10, e01, reduceIte, Option.isSome_none, Option.isSome_some, Bool.false_eq_true, bi_t, bi_f]
      · rw [r183]; simp (disch := (first | assumption | omega)) only [true_and, and_true, zr_u, zi_u, zI_u, Option.some.injEq, exists_eq_left', nn_tn, nn_add, nn_s, nn_2, nn_5, nn_7, nn_8, na0, na2, na3, na4, na5, na6, uf_ne, uf_eq, ur_eq, ur_ne, true_or, or_true, not_true_eq_false, not_false_eq_true, true_implies, false_implies, implies_true, e10, e01, reduceIte, Option.isSome_none, Option.isSome_some, Bool.false_eq_true, bi_t, bi_f]
      · show f' 187 b = nn (fs b)
        have hb' : b ≤ nb := hb
        by_cases eb : b = nb
        · rw [eb, r187', I.2.1]
        · rw [r187 b (by omega)]; exact H.2.2.1 b (by omega)
      · have hs' : s < ns := hs
        have := I.2.2.2.2
        exact (H.2.2.2.1 s hs').kp (fun i hi => r185 i (by omega))
      · have hb' : b < nb := hb
        exact (H.2.2.2.2 b hb').1.kp (fun i hi => r186 i (by omega))
      · rw [r183]; simp (disch := (first | assumption | omega)) only [true_and, and_true, zr_u, zi_u, zI_u, Option.some.injEq, exists_eq_left', nn_tn, nn_add, nn_s, nn_2, nn_5, nn_7, nn_8, na0, na2, na3, na4, na5, na6, uf_ne, uf_eq, ur_eq, ur_ne, true_or, or_true, not_true_eq_false, not_false_eq_true, true_implies, false_implies, implies_true, e10, e01, reduceIte, Option.isSome_none, Option.isSome_some, Bool.false_eq_true, bi_t, bi_f]; exact TG
      · rw [r183]; simp (disch := (first | assumption | omega)) only [true_and, and_true, zr_u, zi_u, zI_u, Option.some.injEq, exists_eq_left', nn_tn, nn_add, nn_s, nn_2, nn_5, nn_7, nn_8, na0, na2, na3, na4, na5, na6, uf_ne, uf_eq, ur_eq, ur_ne, true_or, or_true, not_true_eq_false, not_false_eq_true, true_implies, false_implies, implies_true, e10, e01, reduceIte, Option.isSome_none, Option.isSome_some, Bool.false_eq_true, bi_t, bi_f]; exact O.2.1
      · rw [r183]; simp (disch := (first | assumption | omega)) only [true_and, and_true, zr_u, zi_u, zI_u, Option.some.injEq, exists_eq_left', nn_tn, nn_add, nn_s, nn_2, nn_5, nn_7, nn_8, na0, na2, na3, na4, na5, na6, uf_ne, uf_eq, ur_eq, ur_ne, true_or, or_true, not_true_eq_false, not_false_eq_true, true_implies, false_implies, implies_true, e10, e01, reduceIte, Option.isSome_none, Option.isSome_some, Bool.false_eq_true, bi_t, bi_f]; exact O.2.2
      · rw [r183]; simp (disch := (first | assumption | omega)) only [true_and, and_true, zr_u, zi_u, zI_u, Option.some.injEq, exists_eq_left', nn_tn, nn_add, nn_s, nn_2, nn_5, nn_7, nn_8, na0, na2, na3, na4, na5, na6, uf_ne, uf_eq, ur_eq, ur_ne, true_or, or_true, not_true_eq_false, not_false_eq_true, true_implies, false_implies, implies_true, e10, e01, reduceIte, Option.isSome_none, Option.isSome_some, Bool.false_eq_true, bi_t, bi_f]
  have head : ∀ (k nb q ns : Nat) (T : Nat → mT) (fs : Nat → Nat) (E : Nat → mE) (PL : Nat → Nat) (g : zf), nb + k = 24 → q ≤ n → frYw f0 g → okY g q → hW g nb ns T fs E PL → iQ nb ns fs E → (¬ q < n → qblks t n 23 0 0 0 (fun _ => (0, 0, .inr 0, .inr 0)) (fun _ => 0) (fun _ => (0, .inr 0, 0, 0)) (fun _ => 0) = .inr ((nb, ns, fs, T, E), PL)) → (q < n → nb = 24 → qblks t n 23 0 0 0 (fun _ => (0, 0, .inr 0, .inr 0)) (fun _ => 0) (fun _ => (0, .inr 0, 0, 0)) (fun _ => 0) = .inl (3, q)) → (q < n → ∀ k', nb + k' = 23 → qblks t n 23 0 0 0 (fun _ => (0, 0, .inr 0, .inr 0)) (fun _ => 0) (fun _ => (0, .inr 0, 0, 0)) (fun _ => 0) = qblks t n k' q nb ns T fs E PL) → P_M_read_38 201 Q (k + 2) 183 (g, ρ) := by
    intro k
    induction k with
    | zero =>
      intro nb q ns T fs E PL g hk lq W O H I e1 e2 e3
      have e24 : nb = 24 := by omega
      subst e24
      have Yg := Y0.W W
      unfold P_M_read_38
      simp (disch := (first | assumption | omega)) only [true_and, and_true, zr_u, zi_u, zI_u, Option.some.injEq, exists_eq_left', nn_tn, nn_add, nn_s, nn_2, nn_5, nn_7, nn_8, na0, na2, na3, na4, na5, na6, uf_ne, uf_eq, ur_eq, ur_ne, true_or, or_true, not_true_eq_false, not_false_eq_true, true_implies, false_implies, implies_true, e10, e01, reduceIte, Option.isSome_none, Option.isSome_some, Bool.false_eq_true, bi_t, bi_f, ko_183, O.2.1, O.1, Yg.1, H.1]
      simp (disch := omega) only [nn_le]
      refine ⟨fun z => good88 g q _ _ _ _ _ _ W O H I (Nat.le_refl _) (e1 (by omega)), fun z => ⟨fun y => absurd rfl y, fun _ => ?_⟩⟩
      refine Y_fail O.2.1 ?_
      rw [show (3 : Int32) = nn 3 from rfl]
      have M := O.fail (pl := q) lq (show 1 ≤ 3 by decide) (by decide)
      have ne := eq_false M.ne
      have W2 := W.trans (fr3.fail g (nn 3) (nn q)).W
      generalize uf (uf g 183 3 (nn 3)) 183 4 (nn q) = g2 at M ne W2 ⊢
      unfold P_M_read_38
      simp (disch := (first | assumption | omega)) only [true_and, and_true, zr_u, zi_u, zI_u, Option.some.injEq, exists_eq_left', nn_tn, nn_add, nn_s, nn_2, nn_5, nn_7, nn_8, na0, na2, na3, na4, na5, na6, uf_ne, uf_eq, ur_eq, ur_ne, true_or, or_true, not_true_eq_false, not_false_eq_true, true_implies, false_implies, implies_true, e10, e01, reduceIte, Option.isSome_none, Option.isSome_some, Bool.false_eq_true, bi_t, bi_f, ko_183, ne]
      exact bad88 g2 _ W2 M (qread_e (e2 (by omega) rfl))
    | succ k ih =>
      intro nb q ns T fs E PL g hk lq W O H I e1 e2 e3
      have Yg := Y0.W W
      unfold P_M_read_38
      simp (disch := (first | assumption | omega)) only [true_and, and_true, zr_u, zi_u, zI_u, Option.some.injEq, exists_eq_left', nn_tn, nn_add, nn_s, nn_2, nn_5, nn_7, nn_8, na0, na2, na3, na4, na5, na6, uf_ne, uf_eq, ur_eq, ur_ne, true_or, or_true, not_true_eq_false, not_false_eq_true, true_implies, false_implies, implies_true, e10, e01, reduceIte, Option.isSome_none, Option.isSome_some, Bool.false_eq_true, bi_t, bi_f, ko_183, O.2.1, O.1, Yg.1, H.1]
      rw [show (24 : Int32) = nn 24 from rfl]
      simp (disch := omega) only [nn_le, nn_eq]
      refine ⟨fun z => good88 g q _ _ _ _ _ _ W O H I (by omega) (e1 (by omega)), fun z => ⟨fun _ => ?_, fun y => absurd y (by omega)⟩⟩
      have hq := e3 (by omega) k (by omega)
      refine Y_block hC Yg lq O H (by omega) I.2.2.2.2 I.2.1 (fun g2 r p' a1 a2 a3 a4 a5 a6 a7 a8 a9 => ?_) (fun g2 e a1 a2 a3 => ?_)
      · have W2 := W.trans a5
        refine Y_skp hC (Y0.W W2) a3 a4 (fun g3 F3 O3 => ?_)
        rw [← a2] at O3
        have lr : r.1 ≤ n := by rw [a2]; exact qsk_n (t := t) a3
        refine ih (nb + 1) r.1 r.2.1 r.2.2.1 _ _ _ g3 (by omega) lr (W2.trans F3.W) O3 (a6.four F3.to4) (I.step a7 a8 a9) (fun y => hq.trans (qblks_n a1 y)) (fun y y' => ?_) (fun y k' y' => ?_)
        · have : k = 0 := by omega
          subst this
          exact hq.trans (qblks_f a1 y)
        · have : k = k' + 1 := by omega
          subst this
          exact hq.trans (qblks_s a1 y)
      · refine Y_skf hC (Y0.W (W.trans a2)) a3 (fun g3 F3 M3 => ?_)
        have ne := eq_false M3.ne
        unfold P_M_read_38
        simp (disch := (first | assumption | omega)) only [true_and, and_true, zr_u, zi_u, zI_u, Option.some.injEq, exists_eq_left', nn_tn, nn_add, nn_s, nn_2, nn_5, nn_7, nn_8, na0, na2, na3, na4, na5, na6, uf_ne, uf_eq, ur_eq, ur_ne, true_or, or_true, not_true_eq_false, not_false_eq_true, true_implies, false_implies, implies_true, e10, e01, reduceIte, Option.isSome_none, Option.isSome_some, Bool.false_eq_true, bi_t, bi_f, ko_183, ne]
        exact bad88 g3 e ((W.trans a2).trans F3.W) M3 (qread_e (hq.trans (qblks_e a1)))
  have I00 : iQ 0 0 (fun _ => 0) (fun _ => (0, .inr 0, 0, 0)) := ⟨rfl, rfl, fun b hb => absurd hb (by omega), fun b hb => absurd hb (by omega), by decide⟩
  refine Y_block hC Y0 (Nat.zero_le _) O0 H0 (by decide) (by decide) rfl (fun g2 r p' a1 a2 a3 a4 a5 a6 a7 a8 a9 => ?_) (fun g2 e a1 a2 a3 => ?_)
  · refine Y_skp hC (Y0.W a5) a3 a4 (fun g3 F3 O3 => ?_)
    rw [← a2] at O3
    have lr : r.1 ≤ n := by rw [a2]; exact qsk_n (t := t) a3
    refine ⟨_, head 23 1 r.1 r.2.1 r.2.2.1 _ _ _ g3 (by decide) lr (a5.trans F3.W) O3 (a6.four F3.to4) (I00.step a7 a8 a9) (fun y => qblks_n a1 y) (fun y y' => absurd y' (by decide)) (fun y k' y' => ?_)⟩
    have : k' = 22 := by omega
    subst this
    exact qblks_s a1 y
  · refine Y_skf hC (Y0.W a2) a3 (fun g3 F3 M3 => ⟨0 + 1, ?_⟩)
    have ne := eq_false M3.ne
    unfold P_M_read_38
    simp (disch := (first | assumption | omega)) only [true_and, and_true, zr_u, zi_u, zI_u, Option.some.injEq, exists_eq_left', nn_tn, nn_add, nn_s, nn_2, nn_5, nn_7, nn_8, na0, na2, na3, na4, na5, na6, uf_ne, uf_eq, ur_eq, ur_ne, true_or, or_true, not_true_eq_false, not_false_eq_true, true_implies, false_implies, implies_true, e10, e01, reduceIte, Option.isSome_none, Option.isSome_some, Bool.false_eq_true, bi_t, bi_f, ko_183, ne]
    exact bad88 g3 e (a2.trans F3.W) M3 (qread_e (qblks_e a1))
