/-! The parser: the reference, its leaves. -/
theorem lg_leq (x y : Int64) : (lg_cmp x y ≤ 0) = (x.toInt ≤ y.toInt) := by
  have h := lg_gt0 x y
  refine propext ?_
  rw [← Int32.not_lt, h]; omega
/-- the reference's tape -/
def hY (f : zf) (t : Nat → Nat) (n : Nat) : Prop := f 183 2 = nn n ∧ n ≤ 700 ∧ ∀ i, i < n → f 184 i = nn (t i) ∧ t i < 256
theorem hY.same {f f' : zf} {t : Nat → Nat} {n : Nat} (h : hY f t n) (h1 : f' 183 2 = f 183 2) (h2 : f' 184 = f 184) : hY f' t n := by
  unfold hY; rw [h1, h2]; exact h
theorem qyb_eq {f : zf} {t : Nat → Nat} {n : Nat} (h : hY f t n) {q c : Nat} (hc : c < 256) : (qby t n q = nn c) = qE t n q c := by
  unfold qby qE
  refine propext ?_
  by_cases hq : q < n
  · rw [if_pos hq, nn_eq (by have := (h.2.2 q hq).2; omega) (by omega)]
    exact ⟨fun e => ⟨hq, e⟩, fun e => e.2⟩
  · rw [if_neg hq]
    refine ⟨fun e => ?_, fun e => absurd e.1 hq⟩
    have := nn_m1 (a := c) (by omega)
    rw [← e] at this
    rw [eq_self] at this
    exact absurd this (by simp)
/-- of row 183 only fields 3, 4, 5 differ -/
def fr3 (f f' : zf) : Prop := (∀ a, a ≠ 183 → f' a = f a) ∧ ∀ j, j ≠ 3 → j ≠ 4 → j ≠ 5 → f' 183 j = f 183 j
theorem fr3.rfl' (f : zf) : fr3 f f := ⟨fun _ _ => rfl, fun _ _ _ _ => rfl⟩
theorem fr3.trans {f g h : zf} (a : fr3 f g) (b : fr3 g h) : fr3 f h := ⟨fun k h1 => by rw [b.1 k h1, a.1 k h1], fun j h1 h2 h3 => by rw [b.2 j h1 h2 h3, a.2 j h1 h2 h3]⟩
theorem fr3.go (f : zf) (x : Int32) : fr3 f (uf f 183 5 x) := ⟨fun a h => by simp (disch := (first | assumption | omega)) only [true_and, and_true, zr_u, zi_u, zI_u, Option.some.injEq, exists_eq_left', nn_tn, nn_add, nn_s, nn_2, nn_5, nn_7, nn_8, na0, na2, na3, na4, na5, na6, uf_ne, uf_eq, ur_eq, ur_ne, true_or, or_true, not_true_eq_false, not_false_eq_true, true_implies, false_implies, implies_true, e10, e01, reduceIte, Option.isSome_none, Option.isSome_some, Bool.false_eq_true, bi_t, bi_f], fun j h1 h2 h3 => by simp (disch := (first | assumption | omega)) only [true_and, and_true, zr_u, zi_u, zI_u, Option.some.injEq, exists_eq_left', nn_tn, nn_add, nn_s, nn_2, nn_5, nn_7, nn_8, na0, na2, na3, na4, na5, na6, uf_ne, uf_eq, ur_eq, ur_ne, true_or, or_true, not_true_eq_false, not_false_eq_true, true_implies, false_implies, implies_true, e10, e01, reduceIte, Option.isSome_none, Option.isSome_some, Bool.false_eq_true, bi_t, bi_f]⟩
theorem fr3.fail (f : zf) (x y : Int32) : fr3 f (uf (uf f 183 3 x) 183 4 y) := ⟨fun a h => by simp (disch := (first | assumption | omega)) only [true_and, and_true, zr_u, zi_u, zI_u, Option.some.injEq, exists_eq_left', nn_tn, nn_add, nn_s, nn_2, nn_5, nn_7, nn_8, na0, na2, na3, na4, na5, na6, uf_ne, uf_eq, ur_eq, ur_ne, true_or, or_true, not_true_eq_false, not_false_eq_true, true_implies, false_implies, implies_true, e10, e01, reduceIte, Option.isSome_none, Option.isSome_some, Bool.false_eq_true, bi_t, bi_f], fun j h1 h2 h3 => by simp (disch := (first | assumption | omega)) only [true_and, and_true, zr_u, zi_u, zI_u, Option.some.injEq, exists_eq_left', nn_tn, nn_add, nn_s, nn_2, nn_5, nn_7, nn_8, na0, na2, na3, na4, na5, na6, uf_ne, uf_eq, ur_eq, ur_ne, true_or, or_true, not_true_eq_false, not_false_eq_true, true_implies, false_implies, implies_true, e10, e01, reduceIte, Option.isSome_none, Option.isSome_some, Bool.false_eq_true, bi_t, bi_f]⟩
theorem hY.three {f f' : zf} {t : Nat → Nat} {n : Nat} (h : hY f t n) (a : fr3 f f') : hY f' t n := h.same (a.2 _ (by decide) (by decide) (by decide)) (a.1 _ (by decide))
def okY (f : zf) (q : Nat) : Prop := f 183 5 = nn q ∧ f 183 3 = 0 ∧ f 183 4 = -1
def fM (f : zf) (n : Nat) (e : Nat × Nat) : Prop := f 183 3 = nn e.1 ∧ f 183 4 = nn e.2 ∧ 1 ≤ e.1 ∧ e.1 ≤ 4 ∧ ∃ q, q ≤ n ∧ f 183 5 = nn q
theorem okY.go {f : zf} {q : Nat} (h : okY f q) (r : Nat) : okY (uf f 183 5 (nn r)) r := ⟨by simp (disch := (first | assumption | omega)) only [true_and, and_true, zr_u, zi_u, zI_u, Option.some.injEq, exists_eq_left', nn_tn, nn_add, nn_s, nn_2, nn_5, nn_7, nn_8, na0, na2, na3, na4, na5, na6, uf_ne, uf_eq, ur_eq, ur_ne, true_or, or_true, not_true_eq_false, not_false_eq_true, true_implies, false_implies, implies_true, e10, e01, reduceIte, Option.isSome_none, Option.isSome_some, Bool.false_eq_true, bi_t, bi_f], by simp (disch := (first | assumption | omega)) only [true_and, and_true, zr_u, zi_u, zI_u, Option.some.injEq, exists_eq_left', nn_tn, nn_add, nn_s, nn_2, nn_5, nn_7, nn_8, na0, na2, na3, na4, na5, na6, uf_ne, uf_eq, ur_eq, ur_ne, true_or, or_true, not_true_eq_false, not_false_eq_true, true_implies, false_implies, implies_true, e10, e01, reduceIte, Option.isSome_none, Option.isSome_some, Bool.false_eq_true, bi_t, bi_f]; exact h.2.1, by simp (disch := (first | assumption | omega)) only [true_and, and_true, zr_u, zi_u, zI_u, Option.some.injEq, exists_eq_left', nn_tn, nn_add, nn_s, nn_2, nn_5, nn_7, nn_8, na0, na2, na3, na4, na5, na6, uf_ne, uf_eq, ur_eq, ur_ne, true_or, or_true, not_true_eq_false, not_false_eq_true, true_implies, false_implies, implies_true, e10, e01, reduceIte, Option.isSome_none, Option.isSome_some, Bool.false_eq_true, bi_t, bi_f]; exact h.2.2⟩
theorem fM.ne {f : zf} {n : Nat} {e : Nat × Nat} (h : fM f n e) : ¬ f 183 3 = 0 := by
  rw [h.1, show (0 : Int32) = nn 0 from rfl, nn_eq (by have := h.2.2.2.1; omega) (by decide)]
  have := h.2.2.1; omega
theorem fM.same {f f' : zf} {n : Nat} {e : Nat × Nat} (h : fM f n e) (h3 : f' 183 3 = f 183 3) (h4 : f' 183 4 = f 183 4) (h5 : f' 183 5 = f 183 5) : fM f' n e := by
  unfold fM; rw [h3, h4, h5]; exact h
theorem okY.same {f f' : zf} {q : Nat} (h : okY f q) (h3 : f' 183 3 = f 183 3) (h4 : f' 183 4 = f 183 4) (h5 : f' 183 5 = f 183 5) : okY f' q := by
  unfold okY; rw [h3, h4, h5]; exact h
theorem Y_byteAt {f : zf} {ρ : zo} (hC : zC ρ) {t : Nat → Nat} {n q : Nat} {Q : Int32 → zS → Prop} (h' : hY f t n) (hq : q < 2147483648) (h : Q (qby t n q) (f, ρ)) : P_M_byteAt 201 183 (nn q) (f, ρ) Q := by
  have hn := h'.2.1
  unfold P_M_byteAt P_M_byteAt_18
  simp (disch := (first | assumption | omega)) only [true_and, and_true, zr_u, zi_u, zI_u, Option.some.injEq, exists_eq_left', nn_tn, nn_add, nn_s, nn_2, nn_5, nn_7, nn_8, na0, na2, na3, na4, na5, na6, uf_ne, uf_eq, ur_eq, ur_ne, true_or, or_true, not_true_eq_false, not_false_eq_true, true_implies, false_implies, implies_true, e10, e01, reduceIte, Option.isSome_none, Option.isSome_some, Bool.false_eq_true, bi_t, bi_f, ko_183, rc_183_1 hC, h'.1]
  simp (disch := omega) only [nn_le]
  unfold qby at h
  refine ⟨fun z => ?_, fun z => ?_⟩
  · rw [if_neg (by omega)] at h; exact h
  · have hqn : q < n := by omega
    rw [if_pos hqn] at h
    simp (disch := (first | assumption | omega)) only [true_and, and_true, zr_u, zi_u, zI_u, Option.some.injEq, exists_eq_left', nn_tn, nn_add, nn_s, nn_2, nn_5, nn_7, nn_8, na0, na2, na3, na4, na5, na6, uf_ne, uf_eq, ur_eq, ur_ne, true_or, or_true, not_true_eq_false, not_false_eq_true, true_implies, false_implies, implies_true, e10, e01, reduceIte, Option.isSome_none, Option.isSome_some, Bool.false_eq_true, bi_t, bi_f, ka_184]
    rw [(h'.2.2 q hqn).1]; exact h
theorem Y_skip {f : zf} {ρ : zo} (hC : zC ρ) {t : Nat → Nat} {n p : Nat} {Q : zS → Prop} (h' : hY f t n) (hp : p ≤ n) (ha : f 183 5 = nn p) (h : Q (uf f 183 5 (nn (qsk t n p)), ρ)) : P_M_skip 201 183 (f, ρ) Q := by
  have hn := h'.2.1
  have key : ∀ (m q : Nat) (f' : zf), n - q = m → q ≤ n → hY f' t n → f' 183 5 = nn q → Q (uf f' 183 5 (nn (qsk t n q)), ρ) → P_M_skip_0 201 Q (m + 1) 183 (f', ρ) := by
    intro m
    induction m with
    | zero =>
      intro q f' hm hq h1 h2 h3
      unfold P_M_skip_0 P_M_skip_38
      simp (disch := (first | assumption | omega)) only [true_and, and_true, zr_u, zi_u, zI_u, Option.some.injEq, exists_eq_left', nn_tn, nn_add, nn_s, nn_2, nn_5, nn_7, nn_8, na0, na2, na3, na4, na5, na6, uf_ne, uf_eq, ur_eq, ur_ne, true_or, or_true, not_true_eq_false, not_false_eq_true, true_implies, false_implies, implies_true, e10, e01, reduceIte, Option.isSome_none, Option.isSome_some, Bool.false_eq_true, bi_t, bi_f, ko_183, rc_183_1 hC, h1.1, h2]
      simp (disch := omega) only [nn_le]
      refine ⟨fun _ => ?_, fun z => absurd (by omega) z⟩
      rw [qsk_0 (by omega), uf_self h2] at h3
      exact h3
    | succ m ih =>
      intro q f' hm hq h1 h2 h3
      have hqn : q < n := by omega
      unfold P_M_skip_0 P_M_skip_38
      simp (disch := (first | assumption | omega)) only [true_and, and_true, zr_u, zi_u, zI_u, Option.some.injEq, exists_eq_left', nn_tn, nn_add, nn_s, nn_2, nn_5, nn_7, nn_8, na0, na2, na3, na4, na5, na6, uf_ne, uf_eq, ur_eq, ur_ne, true_or, or_true, not_true_eq_false, not_false_eq_true, true_implies, false_implies, implies_true, e10, e01, reduceIte, Option.isSome_none, Option.isSome_some, Bool.false_eq_true, bi_t, bi_f, ko_183, rc_183_1 hC, h1.1, h2, ka_184, (h1.2.2 q hqn).1]
      have ht := (h1.2.2 q hqn).2
      rw [show (32 : Int32) = nn 32 from rfl]
      simp (disch := omega) only [nn_le, nn_lt]
      refine ⟨fun z => absurd z (by omega), fun _ => ⟨fun z => ?_, fun z => ?_⟩⟩
      · rw [qsk_0 (by omega), uf_self h2] at h3
        exact h3
      · refine ih (q + 1) _ (by omega) (by omega) (h1.three (fr3.go _ _)) (by simp (disch := (first | assumption | omega)) only [true_and, and_true, zr_u, zi_u, zI_u, Option.some.injEq, exists_eq_left', nn_tn, nn_add, nn_s, nn_2, nn_5, nn_7, nn_8, na0, na2, na3, na4, na5, na6, uf_ne, uf_eq, ur_eq, ur_ne, true_or, or_true, not_true_eq_false, not_false_eq_true, true_implies, false_implies, implies_true, e10, e01, reduceIte, Option.isSome_none, Option.isSome_some, Bool.false_eq_true, bi_t, bi_f]) ?_
        rw [uf_uf, ← qsk_1 ⟨by omega, by omega⟩]; exact h3
  exact ⟨_, key (n - p) p f rfl hp h' ha h⟩
theorem Y_fail {f : zf} {ρ : zo} {k pl : Int32} {Q : zS → Prop} (h3 : f 183 3 = 0) (h : Q (uf (uf f 183 3 k) 183 4 pl, ρ)) : P_M_fail 201 183 k pl (f, ρ) Q := by
  unfold P_M_fail P_M_fail_17
  simp (disch := (first | assumption | omega)) only [true_and, and_true, zr_u, zi_u, zI_u, Option.some.injEq, exists_eq_left', nn_tn, nn_add, nn_s, nn_2, nn_5, nn_7, nn_8, na0, na2, na3, na4, na5, na6, uf_ne, uf_eq, ur_eq, ur_ne, true_or, or_true, not_true_eq_false, not_false_eq_true, true_implies, false_implies, implies_true, e10, e01, reduceIte, Option.isSome_none, Option.isSome_some, Bool.false_eq_true, bi_t, bi_f, ko_183, h3]
  exact h
theorem okY.fail {f : zf} {n q k pl : Nat} (h : okY f q) (hq : q ≤ n) (h1 : 1 ≤ k) (h2 : k ≤ 4) : fM (uf (uf f 183 3 (nn k)) 183 4 (nn pl)) n (k, pl) := ⟨by simp (disch := (first | assumption | omega)) only [true_and, and_true, zr_u, zi_u, zI_u, Option.some.injEq, exists_eq_left', nn_tn, nn_add, nn_s, nn_2, nn_5, nn_7, nn_8, na0, na2, na3, na4, na5, na6, uf_ne, uf_eq, ur_eq, ur_ne, true_or, or_true, not_true_eq_false, not_false_eq_true, true_implies, false_implies, implies_true, e10, e01, reduceIte, Option.isSome_none, Option.isSome_some, Bool.false_eq_true, bi_t, bi_f], by simp (disch := (first | assumption | omega)) only [true_and, and_true, zr_u, zi_u, zI_u, Option.some.injEq, exists_eq_left', nn_tn, nn_add, nn_s, nn_2, nn_5, nn_7, nn_8, na0, na2, na3, na4, na5, na6, uf_ne, uf_eq, ur_eq, ur_ne, true_or, or_true, not_true_eq_false, not_false_eq_true, true_implies, false_implies, implies_true, e10, e01, reduceIte, Option.isSome_none, Option.isSome_some, Bool.false_eq_true, bi_t, bi_f], h1, h2, q, hq, by simp (disch := (first | assumption | omega)) only [true_and, and_true, zr_u, zi_u, zI_u, Option.some.injEq, exists_eq_left', nn_tn, nn_add, nn_s, nn_2, nn_5, nn_7, nn_8, na0, na2, na3, na4, na5, na6, uf_ne, uf_eq, ur_eq, ur_ne, true_or, or_true, not_true_eq_false, not_false_eq_true, true_implies, false_implies, implies_true, e10, e01, reduceIte, Option.isSome_none, Option.isSome_some, Bool.false_eq_true, bi_t, bi_f]; exact h.1⟩
theorem Y_isLetter {f : zf} {t : Nat → Nat} {n q : Nat} {σ : zS} {Q : Int32 → zS → Prop} (h : hY f t n) (h1 : qL t n q → Q 1 σ) (h0 : ¬ qL t n q → Q 0 σ) : P_M_isVariable 201 (qby t n q) σ Q := by
  unfold P_M_isVariable P_M_isVariable_16 P_M_isVariable_17
  simp (disch := (first | assumption | omega)) only [true_and, and_true, zr_u, zi_u, zI_u, Option.some.injEq, exists_eq_left', nn_tn, nn_add, nn_s, nn_2, nn_5, nn_7, nn_8, na0, na2, na3, na4, na5, na6, uf_ne, uf_eq, ur_eq, ur_ne, true_or, or_true, not_true_eq_false, not_false_eq_true, true_implies, false_implies, implies_true, e10, e01, reduceIte, Option.isSome_none, Option.isSome_some, Bool.false_eq_true, bi_t, bi_f]
  by_cases hq : q < n
  · have e : qby t n q = nn (t q) := if_pos hq
    have ht := (h.2.2 q hq).2
    rw [e, show (97 : Int32) = nn 97 from rfl, show (104 : Int32) = nn 104 from rfl, nn_lt (by omega) (by omega), nn_lt (by omega) (by omega)]
    exact ⟨fun z => h0 (fun y => by have := y.2; omega), fun z => ⟨fun z' => h0 (fun y => by have := y.2; omega), fun z' => h1 ⟨hq, by omega, by omega⟩⟩⟩
  · have e : qby t n q = -1 := if_neg hq
    rw [e]
    exact ⟨fun _ => h0 (fun y => hq y.1), fun z => absurd (by decide) z⟩
theorem Y_isFigure {f : zf} {t : Nat → Nat} {n q : Nat} {σ : zS} {Q : Int32 → zS → Prop} (h : hY f t n) (h1 : qF t n q → Q 1 σ) (h0 : ¬ qF t n q → Q 0 σ) : P_M_isFigure 201 (qby t n q) σ Q := by
  unfold P_M_isFigure P_M_isFigure_16 P_M_isFigure_17
  simp (disch := (first | assumption | omega)) only [true_and, and_true, zr_u, zi_u, zI_u, Option.some.injEq, exists_eq_left', nn_tn, nn_add, nn_s, nn_2, nn_5, nn_7, nn_8, na0, na2, na3, na4, na5, na6, uf_ne, uf_eq, ur_eq, ur_ne, true_or, or_true, not_true_eq_false, not_false_eq_true, true_implies, false_implies, implies_true, e10, e01, reduceIte, Option.isSome_none, Option.isSome_some, Bool.false_eq_true, bi_t, bi_f]
  by_cases hq : q < n
  · have e : qby t n q = nn (t q) := if_pos hq
    have ht := (h.2.2 q hq).2
    rw [e, show (48 : Int32) = nn 48 from rfl, show (57 : Int32) = nn 57 from rfl, nn_lt (by omega) (by omega), nn_lt (by omega) (by omega)]
    exact ⟨fun z => h0 (fun y => by have := y.2; omega), fun z => ⟨fun z' => h0 (fun y => by have := y.2; omega), fun z' => h1 ⟨hq, by omega, by omega⟩⟩⟩
  · have e : qby t n q = -1 := if_neg hq
    rw [e]
    exact ⟨fun _ => h0 (fun y => hq y.1), fun z => absurd (by decide) z⟩
theorem Y_want {f : zf} {ρ : zo} (hC : zC ρ) {t : Nat → Nat} {n p c : Nat} {Q : zS → Prop} (hc : c < 256) (h' : hY f t n) (hp : p ≤ n) (hk : okY f p) (h1 : ∀ f' q, qwant t n c p = .inr q → fr3 f f' → okY f' q → Q (f', ρ)) (h0 : ∀ f' e, qwant t n c p = .inl e → fr3 f f' → fM f' n e → Q (f', ρ)) : P_M_want 201 183 (nn c) (f, ρ) Q := by
  have hn := h'.2.1
  have lq := qsk_n (t := t) hp
  unfold P_M_want P_M_want_38
  simp (disch := (first | assumption | omega)) only [true_and, and_true, zr_u, zi_u, zI_u, Option.some.injEq, exists_eq_left', nn_tn, nn_add, nn_s, nn_2, nn_5, nn_7, nn_8, na0, na2, na3, na4, na5, na6, uf_ne, uf_eq, ur_eq, ur_ne, true_or, or_true, not_true_eq_false, not_false_eq_true, true_implies, false_implies, implies_true, e10, e01, reduceIte, Option.isSome_none, Option.isSome_some, Bool.false_eq_true, bi_t, bi_f, ko_183]
  refine Y_skip hC h' hp hk.1 ?_
  have F1 := fr3.go f (nn (qsk t n p))
  have O1 := hk.go (qsk t n p)
  generalize uf f 183 5 (nn (qsk t n p)) = g at F1 O1 ⊢
  simp (disch := (first | assumption | omega)) only [true_and, and_true, zr_u, zi_u, zI_u, Option.some.injEq, exists_eq_left', nn_tn, nn_add, nn_s, nn_2, nn_5, nn_7, nn_8, na0, na2, na3, na4, na5, na6, uf_ne, uf_eq, ur_eq, ur_ne, true_or, or_true, not_true_eq_false, not_false_eq_true, true_implies, false_implies, implies_true, e10, e01, reduceIte, Option.isSome_none, Option.isSome_some, Bool.false_eq_true, bi_t, bi_f, O1.1]
  refine Y_byteAt hC (h'.three F1) (by omega) ?_
  rw [qyb_eq h' hc]
  simp (disch := (first | assumption | omega)) only [true_and, and_true, zr_u, zi_u, zI_u, Option.some.injEq, exists_eq_left', nn_tn, nn_add, nn_s, nn_2, nn_5, nn_7, nn_8, na0, na2, na3, na4, na5, na6, uf_ne, uf_eq, ur_eq, ur_ne, true_or, or_true, not_true_eq_false, not_false_eq_true, true_implies, false_implies, implies_true, e10, e01, reduceIte, Option.isSome_none, Option.isSome_some, Bool.false_eq_true, bi_t, bi_f, O1.1]
  refine ⟨fun z => ?_, fun z => ?_⟩
  · refine Y_fail O1.2.1 ?_
    rw [show (1 : Int32) = nn 1 from rfl]
    exact h0 _ (1, qsk t n p) (by unfold qwant; rw [qdec_f z]) (F1.trans (fr3.fail _ _ _)) (O1.fail lq (by decide) (by decide))
  · exact h1 _ (qsk t n p + 1) (by unfold qwant; rw [qdec_t z]) (F1.trans (fr3.go _ _)) (O1.go _)
theorem Y_num157 {f : zf} {ρ : zo} {neg : Bool} {n p : Nat} {r : Nat × Nat} {b : Int64} {Q : Int32 → zS → Prop} (hk : okY f r.2) (hr : r.2 ≤ n) (hb : b.toInt = (if neg then -((min r.1 9999999999 : Nat) : Int) else ((min r.1 9999999999 : Nat) : Int))) (h1 : ∀ f' x, qfin neg p r = .inr x → fr3 f f' → okY f' x.2 → Q x.1 (f', ρ)) (h0 : ∀ f' e, qfin neg p r = .inl e → fr3 f f' → fM f' n e → Q 0 (f', ρ)) : P_M_number0_157 201 Q 183 (nn p) b (f, ρ) := by
  have mm : min r.1 9999999999 ≤ 9999999999 := Nat.min_le_right _ _
  have bad : qfin neg p r = .inl (2, p) → P_M_number0_177 201 Q 183 (nn p) (f, ρ) := by
    intro e
    unfold P_M_number0_177
    simp (disch := (first | assumption | omega)) only [true_and, and_true, zr_u, zi_u, zI_u, Option.some.injEq, exists_eq_left', nn_tn, nn_add, nn_s, nn_2, nn_5, nn_7, nn_8, na0, na2, na3, na4, na5, na6, uf_ne, uf_eq, ur_eq, ur_ne, true_or, or_true, not_true_eq_false, not_false_eq_true, true_implies, false_implies, implies_true, e10, e01, reduceIte, Option.isSome_none, Option.isSome_some, Bool.false_eq_true, bi_t, bi_f, ko_183]
    refine Y_fail hk.2.1 ?_
    rw [show (2 : Int32) = nn 2 from rfl]
    exact h0 _ (2, p) e (fr3.fail _ _ _) (hk.fail hr (by decide) (by decide))
  have hA : (-2147483648 : Int64).toInt = -2147483648 := by decide
  have hB : (2147483647 : Int64).toInt = 2147483647 := by decide
  unfold P_M_number0_157
  rw [lg_lt0, lg_leq, hA, hB, hb]
  have t32 : -2147483648 ≤ b.toInt → b.toInt ≤ 2147483647 → (Int64.toInt32 b).toInt = b.toInt := by
    intro a1 a2
    rw [Int64.toInt_toInt32]; exact bm32 a1 (by omega)
  rw [hb] at t32
  cases neg with
  | true =>
    simp only [if_true] at hb t32 ⊢
    refine ⟨fun z => bad ?_, fun z => ⟨fun z' => ?_, fun z' => absurd (by omega) z'⟩⟩
    · unfold qfin; simp only; rw [if_neg (fun hr => by rw [Nat.min_eq_left (by omega)] at z; omega)]
    · have hr' : r.1 ≤ 2147483648 := by
        rcases Nat.le_total r.1 9999999999 with q | q
        · rw [Nat.min_eq_left q] at z; omega
        · rw [Nat.min_eq_right q] at z; omega
      rw [Nat.min_eq_left (by omega)] at t32
      have e : Int64.toInt32 b = Int32.ofInt (-(r.1 : Int)) := by
        apply Int32.toInt_inj.mp
        rw [t32 (by omega) (by omega), ofi (by omega) (by omega)]
      rw [e]
      exact h1 f (Int32.ofInt (-(r.1 : Int)), r.2) (by unfold qfin; simp only; rw [if_pos hr']) (fr3.rfl' f) hk
  | false =>
    simp only [Bool.false_eq_true, if_false] at hb t32 ⊢
    refine ⟨fun z => absurd z (by omega), fun z => ⟨fun z' => ?_, fun z' => bad ?_⟩⟩
    · have hr' : r.1 ≤ 2147483647 := by
        rcases Nat.le_total r.1 9999999999 with q | q
        · rw [Nat.min_eq_left q] at z'; omega
        · rw [Nat.min_eq_right q] at z'; omega
      rw [Nat.min_eq_left (by omega)] at t32
      have e : Int64.toInt32 b = nn r.1 := by
        apply Int32.toInt_inj.mp
        rw [t32 (by omega) (by omega), nn_int (by omega)]
      rw [e]
      exact h1 f (nn r.1, r.2) (by unfold qfin; simp only; rw [if_pos hr']) (fr3.rfl' f) hk
    · unfold qfin; simp only; rw [if_neg (fun hr => by rw [Nat.min_eq_left (by omega)] at z'; omega)]
theorem Y_digs {ρ : zo} (hC : zC ρ) {t : Nat → Nat} {n p : Nat} {neg : Bool} {Q : Int32 → zS → Prop} : ∀ (m q v : Nat) (f : zf) (a : Int64), n - q = m → q ≤ n → hY f t n → okY f q → a.toInt = (min v 9999999999 : Nat) → (∀ f' x, qfin neg p (qdg t n q v) = .inr x → fr3 f f' → okY f' x.2 → Q x.1 (f', ρ)) → (∀ f' e, qfin neg p (qdg t n q v) = .inl e → fr3 f f' → fM f' n e → Q 0 (f', ρ)) → P_M_number0_77 201 Q (m + 1) 183 (nn p) (bi neg) a (f, ρ) := by
  intro m
  have stop : ∀ (q v : Nat) (f : zf) (a : Int64), q ≤ n → okY f q → a.toInt = (min v 9999999999 : Nat) → (∀ f' x, qfin neg p (v, q) = .inr x → fr3 f f' → okY f' x.2 → Q x.1 (f', ρ)) → (∀ f' e, qfin neg p (v, q) = .inl e → fr3 f f' → fM f' n e → Q 0 (f', ρ)) → ((bi neg = 0 → P_M_number0_157 201 Q 183 (nn p) a (f, ρ)) ∧ (¬ (bi neg = 0) → P_M_number0_157 201 Q 183 (nn p) (-a) (f, ρ))) := by
    intro q v f a hq hk ha h1 h0
    have mm : min v 9999999999 ≤ 9999999999 := Nat.min_le_right _ _
    cases neg with
    | true =>
      refine ⟨fun z => absurd z (by decide), fun _ => Y_num157 (r := (v, q)) hk hq ?_ h1 h0⟩
      rw [Int64.toInt_neg, ha, bm64 (by omega) (by omega)]; rfl
    | false =>
      exact ⟨fun _ => Y_num157 (neg := false) (r := (v, q)) hk hq (by simp only [Bool.false_eq_true, if_false]; exact ha) h1 h0, fun z => absurd rfl z⟩
  induction m with
  | zero =>
    intro q v f a hm hq h' hk ha h1 h0
    have hn := h'.2.1
    have hF : ¬ qF t n q := fun z => by have := z.1; omega
    have e : qdg t n q v = (v, q) := qdg_0 hF
    rw [e] at h1 h0
    unfold P_M_number0_77
    simp (disch := (first | assumption | omega)) only [true_and, and_true, zr_u, zi_u, zI_u, Option.some.injEq, exists_eq_left', nn_tn, nn_add, nn_s, nn_2, nn_5, nn_7, nn_8, na0, na2, na3, na4, na5, na6, uf_ne, uf_eq, ur_eq, ur_ne, true_or, or_true, not_true_eq_false, not_false_eq_true, true_implies, false_implies, implies_true, e10, e01, reduceIte, Option.isSome_none, Option.isSome_some, Bool.false_eq_true, bi_t, bi_f, ko_183, hk.1]
    refine Y_byteAt hC h' (by omega) ?_
    refine Y_isFigure h' (fun z => absurd z hF) (fun _ => ?_)
    simp (disch := (first | assumption | omega)) only [true_and, and_true, zr_u, zi_u, zI_u, Option.some.injEq, exists_eq_left', nn_tn, nn_add, nn_s, nn_2, nn_5, nn_7, nn_8, na0, na2, na3, na4, na5, na6, uf_ne, uf_eq, ur_eq, ur_ne, true_or, or_true, not_true_eq_false, not_false_eq_true, true_implies, false_implies, implies_true, e10, e01, reduceIte, Option.isSome_none, Option.isSome_some, Bool.false_eq_true, bi_t, bi_f]
    exact stop q v f a hq hk ha h1 h0
  | succ m ih =>
    intro q v f a hm hq h' hk ha h1 h0
    have hn := h'.2.1
    have hqn : q < n := by omega
    have ht := (h'.2.2 q hqn).2
    unfold P_M_number0_77 P_M_number0_130
    simp (disch := (first | assumption | omega)) only [true_and, and_true, zr_u, zi_u, zI_u, Option.some.injEq, exists_eq_left', nn_tn, nn_add, nn_s, nn_2, nn_5, nn_7, nn_8, na0, na2, na3, na4, na5, na6, uf_ne, uf_eq, ur_eq, ur_ne, true_or, or_true, not_true_eq_false, not_false_eq_true, true_implies, false_implies, implies_true, e10, e01, reduceIte, Option.isSome_none, Option.isSome_some, Bool.false_eq_true, bi_t, bi_f, ko_183, hk.1]
    refine Y_byteAt hC h' (by omega) ?_
    refine Y_isFigure h' (fun hF => ?_) (fun hF => ?_)
    · simp (disch := (first | assumption | omega)) only [true_and, and_true, zr_u, zi_u, zI_u, Option.some.injEq, exists_eq_left', nn_tn, nn_add, nn_s, nn_2, nn_5, nn_7, nn_8, na0, na2, na3, na4, na5, na6, uf_ne, uf_eq, ur_eq, ur_ne, true_or, or_true, not_true_eq_false, not_false_eq_true, true_implies, false_implies, implies_true, e10, e01, reduceIte, Option.isSome_none, Option.isSome_some, Bool.false_eq_true, bi_t, bi_f, hk.1]
      refine Y_byteAt hC h' (by omega) ?_
      have eb : qby t n q = nn (t q) := if_pos hqn
      rw [qdg_1 hF] at h1 h0
      rw [eb]
      simp (disch := (first | assumption | omega)) only [true_and, and_true, zr_u, zi_u, zI_u, Option.some.injEq, exists_eq_left', nn_tn, nn_add, nn_s, nn_2, nn_5, nn_7, nn_8, na0, na2, na3, na4, na5, na6, uf_ne, uf_eq, ur_eq, ur_ne, true_or, or_true, not_true_eq_false, not_false_eq_true, true_implies, false_implies, implies_true, e10, e01, reduceIte, Option.isSome_none, Option.isSome_some, Bool.false_eq_true, bi_t, bi_f, hk.1]
      have mm : min v 9999999999 ≤ 9999999999 := Nat.min_le_right _ _
      have c1 := l_mul ha l_10 (by omega)
      have c2 := l_add c1 (nn_64 (a := t q) (by omega)) (by omega)
      have c3 := l_sub (b := 48) (y := 48) c2 (by decide) (by omega) (by have := hF.2.1; omega)
      have hF1 := hF.2.1
      have hF2 := hF.2.2
      have hC0 : (9999999999 : Int64).toInt = (9999999999 : Nat) := by decide
      rw [lg_leq, c3, hC0]
      refine ⟨fun z => ?_, fun z => ?_⟩
      · refine ih (q + 1) (v * 10 + (t q - 48)) _ _ (by omega) (by omega) (h'.three (fr3.go f _)) (hk.go _) ?_ (fun f' x y1 y2 y3 => h1 f' x y1 ((fr3.go f _).trans y2) y3) (fun f' e y1 y2 y3 => h0 f' e y1 ((fr3.go f _).trans y2) y3)
        rw [c3]
        congr 1
        rcases Nat.le_total v 9999999999 with y | y
        · rw [Nat.min_eq_left y] at z ⊢; rw [Nat.min_eq_left (by omega)]; omega
        · rw [Nat.min_eq_right y] at z; omega
      · refine ih (q + 1) (v * 10 + (t q - 48)) _ _ (by omega) (by omega) (h'.three (fr3.go f _)) (hk.go _) ?_ (fun f' x y1 y2 y3 => h1 f' x y1 ((fr3.go f _).trans y2) y3) (fun f' e y1 y2 y3 => h0 f' e y1 ((fr3.go f _).trans y2) y3)
        rw [hC0]
        congr 1
        rcases Nat.le_total v 9999999999 with y | y
        · rw [Nat.min_eq_left y] at z; rw [Nat.min_eq_right (by omega)]
        · rw [Nat.min_eq_right (by omega)]
    · have e : qdg t n q v = (v, q) := qdg_0 hF
      rw [e] at h1 h0
      simp (disch := (first | assumption | omega)) only [true_and, and_true, zr_u, zi_u, zI_u, Option.some.injEq, exists_eq_left', nn_tn, nn_add, nn_s, nn_2, nn_5, nn_7, nn_8, na0, na2, na3, na4, na5, na6, uf_ne, uf_eq, ur_eq, ur_ne, true_or, or_true, not_true_eq_false, not_false_eq_true, true_implies, false_implies, implies_true, e10, e01, reduceIte, Option.isSome_none, Option.isSome_some, Bool.false_eq_true, bi_t, bi_f]
      exact stop q v f a hq hk ha h1 h0
theorem Y_number {f : zf} {ρ : zo} (hC : zC ρ) {t : Nat → Nat} {n p : Nat} {sg : Bool} {Q : Int32 → zS → Prop} (h' : hY f t n) (hp : p ≤ n) (hk : okY f p) (h1 : ∀ f' x, qnum t n sg p = .inr x → fr3 f f' → okY f' x.2 → Q x.1 (f', ρ)) (h0 : ∀ f' e, qnum t n sg p = .inl e → fr3 f f' → fM f' n e → Q 0 (f', ρ)) : P_M_number0 201 183 (bi sg) (f, ρ) Q := by
  have hn := h'.2.1
  have k46 : ∀ (neg : Bool) (q : Nat), q ≤ n → (qnum t n sg p = qnum' t n neg p q) → P_M_number0_46 201 Q 183 (nn p) (bi neg) 183 (nn q) (f, ρ) := by
    intro neg q g3 g4
    rw [g4] at h1 h0
    unfold P_M_number0_46
    simp (disch := (first | assumption | omega)) only [true_and, and_true, zr_u, zi_u, zI_u, Option.some.injEq, exists_eq_left', nn_tn, nn_add, nn_s, nn_2, nn_5, nn_7, nn_8, na0, na2, na3, na4, na5, na6, uf_ne, uf_eq, ur_eq, ur_ne, true_or, or_true, not_true_eq_false, not_false_eq_true, true_implies, false_implies, implies_true, e10, e01, reduceIte, Option.isSome_none, Option.isSome_some, Bool.false_eq_true, bi_t, bi_f, ko_183]
    have F1 := fr3.go f (nn q)
    have O1 := hk.go q
    have Y1 := h'.three F1
    generalize uf f 183 5 (nn q) = g at F1 O1 Y1 ⊢
    refine Y_byteAt hC Y1 (by omega) ?_
    refine Y_isFigure Y1 (fun hF => ?_) (fun hF => ?_)
    · have e : qnum' t n neg p q = qfin neg p (qdg t n q 0) := by unfold qnum'; rw [qdec_t hF]
      rw [e] at h1 h0
      simp (disch := (first | assumption | omega)) only [true_and, and_true, zr_u, zi_u, zI_u, Option.some.injEq, exists_eq_left', nn_tn, nn_add, nn_s, nn_2, nn_5, nn_7, nn_8, na0, na2, na3, na4, na5, na6, uf_ne, uf_eq, ur_eq, ur_ne, true_or, or_true, not_true_eq_false, not_false_eq_true, true_implies, false_implies, implies_true, e10, e01, reduceIte, Option.isSome_none, Option.isSome_some, Bool.false_eq_true, bi_t, bi_f]
      exact ⟨_, Y_digs hC (n - q) q 0 g 0 rfl g3 Y1 O1 (by decide) (fun f'' x y1 y2 y3 => h1 f'' x y1 (F1.trans y2) y3) (fun f'' e y1 y2 y3 => h0 f'' e y1 (F1.trans y2) y3)⟩
    · have e : qnum' t n neg p q = .inl (1, q) := by unfold qnum'; rw [qdec_f hF]
      rw [e] at h1 h0
      simp (disch := (first | assumption | omega)) only [true_and, and_true, zr_u, zi_u, zI_u, Option.some.injEq, exists_eq_left', nn_tn, nn_add, nn_s, nn_2, nn_5, nn_7, nn_8, na0, na2, na3, na4, na5, na6, uf_ne, uf_eq, ur_eq, ur_ne, true_or, or_true, not_true_eq_false, not_false_eq_true, true_implies, false_implies, implies_true, e10, e01, reduceIte, Option.isSome_none, Option.isSome_some, Bool.false_eq_true, bi_t, bi_f, O1.1]
      refine Y_fail O1.2.1 ?_
      rw [show (1 : Int32) = nn 1 from rfl]
      exact h0 _ (1, q) rfl (F1.trans (fr3.fail _ _ _)) (O1.fail g3 (by decide) (by decide))
  unfold P_M_number0 P_M_number0_26 P_M_number0_27
  cases sg with
  | false =>
    simp (disch := (first | assumption | omega)) only [true_and, and_true, zr_u, zi_u, zI_u, Option.some.injEq, exists_eq_left', nn_tn, nn_add, nn_s, nn_2, nn_5, nn_7, nn_8, na0, na2, na3, na4, na5, na6, uf_ne, uf_eq, ur_eq, ur_ne, true_or, or_true, not_true_eq_false, not_false_eq_true, true_implies, false_implies, implies_true, e10, e01, reduceIte, Option.isSome_none, Option.isSome_some, Bool.false_eq_true, bi_t, bi_f, ko_183, hk.1]
    exact k46 false p hp rfl
  | true =>
    simp (disch := (first | assumption | omega)) only [true_and, and_true, zr_u, zi_u, zI_u, Option.some.injEq, exists_eq_left', nn_tn, nn_add, nn_s, nn_2, nn_5, nn_7, nn_8, na0, na2, na3, na4, na5, na6, uf_ne, uf_eq, ur_eq, ur_ne, true_or, or_true, not_true_eq_false, not_false_eq_true, true_implies, false_implies, implies_true, e10, e01, reduceIte, Option.isSome_none, Option.isSome_some, Bool.false_eq_true, bi_t, bi_f, ko_183, hk.1]
    refine Y_byteAt hC h' (by omega) ?_
    rw [show (45 : Int32) = nn 45 from rfl, qyb_eq h' (by decide)]
    simp (disch := (first | assumption | omega)) only [true_and, and_true, zr_u, zi_u, zI_u, Option.some.injEq, exists_eq_left', nn_tn, nn_add, nn_s, nn_2, nn_5, nn_7, nn_8, na0, na2, na3, na4, na5, na6, uf_ne, uf_eq, ur_eq, ur_ne, true_or, or_true, not_true_eq_false, not_false_eq_true, true_implies, false_implies, implies_true, e10, e01, reduceIte, Option.isSome_none, Option.isSome_some, Bool.false_eq_true, bi_t, bi_f, hk.1]
    refine ⟨fun z => k46 false p hp ?_, fun z => k46 true (p + 1) (by have := z.1; omega) ?_⟩
    · unfold qnum; rw [qdec_f z]; rfl
    · unfold qnum; rw [qdec_t z]; rfl
/-- of row 183 only fields 3, 4, 5, 17, 18 differ -/
def fr4 (f f' : zf) : Prop := (∀ a, a ≠ 183 → f' a = f a) ∧ ∀ j, j ≠ 3 → j ≠ 4 → j ≠ 5 → j ≠ 17 → j ≠ 18 → f' 183 j = f 183 j
theorem fr3.to4 {f f' : zf} (h : fr3 f f') : fr4 f f' := ⟨h.1, fun j h1 h2 h3 _ _ => h.2 j h1 h2 h3⟩
theorem fr4.trans {f g h : zf} (a : fr4 f g) (b : fr4 g h) : fr4 f h := ⟨fun k h1 => by rw [b.1 k h1, a.1 k h1], fun j h1 h2 h3 h4 h5 => by rw [b.2 j h1 h2 h3 h4 h5, a.2 j h1 h2 h3 h4 h5]⟩
theorem fr4.k (f : zf) (x : Int32) : fr4 f (uf f 183 17 x) := ⟨fun a h => by simp (disch := (first | assumption | omega)) only [true_and, and_true, zr_u, zi_u, zI_u, Option.some.injEq, exists_eq_left', nn_tn, nn_add, nn_s, nn_2, nn_5, nn_7, nn_8, na0, na2, na3, na4, na5, na6, uf_ne, uf_eq, ur_eq, ur_ne, true_or, or_true, not_true_eq_false, not_false_eq_true, true_implies, false_implies, implies_true, e10, e01, reduceIte, Option.isSome_none, Option.isSome_some, Bool.false_eq_true, bi_t, bi_f], fun j h1 h2 h3 h4 h5 => by simp (disch := (first | assumption | omega)) only [true_and, and_true, zr_u, zi_u, zI_u, Option.some.injEq, exists_eq_left', nn_tn, nn_add, nn_s, nn_2, nn_5, nn_7, nn_8, na0, na2, na3, na4, na5, na6, uf_ne, uf_eq, ur_eq, ur_ne, true_or, or_true, not_true_eq_false, not_false_eq_true, true_implies, false_implies, implies_true, e10, e01, reduceIte, Option.isSome_none, Option.isSome_some, Bool.false_eq_true, bi_t, bi_f]⟩
theorem fr4.v (f : zf) (x : Int32) : fr4 f (uf f 183 18 x) := ⟨fun a h => by simp (disch := (first | assumption | omega)) only [true_and, and_true, zr_u, zi_u, zI_u, Option.some.injEq, exists_eq_left', nn_tn, nn_add, nn_s, nn_2, nn_5, nn_7, nn_8, na0, na2, na3, na4, na5, na6, uf_ne, uf_eq, ur_eq, ur_ne, true_or, or_true, not_true_eq_false, not_false_eq_true, true_implies, false_implies, implies_true, e10, e01, reduceIte, Option.isSome_none, Option.isSome_some, Bool.false_eq_true, bi_t, bi_f], fun j h1 h2 h3 h4 h5 => by simp (disch := (first | assumption | omega)) only [true_and, and_true, zr_u, zi_u, zI_u, Option.some.injEq, exists_eq_left', nn_tn, nn_add, nn_s, nn_2, nn_5, nn_7, nn_8, na0, na2, na3, na4, na5, na6, uf_ne, uf_eq, ur_eq, ur_ne, true_or, or_true, not_true_eq_false, not_false_eq_true, true_implies, false_implies, implies_true, e10, e01, reduceIte, Option.isSome_none, Option.isSome_some, Bool.false_eq_true, bi_t, bi_f]⟩
theorem hY.four {f f' : zf} {t : Nat → Nat} {n : Nat} (h : hY f t n) (a : fr4 f f') : hY f' t n := h.same (a.2 _ (by decide) (by decide) (by decide) (by decide) (by decide)) (a.1 _ (by decide))
theorem qnum_n {t : Nat → Nat} {n p : Nat} (h1 : ¬ qF t n p) (h2 : ¬ qE t n p 45) : qnum t n true p = .inl (1, p) := by
  unfold qnum; rw [qdec_f h2]; unfold qnum'; rw [Bool.and_false]; simp only [qdec_f h1]
theorem Y_op {f : zf} {ρ : zo} (hC : zC ρ) {t : Nat → Nat} {n p : Nat} {Q : zS → Prop} (h' : hY f t n) (hp : p ≤ n) (hk : okY f p) (h1 : ∀ f' x, qop t n p = .inr x → fr4 f f' → okY f' x.2 → oM (f' 183) 17 x.1 → Q (f', ρ)) (h0 : ∀ f' e, qop t n p = .inl e → fr4 f f' → fM f' n e → Q (f', ρ)) : P_M_operand 201 183 (f, ρ) Q := by
  have hn := h'.2.1
  have lq := qsk_n (t := t) hp
  unfold P_M_operand P_M_operand_85
  simp (disch := (first | assumption | omega)) only [true_and, and_true, zr_u, zi_u, zI_u, Option.some.injEq, exists_eq_left', nn_tn, nn_add, nn_s, nn_2, nn_5, nn_7, nn_8, na0, na2, na3, na4, na5, na6, uf_ne, uf_eq, ur_eq, ur_ne, true_or, or_true, not_true_eq_false, not_false_eq_true, true_implies, false_implies, implies_true, e10, e01, reduceIte, Option.isSome_none, Option.isSome_some, Bool.false_eq_true, bi_t, bi_f, ko_183]
  refine Y_skip hC h' hp hk.1 ?_
  have F1 := fr3.go f (nn (qsk t n p))
  have O1 := hk.go (qsk t n p)
  have Y1 := h'.three F1
  generalize uf f 183 5 (nn (qsk t n p)) = g at F1 O1 Y1 ⊢
  simp (disch := (first | assumption | omega)) only [true_and, and_true, zr_u, zi_u, zI_u, Option.some.injEq, exists_eq_left', nn_tn, nn_add, nn_s, nn_2, nn_5, nn_7, nn_8, na0, na2, na3, na4, na5, na6, uf_ne, uf_eq, ur_eq, ur_ne, true_or, or_true, not_true_eq_false, not_false_eq_true, true_implies, false_implies, implies_true, e10, e01, reduceIte, Option.isSome_none, Option.isSome_some, Bool.false_eq_true, bi_t, bi_f, O1.1]
  refine Y_byteAt hC Y1 (by omega) ?_
  refine Y_isLetter Y1 (fun hL => ?_) (fun hL => ?_)
  · have eb : qby t n (qsk t n p) = nn (t (qsk t n p)) := if_pos hL.1
    have hl := hL.2
    rw [eb, show (97 : Int32) = nn 97 from rfl, nn_sub (by omega)]
    simp (disch := (first | assumption | omega)) only [true_and, and_true, zr_u, zi_u, zI_u, Option.some.injEq, exists_eq_left', nn_tn, nn_add, nn_s, nn_2, nn_5, nn_7, nn_8, na0, na2, na3, na4, na5, na6, uf_ne, uf_eq, ur_eq, ur_ne, true_or, or_true, not_true_eq_false, not_false_eq_true, true_implies, false_implies, implies_true, e10, e01, reduceIte, Option.isSome_none, Option.isSome_some, Bool.false_eq_true, bi_t, bi_f, O1.1]
    refine h1 _ _ (qop_L hL) ⟨fun a z => by simp (disch := (first | assumption | omega)) only [true_and, and_true, zr_u, zi_u, zI_u, Option.some.injEq, exists_eq_left', nn_tn, nn_add, nn_s, nn_2, nn_5, nn_7, nn_8, na0, na2, na3, na4, na5, na6, uf_ne, uf_eq, ur_eq, ur_ne, true_or, or_true, not_true_eq_false, not_false_eq_true, true_implies, false_implies, implies_true, e10, e01, reduceIte, Option.isSome_none, Option.isSome_some, Bool.false_eq_true, bi_t, bi_f]; exact F1.1 a z, fun j z1 z2 z3 z4 z5 => by simp (disch := (first | assumption | omega)) only [true_and, and_true, zr_u, zi_u, zI_u, Option.some.injEq, exists_eq_left', nn_tn, nn_add, nn_s, nn_2, nn_5, nn_7, nn_8, na0, na2, na3, na4, na5, na6, uf_ne, uf_eq, ur_eq, ur_ne, true_or, or_true, not_true_eq_false, not_false_eq_true, true_implies, false_implies, implies_true, e10, e01, reduceIte, Option.isSome_none, Option.isSome_some, Bool.false_eq_true, bi_t, bi_f]; exact F1.2 j z1 z2 z3⟩ ⟨by simp (disch := (first | assumption | omega)) only [true_and, and_true, zr_u, zi_u, zI_u, Option.some.injEq, exists_eq_left', nn_tn, nn_add, nn_s, nn_2, nn_5, nn_7, nn_8, na0, na2, na3, na4, na5, na6, uf_ne, uf_eq, ur_eq, ur_ne, true_or, or_true, not_true_eq_false, not_false_eq_true, true_implies, false_implies, implies_true, e10, e01, reduceIte, Option.isSome_none, Option.isSome_some, Bool.false_eq_true, bi_t, bi_f], by simp (disch := (first | assumption | omega)) only [true_and, and_true, zr_u, zi_u, zI_u, Option.some.injEq, exists_eq_left', nn_tn, nn_add, nn_s, nn_2, nn_5, nn_7, nn_8, na0, na2, na3, na4, na5, na6, uf_ne, uf_eq, ur_eq, ur_ne, true_or, or_true, not_true_eq_false, not_false_eq_true, true_implies, false_implies, implies_true, e10, e01, reduceIte, Option.isSome_none, Option.isSome_some, Bool.false_eq_true, bi_t, bi_f]; exact O1.2.1, by simp (disch := (first | assumption | omega)) only [true_and, and_true, zr_u, zi_u, zI_u, Option.some.injEq, exists_eq_left', nn_tn, nn_add, nn_s, nn_2, nn_5, nn_7, nn_8, na0, na2, na3, na4, na5, na6, uf_ne, uf_eq, ur_eq, ur_ne, true_or, or_true, not_true_eq_false, not_false_eq_true, true_implies, false_implies, implies_true, e10, e01, reduceIte, Option.isSome_none, Option.isSome_some, Bool.false_eq_true, bi_t, bi_f]; exact O1.2.2⟩ ⟨by simp (disch := (first | assumption | omega)) only [true_and, and_true, zr_u, zi_u, zI_u, Option.some.injEq, exists_eq_left', nn_tn, nn_add, nn_s, nn_2, nn_5, nn_7, nn_8, na0, na2, na3, na4, na5, na6, uf_ne, uf_eq, ur_eq, ur_ne, true_or, or_true, not_true_eq_false, not_false_eq_true, true_implies, false_implies, implies_true, e10, e01, reduceIte, Option.isSome_none, Option.isSome_some, Bool.false_eq_true, bi_t, bi_f], by simp (disch := (first | assumption | omega)) only [true_and, and_true, zr_u, zi_u, zI_u, Option.some.injEq, exists_eq_left', nn_tn, nn_add, nn_s, nn_2, nn_5, nn_7, nn_8, na0, na2, na3, na4, na5, na6, uf_ne, uf_eq, ur_eq, ur_ne, true_or, or_true, not_true_eq_false, not_false_eq_true, true_implies, false_implies, implies_true, e10, e01, reduceIte, Option.isSome_none, Option.isSome_some, Bool.false_eq_true, bi_t, bi_f], by omega⟩
  · have num : P_M_operand_59 201 Q 183 (g, ρ) := by
      unfold P_M_operand_59 P_M_operand_85
      simp (disch := (first | assumption | omega)) only [true_and, and_true, zr_u, zi_u, zI_u, Option.some.injEq, exists_eq_left', nn_tn, nn_add, nn_s, nn_2, nn_5, nn_7, nn_8, na0, na2, na3, na4, na5, na6, uf_ne, uf_eq, ur_eq, ur_ne, true_or, or_true, not_true_eq_false, not_false_eq_true, true_implies, false_implies, implies_true, e10, e01, reduceIte, Option.isSome_none, Option.isSome_some, Bool.false_eq_true, bi_t, bi_f, ko_183]
      have F2 := fr4.k g 0
      have O2 : okY (uf g 183 17 0) (qsk t n p) := O1.same (by simp (disch := (first | assumption | omega)) only [true_and, and_true, zr_u, zi_u, zI_u, Option.some.injEq, exists_eq_left', nn_tn, nn_add, nn_s, nn_2, nn_5, nn_7, nn_8, na0, na2, na3, na4, na5, na6, uf_ne, uf_eq, ur_eq, ur_ne, true_or, or_true, not_true_eq_false, not_false_eq_true, true_implies, false_implies, implies_true, e10, e01, reduceIte, Option.isSome_none, Option.isSome_some, Bool.false_eq_true, bi_t, bi_f]) (by simp (disch := (first | assumption | omega)) only [true_and, and_true, zr_u, zi_u, zI_u, Option.some.injEq, exists_eq_left', nn_tn, nn_add, nn_s, nn_2, nn_5, nn_7, nn_8, na0, na2, na3, na4, na5, na6, uf_ne, uf_eq, ur_eq, ur_ne, true_or, or_true, not_true_eq_false, not_false_eq_true, true_implies, false_implies, implies_true, e10, e01, reduceIte, Option.isSome_none, Option.isSome_some, Bool.false_eq_true, bi_t, bi_f]) (by simp (disch := (first | assumption | omega)) only [true_and, and_true, zr_u, zi_u, zI_u, Option.some.injEq, exists_eq_left', nn_tn, nn_add, nn_s, nn_2, nn_5, nn_7, nn_8, na0, na2, na3, na4, na5, na6, uf_ne, uf_eq, ur_eq, ur_ne, true_or, or_true, not_true_eq_false, not_false_eq_true, true_implies, false_implies, implies_true, e10, e01, reduceIte, Option.isSome_none, Option.isSome_some, Bool.false_eq_true, bi_t, bi_f])
      have Y2 := Y1.four F2
      have k2 : uf g 183 17 0 183 17 = 0 := by simp (disch := (first | assumption | omega)) only [true_and, and_true, zr_u, zi_u, zI_u, Option.some.injEq, exists_eq_left', nn_tn, nn_add, nn_s, nn_2, nn_5, nn_7, nn_8, na0, na2, na3, na4, na5, na6, uf_ne, uf_eq, ur_eq, ur_ne, true_or, or_true, not_true_eq_false, not_false_eq_true, true_implies, false_implies, implies_true, e10, e01, reduceIte, Option.isSome_none, Option.isSome_some, Bool.false_eq_true, bi_t, bi_f]
      generalize uf g 183 17 0 = g2 at F2 O2 Y2 k2 ⊢
      refine Y_number (sg := true) hC Y2 lq O2 (fun f' x y1 y2 y3 => ?_) (fun f' e y1 y2 y3 => ?_)
      · simp (disch := (first | assumption | omega)) only [true_and, and_true, zr_u, zi_u, zI_u, Option.some.injEq, exists_eq_left', nn_tn, nn_add, nn_s, nn_2, nn_5, nn_7, nn_8, na0, na2, na3, na4, na5, na6, uf_ne, uf_eq, ur_eq, ur_ne, true_or, or_true, not_true_eq_false, not_false_eq_true, true_implies, false_implies, implies_true, e10, e01, reduceIte, Option.isSome_none, Option.isSome_some, Bool.false_eq_true, bi_t, bi_f]
        refine h1 _ _ (qop_N hL y1) ((F1.to4.trans F2).trans (y2.to4.trans (fr4.v _ _))) (y3.same (by simp (disch := (first | assumption | omega)) only [true_and, and_true, zr_u, zi_u, zI_u, Option.some.injEq, exists_eq_left', nn_tn, nn_add, nn_s, nn_2, nn_5, nn_7, nn_8, na0, na2, na3, na4, na5, na6, uf_ne, uf_eq, ur_eq, ur_ne, true_or, or_true, not_true_eq_false, not_false_eq_true, true_implies, false_implies, implies_true, e10, e01, reduceIte, Option.isSome_none, Option.isSome_some, Bool.false_eq_true, bi_t, bi_f]) (by simp (disch := (first | assumption | omega)) only [true_and, and_true, zr_u, zi_u, zI_u, Option.some.injEq, exists_eq_left', nn_tn, nn_add, nn_s, nn_2, nn_5, nn_7, nn_8, na0, na2, na3, na4, na5, na6, uf_ne, uf_eq, ur_eq, ur_ne, true_or, or_true, not_true_eq_false, not_false_eq_true, true_implies, false_implies, implies_true, e10, e01, reduceIte, Option.isSome_none, Option.isSome_some, Bool.false_eq_true, bi_t, bi_f]) (by simp (disch := (first | assumption | omega)) only [true_and, and_true, zr_u, zi_u, zI_u, Option.some.injEq, exists_eq_left', nn_tn, nn_add, nn_s, nn_2, nn_5, nn_7, nn_8, na0, na2, na3, na4, na5, na6, uf_ne, uf_eq, ur_eq, ur_ne, true_or, or_true, not_true_eq_false, not_false_eq_true, true_implies, false_implies, implies_true, e10, e01, reduceIte, Option.isSome_none, Option.isSome_some, Bool.false_eq_true, bi_t, bi_f])) ⟨?_, ?_⟩
        · simp (disch := (first | assumption | omega)) only [true_and, and_true, zr_u, zi_u, zI_u, Option.some.injEq, exists_eq_left', nn_tn, nn_add, nn_s, nn_2, nn_5, nn_7, nn_8, na0, na2, na3, na4, na5, na6, uf_ne, uf_eq, ur_eq, ur_ne, true_or, or_true, not_true_eq_false, not_false_eq_true, true_implies, false_implies, implies_true, e10, e01, reduceIte, Option.isSome_none, Option.isSome_some, Bool.false_eq_true, bi_t, bi_f]; rw [y2.2 17 (by decide) (by decide) (by decide)]; exact k2
        · show uf f' 183 18 x.1 183 18 = x.1
          simp (disch := (first | assumption | omega)) only [true_and, and_true, zr_u, zi_u, zI_u, Option.some.injEq, exists_eq_left', nn_tn, nn_add, nn_s, nn_2, nn_5, nn_7, nn_8, na0, na2, na3, na4, na5, na6, uf_ne, uf_eq, ur_eq, ur_ne, true_or, or_true, not_true_eq_false, not_false_eq_true, true_implies, false_implies, implies_true, e10, e01, reduceIte, Option.isSome_none, Option.isSome_some, Bool.false_eq_true, bi_t, bi_f]
      · simp (disch := (first | assumption | omega)) only [true_and, and_true, zr_u, zi_u, zI_u, Option.some.injEq, exists_eq_left', nn_tn, nn_add, nn_s, nn_2, nn_5, nn_7, nn_8, na0, na2, na3, na4, na5, na6, uf_ne, uf_eq, ur_eq, ur_ne, true_or, or_true, not_true_eq_false, not_false_eq_true, true_implies, false_implies, implies_true, e10, e01, reduceIte, Option.isSome_none, Option.isSome_some, Bool.false_eq_true, bi_t, bi_f]
        exact h0 _ e (qop_E hL y1) ((F1.to4.trans F2).trans (y2.to4.trans (fr4.v _ _))) (y3.same (by simp (disch := (first | assumption | omega)) only [true_and, and_true, zr_u, zi_u, zI_u, Option.some.injEq, exists_eq_left', nn_tn, nn_add, nn_s, nn_2, nn_5, nn_7, nn_8, na0, na2, na3, na4, na5, na6, uf_ne, uf_eq, ur_eq, ur_ne, true_or, or_true, not_true_eq_false, not_false_eq_true, true_implies, false_implies, implies_true, e10, e01, reduceIte, Option.isSome_none, Option.isSome_some, Bool.false_eq_true, bi_t, bi_f]) (by simp (disch := (first | assumption | omega)) only [true_and, and_true, zr_u, zi_u, zI_u, Option.some.injEq, exists_eq_left', nn_tn, nn_add, nn_s, nn_2, nn_5, nn_7, nn_8, na0, na2, na3, na4, na5, na6, uf_ne, uf_eq, ur_eq, ur_ne, true_or, or_true, not_true_eq_false, not_false_eq_true, true_implies, false_implies, implies_true, e10, e01, reduceIte, Option.isSome_none, Option.isSome_some, Bool.false_eq_true, bi_t, bi_f]) (by simp (disch := (first | assumption | omega)) only [true_and, and_true, zr_u, zi_u, zI_u, Option.some.injEq, exists_eq_left', nn_tn, nn_add, nn_s, nn_2, nn_5, nn_7, nn_8, na0, na2, na3, na4, na5, na6, uf_ne, uf_eq, ur_eq, ur_ne, true_or, or_true, not_true_eq_false, not_false_eq_true, true_implies, false_implies, implies_true, e10, e01, reduceIte, Option.isSome_none, Option.isSome_some, Bool.false_eq_true, bi_t, bi_f]))
    simp (disch := (first | assumption | omega)) only [true_and, and_true, zr_u, zi_u, zI_u, Option.some.injEq, exists_eq_left', nn_tn, nn_add, nn_s, nn_2, nn_5, nn_7, nn_8, na0, na2, na3, na4, na5, na6, uf_ne, uf_eq, ur_eq, ur_ne, true_or, or_true, not_true_eq_false, not_false_eq_true, true_implies, false_implies, implies_true, e10, e01, reduceIte, Option.isSome_none, Option.isSome_some, Bool.false_eq_true, bi_t, bi_f, O1.1]
    refine Y_isFigure Y1 (fun hF => ?_) (fun hF => ?_)
    · simp (disch := (first | assumption | omega)) only [true_and, and_true, zr_u, zi_u, zI_u, Option.some.injEq, exists_eq_left', nn_tn, nn_add, nn_s, nn_2, nn_5, nn_7, nn_8, na0, na2, na3, na4, na5, na6, uf_ne, uf_eq, ur_eq, ur_ne, true_or, or_true, not_true_eq_false, not_false_eq_true, true_implies, false_implies, implies_true, e10, e01, reduceIte, Option.isSome_none, Option.isSome_some, Bool.false_eq_true, bi_t, bi_f]
      exact num
    · rw [show (45 : Int32) = nn 45 from rfl, qyb_eq Y1 (by decide)]
      simp (disch := (first | assumption | omega)) only [true_and, and_true, zr_u, zi_u, zI_u, Option.some.injEq, exists_eq_left', nn_tn, nn_add, nn_s, nn_2, nn_5, nn_7, nn_8, na0, na2, na3, na4, na5, na6, uf_ne, uf_eq, ur_eq, ur_ne, true_or, or_true, not_true_eq_false, not_false_eq_true, true_implies, false_implies, implies_true, e10, e01, reduceIte, Option.isSome_none, Option.isSome_some, Bool.false_eq_true, bi_t, bi_f]
      refine ⟨fun z => ?_, fun z => num⟩
      refine Y_fail O1.2.1 ?_
      rw [O1.1, show (1 : Int32) = nn 1 from rfl]
      exact h0 _ (1, qsk t n p) (qop_E hL (qnum_n hF z)) (F1.trans (fr3.fail _ _ _)).to4 (O1.fail (k := 1) (pl := qsk t n p) lq (by decide) (by decide))
/-- only place s of row 191, and fields 3, 4, 5, differ -/
def frB (f f' : zf) (s : Nat) : Prop := (∀ a, a ≠ 183 → a ≠ 191 → f' a = f a) ∧ (∀ j, j ≠ 3 → j ≠ 4 → j ≠ 5 → f' 183 j = f 183 j) ∧ ∀ i, i ≠ s → f' 191 i = f 191 i
theorem Y_goal {f : zf} {ρ : zo} (hC : zC ρ) {t : Nat → Nat} {n p nb k : Nat} {Q : Int32 → zS → Prop} (h' : hY f t n) (hp : p ≤ n) (hk : okY f p) (hb : f 183 11 = nn nb) (hnb : nb < 24) (hk2 : k < 2) (h1 : ∀ f' r, qgoal t n p = .inr r → frB f f' (2 * nb + k) → okY f' r.2.2 → f' 191 (2 * nb + k) = nn r.2.1 → r.2.1 ≤ n → Q (nn r.1) (f', ρ)) (h0 : ∀ f' e, qgoal t n p = .inl e → frB f f' (2 * nb + k) → fM f' n e → Q 0 (f', ρ)) : P_M_blockNumber 201 183 (nn k) (f, ρ) Q := by
  have hn := h'.2.1
  have lq := qsk_n (t := t) hp
  unfold P_M_blockNumber
  simp (disch := (first | assumption | omega)) only [true_and, and_true, zr_u, zi_u, zI_u, Option.some.injEq, exists_eq_left', nn_tn, nn_add, nn_s, nn_2, nn_5, nn_7, nn_8, na0, na2, na3, na4, na5, na6, uf_ne, uf_eq, ur_eq, ur_ne, true_or, or_true, not_true_eq_false, not_false_eq_true, true_implies, false_implies, implies_true, e10, e01, reduceIte, Option.isSome_none, Option.isSome_some, Bool.false_eq_true, bi_t, bi_f, ko_183]
  refine Y_skip hC h' hp hk.1 ?_
  have O1 := hk.go (qsk t n p)
  simp (disch := (first | assumption | omega)) only [true_and, and_true, zr_u, zi_u, zI_u, Option.some.injEq, exists_eq_left', nn_tn, nn_add, nn_s, nn_2, nn_5, nn_7, nn_8, na0, na2, na3, na4, na5, na6, uf_ne, uf_eq, ur_eq, ur_ne, true_or, or_true, not_true_eq_false, not_false_eq_true, true_implies, false_implies, implies_true, e10, e01, reduceIte, Option.isSome_none, Option.isSome_some, Bool.false_eq_true, bi_t, bi_f, rc_183_16 hC, hb, ka_191]
  have O2 : okY (uf (uf f 183 5 (nn (qsk t n p))) 191 (2 * nb + k) (nn (qsk t n p))) (qsk t n p) := O1.same (by simp (disch := (first | assumption | omega)) only [true_and, and_true, zr_u, zi_u, zI_u, Option.some.injEq, exists_eq_left', nn_tn, nn_add, nn_s, nn_2, nn_5, nn_7, nn_8, na0, na2, na3, na4, na5, na6, uf_ne, uf_eq, ur_eq, ur_ne, true_or, or_true, not_true_eq_false, not_false_eq_true, true_implies, false_implies, implies_true, e10, e01, reduceIte, Option.isSome_none, Option.isSome_some, Bool.false_eq_true, bi_t, bi_f]) (by simp (disch := (first | assumption | omega)) only [true_and, and_true, zr_u, zi_u, zI_u, Option.some.injEq, exists_eq_left', nn_tn, nn_add, nn_s, nn_2, nn_5, nn_7, nn_8, na0, na2, na3, na4, na5, na6, uf_ne, uf_eq, ur_eq, ur_ne, true_or, or_true, not_true_eq_false, not_false_eq_true, true_implies, false_implies, implies_true, e10, e01, reduceIte, Option.isSome_none, Option.isSome_some, Bool.false_eq_true, bi_t, bi_f]) (by simp (disch := (first | assumption | omega)) only [true_and, and_true, zr_u, zi_u, zI_u, Option.some.injEq, exists_eq_left', nn_tn, nn_add, nn_s, nn_2, nn_5, nn_7, nn_8, na0, na2, na3, na4, na5, na6, uf_ne, uf_eq, ur_eq, ur_ne, true_or, or_true, not_true_eq_false, not_false_eq_true, true_implies, false_implies, implies_true, e10, e01, reduceIte, Option.isSome_none, Option.isSome_some, Bool.false_eq_true, bi_t, bi_f])
  have Y2 : hY (uf (uf f 183 5 (nn (qsk t n p))) 191 (2 * nb + k) (nn (qsk t n p))) t n := h'.same (by simp (disch := (first | assumption | omega)) only [true_and, and_true, zr_u, zi_u, zI_u, Option.some.injEq, exists_eq_left', nn_tn, nn_add, nn_s, nn_2, nn_5, nn_7, nn_8, na0, na2, na3, na4, na5, na6, uf_ne, uf_eq, ur_eq, ur_ne, true_or, or_true, not_true_eq_false, not_false_eq_true, true_implies, false_implies, implies_true, e10, e01, reduceIte, Option.isSome_none, Option.isSome_some, Bool.false_eq_true, bi_t, bi_f]) (by simp (disch := (first | assumption | omega)) only [true_and, and_true, zr_u, zi_u, zI_u, Option.some.injEq, exists_eq_left', nn_tn, nn_add, nn_s, nn_2, nn_5, nn_7, nn_8, na0, na2, na3, na4, na5, na6, uf_ne, uf_eq, ur_eq, ur_ne, true_or, or_true, not_true_eq_false, not_false_eq_true, true_implies, false_implies, implies_true, e10, e01, reduceIte, Option.isSome_none, Option.isSome_some, Bool.false_eq_true, bi_t, bi_f])
  have B2 : frB f (uf (uf f 183 5 (nn (qsk t n p))) 191 (2 * nb + k) (nn (qsk t n p))) (2 * nb + k) := ⟨fun a z1 z2 => by simp (disch := (first | assumption | omega)) only [true_and, and_true, zr_u, zi_u, zI_u, Option.some.injEq, exists_eq_left', nn_tn, nn_add, nn_s, nn_2, nn_5, nn_7, nn_8, na0, na2, na3, na4, na5, na6, uf_ne, uf_eq, ur_eq, ur_ne, true_or, or_true, not_true_eq_false, not_false_eq_true, true_implies, false_implies, implies_true, e10, e01, reduceIte, Option.isSome_none, Option.isSome_some, Bool.false_eq_true, bi_t, bi_f], fun j z1 z2 z3 => by simp (disch := (first | assumption | omega)) only [true_and, and_true, zr_u, zi_u, zI_u, Option.some.injEq, exists_eq_left', nn_tn, nn_add, nn_s, nn_2, nn_5, nn_7, nn_8, na0, na2, na3, na4, na5, na6, uf_ne, uf_eq, ur_eq, ur_ne, true_or, or_true, not_true_eq_false, not_false_eq_true, true_implies, false_implies, implies_true, e10, e01, reduceIte, Option.isSome_none, Option.isSome_some, Bool.false_eq_true, bi_t, bi_f], fun i hi => by simp (disch := (first | assumption | omega)) only [true_and, and_true, zr_u, zi_u, zI_u, Option.some.injEq, exists_eq_left', nn_tn, nn_add, nn_s, nn_2, nn_5, nn_7, nn_8, na0, na2, na3, na4, na5, na6, uf_ne, uf_eq, ur_eq, ur_ne, true_or, or_true, not_true_eq_false, not_false_eq_true, true_implies, false_implies, implies_true, e10, e01, reduceIte, Option.isSome_none, Option.isSome_some, Bool.false_eq_true, bi_t, bi_f]⟩
  have V2 : uf (uf f 183 5 (nn (qsk t n p))) 191 (2 * nb + k) (nn (qsk t n p)) 191 (2 * nb + k) = nn (qsk t n p) := by simp (disch := (first | assumption | omega)) only [true_and, and_true, zr_u, zi_u, zI_u, Option.some.injEq, exists_eq_left', nn_tn, nn_add, nn_s, nn_2, nn_5, nn_7, nn_8, na0, na2, na3, na4, na5, na6, uf_ne, uf_eq, ur_eq, ur_ne, true_or, or_true, not_true_eq_false, not_false_eq_true, true_implies, false_implies, implies_true, e10, e01, reduceIte, Option.isSome_none, Option.isSome_some, Bool.false_eq_true, bi_t, bi_f]
  generalize uf (uf f 183 5 (nn (qsk t n p))) 191 (2 * nb + k) (nn (qsk t n p)) = g at O2 Y2 B2 V2 ⊢
  have fw : ∀ g', fr3 g g' → frB f g' (2 * nb + k) := fun g' hg => ⟨fun a z1 z2 => by rw [hg.1 a z1]; exact B2.1 a z1 z2, fun j z1 z2 z3 => by rw [hg.2 j z1 z2 z3]; exact B2.2.1 j z1 z2 z3, fun i hi => by rw [hg.1 191 (by decide)]; exact B2.2.2 i hi⟩
  refine Y_number (sg := false) hC Y2 lq O2 (fun f2 x z1 z2 z3 => ?_) (fun f2 e z1 z2 z3 => ?_)
  · obtain ⟨v, hv, ev⟩ := qnum_f z1
    have := h1 f2 _ (qgoal_1 z1) (fw f2 z2) z3 (by rw [z2.1 191 (by decide)]; exact V2) lq
    rw [ev, nn_tn hv] at this
    rw [ev]; exact this
  · exact h0 f2 e (qgoal_0 z1) (fw f2 z2) z3
theorem Y_operator {f : zf} {t : Nat → Nat} {n q : Nat} {σ : zS} {Q : Int32 → zS → Prop} (h : hY f t n) (h1 : qO t n q → Q (nn (hix (t q))) σ) (h0 : ¬ qO t n q → Q (-1) σ) : P_M_operator 201 (qby t n q) σ Q := by
  unfold P_M_operator
  by_cases hq : q < n
  · have e : qby t n q = nn (t q) := if_pos hq
    have ht := (h.2.2 q hq).2
    rw [e]
    simp only [show (37 : Int32) = nn 37 from rfl, show (38 : Int32) = nn 38 from rfl, show (42 : Int32) = nn 42 from rfl, show (43 : Int32) = nn 43 from rfl, show (45 : Int32) = nn 45 from rfl, show (47 : Int32) = nn 47 from rfl, show (60 : Int32) = nn 60 from rfl, show (61 : Int32) = nn 61 from rfl, show (94 : Int32) = nn 94 from rfl, show (124 : Int32) = nn 124 from rfl]
    simp (disch := omega) only [nn_eq]
    have go : ∀ c k, t q = c → isop c → hix c = k → Q (nn k) σ := by
      intro c k e1 e2 e3
      have := h1 ⟨hq, by rw [e1]; exact e2⟩
      rw [e1, e3] at this; exact this
    refine ⟨fun z => go 37 4 z (by unfold isop; omega) rfl, fun z => go 38 5 z (by unfold isop; omega) rfl, fun z => go 42 2 z (by unfold isop; omega) rfl, fun z => go 43 0 z (by unfold isop; omega) rfl, fun z => go 45 1 z (by unfold isop; omega) rfl, fun z => go 47 3 z (by unfold isop; omega) rfl, fun z => go 60 8 z (by unfold isop; omega) rfl, fun z => go 61 9 z (by unfold isop; omega) rfl, fun z => go 94 7 z (by unfold isop; omega) rfl, fun z => go 124 6 z (by unfold isop; omega) rfl, fun a1 a2 a3 a4 a5 a6 a7 a8 a9 a10 => h0 (fun z => ?_)⟩
    have := z.2
    unfold isop at this
    omega
  · have e : qby t n q = -1 := if_neg hq
    rw [e]
    exact ⟨fun z => absurd z (by decide), fun z => absurd z (by decide), fun z => absurd z (by decide), fun z => absurd z (by decide), fun z => absurd z (by decide), fun z => absurd z (by decide), fun z => absurd z (by decide), fun z => absurd z (by decide), fun z => absurd z (by decide), fun z => absurd z (by decide), fun _ _ _ _ _ _ _ _ _ _ => h0 (fun z => hq z.1)⟩
