/-! The parser: mathematics. -/
def qby (t : Nat → Nat) (n i : Nat) : Int32 := if i < n then nn (t i) else -1
def qL (t : Nat → Nat) (n q : Nat) : Prop := q < n ∧ 97 ≤ t q ∧ t q < 105
def qF (t : Nat → Nat) (n q : Nat) : Prop := q < n ∧ 48 ≤ t q ∧ t q ≤ 57
def qE (t : Nat → Nat) (n q c : Nat) : Prop := q < n ∧ t q = c
noncomputable def qdec (p : Prop) : Bool := @decide p (Classical.propDecidable p)
theorem qdec_i {p : Prop} : qdec p = true ↔ p := @decide_eq_true_iff p (Classical.propDecidable p)
theorem qdec_t {p : Prop} (h : p) : qdec p = true := qdec_i.mpr h
theorem qdec_f {p : Prop} (h : ¬ p) : qdec p = false := by
  cases e : qdec p with
  | false => rfl
  | true => exact absurd (qdec_i.mp e) h
/-- behind what doesn't count -/
def qsk' (t : Nat → Nat) (n : Nat) : Nat → Nat → Nat
  | 0, p => p
  | m + 1, p => if p < n ∧ t p ≤ 32 then qsk' t n m (p + 1) else p
def qsk (t : Nat → Nat) (n p : Nat) : Nat := qsk' t n (n - p) p
theorem qsk_1 {t : Nat → Nat} {n p : Nat} (h : p < n ∧ t p ≤ 32) : qsk t n p = qsk t n (p + 1) := by
  unfold qsk
  rw [show n - p = (n - (p + 1)) + 1 by omega]
  show (if p < n ∧ t p ≤ 32 then _ else _) = _
  rw [if_pos h]
theorem qsk_0 {t : Nat → Nat} {n p : Nat} (h : ¬ (p < n ∧ t p ≤ 32)) : qsk t n p = p := by
  unfold qsk
  cases n - p with
  | zero => rfl
  | succ m => show (if p < n ∧ t p ≤ 32 then _ else _) = _; rw [if_neg h]
theorem qsk_le {t : Nat → Nat} {n : Nat} : ∀ m p, n - p = m → p ≤ qsk t n p ∧ (p ≤ n → qsk t n p ≤ n) ∧ ¬ (qsk t n p < n ∧ t (qsk t n p) ≤ 32)
  | 0, p, e => by
    rw [qsk_0 (by omega)]; exact ⟨Nat.le_refl _, fun h => h, by omega⟩
  | m + 1, p, e => by
    by_cases h : p < n ∧ t p ≤ 32
    · have := qsk_le (t := t) (n := n) m (p + 1) (by omega)
      rw [qsk_1 h]; exact ⟨by omega, fun _ => this.2.1 (by omega), this.2.2⟩
    · rw [qsk_0 h]; exact ⟨Nat.le_refl _, fun h => h, h⟩
theorem qsk_ge (t : Nat → Nat) (n p : Nat) : p ≤ qsk t n p := (qsk_le _ p rfl).1
theorem qsk_n {t : Nat → Nat} {n p : Nat} (h : p ≤ n) : qsk t n p ≤ n := (qsk_le _ p rfl).2.1 h
theorem qsk_idem (t : Nat → Nat) (n p : Nat) : qsk t n (qsk t n p) = qsk t n p := qsk_0 (qsk_le _ p rfl).2.2
def qdg' (t : Nat → Nat) (n : Nat) : Nat → Nat → Nat → Nat × Nat
  | 0, p, v => (v, p)
  | m + 1, p, v => if p < n ∧ 48 ≤ t p ∧ t p ≤ 57 then qdg' t n m (p + 1) (v * 10 + (t p - 48)) else (v, p)
def qdg (t : Nat → Nat) (n p v : Nat) : Nat × Nat := qdg' t n (n - p) p v
theorem qdg_1 {t : Nat → Nat} {n p v : Nat} (h : qF t n p) : qdg t n p v = qdg t n (p + 1) (v * 10 + (t p - 48)) := by
  unfold qdg
  have h0 := h.1
  rw [show n - p = (n - (p + 1)) + 1 by omega]
  show (if p < n ∧ 48 ≤ t p ∧ t p ≤ 57 then _ else _) = _
  rw [if_pos (show p < n ∧ 48 ≤ t p ∧ t p ≤ 57 from h)]
theorem qdg_0 {t : Nat → Nat} {n p v : Nat} (h : ¬ qF t n p) : qdg t n p v = (v, p) := by
  unfold qdg
  cases n - p with
  | zero => rfl
  | succ m => show (if p < n ∧ 48 ≤ t p ∧ t p ≤ 57 then _ else _) = _; rw [if_neg (show ¬ (p < n ∧ 48 ≤ t p ∧ t p ≤ 57) from h)]
theorem qdg_n {t : Nat → Nat} {n : Nat} : ∀ m p v, n - p = m → p ≤ n → p ≤ (qdg t n p v).2 ∧ (qdg t n p v).2 ≤ n
  | 0, p, v, e, h => by
    rw [qdg_0 (fun z => by have := z.1; omega)]; exact ⟨Nat.le_refl _, h⟩
  | m + 1, p, v, e, h => by
    by_cases hF : qF t n p
    · rw [qdg_1 hF]
      have := qdg_n (t := t) (n := n) m (p + 1) (v * 10 + (t p - 48)) (by omega) (by have := hF.1; omega)
      omega
    · rw [qdg_0 hF]; exact ⟨Nat.le_refl _, h⟩
abbrev qR (α : Type) : Type := Sum (Nat × Nat) α
/-- the end of a number: its value or a fault -/
def qfin (neg : Bool) (p : Nat) (r : Nat × Nat) : qR (Int32 × Nat) := match neg with
  | true => if r.1 ≤ 2147483648 then .inr (Int32.ofInt (-(r.1 : Int)), r.2) else .inl (2, p)
  | false => if r.1 ≤ 2147483647 then .inr (nn r.1, r.2) else .inl (2, p)
noncomputable def qnum' (t : Nat → Nat) (n : Nat) (neg : Bool) (p q : Nat) : qR (Int32 × Nat) := match qdec (qF t n q) with
  | true => qfin neg p (qdg t n q 0)
  | false => .inl (1, q)
noncomputable def qnum (t : Nat → Nat) (n : Nat) (sg : Bool) (p : Nat) : qR (Int32 × Nat) := match sg && qdec (qE t n p 45) with
  | true => qnum' t n true p (p + 1)
  | false => qnum' t n false p p
noncomputable def qop (t : Nat → Nat) (n p : Nat) : qR (mO × Nat) := match qdec (qL t n (qsk t n p)) with
  | true => .inr (.inl (t (qsk t n p) - 97), qsk t n p + 1)
  | false => (match qnum t n true (qsk t n p) with
    | .inl e => .inl e
    | .inr r => .inr (.inr r.1, r.2))
noncomputable def qwant (t : Nat → Nat) (n c p : Nat) : qR Nat := match qdec (qE t n (qsk t n p) c) with
  | true => .inr (qsk t n p + 1)
  | false => .inl (1, qsk t n p)
theorem qfin_pos {neg : Bool} {p : Nat} {r : Nat × Nat} {x : Int32 × Nat} (h : qfin neg p r = .inr x) : x.2 = r.2 := by
  unfold qfin at h
  cases neg <;> simp only at h <;> split at h <;> cases h <;> rfl
theorem qnum_pos {t : Nat → Nat} {n : Nat} {sg : Bool} {p : Nat} {x : Int32 × Nat} (h : qnum t n sg p = .inr x) (hp : p ≤ n) : p < x.2 ∧ x.2 ≤ n := by
  unfold qnum at h
  have key : ∀ neg q, p ≤ q → q ≤ n → qnum' t n neg p q = .inr x → p < x.2 ∧ x.2 ≤ n := by
    intro neg q h1 h2 h3
    unfold qnum' at h3
    cases hd : qdec (qF t n q) with
    | false => rw [hd] at h3; cases h3
    | true =>
      rw [hd] at h3
      rw [qfin_pos h3, qdg_1 (qdec_i.mp hd)]
      have := qdg_n (t := t) (n := n) _ (q + 1) (0 * 10 + (t q - 48)) rfl (by have := (qdec_i.mp hd).1; omega)
      omega
  cases hd : (sg && qdec (qE t n p 45)) with
  | false => rw [hd] at h; exact key false p (Nat.le_refl _) hp h
  | true =>
    rw [hd] at h
    have : qE t n p 45 := qdec_i.mp (by
      cases sg with
      | false => cases hd
      | true => exact hd)
    exact key true (p + 1) (by omega) (by have := this.1; omega) h
theorem qop_pos {t : Nat → Nat} {n p : Nat} {x : mO × Nat} (h : qop t n p = .inr x) (hp : p ≤ n) : p < x.2 ∧ x.2 ≤ n := by
  have h1 := qsk_ge t n p
  have h2 := qsk_n (t := t) hp
  unfold qop at h
  cases hd : qdec (qL t n (qsk t n p)) with
  | true =>
    rw [hd] at h
    cases h
    have := (qdec_i.mp hd).1
    exact ⟨by show p < qsk t n p + 1; omega, this⟩
  | false =>
    rw [hd] at h
    simp only at h
    cases hq : qnum t n true (qsk t n p) with
    | inl e => rw [hq] at h; cases h
    | inr r =>
      rw [hq] at h
      cases h
      have := qnum_pos hq h2
      exact ⟨by show p < r.2; omega, this.2⟩
theorem qwant_pos {t : Nat → Nat} {n c p x : Nat} (h : qwant t n c p = .inr x) (hp : p ≤ n) : p < x ∧ x ≤ n := by
  have h1 := qsk_ge t n p
  unfold qwant at h
  cases hd : qdec (qE t n (qsk t n p) c) with
  | false => rw [hd] at h; cases h
  | true =>
    rw [hd] at h
    cases h
    have := (qdec_i.mp hd).1
    omega
/-! The parser: the class, its leaves. -/
/-- the tape -/
def hR (f : zf) (t : Nat → Nat) (n : Nat) : Prop := f 1 1 = nn n ∧ n ≤ 700 ∧ ∀ i, i < n → f 2 i &&& 255 = nn (t i) ∧ t i < 256
theorem hR.same {f f' : zf} {t : Nat → Nat} {n : Nat} (h : hR f t n) (h1 : f' 1 = f 1) (h2 : f' 2 = f 2) : hR f' t n := by
  unfold hR; rw [h1, h2]; exact h
theorem hR.byt {f : zf} {t : Nat → Nat} {n : Nat} (h : hR f t n) (i : Nat) : rb (f 2) n i = qby t n i := by
  unfold rb qby
  by_cases hi : i < n
  · rw [if_pos hi, if_pos hi, (h.2.2 i hi).1]
  · rw [if_neg hi, if_neg hi]
theorem qby_eq {f : zf} {t : Nat → Nat} {n : Nat} (h : hR f t n) {q c : Nat} (hc : c < 256) : (qby t n q = nn c) = qE t n q c := by
  unfold qby qE
  refine propext ?_
  by_cases hq : q < n
  · rw [if_pos hq, nn_eq (by have := (h.2.2 q hq).2; omega) (by omega)]
    exact ⟨fun e => ⟨hq, e⟩, fun e => e.2⟩
  · rw [if_neg hq]
    refine ⟨fun e => ?_, fun e => absurd e.1 hq⟩
    have := nn_m1 (a := c) (by omega)
    rw [← e] at this
    rw [eq_self] at this
    exact absurd this (by simp)
theorem uf_self {f : zf} {k j : Nat} {x : Int32} (h : f k j = x) : uf f k j x = f := by
  funext a
  by_cases e : a = k
  · subst e
    rw [uf_eq]; funext b
    by_cases e2 : b = j
    · subst e2; rw [ur_eq, h]
    · rw [ur_ne _ e2]
  · rw [uf_ne _ e]
theorem uf_uf {f : zf} {k j : Nat} {x y : Int32} : uf (uf f k j x) k j y = uf f k j y := by
  funext a
  by_cases e : a = k
  · subst e
    rw [uf_eq, uf_eq, uf_eq]; funext b
    by_cases e2 : b = j
    · subst e2; rw [ur_eq, ur_eq]
    · rw [ur_ne _ e2, ur_ne _ e2, ur_ne _ e2]
  · rw [uf_ne _ e, uf_ne _ e, uf_ne _ e]
theorem s_next {f : zf} {ρ : zo} (hC : zC ρ) {t : Nat → Nat} {n p : Nat} {Q : Int32 → zS → Prop} (hR' : hR f t n) (hp : p ≤ n) (ha : f 5 3 = nn p) (h : Q (qby t n (qsk t n p)) (uf f 5 3 (nn (qsk t n p)), ρ)) : P_R_next 201 5 (f, ρ) Q := by
  have hn := hR'.2.1
  have stop : ∀ (f' : zf) (q : Nat), hR f' t n → q ≤ n → f' 5 3 = nn q → Q (qby t n q) (f', ρ) → P_R_next_44 201 Q 5 (f', ρ) := by
    intro f' q h1 h2 h3 h4
    unfold P_R_next_44
    simp (disch := (first | assumption | omega)) only [true_and, and_true, zr_u, zi_u, zI_u, Option.some.injEq, exists_eq_left', nn_tn, nn_add, nn_s, nn_2, nn_5, nn_7, nn_8, na0, na2, na3, na4, na5, na6, uf_ne, uf_eq, ur_eq, ur_ne, true_or, or_true, not_true_eq_false, not_false_eq_true, true_implies, false_implies, implies_true, e10, e01, reduceIte, Option.isSome_none, Option.isSome_some, Bool.false_eq_true, bi_t, bi_f, ko_5, rc_5_0 hC, ko_1, h3]
    refine s_byteAt (t := 1) hC (Or.inl ⟨rfl, hn⟩) h1.1 (by omega) ?_
    rw [show (1 : Nat) + 1 = 2 from rfl, h1.byt]; exact h4
  have key : ∀ (m q : Nat) (f' : zf), n - q = m → q ≤ n → hR f' t n → f' 5 3 = nn q → Q (qby t n (qsk t n q)) (uf f' 5 3 (nn (qsk t n q)), ρ) → P_R_next_0 201 Q (m + 1) 5 (f', ρ) := by
    intro m
    induction m with
    | zero =>
      intro q f' hm hq h1 h2 h3
      unfold P_R_next_0
      simp (disch := (first | assumption | omega)) only [true_and, and_true, zr_u, zi_u, zI_u, Option.some.injEq, exists_eq_left', nn_tn, nn_add, nn_s, nn_2, nn_5, nn_7, nn_8, na0, na2, na3, na4, na5, na6, uf_ne, uf_eq, ur_eq, ur_ne, true_or, or_true, not_true_eq_false, not_false_eq_true, true_implies, false_implies, implies_true, e10, e01, reduceIte, Option.isSome_none, Option.isSome_some, Bool.false_eq_true, bi_t, bi_f, ko_5, rc_5_0 hC, ko_1, h2, h1.1]
      simp (disch := omega) only [nn_le]
      refine ⟨fun _ => ?_, fun z => absurd (by omega) z⟩
      rw [qsk_0 (by omega), uf_self h2] at h3
      exact stop f' q h1 hq h2 h3
    | succ m ih =>
      intro q f' hm hq h1 h2 h3
      unfold P_R_next_0
      simp (disch := (first | assumption | omega)) only [true_and, and_true, zr_u, zi_u, zI_u, Option.some.injEq, exists_eq_left', nn_tn, nn_add, nn_s, nn_2, nn_5, nn_7, nn_8, na0, na2, na3, na4, na5, na6, uf_ne, uf_eq, ur_eq, ur_ne, true_or, or_true, not_true_eq_false, not_false_eq_true, true_implies, false_implies, implies_true, e10, e01, reduceIte, Option.isSome_none, Option.isSome_some, Bool.false_eq_true, bi_t, bi_f, ko_5, rc_5_0 hC, ko_1, h2, h1.1]
      simp (disch := omega) only [nn_le]
      refine ⟨fun z => absurd z (by omega), fun _ => ?_⟩
      refine s_byteAt (t := 1) hC (Or.inl ⟨rfl, hn⟩) h1.1 (by omega) ?_
      rw [show (1 : Nat) + 1 = 2 from rfl, h1.byt]
      have e : qby t n q = nn (t q) := if_pos (by omega)
      have ht := (h1.2.2 q (by omega)).2
      rw [e, show (32 : Int32) = nn 32 from rfl, nn_lt (by omega) (by omega)]
      refine ⟨fun z => ?_, fun z => ?_⟩
      · rw [qsk_0 (by omega), uf_self h2] at h3
        exact stop f' q h1 hq h2 h3
      · simp (disch := (first | assumption | omega)) only [true_and, and_true, zr_u, zi_u, zI_u, Option.some.injEq, exists_eq_left', nn_tn, nn_add, nn_s, nn_2, nn_5, nn_7, nn_8, na0, na2, na3, na4, na5, na6, uf_ne, uf_eq, ur_eq, ur_ne, true_or, or_true, not_true_eq_false, not_false_eq_true, true_implies, false_implies, implies_true, e10, e01, reduceIte, Option.isSome_none, Option.isSome_some, Bool.false_eq_true, bi_t, bi_f, h2]
        refine ih (q + 1) _ (by omega) (by omega) (h1.same (uf_ne _ (by decide)) (uf_ne _ (by decide))) (by simp (disch := (first | assumption | omega)) only [true_and, and_true, zr_u, zi_u, zI_u, Option.some.injEq, exists_eq_left', nn_tn, nn_add, nn_s, nn_2, nn_5, nn_7, nn_8, na0, na2, na3, na4, na5, na6, uf_ne, uf_eq, ur_eq, ur_ne, true_or, or_true, not_true_eq_false, not_false_eq_true, true_implies, false_implies, implies_true, e10, e01, reduceIte, Option.isSome_none, Option.isSome_some, Bool.false_eq_true, bi_t, bi_f]) ?_
        rw [uf_uf, ← qsk_1 ⟨by omega, by omega⟩]; exact h3
  exact ⟨_, key (n - p) p f rfl hp hR' ha h⟩
/-- only row 5 differs -/
def fr5 (f f' : zf) : Prop := ∀ a, a ≠ 5 → f' a = f a
theorem fr5.rfl' (f : zf) : fr5 f f := fun _ _ => rfl
theorem fr5.trans {f g h : zf} (a : fr5 f g) (b : fr5 g h) : fr5 f h := fun k h1 => by rw [b k h1, a k h1]
theorem fr5.put {f g : zf} (a : fr5 f g) (j : Nat) (x : Int32) : fr5 f (uf g 5 j x) := fun k h1 => by rw [uf_ne _ h1, a k h1]
theorem hR.five {f f' : zf} {t : Nat → Nat} {n : Nat} (h : hR f t n) (a : fr5 f f') : hR f' t n := h.same (a _ (by decide)) (a _ (by decide))
/-- it stands at q, and there is no fault -/
def okp (f : zf) (q : Nat) : Prop := f 5 3 = nn q ∧ f 5 5 = 0 ∧ f 5 6 = -1
def flt (f : zf) (e : Nat × Nat) : Prop := f 5 5 = nn e.1 ∧ f 5 6 = nn e.2
theorem okp.go {f : zf} {q : Nat} (h : okp f q) (r : Nat) : okp (uf f 5 3 (nn r)) r := ⟨by simp (disch := (first | assumption | omega)) only [true_and, and_true, zr_u, zi_u, zI_u, Option.some.injEq, exists_eq_left', nn_tn, nn_add, nn_s, nn_2, nn_5, nn_7, nn_8, na0, na2, na3, na4, na5, na6, uf_ne, uf_eq, ur_eq, ur_ne, true_or, or_true, not_true_eq_false, not_false_eq_true, true_implies, false_implies, implies_true, e10, e01, reduceIte, Option.isSome_none, Option.isSome_some, Bool.false_eq_true, bi_t, bi_f], by simp (disch := (first | assumption | omega)) only [true_and, and_true, zr_u, zi_u, zI_u, Option.some.injEq, exists_eq_left', nn_tn, nn_add, nn_s, nn_2, nn_5, nn_7, nn_8, na0, na2, na3, na4, na5, na6, uf_ne, uf_eq, ur_eq, ur_ne, true_or, or_true, not_true_eq_false, not_false_eq_true, true_implies, false_implies, implies_true, e10, e01, reduceIte, Option.isSome_none, Option.isSome_some, Bool.false_eq_true, bi_t, bi_f]; exact h.2.1, by simp (disch := (first | assumption | omega)) only [true_and, and_true, zr_u, zi_u, zI_u, Option.some.injEq, exists_eq_left', nn_tn, nn_add, nn_s, nn_2, nn_5, nn_7, nn_8, na0, na2, na3, na4, na5, na6, uf_ne, uf_eq, ur_eq, ur_ne, true_or, or_true, not_true_eq_false, not_false_eq_true, true_implies, false_implies, implies_true, e10, e01, reduceIte, Option.isSome_none, Option.isSome_some, Bool.false_eq_true, bi_t, bi_f]; exact h.2.2⟩
theorem s_refuse {f : zf} {ρ : zo} {k pl : Nat} {Q : Int32 → zS → Prop} (h : ∀ f', fr5 f f' → flt f' (k, pl) → Q 0 (f', ρ)) : P_R_refuse 201 5 (nn k) (nn pl) (f, ρ) Q := by
  unfold P_R_refuse
  simp (disch := (first | assumption | omega)) only [true_and, and_true, zr_u, zi_u, zI_u, Option.some.injEq, exists_eq_left', nn_tn, nn_add, nn_s, nn_2, nn_5, nn_7, nn_8, na0, na2, na3, na4, na5, na6, uf_ne, uf_eq, ur_eq, ur_ne, true_or, or_true, not_true_eq_false, not_false_eq_true, true_implies, false_implies, implies_true, e10, e01, reduceIte, Option.isSome_none, Option.isSome_some, Bool.false_eq_true, bi_t, bi_f, ko_5]
  refine h _ (((fr5.rfl' f).put _ _).put _ _) ⟨?_, ?_⟩
  · simp (disch := (first | assumption | omega)) only [true_and, and_true, zr_u, zi_u, zI_u, Option.some.injEq, exists_eq_left', nn_tn, nn_add, nn_s, nn_2, nn_5, nn_7, nn_8, na0, na2, na3, na4, na5, na6, uf_ne, uf_eq, ur_eq, ur_ne, true_or, or_true, not_true_eq_false, not_false_eq_true, true_implies, false_implies, implies_true, e10, e01, reduceIte, Option.isSome_none, Option.isSome_some, Bool.false_eq_true, bi_t, bi_f]
  · simp (disch := (first | assumption | omega)) only [true_and, and_true, zr_u, zi_u, zI_u, Option.some.injEq, exists_eq_left', nn_tn, nn_add, nn_s, nn_2, nn_5, nn_7, nn_8, na0, na2, na3, na4, na5, na6, uf_ne, uf_eq, ur_eq, ur_ne, true_or, or_true, not_true_eq_false, not_false_eq_true, true_implies, false_implies, implies_true, e10, e01, reduceIte, Option.isSome_none, Option.isSome_some, Bool.false_eq_true, bi_t, bi_f]
theorem s_pass {f : zf} {ρ : zo} (hC : zC ρ) {t : Nat → Nat} {n p c : Nat} {Q : Int32 → zS → Prop} (hc : c < 256) (hR' : hR f t n) (hp : p ≤ n) (hk : okp f p) (h1 : ∀ f' q, qwant t n c p = .inr q → fr5 f f' → okp f' q → Q 1 (f', ρ)) (h0 : ∀ f' e, qwant t n c p = .inl e → fr5 f f' → flt f' e → Q 0 (f', ρ)) : P_R_pass 201 5 (nn c) (f, ρ) Q := by
  unfold P_R_pass
  simp (disch := (first | assumption | omega)) only [true_and, and_true, zr_u, zi_u, zI_u, Option.some.injEq, exists_eq_left', nn_tn, nn_add, nn_s, nn_2, nn_5, nn_7, nn_8, na0, na2, na3, na4, na5, na6, uf_ne, uf_eq, ur_eq, ur_ne, true_or, or_true, not_true_eq_false, not_false_eq_true, true_implies, false_implies, implies_true, e10, e01, reduceIte, Option.isSome_none, Option.isSome_some, Bool.false_eq_true, bi_t, bi_f, ko_5]
  refine s_next hC hR' hp hk.1 ?_
  rw [qby_eq hR' hc]
  have g := hk.go (qsk t n p)
  simp (disch := (first | assumption | omega)) only [true_and, and_true, zr_u, zi_u, zI_u, Option.some.injEq, exists_eq_left', nn_tn, nn_add, nn_s, nn_2, nn_5, nn_7, nn_8, na0, na2, na3, na4, na5, na6, uf_ne, uf_eq, ur_eq, ur_ne, true_or, or_true, not_true_eq_false, not_false_eq_true, true_implies, false_implies, implies_true, e10, e01, reduceIte, Option.isSome_none, Option.isSome_some, Bool.false_eq_true, bi_t, bi_f]
  refine ⟨fun z => ?_, fun z => ?_⟩
  · refine h1 _ (qsk t n p + 1) (by unfold qwant; rw [qdec_t z]) (((fr5.rfl' f).put _ _).put _ _) ?_
    exact g.go _
  · rw [show (1 : Int32) = nn 1 from rfl]
    refine s_refuse (fun f' r1 r2 => ⟨Or.inl rfl, h0 f' (1, qsk t n p) (by unfold qwant; rw [qdec_f z]) (((fr5.rfl' f).put _ _).trans r1) r2⟩)
theorem s_isLetter {f : zf} {t : Nat → Nat} {n q : Nat} {σ : zS} {Q : Int32 → zS → Prop} (h : hR f t n) (h1 : qL t n q → Q 1 σ) (h0 : ¬ qL t n q → Q 0 σ) : P_C_isLetter 201 (qby t n q) σ Q := by
  unfold P_C_isLetter P_C_isLetter_16 P_C_isLetter_17
  simp (disch := (first | assumption | omega)) only [true_and, and_true, zr_u, zi_u, zI_u, Option.some.injEq, exists_eq_left', nn_tn, nn_add, nn_s, nn_2, nn_5, nn_7, nn_8, na0, na2, na3, na4, na5, na6, uf_ne, uf_eq, ur_eq, ur_ne, true_or, or_true, not_true_eq_false, not_false_eq_true, true_implies, false_implies, implies_true, e10, e01, reduceIte, Option.isSome_none, Option.isSome_some, Bool.false_eq_true, bi_t, bi_f]
  by_cases hq : q < n
  · have e : qby t n q = nn (t q) := if_pos hq
    have ht := (h.2.2 q hq).2
    rw [e, show (97 : Int32) = nn 97 from rfl, show (105 : Int32) = nn 105 from rfl, nn_lt (by omega) (by omega), nn_le (by omega) (by omega)]
    exact ⟨fun z => h0 (fun y => by have := y.2; omega), fun z => ⟨fun z' => h0 (fun y => by have := y.2; omega), fun z' => h1 ⟨hq, by omega, by omega⟩⟩⟩
  · have e : qby t n q = -1 := if_neg hq
    rw [e]
    exact ⟨fun _ => h0 (fun y => hq y.1), fun z => absurd (by decide) z⟩
theorem s_isFigure {f : zf} {t : Nat → Nat} {n q : Nat} {σ : zS} {Q : Int32 → zS → Prop} (h : hR f t n) (h1 : qF t n q → Q 1 σ) (h0 : ¬ qF t n q → Q 0 σ) : P_C_isFigure 201 (qby t n q) σ Q := by
  unfold P_C_isFigure P_C_isFigure_16 P_C_isFigure_17
  simp (disch := (first | assumption | omega)) only [true_and, and_true, zr_u, zi_u, zI_u, Option.some.injEq, exists_eq_left', nn_tn, nn_add, nn_s, nn_2, nn_5, nn_7, nn_8, na0, na2, na3, na4, na5, na6, uf_ne, uf_eq, ur_eq, ur_ne, true_or, or_true, not_true_eq_false, not_false_eq_true, true_implies, false_implies, implies_true, e10, e01, reduceIte, Option.isSome_none, Option.isSome_some, Bool.false_eq_true, bi_t, bi_f]
  by_cases hq : q < n
  · have e : qby t n q = nn (t q) := if_pos hq
    have ht := (h.2.2 q hq).2
    rw [e, show (48 : Int32) = nn 48 from rfl, show (57 : Int32) = nn 57 from rfl, nn_lt (by omega) (by omega), nn_lt (by omega) (by omega)]
    exact ⟨fun z => h0 (fun y => by have := y.2; omega), fun z => ⟨fun z' => h0 (fun y => by have := y.2; omega), fun z' => h1 ⟨hq, by omega, by omega⟩⟩⟩
  · have e : qby t n q = -1 := if_neg hq
    rw [e]
    exact ⟨fun _ => h0 (fun y => hq y.1), fun z => absurd (by decide) z⟩
theorem ofi {z : Int} (h1 : -2147483648 ≤ z) (h2 : z ≤ 2147483647) : (Int32.ofInt z).toInt = z := by
  rw [Int32.toInt_ofInt, show Int32.size = 4294967296 from rfl]
  exact Int.bmod_eq_of_le (by omega) (by omega)
theorem bm32 {x : Int} (h1 : -2147483648 ≤ x) (h2 : x < 2147483648) : x.bmod (2 ^ 32) = x := Int.bmod_eq_of_le (by omega) (by omega)
theorem bm32r (x : Int) : -2147483648 ≤ x.bmod (2 ^ 32) ∧ x.bmod (2 ^ 32) < 2147483648 := by
  have h1 := Int.le_bmod (x := x) (m := 2 ^ 32) (by decide)
  have h2 := Int.bmod_lt (x := x) (m := 2 ^ 32) (by decide)
  omega
/-- the value that the class makes of a number, and its test -/
theorem s_num166 {f : zf} {ρ : zo} {neg : Bool} {p : Nat} {r : Nat × Nat} {a : Int64} {Q : Int32 → zS → Prop} (hp : p ≤ 700) (hk : okp f r.2) (ha : a.toInt = (min r.1 1099511627776 : Nat)) (h1 : ∀ f' x, qfin neg p r = .inr x → fr5 f f' → okp f' x.2 → f' 5 4 = x.1 → Q 1 (f', ρ)) (h0 : ∀ f' e, qfin neg p r = .inl e → fr5 f f' → flt f' e → Q 0 (f', ρ)) : P_R_passNumber_154 201 Q 5 (nn p) (bi neg) a (f, ρ) := by
  have mm : min r.1 1099511627776 ≤ 1099511627776 := Nat.min_le_right _ _
  have key : ∀ b : Int64, b.toInt = (if neg then -((min r.1 1099511627776 : Nat) : Int) else ((min r.1 1099511627776 : Nat) : Int)) → P_R_passNumber_166 201 Q 5 (nn p) b (f, ρ) := by
    intro b hb
    unfold P_R_passNumber_166 P_R_passNumber_195 P_R_passNumber_200
    simp (disch := (first | assumption | omega)) only [true_and, and_true, zr_u, zi_u, zI_u, Option.some.injEq, exists_eq_left', nn_tn, nn_add, nn_s, nn_2, nn_5, nn_7, nn_8, na0, na2, na3, na4, na5, na6, uf_ne, uf_eq, ur_eq, ur_ne, true_or, or_true, not_true_eq_false, not_false_eq_true, true_implies, false_implies, implies_true, e10, e01, reduceIte, Option.isSome_none, Option.isSome_some, Bool.false_eq_true, bi_t, bi_f, ko_5]
    rw [lg_eq0, Int32.toInt_toInt64, Int64.toInt_toInt32, hb]
    refine ⟨fun z => ?_, fun z => ?_⟩
    · have rng := bm32r (if neg then -((min r.1 1099511627776 : Nat) : Int) else ((min r.1 1099511627776 : Nat) : Int))
      rw [z] at rng
      have okq : okp (uf f 5 4 (Int64.toInt32 b)) r.2 := ⟨by simp (disch := (first | assumption | omega)) only [true_and, and_true, zr_u, zi_u, zI_u, Option.some.injEq, exists_eq_left', nn_tn, nn_add, nn_s, nn_2, nn_5, nn_7, nn_8, na0, na2, na3, na4, na5, na6, uf_ne, uf_eq, ur_eq, ur_ne, true_or, or_true, not_true_eq_false, not_false_eq_true, true_implies, false_implies, implies_true, e10, e01, reduceIte, Option.isSome_none, Option.isSome_some, Bool.false_eq_true, bi_t, bi_f]; exact hk.1, by simp (disch := (first | assumption | omega)) only [true_and, and_true, zr_u, zi_u, zI_u, Option.some.injEq, exists_eq_left', nn_tn, nn_add, nn_s, nn_2, nn_5, nn_7, nn_8, na0, na2, na3, na4, na5, na6, uf_ne, uf_eq, ur_eq, ur_ne, true_or, or_true, not_true_eq_false, not_false_eq_true, true_implies, false_implies, implies_true, e10, e01, reduceIte, Option.isSome_none, Option.isSome_some, Bool.false_eq_true, bi_t, bi_f]; exact hk.2.1, by simp (disch := (first | assumption | omega)) only [true_and, and_true, zr_u, zi_u, zI_u, Option.some.injEq, exists_eq_left', nn_tn, nn_add, nn_s, nn_2, nn_5, nn_7, nn_8, na0, na2, na3, na4, na5, na6, uf_ne, uf_eq, ur_eq, ur_ne, true_or, or_true, not_true_eq_false, not_false_eq_true, true_implies, false_implies, implies_true, e10, e01, reduceIte, Option.isSome_none, Option.isSome_some, Bool.false_eq_true, bi_t, bi_f]; exact hk.2.2⟩
      have e4 : uf f 5 4 (Int64.toInt32 b) 5 4 = Int64.toInt32 b := by simp (disch := (first | assumption | omega)) only [true_and, and_true, zr_u, zi_u, zI_u, Option.some.injEq, exists_eq_left', nn_tn, nn_add, nn_s, nn_2, nn_5, nn_7, nn_8, na0, na2, na3, na4, na5, na6, uf_ne, uf_eq, ur_eq, ur_ne, true_or, or_true, not_true_eq_false, not_false_eq_true, true_implies, false_implies, implies_true, e10, e01, reduceIte, Option.isSome_none, Option.isSome_some, Bool.false_eq_true, bi_t, bi_f]
      have hbt : (Int64.toInt32 b).toInt = b.toInt := by rw [Int64.toInt_toInt32, hb]; exact z
      cases neg with
      | true =>
        simp only [if_true] at rng hb
        have hr : r.1 ≤ 2147483648 := by
          rcases Nat.le_total r.1 1099511627776 with q | q
          · rw [Nat.min_eq_left q] at rng; omega
          · rw [Nat.min_eq_right q] at rng; omega
        rw [Nat.min_eq_left (by omega)] at hb
        refine h1 _ (Int32.ofInt (-(r.1 : Int)), r.2) (by unfold qfin; simp only; rw [if_pos hr]) ((fr5.rfl' f).put _ _) okq ?_
        rw [e4]
        apply Int32.toInt_inj.mp
        rw [hbt, hb, ofi (by omega) (by omega)]
      | false =>
        simp only [Bool.false_eq_true, if_false] at rng hb
        have hr : r.1 ≤ 2147483647 := by
          rcases Nat.le_total r.1 1099511627776 with q | q
          · rw [Nat.min_eq_left q] at rng; omega
          · rw [Nat.min_eq_right q] at rng; omega
        rw [Nat.min_eq_left (by omega)] at hb
        refine h1 _ (nn r.1, r.2) (by unfold qfin; simp only; rw [if_pos hr]) ((fr5.rfl' f).put _ _) okq ?_
        rw [e4]
        apply Int32.toInt_inj.mp
        rw [hbt, hb, nn_int (by omega)]
    · rw [show (2 : Int32) = nn 2 from rfl]
      refine s_refuse (fun f' r1 r2 => ?_)
      simp (disch := (first | assumption | omega)) only [true_and, and_true, zr_u, zi_u, zI_u, Option.some.injEq, exists_eq_left', nn_tn, nn_add, nn_s, nn_2, nn_5, nn_7, nn_8, na0, na2, na3, na4, na5, na6, uf_ne, uf_eq, ur_eq, ur_ne, true_or, or_true, not_true_eq_false, not_false_eq_true, true_implies, false_implies, implies_true, e10, e01, reduceIte, Option.isSome_none, Option.isSome_some, Bool.false_eq_true, bi_t, bi_f]
      refine h0 f' (2, p) ?_ (((fr5.rfl' f).put _ _).trans r1) r2
      unfold qfin
      cases neg with
      | true =>
        simp only
        rw [if_neg]
        intro hr
        apply z
        simp only [if_true]
        rw [Nat.min_eq_left (by omega)]
        exact bm32 (by omega) (by omega)
      | false =>
        simp only
        rw [if_neg]
        intro hr
        apply z
        simp only [Bool.false_eq_true, if_false]
        rw [Nat.min_eq_left (by omega)]
        exact bm32 (by omega) (by omega)
  unfold P_R_passNumber_154
  cases neg with
  | true =>
    simp (disch := (first | assumption | omega)) only [true_and, and_true, zr_u, zi_u, zI_u, Option.some.injEq, exists_eq_left', nn_tn, nn_add, nn_s, nn_2, nn_5, nn_7, nn_8, na0, na2, na3, na4, na5, na6, uf_ne, uf_eq, ur_eq, ur_ne, true_or, or_true, not_true_eq_false, not_false_eq_true, true_implies, false_implies, implies_true, e10, e01, reduceIte, Option.isSome_none, Option.isSome_some, Bool.false_eq_true, bi_t, bi_f]
    refine key _ ?_
    rw [Int64.toInt_neg, ha, bm64 (by omega) (by omega)]; rfl
  | false =>
    simp (disch := (first | assumption | omega)) only [true_and, and_true, zr_u, zi_u, zI_u, Option.some.injEq, exists_eq_left', nn_tn, nn_add, nn_s, nn_2, nn_5, nn_7, nn_8, na0, na2, na3, na4, na5, na6, uf_ne, uf_eq, ur_eq, ur_ne, true_or, or_true, not_true_eq_false, not_false_eq_true, true_implies, false_implies, implies_true, e10, e01, reduceIte, Option.isSome_none, Option.isSome_some, Bool.false_eq_true, bi_t, bi_f]
    exact key _ ha
theorem s_digs {ρ : zo} (hC : zC ρ) {t : Nat → Nat} {n p : Nat} {neg : Bool} {Q : Int32 → zS → Prop} (hp : p ≤ 700) : ∀ (m q v : Nat) (f : zf) (a : Int64), n - q = m → q ≤ n → hR f t n → okp f q → a.toInt = (min v 1099511627776 : Nat) → (∀ f' x, qfin neg p (qdg t n q v) = .inr x → fr5 f f' → okp f' x.2 → f' 5 4 = x.1 → Q 1 (f', ρ)) → (∀ f' e, qfin neg p (qdg t n q v) = .inl e → fr5 f f' → flt f' e → Q 0 (f', ρ)) → P_R_passNumber_77 201 Q (m + 1) 5 (nn p) (bi neg) a (f, ρ) := by
  intro m
  induction m with
  | zero =>
    intro q v f a hm hq hR' hk ha h1 h0
    have hn := hR'.2.1
    have e : qdg t n q v = (v, q) := qdg_0 (fun z => by have := z.1; omega)
    rw [e] at h1 h0
    unfold P_R_passNumber_77
    simp (disch := (first | assumption | omega)) only [true_and, and_true, zr_u, zi_u, zI_u, Option.some.injEq, exists_eq_left', nn_tn, nn_add, nn_s, nn_2, nn_5, nn_7, nn_8, na0, na2, na3, na4, na5, na6, uf_ne, uf_eq, ur_eq, ur_ne, true_or, or_true, not_true_eq_false, not_false_eq_true, true_implies, false_implies, implies_true, e10, e01, reduceIte, Option.isSome_none, Option.isSome_some, Bool.false_eq_true, bi_t, bi_f, ko_5, rc_5_0 hC, ko_1, hR'.1, hk.1]
    simp (disch := omega) only [nn_le]
    exact ⟨fun _ => s_num166 (r := (v, q)) hp hk ha h1 h0, fun z => absurd (by omega) z⟩
  | succ m ih =>
    intro q v f a hm hq hR' hk ha h1 h0
    have hn := hR'.2.1
    have hqn : q < n := by omega
    have ht := (hR'.2.2 q hqn).2
    unfold P_R_passNumber_77
    simp (disch := (first | assumption | omega)) only [true_and, and_true, zr_u, zi_u, zI_u, Option.some.injEq, exists_eq_left', nn_tn, nn_add, nn_s, nn_2, nn_5, nn_7, nn_8, na0, na2, na3, na4, na5, na6, uf_ne, uf_eq, ur_eq, ur_ne, true_or, or_true, not_true_eq_false, not_false_eq_true, true_implies, false_implies, implies_true, e10, e01, reduceIte, Option.isSome_none, Option.isSome_some, Bool.false_eq_true, bi_t, bi_f, ko_5, rc_5_0 hC, ko_1, hR'.1, hk.1]
    simp (disch := omega) only [nn_le]
    refine ⟨fun z => absurd z (by omega), fun _ => ?_⟩
    refine s_byteAt (t := 1) hC (Or.inl ⟨rfl, hn⟩) hR'.1 (by omega) ?_
    rw [show (1 : Nat) + 1 = 2 from rfl, hR'.byt]
    refine s_isFigure hR' (fun hF => ?_) (fun hF => ?_)
    · simp (disch := (first | assumption | omega)) only [true_and, and_true, zr_u, zi_u, zI_u, Option.some.injEq, exists_eq_left', nn_tn, nn_add, nn_s, nn_2, nn_5, nn_7, nn_8, na0, na2, na3, na4, na5, na6, uf_ne, uf_eq, ur_eq, ur_ne, true_or, or_true, not_true_eq_false, not_false_eq_true, true_implies, false_implies, implies_true, e10, e01, reduceIte, Option.isSome_none, Option.isSome_some, Bool.false_eq_true, bi_t, bi_f, rc_5_0 hC, ko_1, hk.1]
      refine s_byteAt (t := 1) hC (Or.inl ⟨rfl, hn⟩) hR'.1 (by omega) ?_
      rw [show (1 : Nat) + 1 = 2 from rfl, hR'.byt]
      have eb : qby t n q = nn (t q) := if_pos hqn
      rw [qdg_1 hF] at h1 h0
      rw [eb]
      simp (disch := (first | assumption | omega)) only [true_and, and_true, zr_u, zi_u, zI_u, Option.some.injEq, exists_eq_left', nn_tn, nn_add, nn_s, nn_2, nn_5, nn_7, nn_8, na0, na2, na3, na4, na5, na6, uf_ne, uf_eq, ur_eq, ur_ne, true_or, or_true, not_true_eq_false, not_false_eq_true, true_implies, false_implies, implies_true, e10, e01, reduceIte, Option.isSome_none, Option.isSome_some, Bool.false_eq_true, bi_t, bi_f, hk.1]
      have mm : min v 1099511627776 ≤ 1099511627776 := Nat.min_le_right _ _
      have c1 := l_mul ha l_10 (by omega)
      have c2 := l_add c1 (nn_64 (a := t q) (by omega)) (by omega)
      have c3 := l_sub (b := 48) (y := 48) c2 (by decide) (by omega) (by have := hF.2.1; omega)
      have hF1 := hF.2.1
      have hF2 := hF.2.2
      refine ih (q + 1) (v * 10 + (t q - 48)) _ _ (by omega) (by omega) (hR'.five ((fr5.rfl' f).put _ _)) (hk.go _) ?_ (fun f' x y1 y2 y3 y4 => h1 f' x y1 (((fr5.rfl' f).put _ _).trans y2) y3 y4) (fun f' e y1 y2 y3 => h0 f' e y1 (((fr5.rfl' f).put _ _).trans y2) y3)
      have hC0 : (1099511627776 : Int64).toInt = 1099511627776 := by decide
      by_cases hlt : (1099511627776 : Int64) < a * 10 + Int32.toInt64 (nn (t q)) - 48
      · rw [if_pos hlt]
        rw [Int64.lt_iff_toInt_lt, hC0, c3] at hlt
        rw [hC0]
        rcases Nat.le_total v 1099511627776 with y | y
        · rw [Nat.min_eq_left y] at hlt; rw [Nat.min_eq_right (by omega)]; rfl
        · rw [Nat.min_eq_right (by omega)]; rfl
      · rw [if_neg hlt]
        rw [Int64.lt_iff_toInt_lt, hC0, c3] at hlt
        rw [c3]
        congr 1
        rcases Nat.le_total v 1099511627776 with y | y
        · rw [Nat.min_eq_left y] at hlt ⊢; rw [Nat.min_eq_left (by omega)]; omega
        · rw [Nat.min_eq_right y] at hlt; omega
    · have e : qdg t n q v = (v, q) := qdg_0 hF
      rw [e] at h1 h0
      simp (disch := (first | assumption | omega)) only [true_and, and_true, zr_u, zi_u, zI_u, Option.some.injEq, exists_eq_left', nn_tn, nn_add, nn_s, nn_2, nn_5, nn_7, nn_8, na0, na2, na3, na4, na5, na6, uf_ne, uf_eq, ur_eq, ur_ne, true_or, or_true, not_true_eq_false, not_false_eq_true, true_implies, false_implies, implies_true, e10, e01, reduceIte, Option.isSome_none, Option.isSome_some, Bool.false_eq_true, bi_t, bi_f]
      exact s_num166 (r := (v, q)) hp hk ha h1 h0
theorem s_number {f : zf} {ρ : zo} (hC : zC ρ) {t : Nat → Nat} {n p : Nat} {sg : Bool} {Q : Int32 → zS → Prop} (hR' : hR f t n) (hp : p ≤ n) (hk : okp f p) (h1 : ∀ f' x, qnum t n sg p = .inr x → fr5 f f' → okp f' x.2 → f' 5 4 = x.1 → Q 1 (f', ρ)) (h0 : ∀ f' e, qnum t n sg p = .inl e → fr5 f f' → flt f' e → Q 0 (f', ρ)) : P_R_passNumber 201 5 (bi sg) (f, ρ) Q := by
  have hn := hR'.2.1
  have k46 : ∀ (f' : zf) (neg : Bool) (q : Nat), fr5 f f' → okp f' q → q ≤ n → (qnum t n sg p = qnum' t n neg p q) → P_R_passNumber_46 201 Q 5 (nn p) (bi neg) (f', ρ) := by
    intro f' neg q g1 g2 g3 g4
    have hRf := hR'.five g1
    rw [g4] at h1 h0
    unfold P_R_passNumber_46
    simp (disch := (first | assumption | omega)) only [true_and, and_true, zr_u, zi_u, zI_u, Option.some.injEq, exists_eq_left', nn_tn, nn_add, nn_s, nn_2, nn_5, nn_7, nn_8, na0, na2, na3, na4, na5, na6, uf_ne, uf_eq, ur_eq, ur_ne, true_or, or_true, not_true_eq_false, not_false_eq_true, true_implies, false_implies, implies_true, e10, e01, reduceIte, Option.isSome_none, Option.isSome_some, Bool.false_eq_true, bi_t, bi_f, ko_5, rc_5_0 hC, ko_1, g2.1]
    refine s_byteAt (t := 1) hC (Or.inl ⟨rfl, hn⟩) hRf.1 (by omega) ?_
    rw [show (1 : Nat) + 1 = 2 from rfl, hRf.byt]
    refine s_isFigure hRf (fun hF => ?_) (fun hF => ?_)
    · have e : qnum' t n neg p q = qfin neg p (qdg t n q 0) := by unfold qnum'; rw [qdec_t hF]
      rw [e] at h1 h0
      simp (disch := (first | assumption | omega)) only [true_and, and_true, zr_u, zi_u, zI_u, Option.some.injEq, exists_eq_left', nn_tn, nn_add, nn_s, nn_2, nn_5, nn_7, nn_8, na0, na2, na3, na4, na5, na6, uf_ne, uf_eq, ur_eq, ur_ne, true_or, or_true, not_true_eq_false, not_false_eq_true, true_implies, false_implies, implies_true, e10, e01, reduceIte, Option.isSome_none, Option.isSome_some, Bool.false_eq_true, bi_t, bi_f]
      exact ⟨_, s_digs hC (by omega) (n - q) q 0 f' 0 rfl g3 hRf g2 (by decide) (fun f'' x y1 y2 y3 y4 => h1 f'' x y1 (g1.trans y2) y3 y4) (fun f'' e y1 y2 y3 => h0 f'' e y1 (g1.trans y2) y3)⟩
    · have e : qnum' t n neg p q = .inl (1, q) := by unfold qnum'; rw [qdec_f hF]
      rw [e] at h1 h0
      simp (disch := (first | assumption | omega)) only [true_and, and_true, zr_u, zi_u, zI_u, Option.some.injEq, exists_eq_left', nn_tn, nn_add, nn_s, nn_2, nn_5, nn_7, nn_8, na0, na2, na3, na4, na5, na6, uf_ne, uf_eq, ur_eq, ur_ne, true_or, or_true, not_true_eq_false, not_false_eq_true, true_implies, false_implies, implies_true, e10, e01, reduceIte, Option.isSome_none, Option.isSome_some, Bool.false_eq_true, bi_t, bi_f, g2.1]
      rw [show (1 : Int32) = nn 1 from rfl]
      exact s_refuse (fun f'' r1 r2 => ⟨Or.inl rfl, h0 f'' (1, q) rfl (g1.trans r1) r2⟩)
  unfold P_R_passNumber P_R_passNumber_30 P_R_passNumber_31
  have k31 : qnum t n sg p = qnum' t n false p p → P_R_passNumber_46 201 Q 5 (nn p) 0 (f, ρ) := fun e => k46 f false p (fr5.rfl' f) hk hp e
  cases sg with
  | false =>
    simp (disch := (first | assumption | omega)) only [true_and, and_true, zr_u, zi_u, zI_u, Option.some.injEq, exists_eq_left', nn_tn, nn_add, nn_s, nn_2, nn_5, nn_7, nn_8, na0, na2, na3, na4, na5, na6, uf_ne, uf_eq, ur_eq, ur_ne, true_or, or_true, not_true_eq_false, not_false_eq_true, true_implies, false_implies, implies_true, e10, e01, reduceIte, Option.isSome_none, Option.isSome_some, Bool.false_eq_true, bi_t, bi_f, ko_5, hk.1]
    exact k31 rfl
  | true =>
    simp (disch := (first | assumption | omega)) only [true_and, and_true, zr_u, zi_u, zI_u, Option.some.injEq, exists_eq_left', nn_tn, nn_add, nn_s, nn_2, nn_5, nn_7, nn_8, na0, na2, na3, na4, na5, na6, uf_ne, uf_eq, ur_eq, ur_ne, true_or, or_true, not_true_eq_false, not_false_eq_true, true_implies, false_implies, implies_true, e10, e01, reduceIte, Option.isSome_none, Option.isSome_some, Bool.false_eq_true, bi_t, bi_f, ko_5, hk.1, rc_5_0 hC, ko_1]
    refine s_byteAt (t := 1) hC (Or.inl ⟨rfl, hn⟩) hR'.1 (by omega) ?_
    rw [show (1 : Nat) + 1 = 2 from rfl, hR'.byt, show (45 : Int32) = nn 45 from rfl, qby_eq hR' (by decide)]
    simp (disch := (first | assumption | omega)) only [true_and, and_true, zr_u, zi_u, zI_u, Option.some.injEq, exists_eq_left', nn_tn, nn_add, nn_s, nn_2, nn_5, nn_7, nn_8, na0, na2, na3, na4, na5, na6, uf_ne, uf_eq, ur_eq, ur_ne, true_or, or_true, not_true_eq_false, not_false_eq_true, true_implies, false_implies, implies_true, e10, e01, reduceIte, Option.isSome_none, Option.isSome_some, Bool.false_eq_true, bi_t, bi_f, hk.1, ko_5]
    refine ⟨fun z => k31 ?_, fun z => ?_⟩
    · unfold qnum; rw [qdec_f z]; rfl
    · exact k46 _ true (p + 1) ((fr5.rfl' f).put _ _) (hk.go _) (by have := z.1; omega) (by unfold qnum; rw [qdec_t z]; rfl)
