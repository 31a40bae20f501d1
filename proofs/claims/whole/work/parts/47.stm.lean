/-! The parser: statements, ends, blocks. -/
def qO (t : Nat → Nat) (n q : Nat) : Prop := q < n ∧ isop (t q)
def fu {α : Type} (g : Nat → α) (k : Nat) (x : α) : Nat → α := fun i => if i = k then x else g i
theorem fu_eq {α : Type} (g : Nat → α) (k : Nat) (x : α) : fu g k x k = x := if_pos rfl
theorem fu_ne {α : Type} (g : Nat → α) {k i : Nat} (x : α) (h : i ≠ k) : fu g k x i = g i := if_neg h
/-- the rest of a statement behind its first operand -/
noncomputable def qstm2 (t : Nat → Nat) (n x : Nat) (o1 : mO) (q1 : Nat) : qR (mT × Nat) := match qdec (qO t n q1) with
  | true => (match qop t n (q1 + 1) with
    | .inl e => .inl e
    | .inr r => (match qwant t n 59 r.2 with
      | .inl e => .inl e
      | .inr q => .inr ((x, t q1, o1, r.1), q)))
  | false => (match qwant t n 59 q1 with
    | .inl e => .inl e
    | .inr q => .inr ((x, 1, o1, .inr 0), q))
noncomputable def qstm (t : Nat → Nat) (n p x : Nat) : qR (mT × Nat) := match qdec (qE t n (qsk t n p) 63) with
  | true => (match qwant t n 59 (qsk t n p + 1) with
    | .inl e => .inl e
    | .inr q => .inr ((x, 0, .inr 0, .inr 0), q))
  | false => (match qop t n (qsk t n p) with
    | .inl e => .inl e
    | .inr r => qstm2 t n x r.1 (qsk t n r.2))
/-- a statement begins at q -/
def qS (t : Nat → Nat) (n q : Nat) : Prop := qL t n q ∧ qE t n (qsk t n (q + 1)) 61
noncomputable def qsts (t : Nat → Nat) (n : Nat) : Nat → Nat → Nat → (Nat → mT) → qR (Nat × Nat × (Nat → mT))
  | 0, p, ns, T => (match qdec (qS t n (qsk t n p)) with
    | true => .inl (3, qsk t n p)
    | false => .inr (qsk t n p, ns, T))
  | k + 1, p, ns, T => (match qdec (qS t n (qsk t n p)) with
    | true => (match qstm t n (qsk t n (qsk t n p + 1) + 1) (t (qsk t n p) - 97) with
      | .inl e => .inl e
      | .inr r => qsts t n k r.2 (ns + 1) (fu T ns r.1))
    | false => .inr (qsk t n p, ns, T))
noncomputable def qgoal (t : Nat → Nat) (n p : Nat) : qR (Nat × Nat × Nat) := match qnum t n false (qsk t n p) with
  | .inl e => .inl e
  | .inr r => .inr (r.1.toNatClampNeg, qsk t n p, r.2)
/-- a branch behind its operand: its goals, their places, where it ends -/
noncomputable def qbr (t : Nat → Nat) (n p : Nat) : qR (Nat × Nat × Nat × Nat × Nat) := match qwant t n 63 p with
  | .inl e => .inl e
  | .inr p2 => (match qgoal t n p2 with
    | .inl e => .inl e
    | .inr r => (match qwant t n 58 r.2.2 with
      | .inl e => .inl e
      | .inr p4 => (match qgoal t n p4 with
        | .inl e => .inl e
        | .inr s => .inr (r.1, s.1, r.2.1, s.2.1, s.2.2))))
noncomputable def qend (t : Nat → Nat) (n p : Nat) : qR (mE × Nat × Nat × Nat) := match qdec (qE t n (qsk t n p) 46) with
  | true => .inr ((0, .inr 0, 0, 0), 0, 0, qsk t n p + 1)
  | false => (match qdec (qE t n (qsk t n p) 62) with
    | true => (match qgoal t n (qsk t n p + 1) with
      | .inl e => .inl e
      | .inr r => .inr ((1, .inr 0, r.1, 0), r.2.1, 0, r.2.2))
    | false => (match qop t n (qsk t n p) with
      | .inl e => .inl e
      | .inr r => (match qbr t n r.2 with
        | .inl e => .inl e
        | .inr s => .inr ((2, r.1, s.1, s.2.1), s.2.2.1, s.2.2.2.1, s.2.2.2.2))))
theorem qnum_f {t : Nat → Nat} {n p : Nat} {x : Int32 × Nat} (h : qnum t n false p = .inr x) : ∃ v, v < 2147483648 ∧ x.1 = nn v := by
  unfold qnum at h
  rw [Bool.false_and] at h
  simp only at h
  unfold qnum' at h
  cases hd : qdec (qF t n p) with
  | false => rw [hd] at h; cases h
  | true =>
    rw [hd] at h
    unfold qfin at h
    simp only at h
    split at h
    · next hl => cases h; exact ⟨_, by omega, rfl⟩
    · cases h
theorem qgoal_pos {t : Nat → Nat} {n p : Nat} {x : Nat × Nat × Nat} (h : qgoal t n p = .inr x) (hp : p ≤ n) : p < x.2.2 ∧ x.2.2 ≤ n := by
  unfold qgoal at h
  cases hq : qnum t n false (qsk t n p) with
  | inl e => rw [hq] at h; cases h
  | inr r =>
    rw [hq] at h
    cases h
    have h1 := qnum_pos hq (qsk_n hp)
    have h2 := qsk_ge t n p
    exact ⟨by show p < r.2; omega, h1.2⟩
theorem qop_L {t : Nat → Nat} {n p : Nat} (h : qL t n (qsk t n p)) : qop t n p = .inr (.inl (t (qsk t n p) - 97), qsk t n p + 1) := by unfold qop; simp only [qdec_t h]
theorem qop_N {t : Nat → Nat} {n p : Nat} {r : Int32 × Nat} (h : ¬ qL t n (qsk t n p)) (hq : qnum t n true (qsk t n p) = .inr r) : qop t n p = .inr (.inr r.1, r.2) := by unfold qop; simp only [qdec_f h, hq]
theorem qop_E {t : Nat → Nat} {n p : Nat} {e : Nat × Nat} (h : ¬ qL t n (qsk t n p)) (hq : qnum t n true (qsk t n p) = .inl e) : qop t n p = .inl e := by unfold qop; simp only [qdec_f h, hq]
theorem qstm_a1 {t : Nat → Nat} {n p x q : Nat} (h : qE t n (qsk t n p) 63) (hq : qwant t n 59 (qsk t n p + 1) = .inr q) : qstm t n p x = .inr ((x, 0, .inr 0, .inr 0), q) := by unfold qstm; simp only [qdec_t h, hq]
theorem qstm_a0 {t : Nat → Nat} {n p x : Nat} {e : Nat × Nat} (h : qE t n (qsk t n p) 63) (hq : qwant t n 59 (qsk t n p + 1) = .inl e) : qstm t n p x = .inl e := by unfold qstm; simp only [qdec_t h, hq]
theorem qstm_o0 {t : Nat → Nat} {n p x : Nat} {e : Nat × Nat} (h : ¬ qE t n (qsk t n p) 63) (hq : qop t n (qsk t n p) = .inl e) : qstm t n p x = .inl e := by unfold qstm; simp only [qdec_f h, hq]
theorem qstm_c1 {t : Nat → Nat} {n p x q : Nat} {r : mO × Nat} (h : ¬ qE t n (qsk t n p) 63) (hq : qop t n (qsk t n p) = .inr r) (ho : ¬ qO t n (qsk t n r.2)) (hw : qwant t n 59 (qsk t n r.2) = .inr q) : qstm t n p x = .inr ((x, 1, r.1, .inr 0), q) := by unfold qstm qstm2; simp only [qdec_f h, hq, qdec_f ho, hw]
theorem qstm_c0 {t : Nat → Nat} {n p x : Nat} {e : Nat × Nat} {r : mO × Nat} (h : ¬ qE t n (qsk t n p) 63) (hq : qop t n (qsk t n p) = .inr r) (ho : ¬ qO t n (qsk t n r.2)) (hw : qwant t n 59 (qsk t n r.2) = .inl e) : qstm t n p x = .inl e := by unfold qstm qstm2; simp only [qdec_f h, hq, qdec_f ho, hw]
theorem qstm_b2 {t : Nat → Nat} {n p x q : Nat} {r r' : mO × Nat} (h : ¬ qE t n (qsk t n p) 63) (hq : qop t n (qsk t n p) = .inr r) (ho : qO t n (qsk t n r.2)) (hq' : qop t n (qsk t n r.2 + 1) = .inr r') (hw : qwant t n 59 r'.2 = .inr q) : qstm t n p x = .inr ((x, t (qsk t n r.2), r.1, r'.1), q) := by unfold qstm qstm2; simp only [qdec_f h, hq, qdec_t ho, hq', hw]
theorem qstm_b1 {t : Nat → Nat} {n p x : Nat} {e : Nat × Nat} {r r' : mO × Nat} (h : ¬ qE t n (qsk t n p) 63) (hq : qop t n (qsk t n p) = .inr r) (ho : qO t n (qsk t n r.2)) (hq' : qop t n (qsk t n r.2 + 1) = .inr r') (hw : qwant t n 59 r'.2 = .inl e) : qstm t n p x = .inl e := by unfold qstm qstm2; simp only [qdec_f h, hq, qdec_t ho, hq', hw]
theorem qstm_b0 {t : Nat → Nat} {n p x : Nat} {e : Nat × Nat} {r : mO × Nat} (h : ¬ qE t n (qsk t n p) 63) (hq : qop t n (qsk t n p) = .inr r) (ho : qO t n (qsk t n r.2)) (hq' : qop t n (qsk t n r.2 + 1) = .inl e) : qstm t n p x = .inl e := by unfold qstm qstm2; simp only [qdec_f h, hq, qdec_t ho, hq']
/-! The class. -/
theorem oC.keep {a b a' b' : Nat → Int32} {s : Nat} {o : mO} (h : oC a b s o) (h1 : a' s = a s) (h2 : b' s = b s) : oC a' b' s o := by
  cases o with
  | inl x => exact ⟨by rw [h1]; exact h.1, by rw [h2]; exact h.2.1, h.2.2⟩
  | inr c => exact ⟨by rw [h1]; exact h.1, by rw [h2]; exact h.2⟩
theorem tC.keep {f f' : zf} {p s : Nat} {t : mT} (h : tC f p s t) (h2 : f' (p + 2) s = f (p + 2) s) (h3 : f' (p + 3) s = f (p + 3) s) (h4 : ∀ i, i = 2 * s ∨ i = 2 * s + 1 → f' (p + 4) i = f (p + 4) i ∧ f' (p + 5) i = f (p + 5) i) : tC f' p s t := by
  obtain ⟨a1, a2, a3, a4, a5, a6, a7⟩ := h
  refine ⟨a1, by rw [h2]; exact a2, a3, by rw [h3]; exact a4, a5, fun q => (a6 q).keep (h4 _ (Or.inl rfl)).1 (h4 _ (Or.inl rfl)).2, fun q q' => (a7 q q').keep (h4 _ (Or.inr rfl)).1 (h4 _ (Or.inr rfl)).2⟩
theorem eC.keep {f f' : zf} {p b : Nat} {e : mE} (h : eC f p b e) (h6 : f' (p + 6) b = f (p + 6) b) (h4 : f' (p + 4) (160 + b) = f (p + 4) (160 + b)) (h5 : f' (p + 5) (160 + b) = f (p + 5) (160 + b)) (h7 : f' (p + 7) (2 * b) = f (p + 7) (2 * b) ∧ f' (p + 7) (2 * b + 1) = f (p + 7) (2 * b + 1)) : eC f' p b e := by
  obtain ⟨a1, a2, a3, a4, a5⟩ := h
  exact ⟨by rw [h6]; exact a1, a2, fun q => (a3 q).keep h4 h5, fun q => by rw [h7.1]; exact a4 q, fun q => by rw [h7.2]; exact a5 q⟩
/-- of the program at p only the operand at s, and row 5, differ -/
def frO (f f' : zf) (p s : Nat) : Prop := (∀ a, a ≠ 5 → a ≠ p + 4 → a ≠ p + 5 → f' a = f a) ∧ ∀ i, i ≠ s → f' (p + 4) i = f (p + 4) i ∧ f' (p + 5) i = f (p + 5) i
theorem s_fillOp {f : zf} {ρ : zo} (hC : zC ρ) {t : Nat → Nat} {n p s pos : Nat} {Q : Int32 → zS → Prop} (hp : zp_ p) (hr : ρ.1 5 2 = some p) (hR' : hR f t n) (hpos : pos ≤ n) (hk : okp f pos) (hs : s < 184) (hK : sK f p) (h1 : ∀ f' x, qop t n pos = .inr x → frO f f' p s → okp f' x.2 → oC (f' (p + 4)) (f' (p + 5)) s x.1 → sK f' p → Q 1 (f', ρ)) (h0 : ∀ f' e, qop t n pos = .inl e → fr5 f f' → flt f' e → Q 0 (f', ρ)) : P_R_fillOperand 201 5 (nn s) (f, ρ) Q := by
  have hp' := hp
  unfold zp_ at hp'
  have hn := hR'.2.1
  unfold P_R_fillOperand
  simp (disch := (first | assumption | omega)) only [true_and, and_true, zr_u, zi_u, zI_u, Option.some.injEq, exists_eq_left', nn_tn, nn_add, nn_s, nn_2, nn_5, nn_7, nn_8, na0, na2, na3, na4, na5, na6, uf_ne, uf_eq, ur_eq, ur_ne, true_or, or_true, not_true_eq_false, not_false_eq_true, true_implies, false_implies, implies_true, e10, e01, reduceIte, Option.isSome_none, Option.isSome_some, Bool.false_eq_true, bi_t, bi_f, ko_5]
  refine s_next hC hR' hpos hk.1 ?_
  have g := hk.go (qsk t n pos)
  have hR1 := hR'.five ((fr5.rfl' f).put 3 (nn (qsk t n pos)))
  have f1 : fr5 f (uf f 5 3 (nn (qsk t n pos))) := (fr5.rfl' f).put _ _
  have set : ∀ (g : zf) (iv x : Int32) (o : mO), fr5 f g → (match o with | .inl y => iv = 1 ∧ x = nn y ∧ y < 8 | .inr c => iv = 0 ∧ x = c) → (frO f (uf (uf g (p + 4) s iv) (p + 5) s x) p s ∧ oC ((uf (uf g (p + 4) s iv) (p + 5) s x) (p + 4)) ((uf (uf g (p + 4) s iv) (p + 5) s x) (p + 5)) s o ∧ sK (uf (uf g (p + 4) s iv) (p + 5) s x) p) := by
    intro g iv x o hg ho
    have e4 : g (p + 4) = f (p + 4) := hg _ (by omega)
    have e5 : g (p + 5) = f (p + 5) := hg _ (by omega)
    refine ⟨⟨fun a z1 z2 z3 => ?_, fun i hi => ⟨?_, ?_⟩⟩, ?_, fun i hi => ?_⟩
    · simp (disch := (first | assumption | omega)) only [true_and, and_true, zr_u, zi_u, zI_u, Option.some.injEq, exists_eq_left', nn_tn, nn_add, nn_s, nn_2, nn_5, nn_7, nn_8, na0, na2, na3, na4, na5, na6, uf_ne, uf_eq, ur_eq, ur_ne, true_or, or_true, not_true_eq_false, not_false_eq_true, true_implies, false_implies, implies_true, e10, e01, reduceIte, Option.isSome_none, Option.isSome_some, Bool.false_eq_true, bi_t, bi_f]
      exact hg a z1
    · simp (disch := (first | assumption | omega)) only [true_and, and_true, zr_u, zi_u, zI_u, Option.some.injEq, exists_eq_left', nn_tn, nn_add, nn_s, nn_2, nn_5, nn_7, nn_8, na0, na2, na3, na4, na5, na6, uf_ne, uf_eq, ur_eq, ur_ne, true_or, or_true, not_true_eq_false, not_false_eq_true, true_implies, false_implies, implies_true, e10, e01, reduceIte, Option.isSome_none, Option.isSome_some, Bool.false_eq_true, bi_t, bi_f, e4]
    · simp (disch := (first | assumption | omega)) only [true_and, and_true, zr_u, zi_u, zI_u, Option.some.injEq, exists_eq_left', nn_tn, nn_add, nn_s, nn_2, nn_5, nn_7, nn_8, na0, na2, na3, na4, na5, na6, uf_ne, uf_eq, ur_eq, ur_ne, true_or, or_true, not_true_eq_false, not_false_eq_true, true_implies, false_implies, implies_true, e10, e01, reduceIte, Option.isSome_none, Option.isSome_some, Bool.false_eq_true, bi_t, bi_f, e5]
    · simp (disch := (first | assumption | omega)) only [true_and, and_true, zr_u, zi_u, zI_u, Option.some.injEq, exists_eq_left', nn_tn, nn_add, nn_s, nn_2, nn_5, nn_7, nn_8, na0, na2, na3, na4, na5, na6, uf_ne, uf_eq, ur_eq, ur_ne, true_or, or_true, not_true_eq_false, not_false_eq_true, true_implies, false_implies, implies_true, e10, e01, reduceIte, Option.isSome_none, Option.isSome_some, Bool.false_eq_true, bi_t, bi_f]
      cases o with
      | inl y => exact ⟨by simp (disch := (first | assumption | omega)) only [true_and, and_true, zr_u, zi_u, zI_u, Option.some.injEq, exists_eq_left', nn_tn, nn_add, nn_s, nn_2, nn_5, nn_7, nn_8, na0, na2, na3, na4, na5, na6, uf_ne, uf_eq, ur_eq, ur_ne, true_or, or_true, not_true_eq_false, not_false_eq_true, true_implies, false_implies, implies_true, e10, e01, reduceIte, Option.isSome_none, Option.isSome_some, Bool.false_eq_true, bi_t, bi_f]; exact ho.1, by simp (disch := (first | assumption | omega)) only [true_and, and_true, zr_u, zi_u, zI_u, Option.some.injEq, exists_eq_left', nn_tn, nn_add, nn_s, nn_2, nn_5, nn_7, nn_8, na0, na2, na3, na4, na5, na6, uf_ne, uf_eq, ur_eq, ur_ne, true_or, or_true, not_true_eq_false, not_false_eq_true, true_implies, false_implies, implies_true, e10, e01, reduceIte, Option.isSome_none, Option.isSome_some, Bool.false_eq_true, bi_t, bi_f]; exact ho.2.1, ho.2.2⟩
      | inr c => exact ⟨by simp (disch := (first | assumption | omega)) only [true_and, and_true, zr_u, zi_u, zI_u, Option.some.injEq, exists_eq_left', nn_tn, nn_add, nn_s, nn_2, nn_5, nn_7, nn_8, na0, na2, na3, na4, na5, na6, uf_ne, uf_eq, ur_eq, ur_ne, true_or, or_true, not_true_eq_false, not_false_eq_true, true_implies, false_implies, implies_true, e10, e01, reduceIte, Option.isSome_none, Option.isSome_some, Bool.false_eq_true, bi_t, bi_f]; exact ho.1, by simp (disch := (first | assumption | omega)) only [true_and, and_true, zr_u, zi_u, zI_u, Option.some.injEq, exists_eq_left', nn_tn, nn_add, nn_s, nn_2, nn_5, nn_7, nn_8, na0, na2, na3, na4, na5, na6, uf_ne, uf_eq, ur_eq, ur_ne, true_or, or_true, not_true_eq_false, not_false_eq_true, true_implies, false_implies, implies_true, e10, e01, reduceIte, Option.isSome_none, Option.isSome_some, Bool.false_eq_true, bi_t, bi_f]; exact ho.2⟩
    · by_cases e : i = s
      · subst e
        simp (disch := (first | assumption | omega)) only [true_and, and_true, zr_u, zi_u, zI_u, Option.some.injEq, exists_eq_left', nn_tn, nn_add, nn_s, nn_2, nn_5, nn_7, nn_8, na0, na2, na3, na4, na5, na6, uf_ne, uf_eq, ur_eq, ur_ne, true_or, or_true, not_true_eq_false, not_false_eq_true, true_implies, false_implies, implies_true, e10, e01, reduceIte, Option.isSome_none, Option.isSome_some, Bool.false_eq_true, bi_t, bi_f]
        cases o with
        | inl y => exact Or.inr ⟨ho.1, y, ho.2.2, ho.2.1⟩
        | inr c => exact Or.inl ho.1
      · simp (disch := (first | assumption | omega)) only [true_and, and_true, zr_u, zi_u, zI_u, Option.some.injEq, exists_eq_left', nn_tn, nn_add, nn_s, nn_2, nn_5, nn_7, nn_8, na0, na2, na3, na4, na5, na6, uf_ne, uf_eq, ur_eq, ur_ne, true_or, or_true, not_true_eq_false, not_false_eq_true, true_implies, false_implies, implies_true, e10, e01, reduceIte, Option.isSome_none, Option.isSome_some, Bool.false_eq_true, bi_t, bi_f, e4, e5]
        exact hK i hi
  refine s_isLetter hR' (fun hL => ?_) (fun hL => ?_)
  · have ht := hL.2
    have eb : qby t n (qsk t n pos) = nn (t (qsk t n pos)) := if_pos hL.1
    have eq := qop_L hL
    unfold P_G_setOperand
    rw [eb, show (97 : Int32) = nn 97 from rfl, nn_sub (by omega)]
    simp (disch := (first | assumption | omega)) only [true_and, and_true, zr_u, zi_u, zI_u, Option.some.injEq, exists_eq_left', nn_tn, nn_add, nn_s, nn_2, nn_5, nn_7, nn_8, na0, na2, na3, na4, na5, na6, uf_ne, uf_eq, ur_eq, ur_ne, true_or, or_true, not_true_eq_false, not_false_eq_true, true_implies, false_implies, implies_true, e10, e01, reduceIte, Option.isSome_none, Option.isSome_some, Bool.false_eq_true, bi_t, bi_f, hr, ko_p, rc_p5 hC, rc_p6 hC, ka_p4, ka_p5, nar_b1]
    have gg := set (uf (uf f 5 3 (nn (qsk t n pos))) 5 3 (nn (qsk t n pos + 1))) 1 (nn (t (qsk t n pos) - 97)) (.inl (t (qsk t n pos) - 97)) (f1.put _ _) ⟨rfl, rfl, by omega⟩
    have g2 := g.go (qsk t n pos + 1)
    refine h1 _ _ eq gg.1 ⟨?_, ?_, ?_⟩ gg.2.1 gg.2.2
    · simp (disch := (first | assumption | omega)) only [true_and, and_true, zr_u, zi_u, zI_u, Option.some.injEq, exists_eq_left', nn_tn, nn_add, nn_s, nn_2, nn_5, nn_7, nn_8, na0, na2, na3, na4, na5, na6, uf_ne, uf_eq, ur_eq, ur_ne, true_or, or_true, not_true_eq_false, not_false_eq_true, true_implies, false_implies, implies_true, e10, e01, reduceIte, Option.isSome_none, Option.isSome_some, Bool.false_eq_true, bi_t, bi_f]
    · simp (disch := (first | assumption | omega)) only [true_and, and_true, zr_u, zi_u, zI_u, Option.some.injEq, exists_eq_left', nn_tn, nn_add, nn_s, nn_2, nn_5, nn_7, nn_8, na0, na2, na3, na4, na5, na6, uf_ne, uf_eq, ur_eq, ur_ne, true_or, or_true, not_true_eq_false, not_false_eq_true, true_implies, false_implies, implies_true, e10, e01, reduceIte, Option.isSome_none, Option.isSome_some, Bool.false_eq_true, bi_t, bi_f]
      exact hk.2.1
    · simp (disch := (first | assumption | omega)) only [true_and, and_true, zr_u, zi_u, zI_u, Option.some.injEq, exists_eq_left', nn_tn, nn_add, nn_s, nn_2, nn_5, nn_7, nn_8, na0, na2, na3, na4, na5, na6, uf_ne, uf_eq, ur_eq, ur_ne, true_or, or_true, not_true_eq_false, not_false_eq_true, true_implies, false_implies, implies_true, e10, e01, reduceIte, Option.isSome_none, Option.isSome_some, Bool.false_eq_true, bi_t, bi_f]
      exact hk.2.2
  · simp (disch := (first | assumption | omega)) only [true_and, and_true, zr_u, zi_u, zI_u, Option.some.injEq, exists_eq_left', nn_tn, nn_add, nn_s, nn_2, nn_5, nn_7, nn_8, na0, na2, na3, na4, na5, na6, uf_ne, uf_eq, ur_eq, ur_ne, true_or, or_true, not_true_eq_false, not_false_eq_true, true_implies, false_implies, implies_true, e10, e01, reduceIte, Option.isSome_none, Option.isSome_some, Bool.false_eq_true, bi_t, bi_f]
    refine s_number (sg := true) hC hR1 (qsk_n hpos) g (fun f2 x z1 z2 z3 z4 => ?_) (fun f2 e z1 z2 z3 => ?_)
    · have eq := qop_N hL z1
      unfold P_G_setOperand
      simp (disch := (first | assumption | omega)) only [true_and, and_true, zr_u, zi_u, zI_u, Option.some.injEq, exists_eq_left', nn_tn, nn_add, nn_s, nn_2, nn_5, nn_7, nn_8, na0, na2, na3, na4, na5, na6, uf_ne, uf_eq, ur_eq, ur_ne, true_or, or_true, not_true_eq_false, not_false_eq_true, true_implies, false_implies, implies_true, e10, e01, reduceIte, Option.isSome_none, Option.isSome_some, Bool.false_eq_true, bi_t, bi_f, hr, ko_p, rc_p5 hC, rc_p6 hC, ka_p4, ka_p5, nar_b0, z4]
      have gg := set f2 0 x.1 (.inr x.1) (f1.trans z2) ⟨rfl, rfl⟩
      refine h1 _ _ eq gg.1 ⟨?_, ?_, ?_⟩ gg.2.1 gg.2.2
      · simp (disch := (first | assumption | omega)) only [true_and, and_true, zr_u, zi_u, zI_u, Option.some.injEq, exists_eq_left', nn_tn, nn_add, nn_s, nn_2, nn_5, nn_7, nn_8, na0, na2, na3, na4, na5, na6, uf_ne, uf_eq, ur_eq, ur_ne, true_or, or_true, not_true_eq_false, not_false_eq_true, true_implies, false_implies, implies_true, e10, e01, reduceIte, Option.isSome_none, Option.isSome_some, Bool.false_eq_true, bi_t, bi_f]
        exact z3.1
      · simp (disch := (first | assumption | omega)) only [true_and, and_true, zr_u, zi_u, zI_u, Option.some.injEq, exists_eq_left', nn_tn, nn_add, nn_s, nn_2, nn_5, nn_7, nn_8, na0, na2, na3, na4, na5, na6, uf_ne, uf_eq, ur_eq, ur_ne, true_or, or_true, not_true_eq_false, not_false_eq_true, true_implies, false_implies, implies_true, e10, e01, reduceIte, Option.isSome_none, Option.isSome_some, Bool.false_eq_true, bi_t, bi_f]
        exact z3.2.1
      · simp (disch := (first | assumption | omega)) only [true_and, and_true, zr_u, zi_u, zI_u, Option.some.injEq, exists_eq_left', nn_tn, nn_add, nn_s, nn_2, nn_5, nn_7, nn_8, na0, na2, na3, na4, na5, na6, uf_ne, uf_eq, ur_eq, ur_ne, true_or, or_true, not_true_eq_false, not_false_eq_true, true_implies, false_implies, implies_true, e10, e01, reduceIte, Option.isSome_none, Option.isSome_some, Bool.false_eq_true, bi_t, bi_f]
        exact z3.2.2
    · have eq := qop_E hL z1
      simp (disch := (first | assumption | omega)) only [true_and, and_true, zr_u, zi_u, zI_u, Option.some.injEq, exists_eq_left', nn_tn, nn_add, nn_s, nn_2, nn_5, nn_7, nn_8, na0, na2, na3, na4, na5, na6, uf_ne, uf_eq, ur_eq, ur_ne, true_or, or_true, not_true_eq_false, not_false_eq_true, true_implies, false_implies, implies_true, e10, e01, reduceIte, Option.isSome_none, Option.isSome_some, Bool.false_eq_true, bi_t, bi_f]
      exact h0 _ _ eq (f1.trans z2) z3
theorem s_isOp {f : zf} {t : Nat → Nat} {n q : Nat} {σ : zS} {Q : Int32 → zS → Prop} (h : hR f t n) (h1 : qO t n q → Q 1 σ) (h0 : ¬ qO t n q → Q 0 σ) : P_C_isOperator 201 (qby t n q) σ Q := by
  unfold P_C_isOperator P_C_isOperator_92
  simp (disch := (first | assumption | omega)) only [true_and, and_true, zr_u, zi_u, zI_u, Option.some.injEq, exists_eq_left', nn_tn, nn_add, nn_s, nn_2, nn_5, nn_7, nn_8, na0, na2, na3, na4, na5, na6, uf_ne, uf_eq, ur_eq, ur_ne, true_or, or_true, not_true_eq_false, not_false_eq_true, true_implies, false_implies, implies_true, e10, e01, reduceIte, Option.isSome_none, Option.isSome_some, Bool.false_eq_true, bi_t, bi_f]
  simp only [show (37 : Int32) = nn 37 from rfl, show (38 : Int32) = nn 38 from rfl, show (42 : Int32) = nn 42 from rfl, show (43 : Int32) = nn 43 from rfl, show (45 : Int32) = nn 45 from rfl, show (47 : Int32) = nn 47 from rfl, show (60 : Int32) = nn 60 from rfl, show (61 : Int32) = nn 61 from rfl, show (94 : Int32) = nn 94 from rfl, show (124 : Int32) = nn 124 from rfl]
  rw [qby_eq h (by decide), qby_eq h (by decide), qby_eq h (by decide), qby_eq h (by decide), qby_eq h (by decide), qby_eq h (by decide), qby_eq h (by decide), qby_eq h (by decide), qby_eq h (by decide), qby_eq h (by decide)]
  have go : ∀ c, qE t n q c → isop c → Q 1 σ := fun c hc ho => h1 ⟨hc.1, by rw [hc.2]; exact ho⟩
  refine ⟨fun z => go _ z (by unfold isop; decide), fun z => go _ z (by unfold isop; decide), fun z => go _ z (by unfold isop; decide), fun z => go _ z (by unfold isop; decide), fun z => go _ z (by unfold isop; decide), fun z => go _ z (by unfold isop; decide), fun z => go _ z (by unfold isop; decide), fun z => go _ z (by unfold isop; decide), fun z => go _ z (by unfold isop; decide), fun z => go _ z (by unfold isop; decide), ?_⟩
  intro z1 z2 z3 z4 z5 z6 z7 z8 z9 z10
  refine h0 (fun hq => ?_)
  obtain ⟨hq, ho⟩ := hq
  rcases ho with e | e | e | e | e | e | e | e | e | e
  · exact z4 ⟨hq, e⟩
  · exact z5 ⟨hq, e⟩
  · exact z3 ⟨hq, e⟩
  · exact z6 ⟨hq, e⟩
  · exact z1 ⟨hq, e⟩
  · exact z2 ⟨hq, e⟩
  · exact z10 ⟨hq, e⟩
  · exact z9 ⟨hq, e⟩
  · exact z7 ⟨hq, e⟩
  · exact z8 ⟨hq, e⟩
theorem isop_lt {c : Nat} (h : isop c) : c < 128 ∧ c ≠ 0 ∧ c ≠ 1 := by
  rcases h with e | e | e | e | e | e | e | e | e | e <;> subst e <;> decide
/-- of the program at p only statement s, and row 5, differ -/
def frS (f f' : zf) (p s : Nat) : Prop := (∀ a, a ≠ 5 → a ≠ p → a ≠ p + 2 → a ≠ p + 3 → a ≠ p + 4 → a ≠ p + 5 → f' a = f a) ∧ f' p 0 = f p 0 ∧ f' p 1 = nn (s + 1) ∧ (∀ i, i ≠ s → f' (p + 2) i = f (p + 2) i ∧ f' (p + 3) i = f (p + 3) i) ∧ ∀ i, i ≠ 2 * s → i ≠ 2 * s + 1 → f' (p + 4) i = f (p + 4) i ∧ f' (p + 5) i = f (p + 5) i
theorem frS.O {f g h : zf} {p s i : Nat} (hp : zp_ p) (a : frS f g p s) (b : frO g h p i) (hi : i = 2 * s ∨ i = 2 * s + 1) : frS f h p s := by
  unfold zp_ at hp
  obtain ⟨a1, a2, a3, a4, a5⟩ := a
  have e0 : h p = g p := b.1 _ (by omega) (by omega) (by omega)
  have e2 : h (p + 2) = g (p + 2) := b.1 _ (by omega) (by omega) (by omega)
  have e3 : h (p + 3) = g (p + 3) := b.1 _ (by omega) (by omega) (by omega)
  refine ⟨fun k z1 z2 z3 z4 z5 z6 => by rw [b.1 k z1 z5 z6]; exact a1 k z1 z2 z3 z4 z5 z6, by rw [e0]; exact a2, by rw [e0]; exact a3, fun j hj => by rw [e2, e3]; exact a4 j hj, fun j h1 h2 => ?_⟩
  rw [(b.2 j (by omega)).1, (b.2 j (by omega)).2]; exact a5 j h1 h2
theorem frS.five {f g h : zf} {p s : Nat} (hp : zp_ p) (a : frS f g p s) (b : fr5 g h) : frS f h p s := by
  unfold zp_ at hp
  obtain ⟨a1, a2, a3, a4, a5⟩ := a
  have e0 : h p = g p := b _ (by omega)
  have e2 : h (p + 2) = g (p + 2) := b _ (by omega)
  have e3 : h (p + 3) = g (p + 3) := b _ (by omega)
  have e4 : h (p + 4) = g (p + 4) := b _ (by omega)
  have e5 : h (p + 5) = g (p + 5) := b _ (by omega)
  exact ⟨fun k z1 z2 z3 z4 z5 z6 => by rw [b k z1]; exact a1 k z1 z2 z3 z4 z5 z6, by rw [e0]; exact a2, by rw [e0]; exact a3, fun j hj => by rw [e2, e3]; exact a4 j hj, fun j h1 h2 => by rw [e4, e5]; exact a5 j h1 h2⟩
theorem frS.how {f g : zf} {p s : Nat} (hp : zp_ p) (a : frS f g p s) (x : Int32) : frS f (uf g (p + 3) s x) p s := by
  unfold zp_ at hp
  obtain ⟨a1, a2, a3, a4, a5⟩ := a
  refine ⟨fun k z1 z2 z3 z4 z5 z6 => by simp (disch := (first | assumption | omega)) only [true_and, and_true, zr_u, zi_u, zI_u, Option.some.injEq, exists_eq_left', nn_tn, nn_add, nn_s, nn_2, nn_5, nn_7, nn_8, na0, na2, na3, na4, na5, na6, uf_ne, uf_eq, ur_eq, ur_ne, true_or, or_true, not_true_eq_false, not_false_eq_true, true_implies, false_implies, implies_true, e10, e01, reduceIte, Option.isSome_none, Option.isSome_some, Bool.false_eq_true, bi_t, bi_f]; exact a1 k z1 z2 z3 z4 z5 z6, by simp (disch := (first | assumption | omega)) only [true_and, and_true, zr_u, zi_u, zI_u, Option.some.injEq, exists_eq_left', nn_tn, nn_add, nn_s, nn_2, nn_5, nn_7, nn_8, na0, na2, na3, na4, na5, na6, uf_ne, uf_eq, ur_eq, ur_ne, true_or, or_true, not_true_eq_false, not_false_eq_true, true_implies, false_implies, implies_true, e10, e01, reduceIte, Option.isSome_none, Option.isSome_some, Bool.false_eq_true, bi_t, bi_f]; exact a2, by simp (disch := (first | assumption | omega)) only [true_and, and_true, zr_u, zi_u, zI_u, Option.some.injEq, exists_eq_left', nn_tn, nn_add, nn_s, nn_2, nn_5, nn_7, nn_8, na0, na2, na3, na4, na5, na6, uf_ne, uf_eq, ur_eq, ur_ne, true_or, or_true, not_true_eq_false, not_false_eq_true, true_implies, false_implies, implies_true, e10, e01, reduceIte, Option.isSome_none, Option.isSome_some, Bool.false_eq_true, bi_t, bi_f]; exact a3, fun j hj => ⟨by simp (disch := (first | assumption | omega)) only [true_and, and_true, zr_u, zi_u, zI_u, Option.some.injEq, exists_eq_left', nn_tn, nn_add, nn_s, nn_2, nn_5, nn_7, nn_8, na0, na2, na3, na4, na5, na6, uf_ne, uf_eq, ur_eq, ur_ne, true_or, or_true, not_true_eq_false, not_false_eq_true, true_implies, false_implies, implies_true, e10, e01, reduceIte, Option.isSome_none, Option.isSome_some, Bool.false_eq_true, bi_t, bi_f]; exact (a4 j hj).1, by simp (disch := (first | assumption | omega)) only [true_and, and_true, zr_u, zi_u, zI_u, Option.some.injEq, exists_eq_left', nn_tn, nn_add, nn_s, nn_2, nn_5, nn_7, nn_8, na0, na2, na3, na4, na5, na6, uf_ne, uf_eq, ur_eq, ur_ne, true_or, or_true, not_true_eq_false, not_false_eq_true, true_implies, false_implies, implies_true, e10, e01, reduceIte, Option.isSome_none, Option.isSome_some, Bool.false_eq_true, bi_t, bi_f]; exact (a4 j hj).2⟩, fun j h1 h2 => ⟨by simp (disch := (first | assumption | omega)) only [true_and, and_true, zr_u, zi_u, zI_u, Option.some.injEq, exists_eq_left', nn_tn, nn_add, nn_s, nn_2, nn_5, nn_7, nn_8, na0, na2, na3, na4, na5, na6, uf_ne, uf_eq, ur_eq, ur_ne, true_or, or_true, not_true_eq_false, not_false_eq_true, true_implies, false_implies, implies_true, e10, e01, reduceIte, Option.isSome_none, Option.isSome_some, Bool.false_eq_true, bi_t, bi_f]; exact (a5 j h1 h2).1, by simp (disch := (first | assumption | omega)) only [true_and, and_true, zr_u, zi_u, zI_u, Option.some.injEq, exists_eq_left', nn_tn, nn_add, nn_s, nn_2, nn_5, nn_7, nn_8, na0, na2, na3, na4, na5, na6, uf_ne, uf_eq, ur_eq, ur_ne, true_or, or_true, not_true_eq_false, not_false_eq_true, true_implies, false_implies, implies_true, e10, e01, reduceIte, Option.isSome_none, Option.isSome_some, Bool.false_eq_true, bi_t, bi_f]; exact (a5 j h1 h2).2⟩⟩
theorem sK.same {f f' : zf} {p : Nat} (h : sK f p) (h4 : f' (p + 4) = f (p + 4)) (h5 : f' (p + 5) = f (p + 5)) : sK f' p := by
  unfold sK; rw [h4, h5]; exact h
theorem s_fillStm {f : zf} {ρ : zo} (hC : zC ρ) {t : Nat → Nat} {n p s pos x : Nat} {Q : Int32 → zS → Prop} (hp : zp_ p) (hr : ρ.1 5 2 = some p) (hR' : hR f t n) (hpos : pos ≤ n) (hk : okp f pos) (hs : s < 80) (hx : x < 8) (hps : f p 1 = nn s) (hK : sK f p) (h1 : ∀ f' r, qstm t n pos x = .inr r → frS f f' p s → okp f' r.2 → tC f' p s r.1 → sK f' p → Q 1 (f', ρ)) (h0 : ∀ f' e, qstm t n pos x = .inl e → frS f f' p s → flt f' e → sK f' p → Q 0 (f', ρ)) : P_R_fillStatement 201 5 (nn x) (f, ρ) Q := by
  have hp' := hp
  unfold zp_ at hp'
  have hn := hR'.2.1
  unfold P_R_fillStatement P_R_fillStatement_135
  simp (disch := (first | assumption | omega)) only [true_and, and_true, zr_u, zi_u, zI_u, Option.some.injEq, exists_eq_left', nn_tn, nn_add, nn_s, nn_2, nn_5, nn_7, nn_8, na0, na2, na3, na4, na5, na6, uf_ne, uf_eq, ur_eq, ur_ne, true_or, or_true, not_true_eq_false, not_false_eq_true, true_implies, false_implies, implies_true, e10, e01, reduceIte, Option.isSome_none, Option.isSome_some, Bool.false_eq_true, bi_t, bi_f, ko_5, hr, ko_p, hps, rc_p3 hC, rc_p4 hC, ka_p2, ka_p3]
  have F1 : frS f (uf (uf (uf f p 1 (nn (s + 1))) (p + 2) s (nn x)) (p + 3) s 0) p s := by
    refine ⟨fun k z1 z2 z3 z4 z5 z6 => by simp (disch := (first | assumption | omega)) only [true_and, and_true, zr_u, zi_u, zI_u, Option.some.injEq, exists_eq_left', nn_tn, nn_add, nn_s, nn_2, nn_5, nn_7, nn_8, na0, na2, na3, na4, na5, na6, uf_ne, uf_eq, ur_eq, ur_ne, true_or, or_true, not_true_eq_false, not_false_eq_true, true_implies, false_implies, implies_true, e10, e01, reduceIte, Option.isSome_none, Option.isSome_some, Bool.false_eq_true, bi_t, bi_f], by simp (disch := (first | assumption | omega)) only [true_and, and_true, zr_u, zi_u, zI_u, Option.some.injEq, exists_eq_left', nn_tn, nn_add, nn_s, nn_2, nn_5, nn_7, nn_8, na0, na2, na3, na4, na5, na6, uf_ne, uf_eq, ur_eq, ur_ne, true_or, or_true, not_true_eq_false, not_false_eq_true, true_implies, false_implies, implies_true, e10, e01, reduceIte, Option.isSome_none, Option.isSome_some, Bool.false_eq_true, bi_t, bi_f], by simp (disch := (first | assumption | omega)) only [true_and, and_true, zr_u, zi_u, zI_u, Option.some.injEq, exists_eq_left', nn_tn, nn_add, nn_s, nn_2, nn_5, nn_7, nn_8, na0, na2, na3, na4, na5, na6, uf_ne, uf_eq, ur_eq, ur_ne, true_or, or_true, not_true_eq_false, not_false_eq_true, true_implies, false_implies, implies_true, e10, e01, reduceIte, Option.isSome_none, Option.isSome_some, Bool.false_eq_true, bi_t, bi_f], fun j hj => ⟨by simp (disch := (first | assumption | omega)) only [true_and, and_true, zr_u, zi_u, zI_u, Option.some.injEq, exists_eq_left', nn_tn, nn_add, nn_s, nn_2, nn_5, nn_7, nn_8, na0, na2, na3, na4, na5, na6, uf_ne, uf_eq, ur_eq, ur_ne, true_or, or_true, not_true_eq_false, not_false_eq_true, true_implies, false_implies, implies_true, e10, e01, reduceIte, Option.isSome_none, Option.isSome_some, Bool.false_eq_true, bi_t, bi_f], by simp (disch := (first | assumption | omega)) only [true_and, and_true, zr_u, zi_u, zI_u, Option.some.injEq, exists_eq_left', nn_tn, nn_add, nn_s, nn_2, nn_5, nn_7, nn_8, na0, na2, na3, na4, na5, na6, uf_ne, uf_eq, ur_eq, ur_ne, true_or, or_true, not_true_eq_false, not_false_eq_true, true_implies, false_implies, implies_true, e10, e01, reduceIte, Option.isSome_none, Option.isSome_some, Bool.false_eq_true, bi_t, bi_f]⟩, fun j h1 h2 => ⟨by simp (disch := (first | assumption | omega)) only [true_and, and_true, zr_u, zi_u, zI_u, Option.some.injEq, exists_eq_left', nn_tn, nn_add, nn_s, nn_2, nn_5, nn_7, nn_8, na0, na2, na3, na4, na5, na6, uf_ne, uf_eq, ur_eq, ur_ne, true_or, or_true, not_true_eq_false, not_false_eq_true, true_implies, false_implies, implies_true, e10, e01, reduceIte, Option.isSome_none, Option.isSome_some, Bool.false_eq_true, bi_t, bi_f], by simp (disch := (first | assumption | omega)) only [true_and, and_true, zr_u, zi_u, zI_u, Option.some.injEq, exists_eq_left', nn_tn, nn_add, nn_s, nn_2, nn_5, nn_7, nn_8, na0, na2, na3, na4, na5, na6, uf_ne, uf_eq, ur_eq, ur_ne, true_or, or_true, not_true_eq_false, not_false_eq_true, true_implies, false_implies, implies_true, e10, e01, reduceIte, Option.isSome_none, Option.isSome_some, Bool.false_eq_true, bi_t, bi_f]⟩⟩
  have K1 : sK (uf (uf (uf f p 1 (nn (s + 1))) (p + 2) s (nn x)) (p + 3) s 0) p := hK.same (by simp (disch := (first | assumption | omega)) only [true_and, and_true, zr_u, zi_u, zI_u, Option.some.injEq, exists_eq_left', nn_tn, nn_add, nn_s, nn_2, nn_5, nn_7, nn_8, na0, na2, na3, na4, na5, na6, uf_ne, uf_eq, ur_eq, ur_ne, true_or, or_true, not_true_eq_false, not_false_eq_true, true_implies, false_implies, implies_true, e10, e01, reduceIte, Option.isSome_none, Option.isSome_some, Bool.false_eq_true, bi_t, bi_f]) (by simp (disch := (first | assumption | omega)) only [true_and, and_true, zr_u, zi_u, zI_u, Option.some.injEq, exists_eq_left', nn_tn, nn_add, nn_s, nn_2, nn_5, nn_7, nn_8, na0, na2, na3, na4, na5, na6, uf_ne, uf_eq, ur_eq, ur_ne, true_or, or_true, not_true_eq_false, not_false_eq_true, true_implies, false_implies, implies_true, e10, e01, reduceIte, Option.isSome_none, Option.isSome_some, Bool.false_eq_true, bi_t, bi_f])
  have R1 : hR (uf (uf (uf f p 1 (nn (s + 1))) (p + 2) s (nn x)) (p + 3) s 0) t n := hR'.same (by simp (disch := (first | assumption | omega)) only [true_and, and_true, zr_u, zi_u, zI_u, Option.some.injEq, exists_eq_left', nn_tn, nn_add, nn_s, nn_2, nn_5, nn_7, nn_8, na0, na2, na3, na4, na5, na6, uf_ne, uf_eq, ur_eq, ur_ne, true_or, or_true, not_true_eq_false, not_false_eq_true, true_implies, false_implies, implies_true, e10, e01, reduceIte, Option.isSome_none, Option.isSome_some, Bool.false_eq_true, bi_t, bi_f]) (by simp (disch := (first | assumption | omega)) only [true_and, and_true, zr_u, zi_u, zI_u, Option.some.injEq, exists_eq_left', nn_tn, nn_add, nn_s, nn_2, nn_5, nn_7, nn_8, na0, na2, na3, na4, na5, na6, uf_ne, uf_eq, ur_eq, ur_ne, true_or, or_true, not_true_eq_false, not_false_eq_true, true_implies, false_implies, implies_true, e10, e01, reduceIte, Option.isSome_none, Option.isSome_some, Bool.false_eq_true, bi_t, bi_f])
  have O1 : okp (uf (uf (uf f p 1 (nn (s + 1))) (p + 2) s (nn x)) (p + 3) s 0) pos := ⟨by simp (disch := (first | assumption | omega)) only [true_and, and_true, zr_u, zi_u, zI_u, Option.some.injEq, exists_eq_left', nn_tn, nn_add, nn_s, nn_2, nn_5, nn_7, nn_8, na0, na2, na3, na4, na5, na6, uf_ne, uf_eq, ur_eq, ur_ne, true_or, or_true, not_true_eq_false, not_false_eq_true, true_implies, false_implies, implies_true, e10, e01, reduceIte, Option.isSome_none, Option.isSome_some, Bool.false_eq_true, bi_t, bi_f]; exact hk.1, by simp (disch := (first | assumption | omega)) only [true_and, and_true, zr_u, zi_u, zI_u, Option.some.injEq, exists_eq_left', nn_tn, nn_add, nn_s, nn_2, nn_5, nn_7, nn_8, na0, na2, na3, na4, na5, na6, uf_ne, uf_eq, ur_eq, ur_ne, true_or, or_true, not_true_eq_false, not_false_eq_true, true_implies, false_implies, implies_true, e10, e01, reduceIte, Option.isSome_none, Option.isSome_some, Bool.false_eq_true, bi_t, bi_f]; exact hk.2.1, by simp (disch := (first | assumption | omega)) only [true_and, and_true, zr_u, zi_u, zI_u, Option.some.injEq, exists_eq_left', nn_tn, nn_add, nn_s, nn_2, nn_5, nn_7, nn_8, na0, na2, na3, na4, na5, na6, uf_ne, uf_eq, ur_eq, ur_ne, true_or, or_true, not_true_eq_false, not_false_eq_true, true_implies, false_implies, implies_true, e10, e01, reduceIte, Option.isSome_none, Option.isSome_some, Bool.false_eq_true, bi_t, bi_f]; exact hk.2.2⟩
  have V1 : (uf (uf (uf f p 1 (nn (s + 1))) (p + 2) s (nn x)) (p + 3) s 0) (p + 2) s = nn x := by simp (disch := (first | assumption | omega)) only [true_and, and_true, zr_u, zi_u, zI_u, Option.some.injEq, exists_eq_left', nn_tn, nn_add, nn_s, nn_2, nn_5, nn_7, nn_8, na0, na2, na3, na4, na5, na6, uf_ne, uf_eq, ur_eq, ur_ne, true_or, or_true, not_true_eq_false, not_false_eq_true, true_implies, false_implies, implies_true, e10, e01, reduceIte, Option.isSome_none, Option.isSome_some, Bool.false_eq_true, bi_t, bi_f]
  have W1 : (uf (uf (uf f p 1 (nn (s + 1))) (p + 2) s (nn x)) (p + 3) s 0) (p + 3) s = 0 := by simp (disch := (first | assumption | omega)) only [true_and, and_true, zr_u, zi_u, zI_u, Option.some.injEq, exists_eq_left', nn_tn, nn_add, nn_s, nn_2, nn_5, nn_7, nn_8, na0, na2, na3, na4, na5, na6, uf_ne, uf_eq, ur_eq, ur_ne, true_or, or_true, not_true_eq_false, not_false_eq_true, true_implies, false_implies, implies_true, e10, e01, reduceIte, Option.isSome_none, Option.isSome_some, Bool.false_eq_true, bi_t, bi_f]
  generalize (uf (uf (uf f p 1 (nn (s + 1))) (p + 2) s (nn x)) (p + 3) s 0) = f1 at F1 K1 R1 O1 V1 W1 ⊢
  refine s_next hC R1 hpos O1.1 ?_
  rw [show (63 : Int32) = nn 63 from rfl, qby_eq R1 (by decide)]
  have F2 := frS.five hp F1 ((fr5.rfl' f1).put 3 (nn (qsk t n pos)))
  have R2 := R1.five ((fr5.rfl' f1).put 3 (nn (qsk t n pos)))
  have O2 := O1.go (qsk t n pos)
  have K2 : sK (uf f1 5 3 (nn (qsk t n pos))) p := K1.same (by simp (disch := (first | assumption | omega)) only [true_and, and_true, zr_u, zi_u, zI_u, Option.some.injEq, exists_eq_left', nn_tn, nn_add, nn_s, nn_2, nn_5, nn_7, nn_8, na0, na2, na3, na4, na5, na6, uf_ne, uf_eq, ur_eq, ur_ne, true_or, or_true, not_true_eq_false, not_false_eq_true, true_implies, false_implies, implies_true, e10, e01, reduceIte, Option.isSome_none, Option.isSome_some, Bool.false_eq_true, bi_t, bi_f]) (by simp (disch := (first | assumption | omega)) only [true_and, and_true, zr_u, zi_u, zI_u, Option.some.injEq, exists_eq_left', nn_tn, nn_add, nn_s, nn_2, nn_5, nn_7, nn_8, na0, na2, na3, na4, na5, na6, uf_ne, uf_eq, ur_eq, ur_ne, true_or, or_true, not_true_eq_false, not_false_eq_true, true_implies, false_implies, implies_true, e10, e01, reduceIte, Option.isSome_none, Option.isSome_some, Bool.false_eq_true, bi_t, bi_f])
  have V2 : (uf f1 5 3 (nn (qsk t n pos))) (p + 2) s = nn x := by simp (disch := (first | assumption | omega)) only [true_and, and_true, zr_u, zi_u, zI_u, Option.some.injEq, exists_eq_left', nn_tn, nn_add, nn_s, nn_2, nn_5, nn_7, nn_8, na0, na2, na3, na4, na5, na6, uf_ne, uf_eq, ur_eq, ur_ne, true_or, or_true, not_true_eq_false, not_false_eq_true, true_implies, false_implies, implies_true, e10, e01, reduceIte, Option.isSome_none, Option.isSome_some, Bool.false_eq_true, bi_t, bi_f]; exact V1
  have W2 : (uf f1 5 3 (nn (qsk t n pos))) (p + 3) s = 0 := by simp (disch := (first | assumption | omega)) only [true_and, and_true, zr_u, zi_u, zI_u, Option.some.injEq, exists_eq_left', nn_tn, nn_add, nn_s, nn_2, nn_5, nn_7, nn_8, na0, na2, na3, na4, na5, na6, uf_ne, uf_eq, ur_eq, ur_ne, true_or, or_true, not_true_eq_false, not_false_eq_true, true_implies, false_implies, implies_true, e10, e01, reduceIte, Option.isSome_none, Option.isSome_some, Bool.false_eq_true, bi_t, bi_f]; exact W1
  generalize uf f1 5 3 (nn (qsk t n pos)) = f2 at F2 R2 O2 K2 V2 W2 ⊢
  have hsk := qsk_n (t := t) hpos
  refine ⟨fun z => ?_, fun z => ?_⟩
  · unfold P_G_left
    simp (disch := (first | assumption | omega)) only [true_and, and_true, zr_u, zi_u, zI_u, Option.some.injEq, exists_eq_left', nn_tn, nn_add, nn_s, nn_2, nn_5, nn_7, nn_8, na0, na2, na3, na4, na5, na6, uf_ne, uf_eq, ur_eq, ur_ne, true_or, or_true, not_true_eq_false, not_false_eq_true, true_implies, false_implies, implies_true, e10, e01, reduceIte, Option.isSome_none, Option.isSome_some, Bool.false_eq_true, bi_t, bi_f, hr, ko_p, rc_p4 hC, ka_p3]
    have F3 := F2.how hp 1
    have R3 : hR (uf f2 (p + 3) s 1) t n := R2.same (by simp (disch := (first | assumption | omega)) only [true_and, and_true, zr_u, zi_u, zI_u, Option.some.injEq, exists_eq_left', nn_tn, nn_add, nn_s, nn_2, nn_5, nn_7, nn_8, na0, na2, na3, na4, na5, na6, uf_ne, uf_eq, ur_eq, ur_ne, true_or, or_true, not_true_eq_false, not_false_eq_true, true_implies, false_implies, implies_true, e10, e01, reduceIte, Option.isSome_none, Option.isSome_some, Bool.false_eq_true, bi_t, bi_f]) (by simp (disch := (first | assumption | omega)) only [true_and, and_true, zr_u, zi_u, zI_u, Option.some.injEq, exists_eq_left', nn_tn, nn_add, nn_s, nn_2, nn_5, nn_7, nn_8, na0, na2, na3, na4, na5, na6, uf_ne, uf_eq, ur_eq, ur_ne, true_or, or_true, not_true_eq_false, not_false_eq_true, true_implies, false_implies, implies_true, e10, e01, reduceIte, Option.isSome_none, Option.isSome_some, Bool.false_eq_true, bi_t, bi_f])
    have O3 : okp (uf f2 (p + 3) s 1) (qsk t n pos) := ⟨by simp (disch := (first | assumption | omega)) only [true_and, and_true, zr_u, zi_u, zI_u, Option.some.injEq, exists_eq_left', nn_tn, nn_add, nn_s, nn_2, nn_5, nn_7, nn_8, na0, na2, na3, na4, na5, na6, uf_ne, uf_eq, ur_eq, ur_ne, true_or, or_true, not_true_eq_false, not_false_eq_true, true_implies, false_implies, implies_true, e10, e01, reduceIte, Option.isSome_none, Option.isSome_some, Bool.false_eq_true, bi_t, bi_f]; exact O2.1, by simp (disch := (first | assumption | omega)) only [true_and, and_true, zr_u, zi_u, zI_u, Option.some.injEq, exists_eq_left', nn_tn, nn_add, nn_s, nn_2, nn_5, nn_7, nn_8, na0, na2, na3, na4, na5, na6, uf_ne, uf_eq, ur_eq, ur_ne, true_or, or_true, not_true_eq_false, not_false_eq_true, true_implies, false_implies, implies_true, e10, e01, reduceIte, Option.isSome_none, Option.isSome_some, Bool.false_eq_true, bi_t, bi_f]; exact O2.2.1, by simp (disch := (first | assumption | omega)) only [true_and, and_true, zr_u, zi_u, zI_u, Option.some.injEq, exists_eq_left', nn_tn, nn_add, nn_s, nn_2, nn_5, nn_7, nn_8, na0, na2, na3, na4, na5, na6, uf_ne, uf_eq, ur_eq, ur_ne, true_or, or_true, not_true_eq_false, not_false_eq_true, true_implies, false_implies, implies_true, e10, e01, reduceIte, Option.isSome_none, Option.isSome_some, Bool.false_eq_true, bi_t, bi_f]; exact O2.2.2⟩
    have K3 : sK (uf f2 (p + 3) s 1) p := K2.same (by simp (disch := (first | assumption | omega)) only [true_and, and_true, zr_u, zi_u, zI_u, Option.some.injEq, exists_eq_left', nn_tn, nn_add, nn_s, nn_2, nn_5, nn_7, nn_8, na0, na2, na3, na4, na5, na6, uf_ne, uf_eq, ur_eq, ur_ne, true_or, or_true, not_true_eq_false, not_false_eq_true, true_implies, false_implies, implies_true, e10, e01, reduceIte, Option.isSome_none, Option.isSome_some, Bool.false_eq_true, bi_t, bi_f]) (by simp (disch := (first | assumption | omega)) only [true_and, and_true, zr_u, zi_u, zI_u, Option.some.injEq, exists_eq_left', nn_tn, nn_add, nn_s, nn_2, nn_5, nn_7, nn_8, na0, na2, na3, na4, na5, na6, uf_ne, uf_eq, ur_eq, ur_ne, true_or, or_true, not_true_eq_false, not_false_eq_true, true_implies, false_implies, implies_true, e10, e01, reduceIte, Option.isSome_none, Option.isSome_some, Bool.false_eq_true, bi_t, bi_f])
    have V3 : (uf f2 (p + 3) s 1) (p + 2) s = nn x := by simp (disch := (first | assumption | omega)) only [true_and, and_true, zr_u, zi_u, zI_u, Option.some.injEq, exists_eq_left', nn_tn, nn_add, nn_s, nn_2, nn_5, nn_7, nn_8, na0, na2, na3, na4, na5, na6, uf_ne, uf_eq, ur_eq, ur_ne, true_or, or_true, not_true_eq_false, not_false_eq_true, true_implies, false_implies, implies_true, e10, e01, reduceIte, Option.isSome_none, Option.isSome_some, Bool.false_eq_true, bi_t, bi_f]; exact V2
    have W3 : (uf f2 (p + 3) s 1) (p + 3) s = 1 := by simp (disch := (first | assumption | omega)) only [true_and, and_true, zr_u, zi_u, zI_u, Option.some.injEq, exists_eq_left', nn_tn, nn_add, nn_s, nn_2, nn_5, nn_7, nn_8, na0, na2, na3, na4, na5, na6, uf_ne, uf_eq, ur_eq, ur_ne, true_or, or_true, not_true_eq_false, not_false_eq_true, true_implies, false_implies, implies_true, e10, e01, reduceIte, Option.isSome_none, Option.isSome_some, Bool.false_eq_true, bi_t, bi_f]
    generalize uf f2 (p + 3) s 1 = f3 at F3 R3 O3 K3 V3 W3 ⊢
    refine s_fillOp hC hp hr R3 hsk O3 (by omega) K3 (fun f4 r y1 y2 y3 y4 y5 => ?_) (fun f4 e y1 y2 y3 => ?_)
    · have rp := qop_pos y1 hsk
      have F4 := F3.O hp y2 (Or.inl rfl)
      have R4 : hR f4 t n := R3.same (y2.1 _ (by decide) (by omega) (by omega)) (y2.1 _ (by decide) (by omega) (by omega))
      have V4 : f4 (p + 2) s = nn x := by rw [y2.1 _ (by omega) (by omega) (by omega)]; exact V3
      have W4 : f4 (p + 3) s = 1 := by rw [y2.1 _ (by omega) (by omega) (by omega)]; exact W3
      simp (disch := (first | assumption | omega)) only [true_and, and_true, zr_u, zi_u, zI_u, Option.some.injEq, exists_eq_left', nn_tn, nn_add, nn_s, nn_2, nn_5, nn_7, nn_8, na0, na2, na3, na4, na5, na6, uf_ne, uf_eq, ur_eq, ur_ne, true_or, or_true, not_true_eq_false, not_false_eq_true, true_implies, false_implies, implies_true, e10, e01, reduceIte, Option.isSome_none, Option.isSome_some, Bool.false_eq_true, bi_t, bi_f]
      refine s_next hC R4 rp.2 y3.1 ?_
      have F5 := frS.five hp F4 ((fr5.rfl' f4).put 3 (nn (qsk t n r.2)))
      have R5 := R4.five ((fr5.rfl' f4).put 3 (nn (qsk t n r.2)))
      have O5 := y3.go (qsk t n r.2)
      have K5 : sK (uf f4 5 3 (nn (qsk t n r.2))) p := y5.same (by simp (disch := (first | assumption | omega)) only [true_and, and_true, zr_u, zi_u, zI_u, Option.some.injEq, exists_eq_left', nn_tn, nn_add, nn_s, nn_2, nn_5, nn_7, nn_8, na0, na2, na3, na4, na5, na6, uf_ne, uf_eq, ur_eq, ur_ne, true_or, or_true, not_true_eq_false, not_false_eq_true, true_implies, false_implies, implies_true, e10, e01, reduceIte, Option.isSome_none, Option.isSome_some, Bool.false_eq_true, bi_t, bi_f]) (by simp (disch := (first | assumption | omega)) only [true_and, and_true, zr_u, zi_u, zI_u, Option.some.injEq, exists_eq_left', nn_tn, nn_add, nn_s, nn_2, nn_5, nn_7, nn_8, na0, na2, na3, na4, na5, na6, uf_ne, uf_eq, ur_eq, ur_ne, true_or, or_true, not_true_eq_false, not_false_eq_true, true_implies, false_implies, implies_true, e10, e01, reduceIte, Option.isSome_none, Option.isSome_some, Bool.false_eq_true, bi_t, bi_f])
      have C5 : oC ((uf f4 5 3 (nn (qsk t n r.2))) (p + 4)) ((uf f4 5 3 (nn (qsk t n r.2))) (p + 5)) (2 * s) r.1 := y4.keep (by simp (disch := (first | assumption | omega)) only [true_and, and_true, zr_u, zi_u, zI_u, Option.some.injEq, exists_eq_left', nn_tn, nn_add, nn_s, nn_2, nn_5, nn_7, nn_8, na0, na2, na3, na4, na5, na6, uf_ne, uf_eq, ur_eq, ur_ne, true_or, or_true, not_true_eq_false, not_false_eq_true, true_implies, false_implies, implies_true, e10, e01, reduceIte, Option.isSome_none, Option.isSome_some, Bool.false_eq_true, bi_t, bi_f]) (by simp (disch := (first | assumption | omega)) only [true_and, and_true, zr_u, zi_u, zI_u, Option.some.injEq, exists_eq_left', nn_tn, nn_add, nn_s, nn_2, nn_5, nn_7, nn_8, na0, na2, na3, na4, na5, na6, uf_ne, uf_eq, ur_eq, ur_ne, true_or, or_true, not_true_eq_false, not_false_eq_true, true_implies, false_implies, implies_true, e10, e01, reduceIte, Option.isSome_none, Option.isSome_some, Bool.false_eq_true, bi_t, bi_f])
      have V5 : (uf f4 5 3 (nn (qsk t n r.2))) (p + 2) s = nn x := by simp (disch := (first | assumption | omega)) only [true_and, and_true, zr_u, zi_u, zI_u, Option.some.injEq, exists_eq_left', nn_tn, nn_add, nn_s, nn_2, nn_5, nn_7, nn_8, na0, na2, na3, na4, na5, na6, uf_ne, uf_eq, ur_eq, ur_ne, true_or, or_true, not_true_eq_false, not_false_eq_true, true_implies, false_implies, implies_true, e10, e01, reduceIte, Option.isSome_none, Option.isSome_some, Bool.false_eq_true, bi_t, bi_f]; exact V4
      have W5 : (uf f4 5 3 (nn (qsk t n r.2))) (p + 3) s = 1 := by simp (disch := (first | assumption | omega)) only [true_and, and_true, zr_u, zi_u, zI_u, Option.some.injEq, exists_eq_left', nn_tn, nn_add, nn_s, nn_2, nn_5, nn_7, nn_8, na0, na2, na3, na4, na5, na6, uf_ne, uf_eq, ur_eq, ur_ne, true_or, or_true, not_true_eq_false, not_false_eq_true, true_implies, false_implies, implies_true, e10, e01, reduceIte, Option.isSome_none, Option.isSome_some, Bool.false_eq_true, bi_t, bi_f]; exact W4
      generalize uf f4 5 3 (nn (qsk t n r.2)) = f5 at F5 R5 O5 K5 C5 V5 W5 ⊢
      have hsk2 := qsk_n (t := t) rp.2
      refine s_isOp R5 (fun hO => ?_) (fun hO => ?_)
      · have eb : qby t n (qsk t n r.2) = nn (t (qsk t n r.2)) := if_pos hO.1
        have ho := isop_lt hO.2
        unfold P_G_right
        rw [eb]
        simp (disch := (first | assumption | omega)) only [true_and, and_true, zr_u, zi_u, zI_u, Option.some.injEq, exists_eq_left', nn_tn, nn_add, nn_s, nn_2, nn_5, nn_7, nn_8, na0, na2, na3, na4, na5, na6, uf_ne, uf_eq, ur_eq, ur_ne, true_or, or_true, not_true_eq_false, not_false_eq_true, true_implies, false_implies, implies_true, e10, e01, reduceIte, Option.isSome_none, Option.isSome_some, Bool.false_eq_true, bi_t, bi_f, O5.1, hr, ko_p, rc_p4 hC, ka_p3]
        have O6 := O5.go (qsk t n r.2 + 1)
        have F6 := (frS.five hp F5 ((fr5.rfl' f5).put 3 (nn (qsk t n r.2 + 1)))).how hp (nn (t (qsk t n r.2)))
        have R6 : hR (uf (uf f5 5 3 (nn (qsk t n r.2 + 1))) (p + 3) s (nn (t (qsk t n r.2)))) t n := R5.same (by simp (disch := (first | assumption | omega)) only [true_and, and_true, zr_u, zi_u, zI_u, Option.some.injEq, exists_eq_left', nn_tn, nn_add, nn_s, nn_2, nn_5, nn_7, nn_8, na0, na2, na3, na4, na5, na6, uf_ne, uf_eq, ur_eq, ur_ne, true_or, or_true, not_true_eq_false, not_false_eq_true, true_implies, false_implies, implies_true, e10, e01, reduceIte, Option.isSome_none, Option.isSome_some, Bool.false_eq_true, bi_t, bi_f]) (by simp (disch := (first | assumption | omega)) only [true_and, and_true, zr_u, zi_u, zI_u, Option.some.injEq, exists_eq_left', nn_tn, nn_add, nn_s, nn_2, nn_5, nn_7, nn_8, na0, na2, na3, na4, na5, na6, uf_ne, uf_eq, ur_eq, ur_ne, true_or, or_true, not_true_eq_false, not_false_eq_true, true_implies, false_implies, implies_true, e10, e01, reduceIte, Option.isSome_none, Option.isSome_some, Bool.false_eq_true, bi_t, bi_f])
        have O7 : okp (uf (uf f5 5 3 (nn (qsk t n r.2 + 1))) (p + 3) s (nn (t (qsk t n r.2)))) (qsk t n r.2 + 1) := ⟨by simp (disch := (first | assumption | omega)) only [true_and, and_true, zr_u, zi_u, zI_u, Option.some.injEq, exists_eq_left', nn_tn, nn_add, nn_s, nn_2, nn_5, nn_7, nn_8, na0, na2, na3, na4, na5, na6, uf_ne, uf_eq, ur_eq, ur_ne, true_or, or_true, not_true_eq_false, not_false_eq_true, true_implies, false_implies, implies_true, e10, e01, reduceIte, Option.isSome_none, Option.isSome_some, Bool.false_eq_true, bi_t, bi_f], by simp (disch := (first | assumption | omega)) only [true_and, and_true, zr_u, zi_u, zI_u, Option.some.injEq, exists_eq_left', nn_tn, nn_add, nn_s, nn_2, nn_5, nn_7, nn_8, na0, na2, na3, na4, na5, na6, uf_ne, uf_eq, ur_eq, ur_ne, true_or, or_true, not_true_eq_false, not_false_eq_true, true_implies, false_implies, implies_true, e10, e01, reduceIte, Option.isSome_none, Option.isSome_some, Bool.false_eq_true, bi_t, bi_f]; exact O5.2.1, by simp (disch := (first | assumption | omega)) only [true_and, and_true, zr_u, zi_u, zI_u, Option.some.injEq, exists_eq_left', nn_tn, nn_add, nn_s, nn_2, nn_5, nn_7, nn_8, na0, na2, na3, na4, na5, na6, uf_ne, uf_eq, ur_eq, ur_ne, true_or, or_true, not_true_eq_false, not_false_eq_true, true_implies, false_implies, implies_true, e10, e01, reduceIte, Option.isSome_none, Option.isSome_some, Bool.false_eq_true, bi_t, bi_f]; exact O5.2.2⟩
        have K6 : sK (uf (uf f5 5 3 (nn (qsk t n r.2 + 1))) (p + 3) s (nn (t (qsk t n r.2)))) p := K5.same (by simp (disch := (first | assumption | omega)) only [true_and, and_true, zr_u, zi_u, zI_u, Option.some.injEq, exists_eq_left', nn_tn, nn_add, nn_s, nn_2, nn_5, nn_7, nn_8, na0, na2, na3, na4, na5, na6, uf_ne, uf_eq, ur_eq, ur_ne, true_or, or_true, not_true_eq_false, not_false_eq_true, true_implies, false_implies, implies_true, e10, e01, reduceIte, Option.isSome_none, Option.isSome_some, Bool.false_eq_true, bi_t, bi_f]) (by simp (disch := (first | assumption | omega)) only [true_and, and_true, zr_u, zi_u, zI_u, Option.some.injEq, exists_eq_left', nn_tn, nn_add, nn_s, nn_2, nn_5, nn_7, nn_8, na0, na2, na3, na4, na5, na6, uf_ne, uf_eq, ur_eq, ur_ne, true_or, or_true, not_true_eq_false, not_false_eq_true, true_implies, false_implies, implies_true, e10, e01, reduceIte, Option.isSome_none, Option.isSome_some, Bool.false_eq_true, bi_t, bi_f])
        have C6 : oC ((uf (uf f5 5 3 (nn (qsk t n r.2 + 1))) (p + 3) s (nn (t (qsk t n r.2)))) (p + 4)) ((uf (uf f5 5 3 (nn (qsk t n r.2 + 1))) (p + 3) s (nn (t (qsk t n r.2)))) (p + 5)) (2 * s) r.1 := C5.keep (by simp (disch := (first | assumption | omega)) only [true_and, and_true, zr_u, zi_u, zI_u, Option.some.injEq, exists_eq_left', nn_tn, nn_add, nn_s, nn_2, nn_5, nn_7, nn_8, na0, na2, na3, na4, na5, na6, uf_ne, uf_eq, ur_eq, ur_ne, true_or, or_true, not_true_eq_false, not_false_eq_true, true_implies, false_implies, implies_true, e10, e01, reduceIte, Option.isSome_none, Option.isSome_some, Bool.false_eq_true, bi_t, bi_f]) (by simp (disch := (first | assumption | omega)) only [true_and, and_true, zr_u, zi_u, zI_u, Option.some.injEq, exists_eq_left', nn_tn, nn_add, nn_s, nn_2, nn_5, nn_7, nn_8, na0, na2, na3, na4, na5, na6, uf_ne, uf_eq, ur_eq, ur_ne, true_or, or_true, not_true_eq_false, not_false_eq_true, true_implies, false_implies, implies_true, e10, e01, reduceIte, Option.isSome_none, Option.isSome_some, Bool.false_eq_true, bi_t, bi_f])
        have V6 : (uf (uf f5 5 3 (nn (qsk t n r.2 + 1))) (p + 3) s (nn (t (qsk t n r.2)))) (p + 2) s = nn x := by simp (disch := (first | assumption | omega)) only [true_and, and_true, zr_u, zi_u, zI_u, Option.some.injEq, exists_eq_left', nn_tn, nn_add, nn_s, nn_2, nn_5, nn_7, nn_8, na0, na2, na3, na4, na5, na6, uf_ne, uf_eq, ur_eq, ur_ne, true_or, or_true, not_true_eq_false, not_false_eq_true, true_implies, false_implies, implies_true, e10, e01, reduceIte, Option.isSome_none, Option.isSome_some, Bool.false_eq_true, bi_t, bi_f]; exact V5
        have W6 : (uf (uf f5 5 3 (nn (qsk t n r.2 + 1))) (p + 3) s (nn (t (qsk t n r.2)))) (p + 3) s = nn (t (qsk t n r.2)) := by simp (disch := (first | assumption | omega)) only [true_and, and_true, zr_u, zi_u, zI_u, Option.some.injEq, exists_eq_left', nn_tn, nn_add, nn_s, nn_2, nn_5, nn_7, nn_8, na0, na2, na3, na4, na5, na6, uf_ne, uf_eq, ur_eq, ur_ne, true_or, or_true, not_true_eq_false, not_false_eq_true, true_implies, false_implies, implies_true, e10, e01, reduceIte, Option.isSome_none, Option.isSome_some, Bool.false_eq_true, bi_t, bi_f]
        generalize uf (uf f5 5 3 (nn (qsk t n r.2 + 1))) (p + 3) s (nn (t (qsk t n r.2))) = f6 at F6 R6 O7 K6 C6 V6 W6 ⊢
        have lp : qsk t n r.2 + 1 ≤ n := hO.1
        refine s_fillOp hC hp hr R6 lp O7 (by omega) K6 (fun f7 r' x1 x2 x3 x4 x5 => ?_) (fun f7 e x1 x2 x3 => ?_)
        · have rp' := qop_pos x1 lp
          have F7 := F6.O hp x2 (Or.inr rfl)
          have R7 : hR f7 t n := R6.same (x2.1 _ (by decide) (by omega) (by omega)) (x2.1 _ (by decide) (by omega) (by omega))
          have V7 : f7 (p + 2) s = nn x := by rw [x2.1 _ (by omega) (by omega) (by omega)]; exact V6
          have W7 : f7 (p + 3) s = nn (t (qsk t n r.2)) := by rw [x2.1 _ (by omega) (by omega) (by omega)]; exact W6
          have C7 : oC (f7 (p + 4)) (f7 (p + 5)) (2 * s) r.1 := C6.keep (x2.2 _ (by omega)).1 (x2.2 _ (by omega)).2
          simp (disch := (first | assumption | omega)) only [true_and, and_true, zr_u, zi_u, zI_u, Option.some.injEq, exists_eq_left', nn_tn, nn_add, nn_s, nn_2, nn_5, nn_7, nn_8, na0, na2, na3, na4, na5, na6, uf_ne, uf_eq, ur_eq, ur_ne, true_or, or_true, not_true_eq_false, not_false_eq_true, true_implies, false_implies, implies_true, e10, e01, reduceIte, Option.isSome_none, Option.isSome_some, Bool.false_eq_true, bi_t, bi_f, ko_5]
          rw [show (59 : Int32) = nn 59 from rfl]
          refine s_pass hC (by decide) R7 rp'.2 x3 (fun f8 q w1 w2 w3 => ⟨Or.inr rfl, ?_⟩) (fun f8 e w1 w2 w3 => ⟨Or.inl rfl, ?_⟩)
          · refine h1 f8 _ (qstm_b2 z y1 hO x1 w1) (frS.five hp F7 w2) w3 ⟨hs, ?_, hx, ?_, ho.1, fun _ => C7.keep ?_ ?_, fun _ _ => x4.keep ?_ ?_⟩ (x5.same ?_ ?_)
            · rw [w2 _ (by omega)]; exact V7
            · rw [w2 _ (by omega)]; exact W7
            · rw [w2 _ (by omega)]
            · rw [w2 _ (by omega)]
            · rw [w2 _ (by omega)]
            · rw [w2 _ (by omega)]
            · rw [w2 _ (by omega)]
            · rw [w2 _ (by omega)]
          · exact h0 f8 e (qstm_b1 z y1 hO x1 w1) (frS.five hp F7 w2) w3 (x5.same (w2 _ (by omega)) (w2 _ (by omega)))
        · simp (disch := (first | assumption | omega)) only [true_and, and_true, zr_u, zi_u, zI_u, Option.some.injEq, exists_eq_left', nn_tn, nn_add, nn_s, nn_2, nn_5, nn_7, nn_8, na0, na2, na3, na4, na5, na6, uf_ne, uf_eq, ur_eq, ur_ne, true_or, or_true, not_true_eq_false, not_false_eq_true, true_implies, false_implies, implies_true, e10, e01, reduceIte, Option.isSome_none, Option.isSome_some, Bool.false_eq_true, bi_t, bi_f]
          exact h0 f7 e (qstm_b0 z y1 hO x1) (frS.five hp F6 x2) x3 (K6.same (x2 _ (by omega)) (x2 _ (by omega)))
      · simp (disch := (first | assumption | omega)) only [true_and, and_true, zr_u, zi_u, zI_u, Option.some.injEq, exists_eq_left', nn_tn, nn_add, nn_s, nn_2, nn_5, nn_7, nn_8, na0, na2, na3, na4, na5, na6, uf_ne, uf_eq, ur_eq, ur_ne, true_or, or_true, not_true_eq_false, not_false_eq_true, true_implies, false_implies, implies_true, e10, e01, reduceIte, Option.isSome_none, Option.isSome_some, Bool.false_eq_true, bi_t, bi_f, ko_5]
        rw [show (59 : Int32) = nn 59 from rfl]
        refine s_pass hC (by decide) R5 hsk2 O5 (fun f8 q w1 w2 w3 => ⟨Or.inr rfl, ?_⟩) (fun f8 e w1 w2 w3 => ⟨Or.inl rfl, ?_⟩)
        · refine h1 f8 _ (qstm_c1 z y1 hO w1) (frS.five hp F5 w2) w3 ⟨hs, ?_, hx, ?_, (show (1 : Nat) < 128 by decide), fun _ => C5.keep ?_ ?_, fun _ z => absurd rfl z⟩ (K5.same ?_ ?_)
          · rw [w2 _ (by omega)]; exact V5
          · rw [w2 _ (by omega)]; exact W5
          · rw [w2 _ (by omega)]
          · rw [w2 _ (by omega)]
          · rw [w2 _ (by omega)]
          · rw [w2 _ (by omega)]
        · exact h0 f8 e (qstm_c0 z y1 hO w1) (frS.five hp F5 w2) w3 (K5.same (w2 _ (by omega)) (w2 _ (by omega)))
    · simp (disch := (first | assumption | omega)) only [true_and, and_true, zr_u, zi_u, zI_u, Option.some.injEq, exists_eq_left', nn_tn, nn_add, nn_s, nn_2, nn_5, nn_7, nn_8, na0, na2, na3, na4, na5, na6, uf_ne, uf_eq, ur_eq, ur_ne, true_or, or_true, not_true_eq_false, not_false_eq_true, true_implies, false_implies, implies_true, e10, e01, reduceIte, Option.isSome_none, Option.isSome_some, Bool.false_eq_true, bi_t, bi_f]
      exact h0 f4 e (qstm_o0 z y1) (frS.five hp F3 y2) y3 (K3.same (y2 _ (by omega)) (y2 _ (by omega)))
  · simp (disch := (first | assumption | omega)) only [true_and, and_true, zr_u, zi_u, zI_u, Option.some.injEq, exists_eq_left', nn_tn, nn_add, nn_s, nn_2, nn_5, nn_7, nn_8, na0, na2, na3, na4, na5, na6, uf_ne, uf_eq, ur_eq, ur_ne, true_or, or_true, not_true_eq_false, not_false_eq_true, true_implies, false_implies, implies_true, e10, e01, reduceIte, Option.isSome_none, Option.isSome_some, Bool.false_eq_true, bi_t, bi_f, O2.1]
    rw [show (59 : Int32) = nn 59 from rfl]
    have ff : fr5 f2 (uf f2 5 3 (nn (qsk t n pos + 1))) := (fr5.rfl' f2).put _ _
    refine s_pass hC (by decide) (R2.five ff) z.1 (O2.go _) (fun f3 q w1 w2 w3 => ⟨Or.inr rfl, ?_⟩) (fun f3 e w1 w2 w3 => ⟨Or.inl rfl, ?_⟩)
    · have w := ff.trans w2
      refine h1 f3 _ (qstm_a1 z w1) (frS.five hp F2 w) w3 ⟨hs, ?_, hx, ?_, (show (0 : Nat) < 128 by decide), fun z => absurd rfl z, fun z => absurd rfl z⟩ (K2.same (w _ (by omega)) (w _ (by omega)))
      · rw [w _ (by omega)]; exact V2
      · rw [w _ (by omega)]; exact W2
    · have w := ff.trans w2
      exact h0 f3 e (qstm_a0 z w1) (frS.five hp F2 w) w3 (K2.same (w _ (by omega)) (w _ (by omega)))
