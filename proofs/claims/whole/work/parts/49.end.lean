/-! The parser: the class's ends, blocks, the whole reading. -/
theorem e02q : ((0 : Int32) = 2) = False := eq_false (by decide)
theorem e12q : ((1 : Int32) = 2) = False := eq_false (by decide)
theorem qbr_0 {t : Nat → Nat} {n p : Nat} {e : Nat × Nat} (h : qwant t n 63 p = .inl e) : qbr t n p = .inl e := by unfold qbr; simp only [h]
theorem qbr_1 {t : Nat → Nat} {n p p2 : Nat} {e : Nat × Nat} (h : qwant t n 63 p = .inr p2) (hg : qgoal t n p2 = .inl e) : qbr t n p = .inl e := by unfold qbr; simp only [h, hg]
theorem qbr_2 {t : Nat → Nat} {n p p2 : Nat} {r : Nat × Nat × Nat} {e : Nat × Nat} (h : qwant t n 63 p = .inr p2) (hg : qgoal t n p2 = .inr r) (hw : qwant t n 58 r.2.2 = .inl e) : qbr t n p = .inl e := by unfold qbr; simp only [h, hg, hw]
theorem qbr_3 {t : Nat → Nat} {n p p2 p4 : Nat} {r : Nat × Nat × Nat} {e : Nat × Nat} (h : qwant t n 63 p = .inr p2) (hg : qgoal t n p2 = .inr r) (hw : qwant t n 58 r.2.2 = .inr p4) (hg' : qgoal t n p4 = .inl e) : qbr t n p = .inl e := by unfold qbr; simp only [h, hg, hw, hg']
theorem qbr_4 {t : Nat → Nat} {n p p2 p4 : Nat} {r s : Nat × Nat × Nat} (h : qwant t n 63 p = .inr p2) (hg : qgoal t n p2 = .inr r) (hw : qwant t n 58 r.2.2 = .inr p4) (hg' : qgoal t n p4 = .inr s) : qbr t n p = .inr (r.1, s.1, r.2.1, s.2.1, s.2.2) := by unfold qbr; simp only [h, hg, hw, hg']
theorem qend_d {t : Nat → Nat} {n p : Nat} (h : qE t n (qsk t n p) 46) : qend t n p = .inr ((0, .inr 0, 0, 0), 0, 0, qsk t n p + 1) := by unfold qend; simp only [qdec_t h]
theorem qend_g0 {t : Nat → Nat} {n p : Nat} {e : Nat × Nat} (h : ¬ qE t n (qsk t n p) 46) (h' : qE t n (qsk t n p) 62) (hg : qgoal t n (qsk t n p + 1) = .inl e) : qend t n p = .inl e := by unfold qend; simp only [qdec_f h, qdec_t h', hg]
theorem qend_g1 {t : Nat → Nat} {n p : Nat} {r : Nat × Nat × Nat} (h : ¬ qE t n (qsk t n p) 46) (h' : qE t n (qsk t n p) 62) (hg : qgoal t n (qsk t n p + 1) = .inr r) : qend t n p = .inr ((1, .inr 0, r.1, 0), r.2.1, 0, r.2.2) := by unfold qend; simp only [qdec_f h, qdec_t h', hg]
theorem qend_o0 {t : Nat → Nat} {n p : Nat} {e : Nat × Nat} (h : ¬ qE t n (qsk t n p) 46) (h' : ¬ qE t n (qsk t n p) 62) (ho : qop t n (qsk t n p) = .inl e) : qend t n p = .inl e := by unfold qend; simp only [qdec_f h, qdec_f h', ho]
theorem qend_b0 {t : Nat → Nat} {n p : Nat} {r : mO × Nat} {e : Nat × Nat} (h : ¬ qE t n (qsk t n p) 46) (h' : ¬ qE t n (qsk t n p) 62) (ho : qop t n (qsk t n p) = .inr r) (hb : qbr t n r.2 = .inl e) : qend t n p = .inl e := by unfold qend; simp only [qdec_f h, qdec_f h', ho, hb]
theorem qend_b1 {t : Nat → Nat} {n p : Nat} {r : mO × Nat} {s : Nat × Nat × Nat × Nat × Nat} (h : ¬ qE t n (qsk t n p) 46) (h' : ¬ qE t n (qsk t n p) 62) (ho : qop t n (qsk t n p) = .inr r) (hb : qbr t n r.2 = .inr s) : qend t n p = .inr ((2, r.1, s.1, s.2.1), s.2.2.1, s.2.2.2.1, s.2.2.2.2) := by unfold qend; simp only [qdec_f h, qdec_f h', ho, hb]
theorem tn_lt (x : Int32) : x.toNatClampNeg < 2147483648 := by
  show x.toInt.toNat < 2147483648
  have := Int32.toInt_lt x
  omega
theorem qgoal_b {t : Nat → Nat} {n p : Nat} {r : Nat × Nat × Nat} (h : qgoal t n p = .inr r) : r.1 < 2147483648 := by
  cases hq : qnum t n false (qsk t n p) with
  | inl e => rw [qgoal_0 hq] at h; cases h
  | inr x => rw [qgoal_1 hq] at h; cases h; exact tn_lt _
/-- an end's kind and goals are in bounds -/
def eB (e : mE) : Prop := e.1 ≤ 2 ∧ e.2.2.1 < 2147483648 ∧ e.2.2.2 < 2147483648
theorem qend_pos {t : Nat → Nat} {n p : Nat} {r : mE × Nat × Nat × Nat} (h : qend t n p = .inr r) (hp : p ≤ n) : p < r.2.2.2 ∧ r.2.2.2 ≤ n ∧ eB r.1 := by
  have h1 := qsk_ge t n p
  have h2 := qsk_n (t := t) hp
  by_cases h46 : qE t n (qsk t n p) 46
  · rw [qend_d h46] at h
    cases h
    have := h46.1
    exact ⟨by show p < qsk t n p + 1; omega, this, by show 0 ≤ 2; decide, by show 0 < 2147483648; decide, by show 0 < 2147483648; decide⟩
  · by_cases h62 : qE t n (qsk t n p) 62
    · cases hg : qgoal t n (qsk t n p + 1) with
      | inl e => rw [qend_g0 h46 h62 hg] at h; cases h
      | inr x =>
        rw [qend_g1 h46 h62 hg] at h
        cases h
        have := qgoal_pos hg h62.1
        exact ⟨by show p < x.2.2; omega, this.2, by show 1 ≤ 2; decide, qgoal_b hg, by show 0 < 2147483648; decide⟩
    · cases ho : qop t n (qsk t n p) with
      | inl e => rw [qend_o0 h46 h62 ho] at h; cases h
      | inr o =>
        have a1 := qop_pos ho h2
        cases hw : qwant t n 63 o.2 with
        | inl e => rw [qend_b0 h46 h62 ho (qbr_0 hw)] at h; cases h
        | inr p2 =>
          have a2 := qwant_pos hw a1.2
          cases hg : qgoal t n p2 with
          | inl e => rw [qend_b0 h46 h62 ho (qbr_1 hw hg)] at h; cases h
          | inr x =>
            have a3 := qgoal_pos hg a2.2
            cases hv : qwant t n 58 x.2.2 with
            | inl e => rw [qend_b0 h46 h62 ho (qbr_2 hw hg hv)] at h; cases h
            | inr p4 =>
              have a4 := qwant_pos hv a3.2
              cases hg' : qgoal t n p4 with
              | inl e => rw [qend_b0 h46 h62 ho (qbr_3 hw hg hv hg')] at h; cases h
              | inr y =>
                have a5 := qgoal_pos hg' a4.2
                rw [qend_b1 h46 h62 ho (qbr_4 hw hg hv hg')] at h
                cases h
                exact ⟨by show p < y.2.2; omega, a5.2, by show 2 ≤ 2; decide, qgoal_b hg, qgoal_b hg'⟩
/-- only the end of block nb in the making, and row 5, differ -/
def frH (f f' : zf) (p nb : Nat) : Prop := (∀ a, a ≠ 5 → a ≠ 6 → a ≠ p + 4 → a ≠ p + 5 → a ≠ p + 7 → f' a = f a) ∧ (∀ i, i ≠ 160 + nb → f' (p + 4) i = f (p + 4) i ∧ f' (p + 5) i = f (p + 5) i) ∧ ∀ i, i ≠ 2 * nb → i ≠ 2 * nb + 1 → f' 6 i = f 6 i ∧ f' (p + 7) i = f (p + 7) i
theorem frH.rfl' (f : zf) (p nb : Nat) : frH f f p nb := ⟨fun _ _ _ _ _ _ => rfl, fun _ _ => ⟨rfl, rfl⟩, fun _ _ _ => ⟨rfl, rfl⟩⟩
theorem frH.five {f g h : zf} {p nb : Nat} (hp : zp_ p) (a : frH f g p nb) (b : fr5 g h) : frH f h p nb := by
  unfold zp_ at hp
  refine ⟨fun k z1 z2 z3 z4 z5 => by rw [b k z1]; exact a.1 k z1 z2 z3 z4 z5, fun i hi => ?_, fun i h1 h2 => ?_⟩
  · rw [b (p + 4) (by omega), b (p + 5) (by omega)]; exact a.2.1 i hi
  · rw [b 6 (by decide), b (p + 7) (by omega)]; exact a.2.2 i h1 h2
theorem frH.O {f g h : zf} {p nb : Nat} (hp : zp_ p) (a : frH f g p nb) (b : frO g h p (160 + nb)) : frH f h p nb := by
  unfold zp_ at hp
  refine ⟨fun k z1 z2 z3 z4 z5 => by rw [b.1 k z1 z3 z4]; exact a.1 k z1 z2 z3 z4 z5, fun i hi => ?_, fun i h1 h2 => ?_⟩
  · rw [(b.2 i hi).1, (b.2 i hi).2]; exact a.2.1 i hi
  · rw [b.1 6 (by decide) (by omega) (by omega), b.1 (p + 7) (by omega) (by omega) (by omega)]; exact a.2.2 i h1 h2
theorem frH.G {f g h : zf} {p nb s : Nat} (hp : zp_ p) (a : frH f g p nb) (b : frG g h p s) (hs : s = 2 * nb ∨ s = 2 * nb + 1) : frH f h p nb := by
  unfold zp_ at hp
  refine ⟨fun k z1 z2 z3 z4 z5 => by rw [b.1 k z1 z2 z5]; exact a.1 k z1 z2 z3 z4 z5, fun i hi => ?_, fun i h1 h2 => ?_⟩
  · rw [b.1 (p + 4) (by omega) (by omega) (by omega), b.1 (p + 5) (by omega) (by omega) (by omega)]; exact a.2.1 i hi
  · rw [(b.2 i (by omega)).1, (b.2 i (by omega)).2]; exact a.2.2 i h1 h2
theorem frH.D {f g : zf} {p nb : Nat} (a : frH f g p nb) : frD f g p := fun k h1 h2 h3 => a.1 k h1 h2 (by omega) (by omega) (by omega)
theorem hS.H {f f' : zf} {p nb ns : Nat} {T : Nat → mT} {fs : Nat → Nat} {E : Nat → mE} {PL : Nat → Nat} (hp : zp_ p) (hns : ns ≤ 80) (h : hS f p nb ns T fs E PL) (a : frH f f' p nb) (hK : sK f' p) : hS f' p nb ns T fs E PL := by
  unfold zp_ at hp
  obtain ⟨h1, h2, h3, h4, h5, h6, h7⟩ := h
  obtain ⟨a1, a2, a3⟩ := a
  have e0 : f' p = f p := a1 _ (by omega) (by omega) (by omega) (by omega) (by omega)
  have e1 : f' (p + 1) = f (p + 1) := a1 _ (by omega) (by omega) (by omega) (by omega) (by omega)
  have e2 : f' (p + 2) = f (p + 2) := a1 _ (by omega) (by omega) (by omega) (by omega) (by omega)
  have e3 : f' (p + 3) = f (p + 3) := a1 _ (by omega) (by omega) (by omega) (by omega) (by omega)
  have e6 : f' (p + 6) = f (p + 6) := a1 _ (by omega) (by omega) (by omega) (by omega) (by omega)
  refine ⟨by rw [e0]; exact h1, by rw [e0]; exact h2, fun b hb => by rw [e1]; exact h3 b hb, fun s hs => ?_, fun b hb => ?_, hK, by rw [e1]; exact h7⟩
  · exact (h4 s hs).keep (by rw [e2]) (by rw [e3]) (fun i hi => a2 i (by omega))
  · obtain ⟨q1, q2, q3⟩ := h5 b hb
    rw [(a3 (2 * b) (by omega) (by omega)).1, (a3 (2 * b + 1) (by omega) (by omega)).1]
    exact ⟨q1.keep (by rw [e6]) (a2 _ (by omega)).1 (a2 _ (by omega)).2 ⟨(a3 _ (by omega) (by omega)).2, (a3 _ (by omega) (by omega)).2⟩, q2, q3⟩
theorem hS.close {f : zf} {p nb ns x y : Nat} {T : Nat → mT} {fs : Nat → Nat} {E : Nat → mE} {PL : Nat → Nat} {e : mE} (hp : zp_ p) (h : hS f p nb ns T fs E PL) (he : e.1 ≤ 2) (ho : e.1 = 2 → oC (f (p + 4)) (f (p + 5)) (160 + nb) e.2.1) (g0 : e.1 ≠ 0 → f (p + 7) (2 * nb) = nn e.2.2.1 ∧ f 6 (2 * nb) = nn x) (g1 : e.1 = 2 → f (p + 7) (2 * nb + 1) = nn e.2.2.2 ∧ f 6 (2 * nb + 1) = nn y) : hS (uf (uf (uf f (p + 6) nb (nn e.1)) p 0 (nn (nb + 1))) (p + 1) (nb + 1) (nn ns)) p (nb + 1) ns T (fu fs (nb + 1) ns) (fu E nb e) (fu (fu PL (2 * nb) x) (2 * nb + 1) y) := by
  unfold zp_ at hp
  obtain ⟨h1, h2, h3, h4, h5, h6, h7⟩ := h
  refine ⟨by simp (disch := (first | assumption | omega)) only [true_and, and_true, zr_u, zi_u, zI_u, Option.some.injEq, exists_eq_left', nn_tn, nn_add, nn_s, nn_2, nn_5, nn_7, nn_8, na0, na2, na3, na4, na5, na6, uf_ne, uf_eq, ur_eq, ur_ne, true_or, or_true, not_true_eq_false, not_false_eq_true, true_implies, false_implies, implies_true, e10, e01, reduceIte, Option.isSome_none, Option.isSome_some, Bool.false_eq_true, bi_t, bi_f], by simp (disch := (first | assumption | omega)) only [true_and, and_true, zr_u, zi_u, zI_u, Option.some.injEq, exists_eq_left', nn_tn, nn_add, nn_s, nn_2, nn_5, nn_7, nn_8, na0, na2, na3, na4, na5, na6, uf_ne, uf_eq, ur_eq, ur_ne, true_or, or_true, not_true_eq_false, not_false_eq_true, true_implies, false_implies, implies_true, e10, e01, reduceIte, Option.isSome_none, Option.isSome_some, Bool.false_eq_true, bi_t, bi_f]; exact h2, fun b hb => ?_, fun s hs => ?_, fun b hb => ?_, ?_, ?_⟩
  · by_cases eb : b = nb + 1
    · subst eb; rw [fu_eq]; simp (disch := (first | assumption | omega)) only [true_and, and_true, zr_u, zi_u, zI_u, Option.some.injEq, exists_eq_left', nn_tn, nn_add, nn_s, nn_2, nn_5, nn_7, nn_8, na0, na2, na3, na4, na5, na6, uf_ne, uf_eq, ur_eq, ur_ne, true_or, or_true, not_true_eq_false, not_false_eq_true, true_implies, false_implies, implies_true, e10, e01, reduceIte, Option.isSome_none, Option.isSome_some, Bool.false_eq_true, bi_t, bi_f]
    · rw [fu_ne _ _ eb]; simp (disch := (first | assumption | omega)) only [true_and, and_true, zr_u, zi_u, zI_u, Option.some.injEq, exists_eq_left', nn_tn, nn_add, nn_s, nn_2, nn_5, nn_7, nn_8, na0, na2, na3, na4, na5, na6, uf_ne, uf_eq, ur_eq, ur_ne, true_or, or_true, not_true_eq_false, not_false_eq_true, true_implies, false_implies, implies_true, e10, e01, reduceIte, Option.isSome_none, Option.isSome_some, Bool.false_eq_true, bi_t, bi_f]; exact h3 b (by omega)
  · exact (h4 s hs).keep (by simp (disch := (first | assumption | omega)) only [true_and, and_true, zr_u, zi_u, zI_u, Option.some.injEq, exists_eq_left', nn_tn, nn_add, nn_s, nn_2, nn_5, nn_7, nn_8, na0, na2, na3, na4, na5, na6, uf_ne, uf_eq, ur_eq, ur_ne, true_or, or_true, not_true_eq_false, not_false_eq_true, true_implies, false_implies, implies_true, e10, e01, reduceIte, Option.isSome_none, Option.isSome_some, Bool.false_eq_true, bi_t, bi_f]) (by simp (disch := (first | assumption | omega)) only [true_and, and_true, zr_u, zi_u, zI_u, Option.some.injEq, exists_eq_left', nn_tn, nn_add, nn_s, nn_2, nn_5, nn_7, nn_8, na0, na2, na3, na4, na5, na6, uf_ne, uf_eq, ur_eq, ur_ne, true_or, or_true, not_true_eq_false, not_false_eq_true, true_implies, false_implies, implies_true, e10, e01, reduceIte, Option.isSome_none, Option.isSome_some, Bool.false_eq_true, bi_t, bi_f]) (fun i hi => ⟨by simp (disch := (first | assumption | omega)) only [true_and, and_true, zr_u, zi_u, zI_u, Option.some.injEq, exists_eq_left', nn_tn, nn_add, nn_s, nn_2, nn_5, nn_7, nn_8, na0, na2, na3, na4, na5, na6, uf_ne, uf_eq, ur_eq, ur_ne, true_or, or_true, not_true_eq_false, not_false_eq_true, true_implies, false_implies, implies_true, e10, e01, reduceIte, Option.isSome_none, Option.isSome_some, Bool.false_eq_true, bi_t, bi_f], by simp (disch := (first | assumption | omega)) only [true_and, and_true, zr_u, zi_u, zI_u, Option.some.injEq, exists_eq_left', nn_tn, nn_add, nn_s, nn_2, nn_5, nn_7, nn_8, na0, na2, na3, na4, na5, na6, uf_ne, uf_eq, ur_eq, ur_ne, true_or, or_true, not_true_eq_false, not_false_eq_true, true_implies, false_implies, implies_true, e10, e01, reduceIte, Option.isSome_none, Option.isSome_some, Bool.false_eq_true, bi_t, bi_f]⟩)
  · by_cases eb : b = nb
    · subst eb
      rw [fu_eq, fu_eq, fu_ne _ _ (show 2 * b ≠ 2 * b + 1 by omega), fu_eq]
      refine ⟨⟨by simp (disch := (first | assumption | omega)) only [true_and, and_true, zr_u, zi_u, zI_u, Option.some.injEq, exists_eq_left', nn_tn, nn_add, nn_s, nn_2, nn_5, nn_7, nn_8, na0, na2, na3, na4, na5, na6, uf_ne, uf_eq, ur_eq, ur_ne, true_or, or_true, not_true_eq_false, not_false_eq_true, true_implies, false_implies, implies_true, e10, e01, reduceIte, Option.isSome_none, Option.isSome_some, Bool.false_eq_true, bi_t, bi_f], he, fun q => (ho q).keep (by simp (disch := (first | assumption | omega)) only [true_and, and_true, zr_u, zi_u, zI_u, Option.some.injEq, exists_eq_left', nn_tn, nn_add, nn_s, nn_2, nn_5, nn_7, nn_8, na0, na2, na3, na4, na5, na6, uf_ne, uf_eq, ur_eq, ur_ne, true_or, or_true, not_true_eq_false, not_false_eq_true, true_implies, false_implies, implies_true, e10, e01, reduceIte, Option.isSome_none, Option.isSome_some, Bool.false_eq_true, bi_t, bi_f]) (by simp (disch := (first | assumption | omega)) only [true_and, and_true, zr_u, zi_u, zI_u, Option.some.injEq, exists_eq_left', nn_tn, nn_add, nn_s, nn_2, nn_5, nn_7, nn_8, na0, na2, na3, na4, na5, na6, uf_ne, uf_eq, ur_eq, ur_ne, true_or, or_true, not_true_eq_false, not_false_eq_true, true_implies, false_implies, implies_true, e10, e01, reduceIte, Option.isSome_none, Option.isSome_some, Bool.false_eq_true, bi_t, bi_f]), fun q => by simp (disch := (first | assumption | omega)) only [true_and, and_true, zr_u, zi_u, zI_u, Option.some.injEq, exists_eq_left', nn_tn, nn_add, nn_s, nn_2, nn_5, nn_7, nn_8, na0, na2, na3, na4, na5, na6, uf_ne, uf_eq, ur_eq, ur_ne, true_or, or_true, not_true_eq_false, not_false_eq_true, true_implies, false_implies, implies_true, e10, e01, reduceIte, Option.isSome_none, Option.isSome_some, Bool.false_eq_true, bi_t, bi_f]; exact (g0 q).1, fun q => by simp (disch := (first | assumption | omega)) only [true_and, and_true, zr_u, zi_u, zI_u, Option.some.injEq, exists_eq_left', nn_tn, nn_add, nn_s, nn_2, nn_5, nn_7, nn_8, na0, na2, na3, na4, na5, na6, uf_ne, uf_eq, ur_eq, ur_ne, true_or, or_true, not_true_eq_false, not_false_eq_true, true_implies, false_implies, implies_true, e10, e01, reduceIte, Option.isSome_none, Option.isSome_some, Bool.false_eq_true, bi_t, bi_f]; exact (g1 q).1⟩, fun q => by simp (disch := (first | assumption | omega)) only [true_and, and_true, zr_u, zi_u, zI_u, Option.some.injEq, exists_eq_left', nn_tn, nn_add, nn_s, nn_2, nn_5, nn_7, nn_8, na0, na2, na3, na4, na5, na6, uf_ne, uf_eq, ur_eq, ur_ne, true_or, or_true, not_true_eq_false, not_false_eq_true, true_implies, false_implies, implies_true, e10, e01, reduceIte, Option.isSome_none, Option.isSome_some, Bool.false_eq_true, bi_t, bi_f]; exact (g0 q).2, fun q => by simp (disch := (first | assumption | omega)) only [true_and, and_true, zr_u, zi_u, zI_u, Option.some.injEq, exists_eq_left', nn_tn, nn_add, nn_s, nn_2, nn_5, nn_7, nn_8, na0, na2, na3, na4, na5, na6, uf_ne, uf_eq, ur_eq, ur_ne, true_or, or_true, not_true_eq_false, not_false_eq_true, true_implies, false_implies, implies_true, e10, e01, reduceIte, Option.isSome_none, Option.isSome_some, Bool.false_eq_true, bi_t, bi_f]; exact (g1 q).2⟩
    · rw [fu_ne _ _ eb, fu_ne _ _ (show 2 * b ≠ 2 * nb + 1 by omega), fu_ne _ _ (show 2 * b ≠ 2 * nb by omega), fu_ne _ _ (show 2 * b + 1 ≠ 2 * nb + 1 by omega), fu_ne _ _ (show 2 * b + 1 ≠ 2 * nb by omega)]
      obtain ⟨q1, q2, q3⟩ := h5 b (by omega)
      exact ⟨q1.keep (by simp (disch := (first | assumption | omega)) only [true_and, and_true, zr_u, zi_u, zI_u, Option.some.injEq, exists_eq_left', nn_tn, nn_add, nn_s, nn_2, nn_5, nn_7, nn_8, na0, na2, na3, na4, na5, na6, uf_ne, uf_eq, ur_eq, ur_ne, true_or, or_true, not_true_eq_false, not_false_eq_true, true_implies, false_implies, implies_true, e10, e01, reduceIte, Option.isSome_none, Option.isSome_some, Bool.false_eq_true, bi_t, bi_f]) (by simp (disch := (first | assumption | omega)) only [true_and, and_true, zr_u, zi_u, zI_u, Option.some.injEq, exists_eq_left', nn_tn, nn_add, nn_s, nn_2, nn_5, nn_7, nn_8, na0, na2, na3, na4, na5, na6, uf_ne, uf_eq, ur_eq, ur_ne, true_or, or_true, not_true_eq_false, not_false_eq_true, true_implies, false_implies, implies_true, e10, e01, reduceIte, Option.isSome_none, Option.isSome_some, Bool.false_eq_true, bi_t, bi_f]) (by simp (disch := (first | assumption | omega)) only [true_and, and_true, zr_u, zi_u, zI_u, Option.some.injEq, exists_eq_left', nn_tn, nn_add, nn_s, nn_2, nn_5, nn_7, nn_8, na0, na2, na3, na4, na5, na6, uf_ne, uf_eq, ur_eq, ur_ne, true_or, or_true, not_true_eq_false, not_false_eq_true, true_implies, false_implies, implies_true, e10, e01, reduceIte, Option.isSome_none, Option.isSome_some, Bool.false_eq_true, bi_t, bi_f]) ⟨by simp (disch := (first | assumption | omega)) only [true_and, and_true, zr_u, zi_u, zI_u, Option.some.injEq, exists_eq_left', nn_tn, nn_add, nn_s, nn_2, nn_5, nn_7, nn_8, na0, na2, na3, na4, na5, na6, uf_ne, uf_eq, ur_eq, ur_ne, true_or, or_true, not_true_eq_false, not_false_eq_true, true_implies, false_implies, implies_true, e10, e01, reduceIte, Option.isSome_none, Option.isSome_some, Bool.false_eq_true, bi_t, bi_f], by simp (disch := (first | assumption | omega)) only [true_and, and_true, zr_u, zi_u, zI_u, Option.some.injEq, exists_eq_left', nn_tn, nn_add, nn_s, nn_2, nn_5, nn_7, nn_8, na0, na2, na3, na4, na5, na6, uf_ne, uf_eq, ur_eq, ur_ne, true_or, or_true, not_true_eq_false, not_false_eq_true, true_implies, false_implies, implies_true, e10, e01, reduceIte, Option.isSome_none, Option.isSome_some, Bool.false_eq_true, bi_t, bi_f]⟩, fun q => by simp (disch := (first | assumption | omega)) only [true_and, and_true, zr_u, zi_u, zI_u, Option.some.injEq, exists_eq_left', nn_tn, nn_add, nn_s, nn_2, nn_5, nn_7, nn_8, na0, na2, na3, na4, na5, na6, uf_ne, uf_eq, ur_eq, ur_ne, true_or, or_true, not_true_eq_false, not_false_eq_true, true_implies, false_implies, implies_true, e10, e01, reduceIte, Option.isSome_none, Option.isSome_some, Bool.false_eq_true, bi_t, bi_f]; exact q2 q, fun q => by simp (disch := (first | assumption | omega)) only [true_and, and_true, zr_u, zi_u, zI_u, Option.some.injEq, exists_eq_left', nn_tn, nn_add, nn_s, nn_2, nn_5, nn_7, nn_8, na0, na2, na3, na4, na5, na6, uf_ne, uf_eq, ur_eq, ur_ne, true_or, or_true, not_true_eq_false, not_false_eq_true, true_implies, false_implies, implies_true, e10, e01, reduceIte, Option.isSome_none, Option.isSome_some, Bool.false_eq_true, bi_t, bi_f]; exact q3 q⟩
  · exact h6.same (by simp (disch := (first | assumption | omega)) only [true_and, and_true, zr_u, zi_u, zI_u, Option.some.injEq, exists_eq_left', nn_tn, nn_add, nn_s, nn_2, nn_5, nn_7, nn_8, na0, na2, na3, na4, na5, na6, uf_ne, uf_eq, ur_eq, ur_ne, true_or, or_true, not_true_eq_false, not_false_eq_true, true_implies, false_implies, implies_true, e10, e01, reduceIte, Option.isSome_none, Option.isSome_some, Bool.false_eq_true, bi_t, bi_f]) (by simp (disch := (first | assumption | omega)) only [true_and, and_true, zr_u, zi_u, zI_u, Option.some.injEq, exists_eq_left', nn_tn, nn_add, nn_s, nn_2, nn_5, nn_7, nn_8, na0, na2, na3, na4, na5, na6, uf_ne, uf_eq, ur_eq, ur_ne, true_or, or_true, not_true_eq_false, not_false_eq_true, true_implies, false_implies, implies_true, e10, e01, reduceIte, Option.isSome_none, Option.isSome_some, Bool.false_eq_true, bi_t, bi_f])
  · simp (disch := (first | assumption | omega)) only [true_and, and_true, zr_u, zi_u, zI_u, Option.some.injEq, exists_eq_left', nn_tn, nn_add, nn_s, nn_2, nn_5, nn_7, nn_8, na0, na2, na3, na4, na5, na6, uf_ne, uf_eq, ur_eq, ur_ne, true_or, or_true, not_true_eq_false, not_false_eq_true, true_implies, false_implies, implies_true, e10, e01, reduceIte, Option.isSome_none, Option.isSome_some, Bool.false_eq_true, bi_t, bi_f]; exact h7
theorem s_end111 {f : zf} {ρ : zo} (hC : zC ρ) {p nb ns : Nat} {k : Int32} {Q : Int32 → zS → Prop} (hp : zp_ p) (hr : ρ.1 5 2 = some p) (hnb : nb < 24) (h0 : f p 0 = nn nb) (h1 : f p 1 = nn ns) (h : Q 1 (uf (uf (uf f (p + 6) nb k) p 0 (nn (nb + 1))) (p + 1) (nb + 1) (nn ns), ρ)) : P_R_fillEnd_111 201 Q 5 k (f, ρ) := by
  have hp' := hp
  unfold zp_ at hp'
  unfold P_R_fillEnd_111 P_G_closeBlock
  simp (disch := (first | assumption | omega)) only [true_and, and_true, zr_u, zi_u, zI_u, Option.some.injEq, exists_eq_left', nn_tn, nn_add, nn_s, nn_2, nn_5, nn_7, nn_8, na0, na2, na3, na4, na5, na6, uf_ne, uf_eq, ur_eq, ur_ne, true_or, or_true, not_true_eq_false, not_false_eq_true, true_implies, false_implies, implies_true, e10, e01, reduceIte, Option.isSome_none, Option.isSome_some, Bool.false_eq_true, bi_t, bi_f, ko_5, hr, ko_p, h0, h1, rc_p7 hC, rc_p2 hC, ka_p6, ka_p1]
  exact h
theorem s_fillEnd {f : zf} {ρ : zo} (hC : zC ρ) {t : Nat → Nat} {n p pos nb ns : Nat} {T : Nat → mT} {fs : Nat → Nat} {E : Nat → mE} {PL : Nat → Nat} {Q : Int32 → zS → Prop} (hp : zp_ p) (hr : ρ.1 5 2 = some p) (hR' : hR f t n) (hpos : pos ≤ n) (hk : okp f pos) (hS' : hS f p nb ns T fs E PL) (hns : ns ≤ 80) (hnb : nb < 24) (h1 : ∀ f' r, qend t n pos = .inr r → frD f f' p → hS f' p (nb + 1) ns T (fu fs (nb + 1) ns) (fu E nb r.1) (fu (fu PL (2 * nb) r.2.1) (2 * nb + 1) r.2.2.1) → okp f' r.2.2.2 → Q 1 (f', ρ)) (h0 : ∀ f' e, qend t n pos = .inl e → frD f f' p → flt f' e → sK f' p → f' (p + 1) 0 = nn 0 → Q 0 (f', ρ)) : P_R_fillEnd 201 5 (f, ρ) Q := by
  have hp' := hp
  unfold zp_ at hp'
  have hn := hR'.2.1
  have close : ∀ (g : zf) (e : mE) (x y q : Nat), frH f g p nb → sK g p → okp g q → qend t n pos = .inr (e, x, y, q) → e.1 ≤ 2 → (e.1 = 2 → oC (g (p + 4)) (g (p + 5)) (160 + nb) e.2.1) → (e.1 ≠ 0 → g (p + 7) (2 * nb) = nn e.2.2.1 ∧ g 6 (2 * nb) = nn x) → (e.1 = 2 → g (p + 7) (2 * nb + 1) = nn e.2.2.2 ∧ g 6 (2 * nb + 1) = nn y) → P_R_fillEnd_111 201 Q 5 (nn e.1) (g, ρ) := by
    intro g e x y q H K O hq a1 a2 a3 a4
    have S := hS'.H hp hns H K
    refine s_end111 hC hp hr hnb S.1 S.2.1 (h1 _ _ hq ?_ (S.close hp a1 a2 a3 a4) ?_)
    · intro a z1 z2 z3
      simp (disch := (first | assumption | omega)) only [true_and, and_true, zr_u, zi_u, zI_u, Option.some.injEq, exists_eq_left', nn_tn, nn_add, nn_s, nn_2, nn_5, nn_7, nn_8, na0, na2, na3, na4, na5, na6, uf_ne, uf_eq, ur_eq, ur_ne, true_or, or_true, not_true_eq_false, not_false_eq_true, true_implies, false_implies, implies_true, e10, e01, reduceIte, Option.isSome_none, Option.isSome_some, Bool.false_eq_true, bi_t, bi_f]
      exact H.1 a z1 z2 (by omega) (by omega) (by omega)
    · exact ⟨by simp (disch := (first | assumption | omega)) only [true_and, and_true, zr_u, zi_u, zI_u, Option.some.injEq, exists_eq_left', nn_tn, nn_add, nn_s, nn_2, nn_5, nn_7, nn_8, na0, na2, na3, na4, na5, na6, uf_ne, uf_eq, ur_eq, ur_ne, true_or, or_true, not_true_eq_false, not_false_eq_true, true_implies, false_implies, implies_true, e10, e01, reduceIte, Option.isSome_none, Option.isSome_some, Bool.false_eq_true, bi_t, bi_f]; exact O.1, by simp (disch := (first | assumption | omega)) only [true_and, and_true, zr_u, zi_u, zI_u, Option.some.injEq, exists_eq_left', nn_tn, nn_add, nn_s, nn_2, nn_5, nn_7, nn_8, na0, na2, na3, na4, na5, na6, uf_ne, uf_eq, ur_eq, ur_ne, true_or, or_true, not_true_eq_false, not_false_eq_true, true_implies, false_implies, implies_true, e10, e01, reduceIte, Option.isSome_none, Option.isSome_some, Bool.false_eq_true, bi_t, bi_f]; exact O.2.1, by simp (disch := (first | assumption | omega)) only [true_and, and_true, zr_u, zi_u, zI_u, Option.some.injEq, exists_eq_left', nn_tn, nn_add, nn_s, nn_2, nn_5, nn_7, nn_8, na0, na2, na3, na4, na5, na6, uf_ne, uf_eq, ur_eq, ur_ne, true_or, or_true, not_true_eq_false, not_false_eq_true, true_implies, false_implies, implies_true, e10, e01, reduceIte, Option.isSome_none, Option.isSome_some, Bool.false_eq_true, bi_t, bi_f]; exact O.2.2⟩
  have fall : ∀ (g : zf) (e : Nat × Nat), frH f g p nb → sK g p → flt g e → qend t n pos = .inl e → Q 0 (g, ρ) := by
    intro g e H K F hq
    refine h0 g e hq H.D F K ?_
    rw [H.1 (p + 1) (by omega) (by omega) (by omega) (by omega) (by omega)]; exact hS'.2.2.2.2.2.2
  unfold P_R_fillEnd
  simp (disch := (first | assumption | omega)) only [true_and, and_true, zr_u, zi_u, zI_u, Option.some.injEq, exists_eq_left', nn_tn, nn_add, nn_s, nn_2, nn_5, nn_7, nn_8, na0, na2, na3, na4, na5, na6, uf_ne, uf_eq, ur_eq, ur_ne, true_or, or_true, not_true_eq_false, not_false_eq_true, true_implies, false_implies, implies_true, e10, e01, reduceIte, Option.isSome_none, Option.isSome_some, Bool.false_eq_true, bi_t, bi_f, ko_5]
  refine s_next hC hR' hpos hk.1 ?_
  rw [show (46 : Int32) = nn 46 from rfl, show (62 : Int32) = nn 62 from rfl, qby_eq (c := 46) hR' (by decide), qby_eq (c := 62) hR' (by decide)]
  have F1 : fr5 f (uf f 5 3 (nn (qsk t n pos))) := (fr5.rfl' f).put _ _
  have O1 := hk.go (qsk t n pos)
  have lq := qsk_n (t := t) hpos
  generalize uf f 5 3 (nn (qsk t n pos)) = g1 at F1 O1 ⊢
  have H1 : frH f g1 p nb := (frH.rfl' f p nb).five hp F1
  have K1 : sK g1 p := hS'.2.2.2.2.2.1.same (F1 _ (by omega)) (F1 _ (by omega))
  have R1 := hR'.five F1
  have Z1 : g1 p 0 = nn nb := by rw [F1 p (by omega)]; exact hS'.1
  refine ⟨fun h46 => ⟨fun h62 => ?_, fun h62 => ?_⟩, fun h46 => ?_⟩
  · unfold P_R_fillEnd_26 P_G_ofEnd P_R_fillEnd_71
    simp (disch := (first | assumption | omega)) only [true_and, and_true, zr_u, zi_u, zI_u, Option.some.injEq, exists_eq_left', nn_tn, nn_add, nn_s, nn_2, nn_5, nn_7, nn_8, na0, na2, na3, na4, na5, na6, uf_ne, uf_eq, ur_eq, ur_ne, true_or, or_true, not_true_eq_false, not_false_eq_true, true_implies, false_implies, implies_true, e10, e01, reduceIte, Option.isSome_none, Option.isSome_some, Bool.false_eq_true, bi_t, bi_f, ko_5, hr, ko_p, Z1]
    rw [show (160 : Int32) = nn 160 from rfl, nn_add]
    refine s_fillOp hC hp hr R1 lq O1 (by omega) K1 (fun f2 x y1 y2 y3 y4 y5 => ?_) (fun f2 e y1 y2 y3 => ?_)
    · simp (disch := (first | assumption | omega)) only [true_and, and_true, zr_u, zi_u, zI_u, Option.some.injEq, exists_eq_left', nn_tn, nn_add, nn_s, nn_2, nn_5, nn_7, nn_8, na0, na2, na3, na4, na5, na6, uf_ne, uf_eq, ur_eq, ur_ne, true_or, or_true, not_true_eq_false, not_false_eq_true, true_implies, false_implies, implies_true, e10, e01, reduceIte, Option.isSome_none, Option.isSome_some, Bool.false_eq_true, bi_t, bi_f]
      have R2 : hR f2 t n := R1.same (y2.1 _ (by decide) (by omega) (by omega)) (y2.1 _ (by decide) (by omega) (by omega))
      have l2 := qop_pos y1 lq
      have H2 := H1.O hp y2
      refine s_pass hC (by decide) R2 l2.2 y3 (fun f3 q z1 z2 z3 => ?_) (fun f3 e z1 z2 z3 => ?_)
      · simp (disch := (first | assumption | omega)) only [true_and, and_true, zr_u, zi_u, zI_u, Option.some.injEq, exists_eq_left', nn_tn, nn_add, nn_s, nn_2, nn_5, nn_7, nn_8, na0, na2, na3, na4, na5, na6, uf_ne, uf_eq, ur_eq, ur_ne, true_or, or_true, not_true_eq_false, not_false_eq_true, true_implies, false_implies, implies_true, e10, e01, reduceIte, Option.isSome_none, Option.isSome_some, Bool.false_eq_true, bi_t, bi_f]
        have R3 := R2.five z2
        have l3 := qwant_pos z1 l2.2
        have H3 := H2.five hp z2
        have K3 : sK f3 p := y5.same (z2 _ (by omega)) (z2 _ (by omega))
        have Z3 : f3 p 0 = nn nb := by rw [H3.1 p (by omega) (by omega) (by omega) (by omega) (by omega)]; exact hS'.1
        have o3 : oC (f3 (p + 4)) (f3 (p + 5)) (160 + nb) x.1 := by rw [z2 _ (by omega), z2 _ (by omega)]; exact y4
        unfold P_R_fillEnd_73
        simp (disch := (first | assumption | omega)) only [true_and, and_true, zr_u, zi_u, zI_u, Option.some.injEq, exists_eq_left', nn_tn, nn_add, nn_s, nn_2, nn_5, nn_7, nn_8, na0, na2, na3, na4, na5, na6, uf_ne, uf_eq, ur_eq, ur_ne, true_or, or_true, not_true_eq_false, not_false_eq_true, true_implies, false_implies, implies_true, e10, e01, reduceIte, Option.isSome_none, Option.isSome_some, Bool.false_eq_true, bi_t, bi_f, ko_5, e20]
        refine s_fillGoal (k := 0) hC hp hr R3 l3.2 z3 Z3 hnb (by decide) (fun f4 r w1 w2 w3 w4 w5 => ?_) (fun f4 e w1 w2 w3 => ?_)
        · simp (disch := (first | assumption | omega)) only [true_and, and_true, zr_u, zi_u, zI_u, Option.some.injEq, exists_eq_left', nn_tn, nn_add, nn_s, nn_2, nn_5, nn_7, nn_8, na0, na2, na3, na4, na5, na6, uf_ne, uf_eq, ur_eq, ur_ne, true_or, or_true, not_true_eq_false, not_false_eq_true, true_implies, false_implies, implies_true, e10, e01, reduceIte, Option.isSome_none, Option.isSome_some, Bool.false_eq_true, bi_t, bi_f]
          unfold P_R_fillEnd_87 P_R_fillEnd_109
          simp (disch := (first | assumption | omega)) only [true_and, and_true, zr_u, zi_u, zI_u, Option.some.injEq, exists_eq_left', nn_tn, nn_add, nn_s, nn_2, nn_5, nn_7, nn_8, na0, na2, na3, na4, na5, na6, uf_ne, uf_eq, ur_eq, ur_ne, true_or, or_true, not_true_eq_false, not_false_eq_true, true_implies, false_implies, implies_true, e10, e01, reduceIte, Option.isSome_none, Option.isSome_some, Bool.false_eq_true, bi_t, bi_f, ko_5]
          have R4 : hR f4 t n := R3.same (w2.1 _ (by decide) (by decide) (by omega)) (w2.1 _ (by decide) (by decide) (by omega))
          have l4 := qgoal_pos w1 l3.2
          have H4 := H3.G hp w2 (Or.inl rfl)
          have K4 : sK f4 p := K3.same (w2.1 _ (by omega) (by omega) (by omega)) (w2.1 _ (by omega) (by omega) (by omega))
          have o4 : oC (f4 (p + 4)) (f4 (p + 5)) (160 + nb) x.1 := by rw [w2.1 _ (by omega) (by omega) (by omega), w2.1 _ (by omega) (by omega) (by omega)]; exact o3
          refine s_pass hC (by decide) R4 l4.2 w3 (fun f5 q' v1 v2 v3 => ?_) (fun f5 e v1 v2 v3 => ?_)
          · simp (disch := (first | assumption | omega)) only [true_and, and_true, zr_u, zi_u, zI_u, Option.some.injEq, exists_eq_left', nn_tn, nn_add, nn_s, nn_2, nn_5, nn_7, nn_8, na0, na2, na3, na4, na5, na6, uf_ne, uf_eq, ur_eq, ur_ne, true_or, or_true, not_true_eq_false, not_false_eq_true, true_implies, false_implies, implies_true, e10, e01, reduceIte, Option.isSome_none, Option.isSome_some, Bool.false_eq_true, bi_t, bi_f]
            have R5 := R4.five v2
            have l5 := qwant_pos v1 l4.2
            have H5 := H4.five hp v2
            have K5 : sK f5 p := K4.same (v2 _ (by omega)) (v2 _ (by omega))
            have Z5 : f5 p 0 = nn nb := by rw [H5.1 p (by omega) (by omega) (by omega) (by omega) (by omega)]; exact hS'.1
            refine s_fillGoal (k := 1) hC hp hr R5 l5.2 v3 Z5 hnb (by decide) (fun f6 s u1 u2 u3 u4 u5 => ?_) (fun f6 e u1 u2 u3 => ?_)
            · simp (disch := (first | assumption | omega)) only [true_and, and_true, zr_u, zi_u, zI_u, Option.some.injEq, exists_eq_left', nn_tn, nn_add, nn_s, nn_2, nn_5, nn_7, nn_8, na0, na2, na3, na4, na5, na6, uf_ne, uf_eq, ur_eq, ur_ne, true_or, or_true, not_true_eq_false, not_false_eq_true, true_implies, false_implies, implies_true, e10, e01, reduceIte, Option.isSome_none, Option.isSome_some, Bool.false_eq_true, bi_t, bi_f]
              refine close f6 (2, x.1, r.1, s.1) r.2.1 s.2.1 s.2.2 (H5.G hp u2 (Or.inr rfl)) (K5.same (u2.1 _ (by omega) (by omega) (by omega)) (u2.1 _ (by omega) (by omega) (by omega))) u3 (by rw [qend_b1 h46 h62 y1 (qbr_4 z1 w1 v1 u1)]) (by show 2 ≤ 2; decide) (fun _ => ?_) (fun _ => ?_) (fun _ => ⟨u5, u4⟩)
              · rw [u2.1 (p + 4) (by omega) (by omega) (by omega), u2.1 (p + 5) (by omega) (by omega) (by omega), v2 _ (by omega), v2 _ (by omega)]; exact o4
              · rw [(u2.2 (2 * nb) (by omega)).2, (u2.2 (2 * nb) (by omega)).1, v2 _ (by omega), v2 _ (by decide)]
                exact ⟨w5, w4⟩
            · simp (disch := (first | assumption | omega)) only [true_and, and_true, zr_u, zi_u, zI_u, Option.some.injEq, exists_eq_left', nn_tn, nn_add, nn_s, nn_2, nn_5, nn_7, nn_8, na0, na2, na3, na4, na5, na6, uf_ne, uf_eq, ur_eq, ur_ne, true_or, or_true, not_true_eq_false, not_false_eq_true, true_implies, false_implies, implies_true, e10, e01, reduceIte, Option.isSome_none, Option.isSome_some, Bool.false_eq_true, bi_t, bi_f]
              exact fall f6 e (H5.G hp u2 (Or.inr rfl)) (K5.same (u2.1 _ (by omega) (by omega) (by omega)) (u2.1 _ (by omega) (by omega) (by omega))) u3 (qend_b0 h46 h62 y1 (qbr_3 z1 w1 v1 u1))
          · simp (disch := (first | assumption | omega)) only [true_and, and_true, zr_u, zi_u, zI_u, Option.some.injEq, exists_eq_left', nn_tn, nn_add, nn_s, nn_2, nn_5, nn_7, nn_8, na0, na2, na3, na4, na5, na6, uf_ne, uf_eq, ur_eq, ur_ne, true_or, or_true, not_true_eq_false, not_false_eq_true, true_implies, false_implies, implies_true, e10, e01, reduceIte, Option.isSome_none, Option.isSome_some, Bool.false_eq_true, bi_t, bi_f]
            exact fall f5 e (H4.five hp v2) (K4.same (v2 _ (by omega)) (v2 _ (by omega))) v3 (qend_b0 h46 h62 y1 (qbr_2 z1 w1 v1))
        · simp (disch := (first | assumption | omega)) only [true_and, and_true, zr_u, zi_u, zI_u, Option.some.injEq, exists_eq_left', nn_tn, nn_add, nn_s, nn_2, nn_5, nn_7, nn_8, na0, na2, na3, na4, na5, na6, uf_ne, uf_eq, ur_eq, ur_ne, true_or, or_true, not_true_eq_false, not_false_eq_true, true_implies, false_implies, implies_true, e10, e01, reduceIte, Option.isSome_none, Option.isSome_some, Bool.false_eq_true, bi_t, bi_f]
          exact fall f4 e (H3.G hp w2 (Or.inl rfl)) (K3.same (w2.1 _ (by omega) (by omega) (by omega)) (w2.1 _ (by omega) (by omega) (by omega))) w3 (qend_b0 h46 h62 y1 (qbr_1 z1 w1))
      · simp (disch := (first | assumption | omega)) only [true_and, and_true, zr_u, zi_u, zI_u, Option.some.injEq, exists_eq_left', nn_tn, nn_add, nn_s, nn_2, nn_5, nn_7, nn_8, na0, na2, na3, na4, na5, na6, uf_ne, uf_eq, ur_eq, ur_ne, true_or, or_true, not_true_eq_false, not_false_eq_true, true_implies, false_implies, implies_true, e10, e01, reduceIte, Option.isSome_none, Option.isSome_some, Bool.false_eq_true, bi_t, bi_f]
        exact fall f3 e (H2.five hp z2) (y5.same (z2 _ (by omega)) (z2 _ (by omega))) z3 (qend_b0 h46 h62 y1 (qbr_0 z1))
    · simp (disch := (first | assumption | omega)) only [true_and, and_true, zr_u, zi_u, zI_u, Option.some.injEq, exists_eq_left', nn_tn, nn_add, nn_s, nn_2, nn_5, nn_7, nn_8, na0, na2, na3, na4, na5, na6, uf_ne, uf_eq, ur_eq, ur_ne, true_or, or_true, not_true_eq_false, not_false_eq_true, true_implies, false_implies, implies_true, e10, e01, reduceIte, Option.isSome_none, Option.isSome_some, Bool.false_eq_true, bi_t, bi_f]
      exact fall f2 e (H1.five hp y2) (K1.same (y2 _ (by omega)) (y2 _ (by omega))) y3 (qend_o0 h46 h62 y1)
  · unfold P_R_fillEnd_26 P_R_fillEnd_73
    simp (disch := (first | assumption | omega)) only [true_and, and_true, zr_u, zi_u, zI_u, Option.some.injEq, exists_eq_left', nn_tn, nn_add, nn_s, nn_2, nn_5, nn_7, nn_8, na0, na2, na3, na4, na5, na6, uf_ne, uf_eq, ur_eq, ur_ne, true_or, or_true, not_true_eq_false, not_false_eq_true, true_implies, false_implies, implies_true, e10, e01, reduceIte, Option.isSome_none, Option.isSome_some, Bool.false_eq_true, bi_t, bi_f, ko_5, e12q, O1.1]
    have F2 : fr5 g1 (uf g1 5 3 (nn (qsk t n pos + 1))) := (fr5.rfl' g1).put _ _
    have O2 := O1.go (qsk t n pos + 1)
    generalize uf g1 5 3 (nn (qsk t n pos + 1)) = g2 at F2 O2 ⊢
    have Z2 : g2 p 0 = nn nb := by rw [F2 p (by omega)]; exact Z1
    have K2 : sK g2 p := K1.same (F2 _ (by omega)) (F2 _ (by omega))
    have H2 := H1.five hp F2
    refine s_fillGoal (k := 0) hC hp hr (R1.five F2) h62.1 O2 Z2 hnb (by decide) (fun f4 r w1 w2 w3 w4 w5 => ?_) (fun f4 e w1 w2 w3 => ?_)
    · simp (disch := (first | assumption | omega)) only [true_and, and_true, zr_u, zi_u, zI_u, Option.some.injEq, exists_eq_left', nn_tn, nn_add, nn_s, nn_2, nn_5, nn_7, nn_8, na0, na2, na3, na4, na5, na6, uf_ne, uf_eq, ur_eq, ur_ne, true_or, or_true, not_true_eq_false, not_false_eq_true, true_implies, false_implies, implies_true, e10, e01, reduceIte, Option.isSome_none, Option.isSome_some, Bool.false_eq_true, bi_t, bi_f]
      unfold P_R_fillEnd_87
      simp (disch := (first | assumption | omega)) only [true_and, and_true, zr_u, zi_u, zI_u, Option.some.injEq, exists_eq_left', nn_tn, nn_add, nn_s, nn_2, nn_5, nn_7, nn_8, na0, na2, na3, na4, na5, na6, uf_ne, uf_eq, ur_eq, ur_ne, true_or, or_true, not_true_eq_false, not_false_eq_true, true_implies, false_implies, implies_true, e10, e01, reduceIte, Option.isSome_none, Option.isSome_some, Bool.false_eq_true, bi_t, bi_f, e12q]
      exact close f4 (1, .inr 0, r.1, 0) r.2.1 0 r.2.2 (H2.G hp w2 (Or.inl rfl)) (K2.same (w2.1 _ (by omega) (by omega) (by omega)) (w2.1 _ (by omega) (by omega) (by omega))) w3 (by rw [qend_g1 h46 h62 w1]) (by show 1 ≤ 2; decide) (fun z => absurd z (by show ¬ 1 = 2; decide)) (fun _ => ⟨w5, w4⟩) (fun z => absurd z (by show ¬ 1 = 2; decide))
    · simp (disch := (first | assumption | omega)) only [true_and, and_true, zr_u, zi_u, zI_u, Option.some.injEq, exists_eq_left', nn_tn, nn_add, nn_s, nn_2, nn_5, nn_7, nn_8, na0, na2, na3, na4, na5, na6, uf_ne, uf_eq, ur_eq, ur_ne, true_or, or_true, not_true_eq_false, not_false_eq_true, true_implies, false_implies, implies_true, e10, e01, reduceIte, Option.isSome_none, Option.isSome_some, Bool.false_eq_true, bi_t, bi_f]
      exact fall f4 e (H2.G hp w2 (Or.inl rfl)) (K2.same (w2.1 _ (by omega) (by omega) (by omega)) (w2.1 _ (by omega) (by omega) (by omega))) w3 (qend_g0 h46 h62 w1)
  · unfold P_R_fillEnd_26 P_R_fillEnd_73 P_R_fillEnd_87
    simp (disch := (first | assumption | omega)) only [true_and, and_true, zr_u, zi_u, zI_u, Option.some.injEq, exists_eq_left', nn_tn, nn_add, nn_s, nn_2, nn_5, nn_7, nn_8, na0, na2, na3, na4, na5, na6, uf_ne, uf_eq, ur_eq, ur_ne, true_or, or_true, not_true_eq_false, not_false_eq_true, true_implies, false_implies, implies_true, e10, e01, reduceIte, Option.isSome_none, Option.isSome_some, Bool.false_eq_true, bi_t, bi_f, ko_5, e02q, O1.1]
    have F2 : fr5 g1 (uf g1 5 3 (nn (qsk t n pos + 1))) := (fr5.rfl' g1).put _ _
    exact close _ (0, .inr 0, 0, 0) 0 0 (qsk t n pos + 1) (H1.five hp F2) (K1.same (F2 _ (by omega)) (F2 _ (by omega))) (O1.go _) (qend_d h46) (by show 0 ≤ 2; decide) (fun z => absurd z (by show ¬ 0 = 2; decide)) (fun z => absurd rfl z) (fun z => absurd z (by show ¬ 0 = 2; decide))
/-! all goals are there -/
theorem ag_step {f : zf} {ρ : zo} (hC : zC ρ) {p nb b k kd m : Nat} {Q : Int32 → zS → Prop} {K2 : Nat → Int32 → zS → Prop} (hp : zp_ p) (hr : ρ.1 5 2 = some p) (hb : b < 24) (hk : k < 3) (hnb : f p 0 = nn nb) (hn : nb ≤ 24) (hd : f (p + 6) b = nn kd) (hd2 : kd ≤ 2) (hA : kd ≤ k → K2 5 (nn (b + 1)) (f, ρ)) (hB : k < kd → ∃ v, f (p + 7) (2 * b + k) = nn v ∧ v < 2147483648 ∧ (v < nb → P_R_allGoalsThere_15 201 Q K2 m 5 (nn b) (nn (k + 1)) (f, ρ)) ∧ (nb ≤ v → ∃ x, f 6 (2 * b + k) = nn x ∧ ∀ f', fr5 f f' → flt f' (4, x) → Q 0 (f', ρ))) : P_R_allGoalsThere_15 201 Q K2 (m + 1) 5 (nn b) (nn k) (f, ρ) := by
  have hp' := hp
  unfold zp_ at hp'
  unfold P_R_allGoalsThere_15 P_G_goalSlot
  simp (disch := (first | assumption | omega)) only [true_and, and_true, zr_u, zi_u, zI_u, Option.some.injEq, exists_eq_left', nn_tn, nn_add, nn_s, nn_2, nn_5, nn_7, nn_8, na0, na2, na3, na4, na5, na6, uf_ne, uf_eq, ur_eq, ur_ne, true_or, or_true, not_true_eq_false, not_false_eq_true, true_implies, false_implies, implies_true, e10, e01, reduceIte, Option.isSome_none, Option.isSome_some, Bool.false_eq_true, bi_t, bi_f, ko_5, hr, ko_p, rc_p7 hC, ka_p6, hd]
  simp (disch := omega) only [nn_le]
  refine ⟨fun z => hA z, fun z => ?_⟩
  obtain ⟨v, v1, v2, v3, v4⟩ := hB (by omega)
  refine s_goal hC hp hb (by omega) ?_
  simp (disch := (first | assumption | omega)) only [true_and, and_true, zr_u, zi_u, zI_u, Option.some.injEq, exists_eq_left', nn_tn, nn_add, nn_s, nn_2, nn_5, nn_7, nn_8, na0, na2, na3, na4, na5, na6, uf_ne, uf_eq, ur_eq, ur_ne, true_or, or_true, not_true_eq_false, not_false_eq_true, true_implies, false_implies, implies_true, e10, e01, reduceIte, Option.isSome_none, Option.isSome_some, Bool.false_eq_true, bi_t, bi_f, hr, ko_p, v1, hnb, rc_5_1 hC, ka_6]
  rw [nn_lt v2 (by omega)]
  refine ⟨fun z => v3 z, fun z => ?_⟩
  obtain ⟨x, x1, x2⟩ := v4 (by omega)
  rw [x1, show (4 : Int32) = nn 4 from rfl]
  exact s_refuse (fun f' r1 r2 => ⟨Or.inl rfl, x2 f' r1 r2⟩)
theorem s_ag15 {f : zf} {ρ : zo} (hC : zC ρ) {p nb b : Nat} {e : mE} {PL : Nat → Nat} {Q : Int32 → zS → Prop} {K2 : Nat → Int32 → zS → Prop} (hp : zp_ p) (hr : ρ.1 5 2 = some p) (hb : b < 24) (hnb : f p 0 = nn nb) (hn : nb ≤ 24) (he : eC f p b e) (hB : eB e) (p0 : e.1 ≠ 0 → f 6 (2 * b) = nn (PL (2 * b))) (p1 : e.1 = 2 → f 6 (2 * b + 1) = nn (PL (2 * b + 1))) (h1 : qck1 nb e PL b = none → K2 5 (nn (b + 1)) (f, ρ)) (h0 : ∀ f' x, qck1 nb e PL b = some x → fr5 f f' → flt f' (4, x) → Q 0 (f', ρ)) : ∃ g, P_R_allGoalsThere_15 201 Q K2 g 5 (nn b) 0 (f, ρ) := by
  obtain ⟨c1, c2, c3, c4, c5⟩ := he
  obtain ⟨b1, b2, b3⟩ := hB
  refine ⟨0 + 1 + 1 + 1, ?_⟩
  refine ag_step (k := 0) hC hp hr hb (by omega) hnb hn c1 c2 (fun z => h1 ?_) (fun z => ⟨_, c4 (by omega), b2, fun v => ?_, fun v => ⟨_, p0 (by omega), fun f' r1 r2 => h0 f' _ ?_ r1 r2⟩⟩)
  · unfold qck1; rw [if_neg (by omega), if_neg (by omega)]
  · refine ag_step (k := 1) hC hp hr hb (by omega) hnb hn c1 c2 (fun z' => h1 ?_) (fun z' => ⟨_, c5 (by omega), b3, fun w => ?_, fun w => ⟨_, p1 (by omega), fun f' r1 r2 => h0 f' _ ?_ r1 r2⟩⟩)
    · unfold qck1; rw [if_neg (by omega), if_neg (by omega)]
    · refine ag_step (k := 2) hC hp hr hb (by omega) hnb hn c1 c2 (fun z'' => h1 ?_) (fun z'' => absurd z'' (by omega))
      unfold qck1; rw [if_neg (by omega), if_neg (by omega)]
    · unfold qck1; rw [if_neg (by omega), if_pos (by omega)]
  · unfold qck1; rw [if_pos (by omega)]
theorem qck_1 {G : mG} {PL : Nat → Nat} {m b x : Nat} (h : qck1 G.1 (G.2.2.2.2 b) PL b = some x) : qck G PL (m + 1) b = some x := by unfold qck; rw [h]
theorem qck_0 {G : mG} {PL : Nat → Nat} {m b : Nat} (h : qck1 G.1 (G.2.2.2.2 b) PL b = none) : qck G PL (m + 1) b = qck G PL m (b + 1) := by
  show (match qck1 G.1 (G.2.2.2.2 b) PL b with | some x => some x | none => qck G PL m (b + 1)) = _
  rw [h]
theorem s_allGoals {f : zf} {ρ : zo} (hC : zC ρ) {p nb ns : Nat} {T : Nat → mT} {fs : Nat → Nat} {E : Nat → mE} {PL : Nat → Nat} {Q : Int32 → zS → Prop} (hp : zp_ p) (hr : ρ.1 5 2 = some p) (hS' : hS f p nb ns T fs E PL) (hn : nb ≤ 24) (hB : ∀ b, b < nb → eB (E b)) (h1 : qck (nb, ns, fs, T, E) PL nb 0 = none → Q 1 (f, ρ)) (h0 : ∀ f' x, qck (nb, ns, fs, T, E) PL nb 0 = some x → fr5 f f' → flt f' (4, x) → Q 0 (f', ρ)) : P_R_allGoalsThere 201 5 (f, ρ) Q := by
  have key : ∀ m b, b + m = nb → (qck (nb, ns, fs, T, E) PL nb 0 = qck (nb, ns, fs, T, E) PL m b) → P_R_allGoalsThere_2 201 Q (m + 1) 5 (nn b) (f, ρ) := by
    intro m
    induction m with
    | zero =>
      intro b hb hq
      unfold P_R_allGoalsThere_2
      simp (disch := (first | assumption | omega)) only [true_and, and_true, zr_u, zi_u, zI_u, Option.some.injEq, exists_eq_left', nn_tn, nn_add, nn_s, nn_2, nn_5, nn_7, nn_8, na0, na2, na3, na4, na5, na6, uf_ne, uf_eq, ur_eq, ur_ne, true_or, or_true, not_true_eq_false, not_false_eq_true, true_implies, false_implies, implies_true, e10, e01, reduceIte, Option.isSome_none, Option.isSome_some, Bool.false_eq_true, bi_t, bi_f, ko_5, hr, ko_p, hS'.1]
      simp (disch := omega) only [nn_le]
      exact ⟨fun _ => h1 (by rw [hq]; rfl), fun z => absurd (by omega) z⟩
    | succ m ih =>
      intro b hb hq
      unfold P_R_allGoalsThere_2
      simp (disch := (first | assumption | omega)) only [true_and, and_true, zr_u, zi_u, zI_u, Option.some.injEq, exists_eq_left', nn_tn, nn_add, nn_s, nn_2, nn_5, nn_7, nn_8, na0, na2, na3, na4, na5, na6, uf_ne, uf_eq, ur_eq, ur_ne, true_or, or_true, not_true_eq_false, not_false_eq_true, true_implies, false_implies, implies_true, e10, e01, reduceIte, Option.isSome_none, Option.isSome_some, Bool.false_eq_true, bi_t, bi_f, ko_5, hr, ko_p, hS'.1]
      simp (disch := omega) only [nn_le]
      refine ⟨fun z => absurd z (by omega), fun _ => ?_⟩
      obtain ⟨q1, q2, q3⟩ := hS'.2.2.2.2.1 b (by omega)
      exact s_ag15 hC hp hr (by omega) hS'.1 hn q1 (hB b (by omega)) q2 q3 (fun z => ih (b + 1) (by omega) (by rw [hq, qck_0 z])) (fun f' x z r1 r2 => h0 f' x (by rw [hq, qck_1 z]) r1 r2)
  exact ⟨_, key nb 0 (by omega) rfl⟩
/-! the whole reading -/
def iQ (nb ns : Nat) (fs : Nat → Nat) (E : Nat → mE) : Prop := fs 0 = 0 ∧ fs nb = ns ∧ (∀ b, b < nb → fs b ≤ fs (b + 1)) ∧ (∀ b, b < nb → eB (E b)) ∧ ns ≤ 80
theorem iQ.step {nb ns ns' : Nat} {fs : Nat → Nat} {E : Nat → mE} {e : mE} (h : iQ nb ns fs E) (h1 : ns ≤ ns') (h2 : ns' ≤ 80) (he : eB e) : iQ (nb + 1) ns' (fu fs (nb + 1) ns') (fu E nb e) := by
  obtain ⟨a1, a2, a3, a4, a5⟩ := h
  refine ⟨by rw [fu_ne _ _ (by omega)]; exact a1, fu_eq _ _ _, fun b hb => ?_, fun b hb => ?_, h2⟩
  · by_cases e : b = nb
    · subst e; rw [fu_eq, fu_ne _ _ (by omega), a2]; exact h1
    · rw [fu_ne _ _ (by omega), fu_ne _ _ (by omega)]; exact a3 b (by omega)
  · by_cases e' : b = nb
    · subst e'; rw [fu_eq]; exact he
    · rw [fu_ne _ _ e']; exact a4 b (by omega)
theorem qck_none {G : mG} {PL : Nat → Nat} : ∀ m b, qck G PL m b = none → ∀ c, b ≤ c → c < b + m → qck1 G.1 (G.2.2.2.2 c) PL c = none
  | 0, b, _, c, h1, h2 => absurd h2 (by omega)
  | m + 1, b, h, c, h1, h2 => by
    cases e : qck1 G.1 (G.2.2.2.2 b) PL b with
    | some x => rw [qck_1 e] at h; cases h
    | none =>
      by_cases ec : c = b
      · subst ec; exact e
      · rw [qck_0 e] at h; exact qck_none m (b + 1) h c (by omega) (by omega)
theorem qck_gG {nb ns : Nat} {fs : Nat → Nat} {T : Nat → mT} {E : Nat → mE} {PL : Nat → Nat} (h1 : 1 ≤ nb) (h2 : nb ≤ 24) (h : iQ nb ns fs E) (hq : qck (nb, ns, fs, T, E) PL nb 0 = none) : gG (nb, ns, fs, T, E) := by
  obtain ⟨a1, a2, a3, a4, a5⟩ := h
  refine ⟨h1, h2, a5, a1, a2, a3, fun b hb => ?_⟩
  have hb' : b < nb := hb
  have q := qck_none (G := (nb, ns, fs, T, E)) nb 0 hq b (by omega) (by omega)
  have q' : qck1 nb (E b) PL b = none := q
  unfold qck1 at q'
  show (E b).1 ≤ 2 ∧ ((E b).1 ≠ 0 → (E b).2.2.1 < nb) ∧ ((E b).1 = 2 → (E b).2.2.2 < nb)
  by_cases c1 : (E b).1 ≠ 0 ∧ nb ≤ (E b).2.2.1
  · rw [if_pos c1] at q'; cases q'
  · rw [if_neg c1] at q'
    by_cases c2 : (E b).1 = 2 ∧ nb ≤ (E b).2.2.2
    · rw [if_pos c2] at q'; cases q'
    · exact ⟨(a4 b hb').1, fun z => by omega, fun z => by omega⟩
theorem qblk_0 {t : Nat → Nat} {n p ns : Nat} {T : Nat → mT} {e : Nat × Nat} (h : qsts t n (80 - ns) p ns T = .inl e) : qblk t n p ns T = .inl e := by unfold qblk; simp only [h]
theorem qblk_1 {t : Nat → Nat} {n p ns : Nat} {T : Nat → mT} {r : Nat × Nat × (Nat → mT)} {e : Nat × Nat} (h : qsts t n (80 - ns) p ns T = .inr r) (h' : qend t n r.1 = .inl e) : qblk t n p ns T = .inl e := by unfold qblk; simp only [h, h']
theorem qblk_2 {t : Nat → Nat} {n p ns : Nat} {T : Nat → mT} {r : Nat × Nat × (Nat → mT)} {s : mE × Nat × Nat × Nat} (h : qsts t n (80 - ns) p ns T = .inr r) (h' : qend t n r.1 = .inr s) : qblk t n p ns T = .inr (qsk t n s.2.2.2, r.2.1, r.2.2, s.1, s.2.1, s.2.2.1) := by unfold qblk; simp only [h, h']
theorem qblks_e {t : Nat → Nat} {n k p nb ns : Nat} {T : Nat → mT} {fs : Nat → Nat} {E : Nat → mE} {PL : Nat → Nat} {e : Nat × Nat} (h : qblk t n p ns T = .inl e) : qblks t n k p nb ns T fs E PL = .inl e := by
  cases k <;> unfold qblks <;> simp only [h]
theorem qblks_n {t : Nat → Nat} {n k p nb ns : Nat} {T : Nat → mT} {fs : Nat → Nat} {E : Nat → mE} {PL : Nat → Nat} {r : Nat × Nat × (Nat → mT) × mE × Nat × Nat} (h : qblk t n p ns T = .inr r) (hr : ¬ r.1 < n) : qblks t n k p nb ns T fs E PL = .inr ((nb + 1, r.2.1, fu fs (nb + 1) r.2.1, r.2.2.1, fu E nb r.2.2.2.1), fu (fu PL (2 * nb) r.2.2.2.2.1) (2 * nb + 1) r.2.2.2.2.2) := by
  cases k <;> unfold qblks <;> simp only [h, qdec_f hr]
theorem qblks_f {t : Nat → Nat} {n p nb ns : Nat} {T : Nat → mT} {fs : Nat → Nat} {E : Nat → mE} {PL : Nat → Nat} {r : Nat × Nat × (Nat → mT) × mE × Nat × Nat} (h : qblk t n p ns T = .inr r) (hr : r.1 < n) : qblks t n 0 p nb ns T fs E PL = .inl (3, r.1) := by
  unfold qblks; simp only [h, qdec_t hr]
theorem qblks_s {t : Nat → Nat} {n k p nb ns : Nat} {T : Nat → mT} {fs : Nat → Nat} {E : Nat → mE} {PL : Nat → Nat} {r : Nat × Nat × (Nat → mT) × mE × Nat × Nat} (h : qblk t n p ns T = .inr r) (hr : r.1 < n) : qblks t n (k + 1) p nb ns T fs E PL = qblks t n k r.1 (nb + 1) r.2.1 r.2.2.1 (fu fs (nb + 1) r.2.1) (fu E nb r.2.2.2.1) (fu (fu PL (2 * nb) r.2.2.2.2.1) (2 * nb + 1) r.2.2.2.2.2) := by
  rw [qblks]; simp only [h, qdec_t hr]
theorem qread_e {t : Nat → Nat} {n : Nat} {e : Nat × Nat} (h : qblks t n 23 0 0 0 (fun _ => (0, 0, .inr 0, .inr 0)) (fun _ => 0) (fun _ => (0, .inr 0, 0, 0)) (fun _ => 0) = .inl e) : qread t n = .inl e := by unfold qread; simp only [h]
theorem qread_g {t : Nat → Nat} {n x : Nat} {r : mG × (Nat → Nat)} (h : qblks t n 23 0 0 0 (fun _ => (0, 0, .inr 0, .inr 0)) (fun _ => 0) (fun _ => (0, .inr 0, 0, 0)) (fun _ => 0) = .inr r) (hq : qck r.1 r.2 r.1.1 0 = some x) : qread t n = .inl (4, x) := by unfold qread; simp only [h, hq]
theorem qread_1 {t : Nat → Nat} {n : Nat} {r : mG × (Nat → Nat)} (h : qblks t n 23 0 0 0 (fun _ => (0, 0, .inr 0, .inr 0)) (fun _ => 0) (fun _ => (0, .inr 0, 0, 0)) (fun _ => 0) = .inr r) (hq : qck r.1 r.2 r.1.1 0 = none) : qread t n = .inr r.1 := by unfold qread; simp only [h, hq]
def uo (ρ : zo) (k j : Nat) (x : Option Nat) : zo := (fun a b => if a = k ∧ b = j then x else ρ.1 a b, ρ.2)
theorem zR_u (f : zf) (ρ : zo) (k j : Nat) (x : Option Nat) : zR (f, ρ) k j x = (f, uo ρ k j x) := rfl
theorem uo_eq (ρ : zo) {k j : Nat} {x : Option Nat} : (uo ρ k j x).1 k j = x := if_pos ⟨rfl, rfl⟩
theorem uo_ne (ρ : zo) {k j : Nat} {x : Option Nat} {a b : Nat} (h : ¬ (a = k ∧ b = j)) : (uo ρ k j x).1 a b = ρ.1 a b := if_neg h
theorem zC.uo {ρ : zo} (h : zC ρ) {k j : Nat} {x : Option Nat} (hz : zrf k j = none) : zC (uo ρ k j x) := by
  intro a b v hv
  by_cases e : a = k ∧ b = j
  · rw [e.1, e.2, hz] at hv; cases hv
  · rw [uo_ne ρ e]; exact h a b v hv
theorem qby_m1 {f : zf} {t : Nat → Nat} {n q : Nat} (h : hR f t n) : (qby t n q = -1) = ¬ q < n := by
  unfold qby
  by_cases hq : q < n
  · rw [if_pos hq, nn_m1 (by have := (h.2.2 q hq).2; omega)]
    exact (eq_false (fun z => z hq)).symm
  · rw [if_neg hq]
    exact propext ⟨fun _ => hq, fun _ => rfl⟩
theorem s_fill {f : zf} {ρ : zo} (hC : zC ρ) {t : Nat → Nat} {n p : Nat} {Q : Int32 → zS → Prop} (hp : zp_ p) (hR' : hR f t n) (hK : sK f p) (hF : f (p + 1) 0 = nn 0) (h1 : ∀ f' G, qread t n = .inr G → frD f f' p → pC f' p G → gG G → f' 5 5 = 0 → f' 5 6 = -1 → f' (p + 1) 0 = nn 0 → Q 1 (f', uo ρ 5 2 (some p))) (h0 : ∀ f' e, qread t n = .inl e → frD f f' p → flt f' e → sK f' p → f' (p + 1) 0 = nn 0 → Q 0 (f', uo ρ 5 2 (some p))) : P_R_fill 201 5 p (f, ρ) Q := by
  have hp' := hp
  unfold zp_ at hp'
  have hn := hR'.2.1
  unfold P_R_fill P_G_empty
  simp (disch := (first | assumption | omega)) only [true_and, and_true, zr_u, zi_u, zI_u, Option.some.injEq, exists_eq_left', nn_tn, nn_add, nn_s, nn_2, nn_5, nn_7, nn_8, na0, na2, na3, na4, na5, na6, uf_ne, uf_eq, ur_eq, ur_ne, true_or, or_true, not_true_eq_false, not_false_eq_true, true_implies, false_implies, implies_true, e10, e01, reduceIte, Option.isSome_none, Option.isSome_some, Bool.false_eq_true, bi_t, bi_f, ko_5, zR_u, uo_eq, ko_p]
  have hC' : zC (uo ρ 5 2 (some p)) := hC.uo rfl
  have hr : (uo ρ 5 2 (some p)).1 5 2 = some p := uo_eq ρ
  generalize uo ρ 5 2 (some p) = ρ' at hC' hr h1 h0 ⊢
  have key : ∀ (k nb pos ns : Nat) (T : Nat → mT) (fs : Nat → Nat) (E : Nat → mE) (PL : Nat → Nat) (g : zf), nb + k = 23 → pos ≤ n → frD f g p → okp g pos → hS g p nb ns T fs E PL → iQ nb ns fs E → (qblks t n 23 0 0 0 (fun _ => (0, 0, .inr 0, .inr 0)) (fun _ => 0) (fun _ => (0, .inr 0, 0, 0)) (fun _ => 0) = qblks t n k pos nb ns T fs E PL) → P_R_fill_29 201 Q (k + 2) 5 (nn nb) (g, ρ') := by
    intro k
    induction k with
    | zero =>
      intro nb pos ns T fs E PL g hk hpos D O S I hq
      unfold P_R_fill_29 P_R_fill_49
      rw [show (24 : Int32) = nn 24 from rfl, nn_le (by omega) (by omega)]
      simp (disch := (first | assumption | omega)) only [true_and, and_true, zr_u, zi_u, zI_u, Option.some.injEq, exists_eq_left', nn_tn, nn_add, nn_s, nn_2, nn_5, nn_7, nn_8, na0, na2, na3, na4, na5, na6, uf_ne, uf_eq, ur_eq, ur_ne, true_or, or_true, not_true_eq_false, not_false_eq_true, true_implies, false_implies, implies_true, e10, e01, reduceIte, Option.isSome_none, Option.isSome_some, Bool.false_eq_true, bi_t, bi_f, ko_5]
      refine ⟨fun z => absurd z (by omega), fun _ => ?_⟩
      refine s_fillSts hC' hp hr (hR'.D hp D) hpos O S I.2.2.2.2 (by omega) (fun g2 r a1 a2 a3 a4 a5 a6 a7 => ?_) (fun g2 e a1 a2 a3 a4 a5 => ?_)
      · simp (disch := (first | assumption | omega)) only [true_and, and_true, zr_u, zi_u, zI_u, Option.some.injEq, exists_eq_left', nn_tn, nn_add, nn_s, nn_2, nn_5, nn_7, nn_8, na0, na2, na3, na4, na5, na6, uf_ne, uf_eq, ur_eq, ur_ne, true_or, or_true, not_true_eq_false, not_false_eq_true, true_implies, false_implies, implies_true, e10, e01, reduceIte, Option.isSome_none, Option.isSome_some, Bool.false_eq_true, bi_t, bi_f]
        have D2 := D.trans a2
        refine s_fillEnd hC' hp hr (hR'.D hp D2) a5 a4 a3 a6 (by omega) (fun g3 s b1 b2 b3 b4 => ?_) (fun g3 e b1 b2 b3 b4 b5 => ?_)
        · simp (disch := (first | assumption | omega)) only [true_and, and_true, zr_u, zi_u, zI_u, Option.some.injEq, exists_eq_left', nn_tn, nn_add, nn_s, nn_2, nn_5, nn_7, nn_8, na0, na2, na3, na4, na5, na6, uf_ne, uf_eq, ur_eq, ur_ne, true_or, or_true, not_true_eq_false, not_false_eq_true, true_implies, false_implies, implies_true, e10, e01, reduceIte, Option.isSome_none, Option.isSome_some, Bool.false_eq_true, bi_t, bi_f]
          have D3 := D2.trans b2
          have R3 := hR'.D hp D3
          have l3 := qend_pos b1 a5
          refine s_next hC' R3 l3.2.1 b4.1 ?_
          have F4 : fr5 g3 (uf g3 5 3 (nn (qsk t n s.2.2.2))) := (fr5.rfl' g3).put _ _
          have O4 := b4.go (qsk t n s.2.2.2)
          have D4 := D3.trans (frD.five (p := p) F4)
          have S4 := b3.five hp F4
          generalize uf g3 5 3 (nn (qsk t n s.2.2.2)) = g4 at F4 O4 D4 S4 ⊢
          have I4 := I.step a7 a6 l3.2.2
          have qb := qblk_2 a1 b1
          rw [qby_m1 R3]
          refine ⟨fun z => ?_, fun z => ?_⟩
          · have z' := Decidable.not_not.mp z
            unfold P_R_fill_29
            rw [show (24 : Int32) = nn 24 from rfl, nn_le (by omega) (by omega)]
            simp (disch := (first | assumption | omega)) only [true_and, and_true, zr_u, zi_u, zI_u, Option.some.injEq, exists_eq_left', nn_tn, nn_add, nn_s, nn_2, nn_5, nn_7, nn_8, na0, na2, na3, na4, na5, na6, uf_ne, uf_eq, ur_eq, ur_ne, true_or, or_true, not_true_eq_false, not_false_eq_true, true_implies, false_implies, implies_true, e10, e01, reduceIte, Option.isSome_none, Option.isSome_some, Bool.false_eq_true, bi_t, bi_f, ko_5, O4.1]
            refine ⟨fun _ => ?_, fun y => absurd (by omega) y⟩
            rw [show (3 : Int32) = nn 3 from rfl]
            refine s_refuse (fun f' r1 r2 => ⟨Or.inl rfl, h0 f' _ (qread_e (by rw [hq, qblks_f qb z'])) (D4.trans (frD.five r1)) r2 ?_ ?_⟩)
            · exact S4.2.2.2.2.2.1.same (r1 _ (by omega)) (r1 _ (by omega))
            · rw [r1 _ (by omega)]; exact S4.2.2.2.2.2.2
          · have qb' := hq.trans (qblks_n qb z)
            refine s_allGoals hC' hp hr S4 (by omega) I4.2.2.2.1 (fun y => ⟨Or.inr rfl, ?_⟩) (fun f' x y r1 r2 => ⟨Or.inl rfl, ?_⟩)
            · obtain ⟨q1, q2, q3, q4, q5, q6, q7⟩ := S4
              exact h1 g4 _ (qread_1 qb' y) D4 ⟨q1, q2, q3, q4, fun b hb => (q5 b hb).1, q6⟩ (qck_gG (by omega) (by omega) I4 y) O4.2.1 O4.2.2 q7
            · refine h0 f' _ (qread_g qb' y) (D4.trans (frD.five r1)) r2 ?_ ?_
              · exact S4.2.2.2.2.2.1.same (r1 _ (by omega)) (r1 _ (by omega))
              · rw [r1 _ (by omega)]; exact S4.2.2.2.2.2.2
        · simp (disch := (first | assumption | omega)) only [true_and, and_true, zr_u, zi_u, zI_u, Option.some.injEq, exists_eq_left', nn_tn, nn_add, nn_s, nn_2, nn_5, nn_7, nn_8, na0, na2, na3, na4, na5, na6, uf_ne, uf_eq, ur_eq, ur_ne, true_or, or_true, not_true_eq_false, not_false_eq_true, true_implies, false_implies, implies_true, e10, e01, reduceIte, Option.isSome_none, Option.isSome_some, Bool.false_eq_true, bi_t, bi_f]
          exact h0 g3 e (qread_e (by rw [hq, qblks_e (qblk_1 a1 b1)])) (D2.trans b2) b3 b4 b5
      · simp (disch := (first | assumption | omega)) only [true_and, and_true, zr_u, zi_u, zI_u, Option.some.injEq, exists_eq_left', nn_tn, nn_add, nn_s, nn_2, nn_5, nn_7, nn_8, na0, na2, na3, na4, na5, na6, uf_ne, uf_eq, ur_eq, ur_ne, true_or, or_true, not_true_eq_false, not_false_eq_true, true_implies, false_implies, implies_true, e10, e01, reduceIte, Option.isSome_none, Option.isSome_some, Bool.false_eq_true, bi_t, bi_f]
        exact h0 g2 e (qread_e (by rw [hq, qblks_e (qblk_0 a1)])) (D.trans a2) a3 a4 a5
    | succ k ih =>
      intro nb pos ns T fs E PL g hk hpos D O S I hq
      unfold P_R_fill_29 P_R_fill_49
      rw [show (24 : Int32) = nn 24 from rfl, nn_le (by omega) (by omega)]
      simp (disch := (first | assumption | omega)) only [true_and, and_true, zr_u, zi_u, zI_u, Option.some.injEq, exists_eq_left', nn_tn, nn_add, nn_s, nn_2, nn_5, nn_7, nn_8, na0, na2, na3, na4, na5, na6, uf_ne, uf_eq, ur_eq, ur_ne, true_or, or_true, not_true_eq_false, not_false_eq_true, true_implies, false_implies, implies_true, e10, e01, reduceIte, Option.isSome_none, Option.isSome_some, Bool.false_eq_true, bi_t, bi_f, ko_5]
      refine ⟨fun z => absurd z (by omega), fun _ => ?_⟩
      refine s_fillSts hC' hp hr (hR'.D hp D) hpos O S I.2.2.2.2 (by omega) (fun g2 r a1 a2 a3 a4 a5 a6 a7 => ?_) (fun g2 e a1 a2 a3 a4 a5 => ?_)
      · simp (disch := (first | assumption | omega)) only [true_and, and_true, zr_u, zi_u, zI_u, Option.some.injEq, exists_eq_left', nn_tn, nn_add, nn_s, nn_2, nn_5, nn_7, nn_8, na0, na2, na3, na4, na5, na6, uf_ne, uf_eq, ur_eq, ur_ne, true_or, or_true, not_true_eq_false, not_false_eq_true, true_implies, false_implies, implies_true, e10, e01, reduceIte, Option.isSome_none, Option.isSome_some, Bool.false_eq_true, bi_t, bi_f]
        have D2 := D.trans a2
        refine s_fillEnd hC' hp hr (hR'.D hp D2) a5 a4 a3 a6 (by omega) (fun g3 s b1 b2 b3 b4 => ?_) (fun g3 e b1 b2 b3 b4 b5 => ?_)
        · simp (disch := (first | assumption | omega)) only [true_and, and_true, zr_u, zi_u, zI_u, Option.some.injEq, exists_eq_left', nn_tn, nn_add, nn_s, nn_2, nn_5, nn_7, nn_8, na0, na2, na3, na4, na5, na6, uf_ne, uf_eq, ur_eq, ur_ne, true_or, or_true, not_true_eq_false, not_false_eq_true, true_implies, false_implies, implies_true, e10, e01, reduceIte, Option.isSome_none, Option.isSome_some, Bool.false_eq_true, bi_t, bi_f]
          have D3 := D2.trans b2
          have R3 := hR'.D hp D3
          have l3 := qend_pos b1 a5
          refine s_next hC' R3 l3.2.1 b4.1 ?_
          have F4 : fr5 g3 (uf g3 5 3 (nn (qsk t n s.2.2.2))) := (fr5.rfl' g3).put _ _
          have O4 := b4.go (qsk t n s.2.2.2)
          have D4 := D3.trans (frD.five (p := p) F4)
          have S4 := b3.five hp F4
          generalize uf g3 5 3 (nn (qsk t n s.2.2.2)) = g4 at F4 O4 D4 S4 ⊢
          have I4 := I.step a7 a6 l3.2.2
          have qb := qblk_2 a1 b1
          rw [qby_m1 R3]
          refine ⟨fun z => ?_, fun z => ?_⟩
          · have z' := Decidable.not_not.mp z
            exact ih (nb + 1) _ _ _ _ _ _ g4 (by omega) (qsk_n (t := t) l3.2.1) D4 O4 S4 I4 (hq.trans (qblks_s qb z'))
          · have qb' := hq.trans (qblks_n qb z)
            refine s_allGoals hC' hp hr S4 (by omega) I4.2.2.2.1 (fun y => ⟨Or.inr rfl, ?_⟩) (fun f' x y r1 r2 => ⟨Or.inl rfl, ?_⟩)
            · obtain ⟨q1, q2, q3, q4, q5, q6, q7⟩ := S4
              exact h1 g4 _ (qread_1 qb' y) D4 ⟨q1, q2, q3, q4, fun b hb => (q5 b hb).1, q6⟩ (qck_gG (by omega) (by omega) I4 y) O4.2.1 O4.2.2 q7
            · refine h0 f' _ (qread_g qb' y) (D4.trans (frD.five r1)) r2 ?_ ?_
              · exact S4.2.2.2.2.2.1.same (r1 _ (by omega)) (r1 _ (by omega))
              · rw [r1 _ (by omega)]; exact S4.2.2.2.2.2.2
        · simp (disch := (first | assumption | omega)) only [true_and, and_true, zr_u, zi_u, zI_u, Option.some.injEq, exists_eq_left', nn_tn, nn_add, nn_s, nn_2, nn_5, nn_7, nn_8, na0, na2, na3, na4, na5, na6, uf_ne, uf_eq, ur_eq, ur_ne, true_or, or_true, not_true_eq_false, not_false_eq_true, true_implies, false_implies, implies_true, e10, e01, reduceIte, Option.isSome_none, Option.isSome_some, Bool.false_eq_true, bi_t, bi_f]
          exact h0 g3 e (qread_e (by rw [hq, qblks_e (qblk_1 a1 b1)])) (D2.trans b2) b3 b4 b5
      · simp (disch := (first | assumption | omega)) only [true_and, and_true, zr_u, zi_u, zI_u, Option.some.injEq, exists_eq_left', nn_tn, nn_add, nn_s, nn_2, nn_5, nn_7, nn_8, na0, na2, na3, na4, na5, na6, uf_ne, uf_eq, ur_eq, ur_ne, true_or, or_true, not_true_eq_false, not_false_eq_true, true_implies, false_implies, implies_true, e10, e01, reduceIte, Option.isSome_none, Option.isSome_some, Bool.false_eq_true, bi_t, bi_f]
        exact h0 g2 e (qread_e (by rw [hq, qblks_e (qblk_0 a1)])) (D.trans a2) a3 a4 a5
  refine ⟨_, key 23 0 0 0 (fun _ => (0, 0, .inr 0, .inr 0)) (fun _ => 0) (fun _ => (0, .inr 0, 0, 0)) (fun _ => 0) _ (by decide) (by omega) ?_ ?_ ?_ ?_ rfl⟩
  · intro a z1 z2 z3
    simp (disch := (first | assumption | omega)) only [true_and, and_true, zr_u, zi_u, zI_u, Option.some.injEq, exists_eq_left', nn_tn, nn_add, nn_s, nn_2, nn_5, nn_7, nn_8, na0, na2, na3, na4, na5, na6, uf_ne, uf_eq, ur_eq, ur_ne, true_or, or_true, not_true_eq_false, not_false_eq_true, true_implies, false_implies, implies_true, e10, e01, reduceIte, Option.isSome_none, Option.isSome_some, Bool.false_eq_true, bi_t, bi_f]
  · exact ⟨by simp (disch := (first | assumption | omega)) only [true_and, and_true, zr_u, zi_u, zI_u, Option.some.injEq, exists_eq_left', nn_tn, nn_add, nn_s, nn_2, nn_5, nn_7, nn_8, na0, na2, na3, na4, na5, na6, uf_ne, uf_eq, ur_eq, ur_ne, true_or, or_true, not_true_eq_false, not_false_eq_true, true_implies, false_implies, implies_true, e10, e01, reduceIte, Option.isSome_none, Option.isSome_some, Bool.false_eq_true, bi_t, bi_f]; rfl, by simp (disch := (first | assumption | omega)) only [true_and, and_true, zr_u, zi_u, zI_u, Option.some.injEq, exists_eq_left', nn_tn, nn_add, nn_s, nn_2, nn_5, nn_7, nn_8, na0, na2, na3, na4, na5, na6, uf_ne, uf_eq, ur_eq, ur_ne, true_or, or_true, not_true_eq_false, not_false_eq_true, true_implies, false_implies, implies_true, e10, e01, reduceIte, Option.isSome_none, Option.isSome_some, Bool.false_eq_true, bi_t, bi_f], by simp (disch := (first | assumption | omega)) only [true_and, and_true, zr_u, zi_u, zI_u, Option.some.injEq, exists_eq_left', nn_tn, nn_add, nn_s, nn_2, nn_5, nn_7, nn_8, na0, na2, na3, na4, na5, na6, uf_ne, uf_eq, ur_eq, ur_ne, true_or, or_true, not_true_eq_false, not_false_eq_true, true_implies, false_implies, implies_true, e10, e01, reduceIte, Option.isSome_none, Option.isSome_some, Bool.false_eq_true, bi_t, bi_f]⟩
  · refine ⟨by simp (disch := (first | assumption | omega)) only [true_and, and_true, zr_u, zi_u, zI_u, Option.some.injEq, exists_eq_left', nn_tn, nn_add, nn_s, nn_2, nn_5, nn_7, nn_8, na0, na2, na3, na4, na5, na6, uf_ne, uf_eq, ur_eq, ur_ne, true_or, or_true, not_true_eq_false, not_false_eq_true, true_implies, false_implies, implies_true, e10, e01, reduceIte, Option.isSome_none, Option.isSome_some, Bool.false_eq_true, bi_t, bi_f]; rfl, by simp (disch := (first | assumption | omega)) only [true_and, and_true, zr_u, zi_u, zI_u, Option.some.injEq, exists_eq_left', nn_tn, nn_add, nn_s, nn_2, nn_5, nn_7, nn_8, na0, na2, na3, na4, na5, na6, uf_ne, uf_eq, ur_eq, ur_ne, true_or, or_true, not_true_eq_false, not_false_eq_true, true_implies, false_implies, implies_true, e10, e01, reduceIte, Option.isSome_none, Option.isSome_some, Bool.false_eq_true, bi_t, bi_f]; rfl, fun b hb => ?_, fun s hs => absurd hs (by omega), fun b hb => absurd hb (by omega), ?_, by simp (disch := (first | assumption | omega)) only [true_and, and_true, zr_u, zi_u, zI_u, Option.some.injEq, exists_eq_left', nn_tn, nn_add, nn_s, nn_2, nn_5, nn_7, nn_8, na0, na2, na3, na4, na5, na6, uf_ne, uf_eq, ur_eq, ur_ne, true_or, or_true, not_true_eq_false, not_false_eq_true, true_implies, false_implies, implies_true, e10, e01, reduceIte, Option.isSome_none, Option.isSome_some, Bool.false_eq_true, bi_t, bi_f]; exact hF⟩
    · rw [show b = 0 by omega]; simp (disch := (first | assumption | omega)) only [true_and, and_true, zr_u, zi_u, zI_u, Option.some.injEq, exists_eq_left', nn_tn, nn_add, nn_s, nn_2, nn_5, nn_7, nn_8, na0, na2, na3, na4, na5, na6, uf_ne, uf_eq, ur_eq, ur_ne, true_or, or_true, not_true_eq_false, not_false_eq_true, true_implies, false_implies, implies_true, e10, e01, reduceIte, Option.isSome_none, Option.isSome_some, Bool.false_eq_true, bi_t, bi_f]; exact hF
    · exact hK.same (by simp (disch := (first | assumption | omega)) only [true_and, and_true, zr_u, zi_u, zI_u, Option.some.injEq, exists_eq_left', nn_tn, nn_add, nn_s, nn_2, nn_5, nn_7, nn_8, na0, na2, na3, na4, na5, na6, uf_ne, uf_eq, ur_eq, ur_ne, true_or, or_true, not_true_eq_false, not_false_eq_true, true_implies, false_implies, implies_true, e10, e01, reduceIte, Option.isSome_none, Option.isSome_some, Bool.false_eq_true, bi_t, bi_f]) (by simp (disch := (first | assumption | omega)) only [true_and, and_true, zr_u, zi_u, zI_u, Option.some.injEq, exists_eq_left', nn_tn, nn_add, nn_s, nn_2, nn_5, nn_7, nn_8, na0, na2, na3, na4, na5, na6, uf_ne, uf_eq, ur_eq, ur_ne, true_or, or_true, not_true_eq_false, not_false_eq_true, true_implies, false_implies, implies_true, e10, e01, reduceIte, Option.isSome_none, Option.isSome_some, Bool.false_eq_true, bi_t, bi_f])
  · exact ⟨rfl, rfl, fun b hb => absurd hb (by omega), fun b hb => absurd hb (by omega), by decide⟩
