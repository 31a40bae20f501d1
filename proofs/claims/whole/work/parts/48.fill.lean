/-! The parser: blocks; the class fills a program. -/
noncomputable def qblk (t : Nat → Nat) (n p ns : Nat) (T : Nat → mT) : qR (Nat × Nat × (Nat → mT) × mE × Nat × Nat) := match qsts t n (80 - ns) p ns T with
  | .inl e => .inl e
  | .inr r => (match qend t n r.1 with
    | .inl e => .inl e
    | .inr s => .inr (qsk t n s.2.2.2, r.2.1, r.2.2, s.1, s.2.1, s.2.2.1))
noncomputable def qblks (t : Nat → Nat) (n : Nat) : Nat → Nat → Nat → Nat → (Nat → mT) → (Nat → Nat) → (Nat → mE) → (Nat → Nat) → qR (mG × (Nat → Nat))
  | 0, p, nb, ns, T, fs, E, PL => (match qblk t n p ns T with
    | .inl e => .inl e
    | .inr r => (match qdec (r.1 < n) with
      | true => .inl (3, r.1)
      | false => .inr ((nb + 1, r.2.1, fu fs (nb + 1) r.2.1, r.2.2.1, fu E nb r.2.2.2.1), fu (fu PL (2 * nb) r.2.2.2.2.1) (2 * nb + 1) r.2.2.2.2.2)))
  | k + 1, p, nb, ns, T, fs, E, PL => (match qblk t n p ns T with
    | .inl e => .inl e
    | .inr r => (match qdec (r.1 < n) with
      | true => qblks t n k r.1 (nb + 1) r.2.1 r.2.2.1 (fu fs (nb + 1) r.2.1) (fu E nb r.2.2.2.1) (fu (fu PL (2 * nb) r.2.2.2.2.1) (2 * nb + 1) r.2.2.2.2.2)
      | false => .inr ((nb + 1, r.2.1, fu fs (nb + 1) r.2.1, r.2.2.1, fu E nb r.2.2.2.1), fu (fu PL (2 * nb) r.2.2.2.2.1) (2 * nb + 1) r.2.2.2.2.2)))
def qck1 (nb : Nat) (e : mE) (PL : Nat → Nat) (b : Nat) : Option Nat := if e.1 ≠ 0 ∧ nb ≤ e.2.2.1 then some (PL (2 * b)) else if e.1 = 2 ∧ nb ≤ e.2.2.2 then some (PL (2 * b + 1)) else none
def qck (G : mG) (PL : Nat → Nat) : Nat → Nat → Option Nat
  | 0, _ => none
  | m + 1, b => (match qck1 G.1 (G.2.2.2.2 b) PL b with
    | some x => some x
    | none => qck G PL m (b + 1))
noncomputable def qread (t : Nat → Nat) (n : Nat) : qR mG := match qblks t n 23 0 0 0 (fun _ => (0, 0, .inr 0, .inr 0)) (fun _ => 0) (fun _ => (0, .inr 0, 0, 0)) (fun _ => 0) with
  | .inl e => .inl e
  | .inr r => (match qck r.1 r.2 r.1.1 0 with
    | some x => .inl (4, x)
    | none => .inr r.1)
theorem qsts_n {t : Nat → Nat} {n k p ns : Nat} {T : Nat → mT} (h : ¬ qS t n (qsk t n p)) : qsts t n k p ns T = .inr (qsk t n p, ns, T) := by
  cases k <;> unfold qsts <;> simp only [qdec_f h]
theorem qsts_f {t : Nat → Nat} {n p ns : Nat} {T : Nat → mT} (h : qS t n (qsk t n p)) : qsts t n 0 p ns T = .inl (3, qsk t n p) := by
  unfold qsts; simp only [qdec_t h]
theorem qsts_0 {t : Nat → Nat} {n k p ns : Nat} {T : Nat → mT} {e : Nat × Nat} (h : qS t n (qsk t n p)) (hq : qstm t n (qsk t n (qsk t n p + 1) + 1) (t (qsk t n p) - 97) = .inl e) : qsts t n (k + 1) p ns T = .inl e := by
  unfold qsts; simp only [qdec_t h, hq]
theorem qsts_1 {t : Nat → Nat} {n k p ns : Nat} {T : Nat → mT} {r : mT × Nat} (h : qS t n (qsk t n p)) (hq : qstm t n (qsk t n (qsk t n p + 1) + 1) (t (qsk t n p) - 97) = .inr r) : qsts t n (k + 1) p ns T = qsts t n k r.2 (ns + 1) (fu T ns r.1) := by
  show (match qdec (qS t n (qsk t n p)) with | true => _ | false => _) = _
  simp only [qdec_t h, hq]
theorem qstm_pos {t : Nat → Nat} {n p x : Nat} {r : mT × Nat} (h : qstm t n p x = .inr r) (hp : p ≤ n) : p < r.2 ∧ r.2 ≤ n := by
  have h1 := qsk_ge t n p
  have h2 := qsk_n (t := t) hp
  by_cases h63 : qE t n (qsk t n p) 63
  · cases hw : qwant t n 59 (qsk t n p + 1) with
    | inl e => rw [qstm_a0 h63 hw] at h; cases h
    | inr q =>
      rw [qstm_a1 h63 hw] at h
      cases h
      have := qwant_pos hw h63.1
      exact ⟨by show p < q; omega, this.2⟩
  · cases hq : qop t n (qsk t n p) with
    | inl e => rw [qstm_o0 h63 hq] at h; cases h
    | inr o =>
      have a1 := qop_pos hq h2
      have a2 := qsk_ge t n o.2
      have a3 := qsk_n (t := t) a1.2
      by_cases ho : qO t n (qsk t n o.2)
      · cases hq' : qop t n (qsk t n o.2 + 1) with
        | inl e => rw [qstm_b0 h63 hq ho hq'] at h; cases h
        | inr o' =>
          have b1 := qop_pos hq' ho.1
          cases hw : qwant t n 59 o'.2 with
          | inl e => rw [qstm_b1 h63 hq ho hq' hw] at h; cases h
          | inr q =>
            rw [qstm_b2 h63 hq ho hq' hw] at h
            cases h
            have := qwant_pos hw b1.2
            exact ⟨by show p < q; omega, this.2⟩
      · cases hw : qwant t n 59 (qsk t n o.2) with
        | inl e => rw [qstm_c0 h63 hq ho hw] at h; cases h
        | inr q =>
          rw [qstm_c1 h63 hq ho hw] at h
          cases h
          have := qwant_pos hw a3
          exact ⟨by show p < q; omega, this.2⟩
/-- the program in the making -/
def hS (f : zf) (p nb ns : Nat) (T : Nat → mT) (fs : Nat → Nat) (E : Nat → mE) (PL : Nat → Nat) : Prop := f p 0 = nn nb ∧ f p 1 = nn ns ∧ (∀ b, b ≤ nb → f (p + 1) b = nn (fs b)) ∧ (∀ s, s < ns → tC f p s (T s)) ∧ (∀ b, b < nb → eC f p b (E b) ∧ ((E b).1 ≠ 0 → f 6 (2 * b) = nn (PL (2 * b))) ∧ ((E b).1 = 2 → f 6 (2 * b + 1) = nn (PL (2 * b + 1)))) ∧ sK f p ∧ f (p + 1) 0 = nn 0
theorem hS.five {f f' : zf} {p nb ns : Nat} {T : Nat → mT} {fs : Nat → Nat} {E : Nat → mE} {PL : Nat → Nat} (hp : zp_ p) (h : hS f p nb ns T fs E PL) (a : fr5 f f') : hS f' p nb ns T fs E PL := by
  unfold zp_ at hp
  unfold hS tC eC sK
  rw [a p (by omega), a (p + 1) (by omega), a (p + 2) (by omega), a (p + 3) (by omega), a (p + 4) (by omega), a (p + 5) (by omega), a (p + 6) (by omega), a (p + 7) (by omega), a 6 (by decide)]
  exact h
/-- rows that reading may change -/
def frD (f f' : zf) (p : Nat) : Prop := ∀ a, a ≠ 5 → a ≠ 6 → (a < p ∨ p + 8 ≤ a) → f' a = f a
theorem frD.rfl' (f : zf) (p : Nat) : frD f f p := fun _ _ _ _ => rfl
theorem frD.trans {f g h : zf} {p : Nat} (a : frD f g p) (b : frD g h p) : frD f h p := fun k h1 h2 h3 => by rw [b k h1 h2 h3, a k h1 h2 h3]
theorem frD.five {f g : zf} {p : Nat} (a : fr5 f g) : frD f g p := fun k h1 _ _ => a k h1
theorem frD.S {f g : zf} {p s : Nat} (a : frS f g p s) : frD f g p := fun k h1 h2 h3 => a.1 k h1 (by omega) (by omega) (by omega) (by omega) (by omega)
theorem hR.D {f f' : zf} {t : Nat → Nat} {n p : Nat} (hp : zp_ p) (h : hR f t n) (a : frD f f' p) : hR f' t n := by
  unfold zp_ at hp
  exact h.same (a _ (by decide) (by decide) (by omega)) (a _ (by decide) (by decide) (by omega))
theorem hS.stm {f f' : zf} {p nb ns : Nat} {T : Nat → mT} {fs : Nat → Nat} {E : Nat → mE} {PL : Nat → Nat} {tm : mT} (hp : zp_ p) (h : hS f p nb ns T fs E PL) (hn : nb ≤ 24) (hns : ns < 80) (a : frS f f' p ns) (ht : tC f' p ns tm) (hK : sK f' p) : hS f' p nb (ns + 1) (fu T ns tm) fs E PL := by
  unfold zp_ at hp
  obtain ⟨h1, h2, h3, h4, h5, h6, h7⟩ := h
  obtain ⟨a1, a2, a3, a4, a5⟩ := a
  have e1 : f' (p + 1) = f (p + 1) := a1 _ (by omega) (by omega) (by omega) (by omega) (by omega) (by omega)
  have e6 : f' (p + 6) = f (p + 6) := a1 _ (by omega) (by omega) (by omega) (by omega) (by omega) (by omega)
  have e7 : f' (p + 7) = f (p + 7) := a1 _ (by omega) (by omega) (by omega) (by omega) (by omega) (by omega)
  have g6 : f' 6 = f 6 := a1 _ (by omega) (by omega) (by omega) (by omega) (by omega) (by omega)
  refine ⟨by rw [a2]; exact h1, a3, fun b hb => by rw [e1]; exact h3 b hb, fun s hs => ?_, fun b hb => ?_, hK, by rw [e1]; exact h7⟩
  · by_cases e : s = ns
    · subst e; rw [fu_eq]; exact ht
    · rw [fu_ne _ _ e]
      exact (h4 s (by omega)).keep (a4 s e).1 (a4 s e).2 (fun i hi => a5 i (by omega) (by omega))
  · obtain ⟨q1, q2, q3⟩ := h5 b hb
    rw [g6]
    exact ⟨q1.keep (by rw [e6]) (a5 _ (by omega) (by omega)).1 (a5 _ (by omega) (by omega)).2 ⟨by rw [e7], by rw [e7]⟩, q2, q3⟩
theorem s_fillSts {f : zf} {ρ : zo} (hC : zC ρ) {t : Nat → Nat} {n p pos nb ns : Nat} {T : Nat → mT} {fs : Nat → Nat} {E : Nat → mE} {PL : Nat → Nat} {Q : Int32 → zS → Prop} (hp : zp_ p) (hr : ρ.1 5 2 = some p) (hR' : hR f t n) (hpos : pos ≤ n) (hk : okp f pos) (hS' : hS f p nb ns T fs E PL) (hns : ns ≤ 80) (hnb : nb ≤ 24) (h1 : ∀ f' r, qsts t n (80 - ns) pos ns T = .inr r → frD f f' p → hS f' p nb r.2.1 r.2.2 fs E PL → okp f' r.1 → r.1 ≤ n → r.2.1 ≤ 80 → ns ≤ r.2.1 → Q 1 (f', ρ)) (h0 : ∀ f' e, qsts t n (80 - ns) pos ns T = .inl e → frD f f' p → flt f' e → sK f' p → f' (p + 1) 0 = nn 0 → Q 0 (f', ρ)) : P_R_fillStatements 201 5 (f, ρ) Q := by
  have hp' := hp
  unfold zp_ at hp'
  have hn := hR'.2.1
  have key : ∀ (m i pos' : Nat) (T' : Nat → mT) (g : zf), ns + i + m = 80 → pos' ≤ n → frD f g p → okp g pos' → hS g p nb (ns + i) T' fs E PL → (qsts t n (80 - ns) pos ns T = qsts t n m pos' (ns + i) T') → P_R_fillStatements_2 201 Q (m + 1) 5 (nn i) (g, ρ) := by
    intro m
    induction m with
    | zero =>
      intro i pos' T' g hi hpos' g1 g2 g3 g4
      have Rg := hR'.D hp g1
      unfold P_R_fillStatements_2 P_R_fillStatements_102
      rw [show (80 : Int32) = nn 80 from rfl, nn_lt (by omega) (by omega)]
      simp (disch := (first | assumption | omega)) only [true_and, and_true, zr_u, zi_u, zI_u, Option.some.injEq, exists_eq_left', nn_tn, nn_add, nn_s, nn_2, nn_5, nn_7, nn_8, na0, na2, na3, na4, na5, na6, uf_ne, uf_eq, ur_eq, ur_ne, true_or, or_true, not_true_eq_false, not_false_eq_true, true_implies, false_implies, implies_true, e10, e01, reduceIte, Option.isSome_none, Option.isSome_some, Bool.false_eq_true, bi_t, bi_f, ko_5]
      refine ⟨fun z => absurd z (by omega), fun _ => ?_⟩
      refine s_next hC Rg hpos' g2.1 ?_
      have F1 : fr5 g (uf g 5 3 (nn (qsk t n pos'))) := (fr5.rfl' g).put _ _
      have O1 := g2.go (qsk t n pos')
      have R1 := Rg.five F1
      have S1 := g3.five hp F1
      have lq := qsk_n (t := t) hpos'
      generalize uf g 5 3 (nn (qsk t n pos')) = g' at F1 O1 R1 S1 ⊢
      refine s_isLetter R1 (fun hL => ?_) (fun hL => ?_)
      · simp (disch := (first | assumption | omega)) only [true_and, and_true, zr_u, zi_u, zI_u, Option.some.injEq, exists_eq_left', nn_tn, nn_add, nn_s, nn_2, nn_5, nn_7, nn_8, na0, na2, na3, na4, na5, na6, uf_ne, uf_eq, ur_eq, ur_ne, true_or, or_true, not_true_eq_false, not_false_eq_true, true_implies, false_implies, implies_true, e10, e01, reduceIte, Option.isSome_none, Option.isSome_some, Bool.false_eq_true, bi_t, bi_f]
        refine s_next hC R1 lq O1.1 ?_
        rw [qsk_idem, uf_self O1.1]
        simp (disch := (first | assumption | omega)) only [true_and, and_true, zr_u, zi_u, zI_u, Option.some.injEq, exists_eq_left', nn_tn, nn_add, nn_s, nn_2, nn_5, nn_7, nn_8, na0, na2, na3, na4, na5, na6, uf_ne, uf_eq, ur_eq, ur_ne, true_or, or_true, not_true_eq_false, not_false_eq_true, true_implies, false_implies, implies_true, e10, e01, reduceIte, Option.isSome_none, Option.isSome_some, Bool.false_eq_true, bi_t, bi_f, O1.1]
        have F2 : fr5 g' (uf g' 5 3 (nn (qsk t n pos' + 1))) := (fr5.rfl' g').put _ _
        refine s_next hC (R1.five F2) hL.1 (O1.go _).1 ?_
        rw [uf_uf, show (61 : Int32) = nn 61 from rfl, qby_eq R1 (by decide)]
        have F3 : fr5 g' (uf g' 5 3 (nn (qsk t n (qsk t n pos' + 1)))) := (fr5.rfl' g').put _ _
        have S3 := S1.five hp F3
        simp (disch := (first | assumption | omega)) only [true_and, and_true, zr_u, zi_u, zI_u, Option.some.injEq, exists_eq_left', nn_tn, nn_add, nn_s, nn_2, nn_5, nn_7, nn_8, na0, na2, na3, na4, na5, na6, uf_ne, uf_eq, ur_eq, ur_ne, true_or, or_true, not_true_eq_false, not_false_eq_true, true_implies, false_implies, implies_true, e10, e01, reduceIte, Option.isSome_none, Option.isSome_some, Bool.false_eq_true, bi_t, bi_f, hr, ko_p, S3.2.1]
        refine ⟨fun hE => ?_, fun hE => ?_⟩
        · rw [nn_lt (by omega) (by omega)]
          refine ⟨fun z => absurd z (by omega), fun _ => ?_⟩
          rw [show (3 : Int32) = nn 3 from rfl]
          refine s_refuse (fun f2 r1 r2 => ⟨Or.inl rfl, h0 f2 (3, qsk t n pos') (by rw [g4, qsts_f ⟨hL, hE⟩]) (g1.trans (frD.five ((F1.trans F3).trans r1))) r2 ?_ ?_⟩)
          · exact S3.2.2.2.2.2.1.same (r1 _ (by omega)) (r1 _ (by omega))
          · rw [r1 _ (by omega)]; exact S3.2.2.2.2.2.2
        · rw [uf_uf, uf_self O1.1]
          exact h1 g' _ (by rw [g4, qsts_n (fun z => hE z.2)]) (g1.trans (frD.five F1)) S1 O1 lq (by show ns + i ≤ 80; omega) (by show ns ≤ ns + i; omega)
      · simp (disch := (first | assumption | omega)) only [true_and, and_true, zr_u, zi_u, zI_u, Option.some.injEq, exists_eq_left', nn_tn, nn_add, nn_s, nn_2, nn_5, nn_7, nn_8, na0, na2, na3, na4, na5, na6, uf_ne, uf_eq, ur_eq, ur_ne, true_or, or_true, not_true_eq_false, not_false_eq_true, true_implies, false_implies, implies_true, e10, e01, reduceIte, Option.isSome_none, Option.isSome_some, Bool.false_eq_true, bi_t, bi_f]
        exact h1 g' _ (by rw [g4, qsts_n (fun z => hL z.1)]) (g1.trans (frD.five F1)) S1 O1 lq (by show ns + i ≤ 80; omega) (by show ns ≤ ns + i; omega)
    | succ m ih =>
      intro i pos' T' g hi hpos' g1 g2 g3 g4
      have Rg := hR'.D hp g1
      unfold P_R_fillStatements_2 P_R_fillStatements_102
      rw [show (80 : Int32) = nn 80 from rfl, nn_lt (by omega) (by omega)]
      simp (disch := (first | assumption | omega)) only [true_and, and_true, zr_u, zi_u, zI_u, Option.some.injEq, exists_eq_left', nn_tn, nn_add, nn_s, nn_2, nn_5, nn_7, nn_8, na0, na2, na3, na4, na5, na6, uf_ne, uf_eq, ur_eq, ur_ne, true_or, or_true, not_true_eq_false, not_false_eq_true, true_implies, false_implies, implies_true, e10, e01, reduceIte, Option.isSome_none, Option.isSome_some, Bool.false_eq_true, bi_t, bi_f, ko_5]
      refine ⟨fun z => absurd z (by omega), fun _ => ?_⟩
      refine s_next hC Rg hpos' g2.1 ?_
      have F1 : fr5 g (uf g 5 3 (nn (qsk t n pos'))) := (fr5.rfl' g).put _ _
      have O1 := g2.go (qsk t n pos')
      have R1 := Rg.five F1
      have S1 := g3.five hp F1
      have lq := qsk_n (t := t) hpos'
      generalize uf g 5 3 (nn (qsk t n pos')) = g' at F1 O1 R1 S1 ⊢
      refine s_isLetter R1 (fun hL => ?_) (fun hL => ?_)
      · simp (disch := (first | assumption | omega)) only [true_and, and_true, zr_u, zi_u, zI_u, Option.some.injEq, exists_eq_left', nn_tn, nn_add, nn_s, nn_2, nn_5, nn_7, nn_8, na0, na2, na3, na4, na5, na6, uf_ne, uf_eq, ur_eq, ur_ne, true_or, or_true, not_true_eq_false, not_false_eq_true, true_implies, false_implies, implies_true, e10, e01, reduceIte, Option.isSome_none, Option.isSome_some, Bool.false_eq_true, bi_t, bi_f]
        refine s_next hC R1 lq O1.1 ?_
        rw [qsk_idem, uf_self O1.1]
        simp (disch := (first | assumption | omega)) only [true_and, and_true, zr_u, zi_u, zI_u, Option.some.injEq, exists_eq_left', nn_tn, nn_add, nn_s, nn_2, nn_5, nn_7, nn_8, na0, na2, na3, na4, na5, na6, uf_ne, uf_eq, ur_eq, ur_ne, true_or, or_true, not_true_eq_false, not_false_eq_true, true_implies, false_implies, implies_true, e10, e01, reduceIte, Option.isSome_none, Option.isSome_some, Bool.false_eq_true, bi_t, bi_f, O1.1]
        have F2 : fr5 g' (uf g' 5 3 (nn (qsk t n pos' + 1))) := (fr5.rfl' g').put _ _
        refine s_next hC (R1.five F2) hL.1 (O1.go _).1 ?_
        rw [uf_uf, show (61 : Int32) = nn 61 from rfl, qby_eq R1 (by decide)]
        have F3 : fr5 g' (uf g' 5 3 (nn (qsk t n (qsk t n pos' + 1)))) := (fr5.rfl' g').put _ _
        have S3 := S1.five hp F3
        simp (disch := (first | assumption | omega)) only [true_and, and_true, zr_u, zi_u, zI_u, Option.some.injEq, exists_eq_left', nn_tn, nn_add, nn_s, nn_2, nn_5, nn_7, nn_8, na0, na2, na3, na4, na5, na6, uf_ne, uf_eq, ur_eq, ur_ne, true_or, or_true, not_true_eq_false, not_false_eq_true, true_implies, false_implies, implies_true, e10, e01, reduceIte, Option.isSome_none, Option.isSome_some, Bool.false_eq_true, bi_t, bi_f, hr, ko_p, S3.2.1]
        refine ⟨fun hE => ?_, fun hE => ?_⟩
        · rw [nn_lt (by omega) (by omega)]
          refine ⟨fun _ => ?_, fun z => absurd (by omega) z⟩
          have eb : qby t n (qsk t n pos') = nn (t (qsk t n pos')) := if_pos hL.1
          have hl := hL.2
          rw [eb, show (97 : Int32) = nn 97 from rfl, nn_sub (by omega), uf_uf]
          have F4 : fr5 g' (uf g' 5 3 (nn (qsk t n (qsk t n pos' + 1) + 1))) := (fr5.rfl' g').put _ _
          have S4 := S1.five hp F4
          refine s_fillStm hC hp hr (R1.five F4) hE.1 (O1.go _) (by omega) (by omega) S4.2.1 S4.2.2.2.2.2.1 (fun f2 r y1 y2 y3 y4 y5 => ?_) (fun f2 e y1 y2 y3 y4 => ?_)
          · simp (disch := (first | assumption | omega)) only [true_and, and_true, zr_u, zi_u, zI_u, Option.some.injEq, exists_eq_left', nn_tn, nn_add, nn_s, nn_2, nn_5, nn_7, nn_8, na0, na2, na3, na4, na5, na6, uf_ne, uf_eq, ur_eq, ur_ne, true_or, or_true, not_true_eq_false, not_false_eq_true, true_implies, false_implies, implies_true, e10, e01, reduceIte, Option.isSome_none, Option.isSome_some, Bool.false_eq_true, bi_t, bi_f]
            have rp := qstm_pos y1 hE.1
            have S5 := S4.stm hp (by omega) (by omega) y2 y4 y5
            refine ih (i + 1) r.2 (fu T' (ns + i) r.1) f2 (by omega) rp.2 ((g1.trans (frD.five (F1.trans F4))).trans (frD.S y2)) y3 S5 ?_
            rw [g4, qsts_1 ⟨hL, hE⟩ y1]
            rfl
          · simp (disch := (first | assumption | omega)) only [true_and, and_true, zr_u, zi_u, zI_u, Option.some.injEq, exists_eq_left', nn_tn, nn_add, nn_s, nn_2, nn_5, nn_7, nn_8, na0, na2, na3, na4, na5, na6, uf_ne, uf_eq, ur_eq, ur_ne, true_or, or_true, not_true_eq_false, not_false_eq_true, true_implies, false_implies, implies_true, e10, e01, reduceIte, Option.isSome_none, Option.isSome_some, Bool.false_eq_true, bi_t, bi_f]
            refine h0 f2 e (by rw [g4, qsts_0 ⟨hL, hE⟩ y1]) ((g1.trans (frD.five (F1.trans F4))).trans (frD.S y2)) y3 y4 ?_
            rw [y2.1 _ (by omega) (by omega) (by omega) (by omega) (by omega) (by omega)]; exact S4.2.2.2.2.2.2
        · rw [uf_uf, uf_self O1.1]
          exact h1 g' _ (by rw [g4, qsts_n (fun z => hE z.2)]) (g1.trans (frD.five F1)) S1 O1 lq (by show ns + i ≤ 80; omega) (by show ns ≤ ns + i; omega)
      · simp (disch := (first | assumption | omega)) only [true_and, and_true, zr_u, zi_u, zI_u, Option.some.injEq, exists_eq_left', nn_tn, nn_add, nn_s, nn_2, nn_5, nn_7, nn_8, na0, na2, na3, na4, na5, na6, uf_ne, uf_eq, ur_eq, ur_ne, true_or, or_true, not_true_eq_false, not_false_eq_true, true_implies, false_implies, implies_true, e10, e01, reduceIte, Option.isSome_none, Option.isSome_some, Bool.false_eq_true, bi_t, bi_f]
        exact h1 g' _ (by rw [g4, qsts_n (fun z => hL z.1)]) (g1.trans (frD.five F1)) S1 O1 lq (by show ns + i ≤ 80; omega) (by show ns ≤ ns + i; omega)
  exact ⟨_, key (80 - ns) 0 pos T f (by omega) hpos (frD.rfl' f p) hk hS' rfl⟩
theorem qgoal_1 {t : Nat → Nat} {n p : Nat} {r : Int32 × Nat} (h : qnum t n false (qsk t n p) = .inr r) : qgoal t n p = .inr (r.1.toNatClampNeg, qsk t n p, r.2) := by unfold qgoal; simp only [h]
theorem qgoal_0 {t : Nat → Nat} {n p : Nat} {e : Nat × Nat} (h : qnum t n false (qsk t n p) = .inl e) : qgoal t n p = .inl e := by unfold qgoal; simp only [h]
/-- only a goal's place and the goal at slot s, and row 5, differ -/
def frG (f f' : zf) (p s : Nat) : Prop := (∀ a, a ≠ 5 → a ≠ 6 → a ≠ p + 7 → f' a = f a) ∧ ∀ i, i ≠ s → f' 6 i = f 6 i ∧ f' (p + 7) i = f (p + 7) i
theorem s_fillGoal {f : zf} {ρ : zo} (hC : zC ρ) {t : Nat → Nat} {n p pos nb k : Nat} {Q : Int32 → zS → Prop} (hp : zp_ p) (hr : ρ.1 5 2 = some p) (hR' : hR f t n) (hpos : pos ≤ n) (hk : okp f pos) (hnb : f p 0 = nn nb) (hnb24 : nb < 24) (hk2 : k < 2) (h1 : ∀ f' r, qgoal t n pos = .inr r → frG f f' p (2 * nb + k) → okp f' r.2.2 → f' 6 (2 * nb + k) = nn r.2.1 → f' (p + 7) (2 * nb + k) = nn r.1 → Q 1 (f', ρ)) (h0 : ∀ f' e, qgoal t n pos = .inl e → frG f f' p (2 * nb + k) → flt f' e → Q 0 (f', ρ)) : P_R_fillGoal 201 5 (nn k) (f, ρ) Q := by
  have hp' := hp
  unfold zp_ at hp'
  have hn := hR'.2.1
  unfold P_R_fillGoal P_G_goalSlot
  simp (disch := (first | assumption | omega)) only [true_and, and_true, zr_u, zi_u, zI_u, Option.some.injEq, exists_eq_left', nn_tn, nn_add, nn_s, nn_2, nn_5, nn_7, nn_8, na0, na2, na3, na4, na5, na6, uf_ne, uf_eq, ur_eq, ur_ne, true_or, or_true, not_true_eq_false, not_false_eq_true, true_implies, false_implies, implies_true, e10, e01, reduceIte, Option.isSome_none, Option.isSome_some, Bool.false_eq_true, bi_t, bi_f, ko_5, hr, ko_p, hnb]
  refine s_next hC hR' hpos hk.1 ?_
  simp (disch := (first | assumption | omega)) only [true_and, and_true, zr_u, zi_u, zI_u, Option.some.injEq, exists_eq_left', nn_tn, nn_add, nn_s, nn_2, nn_5, nn_7, nn_8, na0, na2, na3, na4, na5, na6, uf_ne, uf_eq, ur_eq, ur_ne, true_or, or_true, not_true_eq_false, not_false_eq_true, true_implies, false_implies, implies_true, e10, e01, reduceIte, Option.isSome_none, Option.isSome_some, Bool.false_eq_true, bi_t, bi_f, rc_5_1 hC, ka_6]
  have lq := qsk_n (t := t) hpos
  have O1 : okp (uf (uf f 5 3 (nn (qsk t n pos))) 6 (2 * nb + k) (nn (qsk t n pos))) (qsk t n pos) := ⟨by simp (disch := (first | assumption | omega)) only [true_and, and_true, zr_u, zi_u, zI_u, Option.some.injEq, exists_eq_left', nn_tn, nn_add, nn_s, nn_2, nn_5, nn_7, nn_8, na0, na2, na3, na4, na5, na6, uf_ne, uf_eq, ur_eq, ur_ne, true_or, or_true, not_true_eq_false, not_false_eq_true, true_implies, false_implies, implies_true, e10, e01, reduceIte, Option.isSome_none, Option.isSome_some, Bool.false_eq_true, bi_t, bi_f], by simp (disch := (first | assumption | omega)) only [true_and, and_true, zr_u, zi_u, zI_u, Option.some.injEq, exists_eq_left', nn_tn, nn_add, nn_s, nn_2, nn_5, nn_7, nn_8, na0, na2, na3, na4, na5, na6, uf_ne, uf_eq, ur_eq, ur_ne, true_or, or_true, not_true_eq_false, not_false_eq_true, true_implies, false_implies, implies_true, e10, e01, reduceIte, Option.isSome_none, Option.isSome_some, Bool.false_eq_true, bi_t, bi_f]; exact hk.2.1, by simp (disch := (first | assumption | omega)) only [true_and, and_true, zr_u, zi_u, zI_u, Option.some.injEq, exists_eq_left', nn_tn, nn_add, nn_s, nn_2, nn_5, nn_7, nn_8, na0, na2, na3, na4, na5, na6, uf_ne, uf_eq, ur_eq, ur_ne, true_or, or_true, not_true_eq_false, not_false_eq_true, true_implies, false_implies, implies_true, e10, e01, reduceIte, Option.isSome_none, Option.isSome_some, Bool.false_eq_true, bi_t, bi_f]; exact hk.2.2⟩
  have R1 : hR (uf (uf f 5 3 (nn (qsk t n pos))) 6 (2 * nb + k) (nn (qsk t n pos))) t n := hR'.same (by simp (disch := (first | assumption | omega)) only [true_and, and_true, zr_u, zi_u, zI_u, Option.some.injEq, exists_eq_left', nn_tn, nn_add, nn_s, nn_2, nn_5, nn_7, nn_8, na0, na2, na3, na4, na5, na6, uf_ne, uf_eq, ur_eq, ur_ne, true_or, or_true, not_true_eq_false, not_false_eq_true, true_implies, false_implies, implies_true, e10, e01, reduceIte, Option.isSome_none, Option.isSome_some, Bool.false_eq_true, bi_t, bi_f]) (by simp (disch := (first | assumption | omega)) only [true_and, and_true, zr_u, zi_u, zI_u, Option.some.injEq, exists_eq_left', nn_tn, nn_add, nn_s, nn_2, nn_5, nn_7, nn_8, na0, na2, na3, na4, na5, na6, uf_ne, uf_eq, ur_eq, ur_ne, true_or, or_true, not_true_eq_false, not_false_eq_true, true_implies, false_implies, implies_true, e10, e01, reduceIte, Option.isSome_none, Option.isSome_some, Bool.false_eq_true, bi_t, bi_f])
  have G1 : frG f (uf (uf f 5 3 (nn (qsk t n pos))) 6 (2 * nb + k) (nn (qsk t n pos))) p (2 * nb + k) := ⟨fun a z1 z2 z3 => by simp (disch := (first | assumption | omega)) only [true_and, and_true, zr_u, zi_u, zI_u, Option.some.injEq, exists_eq_left', nn_tn, nn_add, nn_s, nn_2, nn_5, nn_7, nn_8, na0, na2, na3, na4, na5, na6, uf_ne, uf_eq, ur_eq, ur_ne, true_or, or_true, not_true_eq_false, not_false_eq_true, true_implies, false_implies, implies_true, e10, e01, reduceIte, Option.isSome_none, Option.isSome_some, Bool.false_eq_true, bi_t, bi_f], fun i hi => ⟨by simp (disch := (first | assumption | omega)) only [true_and, and_true, zr_u, zi_u, zI_u, Option.some.injEq, exists_eq_left', nn_tn, nn_add, nn_s, nn_2, nn_5, nn_7, nn_8, na0, na2, na3, na4, na5, na6, uf_ne, uf_eq, ur_eq, ur_ne, true_or, or_true, not_true_eq_false, not_false_eq_true, true_implies, false_implies, implies_true, e10, e01, reduceIte, Option.isSome_none, Option.isSome_some, Bool.false_eq_true, bi_t, bi_f], by simp (disch := (first | assumption | omega)) only [true_and, and_true, zr_u, zi_u, zI_u, Option.some.injEq, exists_eq_left', nn_tn, nn_add, nn_s, nn_2, nn_5, nn_7, nn_8, na0, na2, na3, na4, na5, na6, uf_ne, uf_eq, ur_eq, ur_ne, true_or, or_true, not_true_eq_false, not_false_eq_true, true_implies, false_implies, implies_true, e10, e01, reduceIte, Option.isSome_none, Option.isSome_some, Bool.false_eq_true, bi_t, bi_f]⟩⟩
  have V1 : (uf (uf f 5 3 (nn (qsk t n pos))) 6 (2 * nb + k) (nn (qsk t n pos))) 6 (2 * nb + k) = nn (qsk t n pos) := by simp (disch := (first | assumption | omega)) only [true_and, and_true, zr_u, zi_u, zI_u, Option.some.injEq, exists_eq_left', nn_tn, nn_add, nn_s, nn_2, nn_5, nn_7, nn_8, na0, na2, na3, na4, na5, na6, uf_ne, uf_eq, ur_eq, ur_ne, true_or, or_true, not_true_eq_false, not_false_eq_true, true_implies, false_implies, implies_true, e10, e01, reduceIte, Option.isSome_none, Option.isSome_some, Bool.false_eq_true, bi_t, bi_f]
  generalize uf (uf f 5 3 (nn (qsk t n pos))) 6 (2 * nb + k) (nn (qsk t n pos)) = f1 at O1 R1 G1 V1 ⊢
  have fw : ∀ g, fr5 f1 g → frG f g p (2 * nb + k) := fun g hg => ⟨fun a z1 z2 z3 => by rw [hg a z1]; exact G1.1 a z1 z2 z3, fun i hi => by rw [hg 6 (by decide), hg (p + 7) (by omega)]; exact G1.2 i hi⟩
  refine s_number (sg := false) hC R1 lq O1 (fun f2 x z1 z2 z3 z4 => ?_) (fun f2 e z1 z2 z3 => ?_)
  · simp (disch := (first | assumption | omega)) only [true_and, and_true, zr_u, zi_u, zI_u, Option.some.injEq, exists_eq_left', nn_tn, nn_add, nn_s, nn_2, nn_5, nn_7, nn_8, na0, na2, na3, na4, na5, na6, uf_ne, uf_eq, ur_eq, ur_ne, true_or, or_true, not_true_eq_false, not_false_eq_true, true_implies, false_implies, implies_true, e10, e01, reduceIte, Option.isSome_none, Option.isSome_some, Bool.false_eq_true, bi_t, bi_f, hr, ko_p, rc_p8 hC, ka_p7, z4]
    obtain ⟨v, hv, ev⟩ := qnum_f z1
    have g2 := fw f2 z2
    refine h1 _ _ (qgoal_1 z1) ⟨fun a y1 y2 y3 => by simp (disch := (first | assumption | omega)) only [true_and, and_true, zr_u, zi_u, zI_u, Option.some.injEq, exists_eq_left', nn_tn, nn_add, nn_s, nn_2, nn_5, nn_7, nn_8, na0, na2, na3, na4, na5, na6, uf_ne, uf_eq, ur_eq, ur_ne, true_or, or_true, not_true_eq_false, not_false_eq_true, true_implies, false_implies, implies_true, e10, e01, reduceIte, Option.isSome_none, Option.isSome_some, Bool.false_eq_true, bi_t, bi_f]; exact g2.1 a y1 y2 y3, fun i hi => ⟨by simp (disch := (first | assumption | omega)) only [true_and, and_true, zr_u, zi_u, zI_u, Option.some.injEq, exists_eq_left', nn_tn, nn_add, nn_s, nn_2, nn_5, nn_7, nn_8, na0, na2, na3, na4, na5, na6, uf_ne, uf_eq, ur_eq, ur_ne, true_or, or_true, not_true_eq_false, not_false_eq_true, true_implies, false_implies, implies_true, e10, e01, reduceIte, Option.isSome_none, Option.isSome_some, Bool.false_eq_true, bi_t, bi_f]; exact (g2.2 i hi).1, by simp (disch := (first | assumption | omega)) only [true_and, and_true, zr_u, zi_u, zI_u, Option.some.injEq, exists_eq_left', nn_tn, nn_add, nn_s, nn_2, nn_5, nn_7, nn_8, na0, na2, na3, na4, na5, na6, uf_ne, uf_eq, ur_eq, ur_ne, true_or, or_true, not_true_eq_false, not_false_eq_true, true_implies, false_implies, implies_true, e10, e01, reduceIte, Option.isSome_none, Option.isSome_some, Bool.false_eq_true, bi_t, bi_f]; exact (g2.2 i hi).2⟩⟩ ⟨by simp (disch := (first | assumption | omega)) only [true_and, and_true, zr_u, zi_u, zI_u, Option.some.injEq, exists_eq_left', nn_tn, nn_add, nn_s, nn_2, nn_5, nn_7, nn_8, na0, na2, na3, na4, na5, na6, uf_ne, uf_eq, ur_eq, ur_ne, true_or, or_true, not_true_eq_false, not_false_eq_true, true_implies, false_implies, implies_true, e10, e01, reduceIte, Option.isSome_none, Option.isSome_some, Bool.false_eq_true, bi_t, bi_f]; exact z3.1, by simp (disch := (first | assumption | omega)) only [true_and, and_true, zr_u, zi_u, zI_u, Option.some.injEq, exists_eq_left', nn_tn, nn_add, nn_s, nn_2, nn_5, nn_7, nn_8, na0, na2, na3, na4, na5, na6, uf_ne, uf_eq, ur_eq, ur_ne, true_or, or_true, not_true_eq_false, not_false_eq_true, true_implies, false_implies, implies_true, e10, e01, reduceIte, Option.isSome_none, Option.isSome_some, Bool.false_eq_true, bi_t, bi_f]; exact z3.2.1, by simp (disch := (first | assumption | omega)) only [true_and, and_true, zr_u, zi_u, zI_u, Option.some.injEq, exists_eq_left', nn_tn, nn_add, nn_s, nn_2, nn_5, nn_7, nn_8, na0, na2, na3, na4, na5, na6, uf_ne, uf_eq, ur_eq, ur_ne, true_or, or_true, not_true_eq_false, not_false_eq_true, true_implies, false_implies, implies_true, e10, e01, reduceIte, Option.isSome_none, Option.isSome_some, Bool.false_eq_true, bi_t, bi_f]; exact z3.2.2⟩ ?_ ?_
    · simp (disch := (first | assumption | omega)) only [true_and, and_true, zr_u, zi_u, zI_u, Option.some.injEq, exists_eq_left', nn_tn, nn_add, nn_s, nn_2, nn_5, nn_7, nn_8, na0, na2, na3, na4, na5, na6, uf_ne, uf_eq, ur_eq, ur_ne, true_or, or_true, not_true_eq_false, not_false_eq_true, true_implies, false_implies, implies_true, e10, e01, reduceIte, Option.isSome_none, Option.isSome_some, Bool.false_eq_true, bi_t, bi_f]
      rw [z2 6 (by decide)]; exact V1
    · simp (disch := (first | assumption | omega)) only [true_and, and_true, zr_u, zi_u, zI_u, Option.some.injEq, exists_eq_left', nn_tn, nn_add, nn_s, nn_2, nn_5, nn_7, nn_8, na0, na2, na3, na4, na5, na6, uf_ne, uf_eq, ur_eq, ur_ne, true_or, or_true, not_true_eq_false, not_false_eq_true, true_implies, false_implies, implies_true, e10, e01, reduceIte, Option.isSome_none, Option.isSome_some, Bool.false_eq_true, bi_t, bi_f]
      show x.1 = nn x.1.toNatClampNeg
      rw [ev, nn_tn hv]
  · simp (disch := (first | assumption | omega)) only [true_and, and_true, zr_u, zi_u, zI_u, Option.some.injEq, exists_eq_left', nn_tn, nn_add, nn_s, nn_2, nn_5, nn_7, nn_8, na0, na2, na3, na4, na5, na6, uf_ne, uf_eq, ur_eq, ur_ne, true_or, or_true, not_true_eq_false, not_false_eq_true, true_implies, false_implies, implies_true, e10, e01, reduceIte, Option.isSome_none, Option.isSome_some, Bool.false_eq_true, bi_t, bi_f]
    exact h0 f2 e (qgoal_0 z1) (fw f2 z2) z3
