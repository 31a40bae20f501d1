/-! Tallies. -/
def csr (T : Nat → mT) (lo : Nat) : Nat → mV → Nat
  | 0, _ => 0
  | k + 1, v => csr T lo k v + (if (mev (T (lo + k)) (mfr T lo k v)).isSome then 1 else 0)
def bln (G : mG) (b : Nat) : Nat := G.2.2.1 (b + 1) - G.2.2.1 b
/-- what block b, come to with v, adds to tally q -/
def wq (G : mG) (b : Nat) (v : mV) (q : Nat) : Nat :=
  if q = 1 then 1 else if q = 3 then bln G b else if q = 4 then csr G.2.2.2.1 (G.2.2.1 b) (bln G b) v
  else if q = 5 then (if (G.2.2.2.2 b).1 = 2 then 1 else 0)
  else if q = 6 then (if (G.2.2.2.2 b).1 = 2 ∧ (mop (mfb G b v) (G.2.2.2.2 b).2.1).isSome then 1 else 0) else 0
def wq0 (G : mG) (b : Nat) (v : mV) (q k : Nat) : Nat := if q = 1 then 1 else if q = 3 then k else if q = 4 then csr G.2.2.2.1 (G.2.2.1 b) k v else 0
theorem wq_n {G : mG} {b : Nat} {v : mV} {q : Nat} (h : (G.2.2.2.2 b).1 ≠ 2) : wq G b v q = wq0 G b v q (bln G b) := by
  unfold wq wq0
  rw [show (if (G.2.2.2.2 b).1 = 2 then 1 else 0) = 0 from if_neg h, show (if (G.2.2.2.2 b).1 = 2 ∧ (mop (mfb G b v) (G.2.2.2.2 b).2.1).isSome then 1 else 0) = 0 from if_neg (fun z => h z.1)]
  simp only [ite_self]
theorem wq_s {G : mG} {b : Nat} {v : mV} {q : Nat} (h : (G.2.2.2.2 b).1 = 2) (hs : (mop (mfb G b v) (G.2.2.2.2 b).2.1).isSome) : wq G b v q = wq0 G b v q (bln G b) + (if q = 5 then 1 else 0) + (if q = 6 then 1 else 0) := by
  unfold wq wq0
  rw [show (if (G.2.2.2.2 b).1 = 2 then 1 else 0) = 1 from if_pos h, show (if (G.2.2.2.2 b).1 = 2 ∧ (mop (mfb G b v) (G.2.2.2.2 b).2.1).isSome then 1 else 0) = 1 from if_pos ⟨h, hs⟩]
  repeat' split
  all_goals omega
theorem wq_f {G : mG} {b : Nat} {v : mV} {q : Nat} (h : (G.2.2.2.2 b).1 = 2) (hs : mop (mfb G b v) (G.2.2.2.2 b).2.1 = none) : wq G b v q = wq0 G b v q (bln G b) + (if q = 5 then 1 else 0) := by
  unfold wq wq0
  rw [show (if (G.2.2.2.2 b).1 = 2 then 1 else 0) = 1 from if_pos h, show (if (G.2.2.2.2 b).1 = 2 ∧ (mop (mfb G b v) (G.2.2.2.2 b).2.1).isSome then 1 else 0) = 0 from if_neg (fun z => by rw [hs] at z; exact absurd z.2 (by decide))]
  repeat' split
  all_goals omega
def tq (G : mG) (F : mF) (q : Nat) : Nat → Nat
  | 0 => 0
  | k + 1 => tq G F q k + (match F k with | none => 0 | some v => wq G k v q)
def mtl (G : mG) (F : mF) (q : Nat) : Nat := if q = 0 then G.1 else if q = 2 then G.2.1 else tq G F q G.1
theorem wq_0 (G : mG) (b : Nat) (v : mV) : wq G b v 0 = 0 := rfl
theorem wq_2 (G : mG) (b : Nat) (v : mV) : wq G b v 2 = 0 := rfl
theorem tq_z {G : mG} {F : mF} {q : Nat} (h : ∀ b v, wq G b v q = 0) : ∀ k, tq G F q k = 0
  | 0 => rfl
  | k + 1 => by
    unfold tq; rw [tq_z h k]
    cases F k with
    | none => rfl
    | some v => show 0 + wq G k v q = 0; rw [h k v]
theorem gG.s_lt {G : mG} (hG : gG G) {b s : Nat} (hb : b < G.1) (hs : s < G.2.2.1 (b + 1)) : s < G.2.1 := by
  have q1 : ∀ j c, c + j = G.1 → G.2.2.1 c ≤ G.2.2.1 G.1 := by
    intro j
    induction j with
    | zero => intro c e; rw [Nat.add_zero] at e; rw [e]; exact Nat.le_refl _
    | succ j ij =>
      intro c e
      have := hG.2.2.2.2.2.1 c (by omega)
      have := ij (c + 1) (by omega)
      omega
  have := q1 (G.1 - (b + 1)) (b + 1) (by omega)
  have := hG.2.2.2.2.1
  omega
theorem ni1 : (1 : Int32) = nn 1 := rfl
theorem ni3 : (3 : Int32) = nn 3 := rfl
theorem ni4 : (4 : Int32) = nn 4 := rfl
theorem ni5 : (5 : Int32) = nn 5 := rfl
theorem ni6 : (6 : Int32) = nn 6 := rfl
theorem ka_19' {x : Int32} {i : Nat} (e : x = nn i) (h : i < 7) : za 201 19 10 x := by rw [e, ka_19 h]; trivial
theorem tn1 : (1 : Int32).toNatClampNeg = 1 := by decide
theorem tn2 : (2 : Int32).toNatClampNeg = 2 := by decide
theorem tn3 : (3 : Int32).toNatClampNeg = 3 := by decide
theorem tn4 : (4 : Int32).toNatClampNeg = 4 := by decide
theorem tn5 : (5 : Int32).toNatClampNeg = 5 := by decide
theorem tn6 : (6 : Int32).toNatClampNeg = 6 := by decide
theorem tn0 : (0 : Int32).toNatClampNeg = 0 := by decide
theorem za1 : za 201 19 10 1 = True := ka_19 (i := 1) (by decide)
theorem za2 : za 201 19 10 2 = True := ka_19 (i := 2) (by decide)
theorem za3 : za 201 19 10 3 = True := ka_19 (i := 3) (by decide)
theorem za4 : za 201 19 10 4 = True := ka_19 (i := 4) (by decide)
theorem za5 : za 201 19 10 5 = True := ka_19 (i := 5) (by decide)
theorem za6 : za 201 19 10 6 = True := ka_19 (i := 6) (by decide)
theorem za0 : za 201 19 10 0 = True := ka_19 (i := 0) (by decide)
/-- rows 16, 17 and 19 may differ -/
def frT (f f' : zf) : Prop := ∀ a, a ≠ 16 → a ≠ 17 → a ≠ 19 → f' a = f a
theorem frT.rfl' (f : zf) : frT f f := fun _ _ _ _ => rfl
theorem frT.trans {f g h : zf} (a : frT f g) (b : frT g h) : frT f h := fun k h1 h2 h3 => by rw [b k h1 h2 h3, a k h1 h2 h3]
theorem pC.T {f f' : zf} {p : Nat} {G : mG} (hp : zp_ p) (h : pC f p G) (a : frT f f') : pC f' p G := h.same (fun i hi => by
  unfold zp_ at hp
  exact a _ (by omega) (by omega) (by omega))
theorem kC.T {f f' : zf} {G : mG} {F : mF} (hG : gG G) (h : kC f G F) (a : frT f f') : kC f' G F := by
  have hn := hG.2.1
  obtain ⟨h1, h2, h3, h4⟩ := h
  refine ⟨h1.same (a _ (by decide) (by decide) (by decide)) (fun b hb => ⟨a _ (by omega) (by omega) (by omega), a _ (by omega) (by omega) (by omega)⟩), h2, fun b v hv => ?_, h4.same (a _ (by decide) (by decide) (by decide)) (a _ (by decide) (by decide) (by decide))⟩
  obtain ⟨q1, q2⟩ := h3 b v hv
  exact ⟨q1, q2.same (a _ (by omega) (by omega) (by omega)) (a _ (by omega) (by omega) (by omega))⟩
theorem s_countBlock {f : zf} {ρ : zo} (hC : zC ρ) {p b : Nat} {G : mG} {F : mF} {v : mV} {t : Nat → Nat} {Q : zS → Prop} (hp : zp_ p) (hG : gG G) (hb : b < G.1) (hP : pC f p G) (hK : kC f G F) (hv : F b = some v) (ht : ∀ q, q < 7 → f 19 q = nn (t q)) (h : ∀ f', frT f f' → (∀ q, q < 7 → f' 19 q = nn (t q + wq G b v q)) → Q (f', ρ)) : P_F_countBlock 201 7 p (nn b) (f, ρ) Q := by
  have hn := hG.2.1
  have hb24 : b < 24 := by omega
  have hvb := zv_b hb24
  have hve := zv_e hb24
  have hvw : zv_ 15 := Or.inr (Or.inl rfl)
  have hp' := hp
  unfold zp_ at hp'
  have hl := hG.f_le (b := b + 1) (by omega)
  have hmono := hG.2.2.2.2.2.1 b hb
  obtain ⟨k1, k2, k3⟩ := hG.2.2.2.2.2.2 b hb
  have hBb := hK.1.1 b hb24
  rw [hv] at hBb
  have key : ∀ (m k : Nat) (f' : zf), G.2.2.1 b + k + m = G.2.2.1 (b + 1) → frT f f' → hV f' 15 (mfr G.2.2.2.1 (G.2.2.1 b) k v) → (∀ q, q < 7 → f' 19 q = nn (t q + wq0 G b v q k)) → P_F_countBlock_30 201 Q (m + 1) 7 p (nn b) (nn (G.2.2.1 b + k)) (f', ρ) := by
    intro m
    induction m with
    | zero =>
      intro k f' hk h1 h2 h3
      have hP' := hP.T hp h1
      have hK' := hK.T hG h1
      have he := hP'.2.2.2.2.1 b hb
      have he' := he
      obtain ⟨g1, g2, g3, g4, g5⟩ := he
      have ek : k = bln G b := by unfold bln; omega
      subst ek
      unfold P_F_countBlock_30 P_F_countBlock_129
      simp (disch := (first | assumption | omega)) only [true_and, and_true, zr_u, zi_u, zI_u, Option.some.injEq, exists_eq_left', nn_tn, nn_add, nn_s, nn_2, nn_5, nn_7, nn_8, na0, na2, na3, na4, na5, na6, uf_ne, uf_eq, ur_eq, ur_ne, true_or, or_true, not_true_eq_false, not_false_eq_true, true_implies, false_implies, implies_true, e10, e01, reduceIte, Option.isSome_none, Option.isSome_some, Bool.false_eq_true, bi_t, bi_f, ko_p, rc_p2 hC, ka_p1, hP'.2.2.1 (b + 1) (by omega), rc_p7 hC, ka_p6, g1, nn_e2, ko_7, rc_7_7 hC, za5, za6, tn5, tn6]
      simp (disch := omega) only [nn_le]
      refine ⟨fun _ => ⟨fun q2 => ?_, fun q2 => ?_⟩, fun q => absurd (by omega) q⟩
      · refine h f' h1 (fun q hq => ?_)
        rw [h3 q hq, wq_n q2]
      · have hw := (hK'.2.2.1 b v hv).2
        have fr5 : frT f' (uf f' 19 5 (f' 19 5 + 1)) := fun a _ _ z => uf_ne _ z
        have hP2 := hP'.T hp fr5
        refine s_forks hC hp hb24 (hP2.2.2.2.2.1 b hb) (hw.same (fr5 _ (by omega) (by omega) (by omega)) (fr5 _ (by omega) (by omega) (by omega))) (fun r hr => ?_)
        rcases hr with ⟨hr, hr2⟩ | ⟨hr, hr2, hr3⟩
        · subst hr
          obtain ⟨c, hc⟩ := hr2 q2
          simp (disch := (first | assumption | omega)) only [true_and, and_true, zr_u, zi_u, zI_u, Option.some.injEq, exists_eq_left', nn_tn, nn_add, nn_s, nn_2, nn_5, nn_7, nn_8, na0, na2, na3, na4, na5, na6, uf_ne, uf_eq, ur_eq, ur_ne, true_or, or_true, not_true_eq_false, not_false_eq_true, true_implies, false_implies, implies_true, e10, e01, reduceIte, Option.isSome_none, Option.isSome_some, Bool.false_eq_true, bi_t, bi_f, rc_7_7 hC, za6, tn6]
          refine h _ (fun a z1 z2 z3 => ?_) (fun q hq => ?_)
          · simp (disch := (first | assumption | omega)) only [true_and, and_true, zr_u, zi_u, zI_u, Option.some.injEq, exists_eq_left', nn_tn, nn_add, nn_s, nn_2, nn_5, nn_7, nn_8, na0, na2, na3, na4, na5, na6, uf_ne, uf_eq, ur_eq, ur_ne, true_or, or_true, not_true_eq_false, not_false_eq_true, true_implies, false_implies, implies_true, e10, e01, reduceIte, Option.isSome_none, Option.isSome_some, Bool.false_eq_true, bi_t, bi_f]
            exact h1 a z1 z2 z3
          · rw [wq_s q2 (by rw [hc]; rfl)]
            by_cases e6 : q = 6
            · subst e6; simp (disch := (first | assumption | omega)) only [true_and, and_true, zr_u, zi_u, zI_u, Option.some.injEq, exists_eq_left', nn_tn, nn_add, nn_s, nn_2, nn_5, nn_7, nn_8, na0, na2, na3, na4, na5, na6, uf_ne, uf_eq, ur_eq, ur_ne, true_or, or_true, not_true_eq_false, not_false_eq_true, true_implies, false_implies, implies_true, e10, e01, reduceIte, Option.isSome_none, Option.isSome_some, Bool.false_eq_true, bi_t, bi_f, h3 6 (by decide)]
              rfl
            · by_cases e5 : q = 5
              · subst e5; simp (disch := (first | assumption | omega)) only [true_and, and_true, zr_u, zi_u, zI_u, Option.some.injEq, exists_eq_left', nn_tn, nn_add, nn_s, nn_2, nn_5, nn_7, nn_8, na0, na2, na3, na4, na5, na6, uf_ne, uf_eq, ur_eq, ur_ne, true_or, or_true, not_true_eq_false, not_false_eq_true, true_implies, false_implies, implies_true, e10, e01, reduceIte, Option.isSome_none, Option.isSome_some, Bool.false_eq_true, bi_t, bi_f, h3 5 (by decide)]
                rfl
              · simp (disch := (first | assumption | omega)) only [true_and, and_true, zr_u, zi_u, zI_u, Option.some.injEq, exists_eq_left', nn_tn, nn_add, nn_s, nn_2, nn_5, nn_7, nn_8, na0, na2, na3, na4, na5, na6, uf_ne, uf_eq, ur_eq, ur_ne, true_or, or_true, not_true_eq_false, not_false_eq_true, true_implies, false_implies, implies_true, e10, e01, reduceIte, Option.isSome_none, Option.isSome_some, Bool.false_eq_true, bi_t, bi_f, h3 q hq, if_neg e5, if_neg e6]
                rfl
        · subst hr
          simp (disch := (first | assumption | omega)) only [true_and, and_true, zr_u, zi_u, zI_u, Option.some.injEq, exists_eq_left', nn_tn, nn_add, nn_s, nn_2, nn_5, nn_7, nn_8, na0, na2, na3, na4, na5, na6, uf_ne, uf_eq, ur_eq, ur_ne, true_or, or_true, not_true_eq_false, not_false_eq_true, true_implies, false_implies, implies_true, e10, e01, reduceIte, Option.isSome_none, Option.isSome_some, Bool.false_eq_true, bi_t, bi_f]
          refine h _ (fun a z1 z2 z3 => ?_) (fun q hq => ?_)
          · simp (disch := (first | assumption | omega)) only [true_and, and_true, zr_u, zi_u, zI_u, Option.some.injEq, exists_eq_left', nn_tn, nn_add, nn_s, nn_2, nn_5, nn_7, nn_8, na0, na2, na3, na4, na5, na6, uf_ne, uf_eq, ur_eq, ur_ne, true_or, or_true, not_true_eq_false, not_false_eq_true, true_implies, false_implies, implies_true, e10, e01, reduceIte, Option.isSome_none, Option.isSome_some, Bool.false_eq_true, bi_t, bi_f]
            exact h1 a z1 z2 z3
          · rw [wq_f q2 hr3]
            by_cases e5 : q = 5
            · subst e5; simp (disch := (first | assumption | omega)) only [true_and, and_true, zr_u, zi_u, zI_u, Option.some.injEq, exists_eq_left', nn_tn, nn_add, nn_s, nn_2, nn_5, nn_7, nn_8, na0, na2, na3, na4, na5, na6, uf_ne, uf_eq, ur_eq, ur_ne, true_or, or_true, not_true_eq_false, not_false_eq_true, true_implies, false_implies, implies_true, e10, e01, reduceIte, Option.isSome_none, Option.isSome_some, Bool.false_eq_true, bi_t, bi_f, h3 5 (by decide)]
              rfl
            · simp (disch := (first | assumption | omega)) only [true_and, and_true, zr_u, zi_u, zI_u, Option.some.injEq, exists_eq_left', nn_tn, nn_add, nn_s, nn_2, nn_5, nn_7, nn_8, na0, na2, na3, na4, na5, na6, uf_ne, uf_eq, ur_eq, ur_ne, true_or, or_true, not_true_eq_false, not_false_eq_true, true_implies, false_implies, implies_true, e10, e01, reduceIte, Option.isSome_none, Option.isSome_some, Bool.false_eq_true, bi_t, bi_f, h3 q hq, if_neg e5]
              rfl
    | succ m ih =>
      intro k f' hk h1 h2 h3
      have hP' := hP.T hp h1
      have hs := hP'.2.2.2.1 _ (hG.s_lt hb (s := G.2.2.1 b + k) (by omega))
      unfold P_F_countBlock_30 P_F_countBlock_74
      simp (disch := (first | assumption | omega)) only [true_and, and_true, zr_u, zi_u, zI_u, Option.some.injEq, exists_eq_left', nn_tn, nn_add, nn_s, nn_2, nn_5, nn_7, nn_8, na0, na2, na3, na4, na5, na6, uf_ne, uf_eq, ur_eq, ur_ne, true_or, or_true, not_true_eq_false, not_false_eq_true, true_implies, false_implies, implies_true, e10, e01, reduceIte, Option.isSome_none, Option.isSome_some, Bool.false_eq_true, bi_t, bi_f, ko_p, rc_p2 hC, ka_p1, hP'.2.2.1 (b + 1) (by omega), ko_7, rc_7_7 hC, rc_7_5 hC, za3, za4, tn3, tn4, ko_15]
      simp (disch := omega) only [nn_le]
      refine ⟨fun q => absurd q (by omega), fun _ => ?_⟩
      have fr3 : frT f' (uf f' 19 3 (f' 19 3 + 1)) := fun a _ _ z => uf_ne _ z
      have hP3 := hP'.T hp fr3
      have hs3 := hP3.2.2.2.1 _ (hG.s_lt hb (s := G.2.2.1 b + k) (by omega))
      have hv3 : hV (uf f' 19 3 (f' 19 3 + 1)) 15 (mfr G.2.2.2.1 (G.2.2.1 b) k v) := h2.same (uf_ne _ (by decide)) (uf_ne _ (by decide))
      refine s_settles hC hvw hp hP3.2.2.2.2.2 hs3 hv3 ?_
      have go : ∀ (g : zf), frT f' g → hV g 15 (mfr G.2.2.2.1 (G.2.2.1 b) k v) → (∀ q, q < 7 → g 19 q = nn (t q + wq0 G b v q (k + 1))) → P_V_assign 201 15 p (nn (G.2.2.1 b + k)) (g, ρ) (fun σ5 => P_F_countBlock_30 201 Q (m + 1) 7 p (nn b) (nn (G.2.2.1 b + k + 1)) σ5) := by
        intro g z1 z2 z3
        have hPg := hP'.T hp z1
        refine s_assign hC hvw hp hPg.2.2.2.2.2 (hPg.2.2.2.1 _ (hG.s_lt hb (s := G.2.2.1 b + k) (by omega))) z2 (fun f'' r1 r2 => ?_)
        refine ih (k + 1) f'' (by omega) ((h1.trans z1).trans (fun a y1 y2 y3 => r1 a y1 y2)) r2 (fun q hq => ?_)
        rw [r1 19 (by decide) (by decide)]; exact z3 q hq
      cases he : (mev (G.2.2.2.1 (G.2.2.1 b + k)) (mfr G.2.2.2.1 (G.2.2.1 b) k v)).isSome with
      | false =>
        have e4 : csr G.2.2.2.1 (G.2.2.1 b) (k + 1) v = csr G.2.2.2.1 (G.2.2.1 b) k v := by
          show csr G.2.2.2.1 (G.2.2.1 b) k v + (if (mev (G.2.2.2.1 (G.2.2.1 b + k)) (mfr G.2.2.2.1 (G.2.2.1 b) k v)).isSome then 1 else 0) = _
          rw [he]; rfl
        simp (disch := (first | assumption | omega)) only [true_and, and_true, zr_u, zi_u, zI_u, Option.some.injEq, exists_eq_left', nn_tn, nn_add, nn_s, nn_2, nn_5, nn_7, nn_8, na0, na2, na3, na4, na5, na6, uf_ne, uf_eq, ur_eq, ur_ne, true_or, or_true, not_true_eq_false, not_false_eq_true, true_implies, false_implies, implies_true, e10, e01, reduceIte, Option.isSome_none, Option.isSome_some, Bool.false_eq_true, bi_t, bi_f, ko_7, rc_7_5 hC, ko_15]
        refine go _ fr3 hv3 (fun q hq => ?_)
        unfold wq0
        rw [e4]
        have h3q := h3 q hq
        unfold wq0 at h3q
        by_cases e3 : q = 3
        · subst e3; simp (disch := (first | assumption | omega)) only [true_and, and_true, zr_u, zi_u, zI_u, Option.some.injEq, exists_eq_left', nn_tn, nn_add, nn_s, nn_2, nn_5, nn_7, nn_8, na0, na2, na3, na4, na5, na6, uf_ne, uf_eq, ur_eq, ur_ne, true_or, or_true, not_true_eq_false, not_false_eq_true, true_implies, false_implies, implies_true, e10, e01, reduceIte, Option.isSome_none, Option.isSome_some, Bool.false_eq_true, bi_t, bi_f, h3q]
          rfl
        · simp (disch := (first | assumption | omega)) only [true_and, and_true, zr_u, zi_u, zI_u, Option.some.injEq, exists_eq_left', nn_tn, nn_add, nn_s, nn_2, nn_5, nn_7, nn_8, na0, na2, na3, na4, na5, na6, uf_ne, uf_eq, ur_eq, ur_ne, true_or, or_true, not_true_eq_false, not_false_eq_true, true_implies, false_implies, implies_true, e10, e01, reduceIte, Option.isSome_none, Option.isSome_some, Bool.false_eq_true, bi_t, bi_f, h3q, if_neg e3]
      | true =>
        have e4 : csr G.2.2.2.1 (G.2.2.1 b) (k + 1) v = csr G.2.2.2.1 (G.2.2.1 b) k v + 1 := by
          show csr G.2.2.2.1 (G.2.2.1 b) k v + (if (mev (G.2.2.2.1 (G.2.2.1 b + k)) (mfr G.2.2.2.1 (G.2.2.1 b) k v)).isSome then 1 else 0) = _
          rw [he]; rfl
        simp (disch := (first | assumption | omega)) only [true_and, and_true, zr_u, zi_u, zI_u, Option.some.injEq, exists_eq_left', nn_tn, nn_add, nn_s, nn_2, nn_5, nn_7, nn_8, na0, na2, na3, na4, na5, na6, uf_ne, uf_eq, ur_eq, ur_ne, true_or, or_true, not_true_eq_false, not_false_eq_true, true_implies, false_implies, implies_true, e10, e01, reduceIte, Option.isSome_none, Option.isSome_some, Bool.false_eq_true, bi_t, bi_f, ko_7, rc_7_5 hC, ko_15, rc_7_7 hC, za4, tn4]
        refine go _ (fun a _ _ z => ?_) (h2.same ?_ ?_) (fun q hq => ?_)
        · simp (disch := (first | assumption | omega)) only [true_and, and_true, zr_u, zi_u, zI_u, Option.some.injEq, exists_eq_left', nn_tn, nn_add, nn_s, nn_2, nn_5, nn_7, nn_8, na0, na2, na3, na4, na5, na6, uf_ne, uf_eq, ur_eq, ur_ne, true_or, or_true, not_true_eq_false, not_false_eq_true, true_implies, false_implies, implies_true, e10, e01, reduceIte, Option.isSome_none, Option.isSome_some, Bool.false_eq_true, bi_t, bi_f]
        · simp (disch := (first | assumption | omega)) only [true_and, and_true, zr_u, zi_u, zI_u, Option.some.injEq, exists_eq_left', nn_tn, nn_add, nn_s, nn_2, nn_5, nn_7, nn_8, na0, na2, na3, na4, na5, na6, uf_ne, uf_eq, ur_eq, ur_ne, true_or, or_true, not_true_eq_false, not_false_eq_true, true_implies, false_implies, implies_true, e10, e01, reduceIte, Option.isSome_none, Option.isSome_some, Bool.false_eq_true, bi_t, bi_f]
        · simp (disch := (first | assumption | omega)) only [true_and, and_true, zr_u, zi_u, zI_u, Option.some.injEq, exists_eq_left', nn_tn, nn_add, nn_s, nn_2, nn_5, nn_7, nn_8, na0, na2, na3, na4, na5, na6, uf_ne, uf_eq, ur_eq, ur_ne, true_or, or_true, not_true_eq_false, not_false_eq_true, true_implies, false_implies, implies_true, e10, e01, reduceIte, Option.isSome_none, Option.isSome_some, Bool.false_eq_true, bi_t, bi_f]
        · unfold wq0
          rw [e4]
          have h3q := h3 q hq
          unfold wq0 at h3q
          by_cases e3 : q = 3
          · subst e3; simp (disch := (first | assumption | omega)) only [true_and, and_true, zr_u, zi_u, zI_u, Option.some.injEq, exists_eq_left', nn_tn, nn_add, nn_s, nn_2, nn_5, nn_7, nn_8, na0, na2, na3, na4, na5, na6, uf_ne, uf_eq, ur_eq, ur_ne, true_or, or_true, not_true_eq_false, not_false_eq_true, true_implies, false_implies, implies_true, e10, e01, reduceIte, Option.isSome_none, Option.isSome_some, Bool.false_eq_true, bi_t, bi_f, h3q]
            rfl
          · by_cases e4 : q = 4
            · subst e4; simp (disch := (first | assumption | omega)) only [true_and, and_true, zr_u, zi_u, zI_u, Option.some.injEq, exists_eq_left', nn_tn, nn_add, nn_s, nn_2, nn_5, nn_7, nn_8, na0, na2, na3, na4, na5, na6, uf_ne, uf_eq, ur_eq, ur_ne, true_or, or_true, not_true_eq_false, not_false_eq_true, true_implies, false_implies, implies_true, e10, e01, reduceIte, Option.isSome_none, Option.isSome_some, Bool.false_eq_true, bi_t, bi_f, h3q]
              rfl
            · simp (disch := (first | assumption | omega)) only [true_and, and_true, zr_u, zi_u, zI_u, Option.some.injEq, exists_eq_left', nn_tn, nn_add, nn_s, nn_2, nn_5, nn_7, nn_8, na0, na2, na3, na4, na5, na6, uf_ne, uf_eq, ur_eq, ur_ne, true_or, or_true, not_true_eq_false, not_false_eq_true, true_implies, false_implies, implies_true, e10, e01, reduceIte, Option.isSome_none, Option.isSome_some, Bool.false_eq_true, bi_t, bi_f, h3q, if_neg e3, if_neg e4]
  unfold P_F_countBlock
  simp (disch := (first | assumption | omega)) only [true_and, and_true, zr_u, zi_u, zI_u, Option.some.injEq, exists_eq_left', nn_tn, nn_add, nn_s, nn_2, nn_5, nn_7, nn_8, na0, na2, na3, na4, na5, na6, uf_ne, uf_eq, ur_eq, ur_ne, true_or, or_true, not_true_eq_false, not_false_eq_true, true_implies, false_implies, implies_true, e10, e01, reduceIte, Option.isSome_none, Option.isSome_some, Bool.false_eq_true, bi_t, bi_f, ko_7, rc_7_7 hC, rc_7_5 hC, rc_7_2 hC, ka_10, rc_b hC, ko_15, za1, tn1]
  have fr1 : frT f (uf f 19 1 (f 19 1 + 1)) := fun a _ _ z => uf_ne _ z
  refine s_become hC hvw hvb (by omega) (hBb.2.same (fr1 _ (by omega) (by omega) (by omega)) (fr1 _ (by omega) (by omega) (by omega))) (fun f' r1 r2 => ?_)
  have fr' : frT f f' := fun a z1 z2 z3 => by rw [r1 a z1 z2]; exact fr1 a z1 z2 z3
  have hP' := hP.T hp fr'
  simp (disch := (first | assumption | omega)) only [true_and, and_true, zr_u, zi_u, zI_u, Option.some.injEq, exists_eq_left', nn_tn, nn_add, nn_s, nn_2, nn_5, nn_7, nn_8, na0, na2, na3, na4, na5, na6, uf_ne, uf_eq, ur_eq, ur_ne, true_or, or_true, not_true_eq_false, not_false_eq_true, true_implies, false_implies, implies_true, e10, e01, reduceIte, Option.isSome_none, Option.isSome_some, Bool.false_eq_true, bi_t, bi_f, ko_p, rc_p2 hC, ka_p1, hP'.2.2.1 b (by omega)]
  refine ⟨_, key (G.2.2.1 (b + 1) - G.2.2.1 b) 0 f' (by omega) fr' r2 (fun q hq => ?_)⟩
  rw [r1 19 (by decide) (by decide)]
  unfold wq0
  have hz : csr G.2.2.2.1 (G.2.2.1 b) 0 v = 0 := rfl
  by_cases e : q = 1
  · subst e; simp (disch := (first | assumption | omega)) only [true_and, and_true, zr_u, zi_u, zI_u, Option.some.injEq, exists_eq_left', nn_tn, nn_add, nn_s, nn_2, nn_5, nn_7, nn_8, na0, na2, na3, na4, na5, na6, uf_ne, uf_eq, ur_eq, ur_ne, true_or, or_true, not_true_eq_false, not_false_eq_true, true_implies, false_implies, implies_true, e10, e01, reduceIte, Option.isSome_none, Option.isSome_some, Bool.false_eq_true, bi_t, bi_f, ht 1 (by decide)]
  · simp (disch := (first | assumption | omega)) only [true_and, and_true, zr_u, zi_u, zI_u, Option.some.injEq, exists_eq_left', nn_tn, nn_add, nn_s, nn_2, nn_5, nn_7, nn_8, na0, na2, na3, na4, na5, na6, uf_ne, uf_eq, ur_eq, ur_ne, true_or, or_true, not_true_eq_false, not_false_eq_true, true_implies, false_implies, implies_true, e10, e01, reduceIte, Option.isSome_none, Option.isSome_some, Bool.false_eq_true, bi_t, bi_f, ht q hq, if_neg e, hz, ite_self]
    rfl
theorem s_count {f : zf} {ρ : zo} (hC : zC ρ) {p : Nat} {G : mG} {F : mF} {Q : zS → Prop} (hp : zp_ p) (hG : gG G) (hP : pC f p G) (hK : kC f G F) (h : ∀ f', frT f f' → (∀ q, q < 7 → f' 19 q = nn (mtl G F q)) → Q (f', ρ)) : P_F_count 201 7 p (f, ρ) Q := by
  have hn := hG.2.1
  have hp' := hp
  unfold zp_ at hp'
  have k43 : ∀ (m k : Nat) (f' : zf), k + m = G.1 → frT f f' → (∀ q, q < 7 → f' 19 q = nn (if q = 0 then G.1 else if q = 2 then G.2.1 else tq G F q k)) → P_F_count_43 201 Q (m + 1) 7 p (nn k) (f', ρ) := by
    intro m
    induction m with
    | zero =>
      intro k f' hk h1 h2
      have e : k = G.1 := by omega
      subst e
      have hP' := hP.T hp h1
      unfold P_F_count_43
      simp (disch := (first | assumption | omega)) only [true_and, and_true, zr_u, zi_u, zI_u, Option.some.injEq, exists_eq_left', nn_tn, nn_add, nn_s, nn_2, nn_5, nn_7, nn_8, na0, na2, na3, na4, na5, na6, uf_ne, uf_eq, ur_eq, ur_ne, true_or, or_true, not_true_eq_false, not_false_eq_true, true_implies, false_implies, implies_true, e10, e01, reduceIte, Option.isSome_none, Option.isSome_some, Bool.false_eq_true, bi_t, bi_f, ko_p, hP'.1]
      simp (disch := omega) only [nn_le]
      exact ⟨fun _ => h f' h1 h2, fun q => absurd (Nat.le_refl _) q⟩
    | succ m ih =>
      intro k f' hk h1 h2
      have hP' := hP.T hp h1
      have hK' := hK.T hG h1
      unfold P_F_count_43 P_F_count_66
      simp (disch := (first | assumption | omega)) only [true_and, and_true, zr_u, zi_u, zI_u, Option.some.injEq, exists_eq_left', nn_tn, nn_add, nn_s, nn_2, nn_5, nn_7, nn_8, na0, na2, na3, na4, na5, na6, uf_ne, uf_eq, ur_eq, ur_ne, true_or, or_true, not_true_eq_false, not_false_eq_true, true_implies, false_implies, implies_true, e10, e01, reduceIte, Option.isSome_none, Option.isSome_some, Bool.false_eq_true, bi_t, bi_f, ko_p, hP'.1, ko_7, rc_7_0 hC, ka_8]
      simp (disch := omega) only [nn_le]
      refine ⟨fun q => absurd q (by omega), fun _ => ?_⟩
      have hB := hK'.1.1 k (by omega)
      cases hv : F k with
      | none =>
        rw [hv] at hB
        refine ⟨fun _ => ?_, fun z => absurd hB z⟩
        refine ih (k + 1) f' (by omega) h1 (fun q hq => ?_)
        rw [h2 q hq]
        show _ = nn (if q = 0 then G.1 else if q = 2 then G.2.1 else tq G F q k + (match F k with | none => 0 | some v => wq G k v q))
        rw [hv]; rfl
      | some v =>
        rw [hv] at hB
        refine ⟨fun z => absurd (hB.1.symm.trans z) (by decide), fun _ => ?_⟩
        refine s_countBlock hC hp hG (by omega) hP' hK' hv h2 (fun f2 r1 r2 => ?_)
        refine ih (k + 1) f2 (by omega) (h1.trans r1) (fun q hq => ?_)
        rw [r2 q hq]
        congr 1
        show _ = (if q = 0 then G.1 else if q = 2 then G.2.1 else tq G F q k + (match F k with | none => 0 | some v => wq G k v q))
        rw [hv]
        by_cases e0 : q = 0
        · subst e0; rfl
        · rw [if_neg e0, if_neg e0]
          by_cases e2 : q = 2
          · subst e2; rfl
          · rw [if_neg e2, if_neg e2]
  have k2 : ∀ (m k : Nat) (f' : zf), k + m = 7 → frT f f' → (∀ q, q < k → f' 19 q = 0) → P_F_count_2 201 Q (m + 1) 7 p (nn k) (f', ρ) := by
    intro m
    induction m with
    | zero =>
      intro k f' hk h1 h2
      have hP' := hP.T hp h1
      unfold P_F_count_2
      rw [show (7 : Int32) ≤ nn k ↔ nn 7 ≤ nn k from Iff.rfl, nn_le (by omega) (by omega)]
      refine ⟨fun _ => ?_, fun q => absurd (by omega) q⟩
      simp (disch := (first | assumption | omega)) only [true_and, and_true, zr_u, zi_u, zI_u, Option.some.injEq, exists_eq_left', nn_tn, nn_add, nn_s, nn_2, nn_5, nn_7, nn_8, na0, na2, na3, na4, na5, na6, uf_ne, uf_eq, ur_eq, ur_ne, true_or, or_true, not_true_eq_false, not_false_eq_true, true_implies, false_implies, implies_true, e10, e01, reduceIte, Option.isSome_none, Option.isSome_some, Bool.false_eq_true, bi_t, bi_f, ko_7, rc_7_7 hC, ko_p, za0, za2, tn0, tn2, hP'.1, hP'.2.1]
      refine ⟨_, k43 G.1 0 _ (by omega) (fun a z1 z2 z3 => ?_) (fun q hq => ?_)⟩
      · simp (disch := (first | assumption | omega)) only [true_and, and_true, zr_u, zi_u, zI_u, Option.some.injEq, exists_eq_left', nn_tn, nn_add, nn_s, nn_2, nn_5, nn_7, nn_8, na0, na2, na3, na4, na5, na6, uf_ne, uf_eq, ur_eq, ur_ne, true_or, or_true, not_true_eq_false, not_false_eq_true, true_implies, false_implies, implies_true, e10, e01, reduceIte, Option.isSome_none, Option.isSome_some, Bool.false_eq_true, bi_t, bi_f]
        exact h1 a z1 z2 z3
      · by_cases e0 : q = 0
        · subst e0; simp (disch := (first | assumption | omega)) only [true_and, and_true, zr_u, zi_u, zI_u, Option.some.injEq, exists_eq_left', nn_tn, nn_add, nn_s, nn_2, nn_5, nn_7, nn_8, na0, na2, na3, na4, na5, na6, uf_ne, uf_eq, ur_eq, ur_ne, true_or, or_true, not_true_eq_false, not_false_eq_true, true_implies, false_implies, implies_true, e10, e01, reduceIte, Option.isSome_none, Option.isSome_some, Bool.false_eq_true, bi_t, bi_f]
        · by_cases e2 : q = 2
          · subst e2; simp (disch := (first | assumption | omega)) only [true_and, and_true, zr_u, zi_u, zI_u, Option.some.injEq, exists_eq_left', nn_tn, nn_add, nn_s, nn_2, nn_5, nn_7, nn_8, na0, na2, na3, na4, na5, na6, uf_ne, uf_eq, ur_eq, ur_ne, true_or, or_true, not_true_eq_false, not_false_eq_true, true_implies, false_implies, implies_true, e10, e01, reduceIte, Option.isSome_none, Option.isSome_some, Bool.false_eq_true, bi_t, bi_f]
            rfl
          · simp (disch := (first | assumption | omega)) only [true_and, and_true, zr_u, zi_u, zI_u, Option.some.injEq, exists_eq_left', nn_tn, nn_add, nn_s, nn_2, nn_5, nn_7, nn_8, na0, na2, na3, na4, na5, na6, uf_ne, uf_eq, ur_eq, ur_ne, true_or, or_true, not_true_eq_false, not_false_eq_true, true_implies, false_implies, implies_true, e10, e01, reduceIte, Option.isSome_none, Option.isSome_some, Bool.false_eq_true, bi_t, bi_f]
            rw [if_neg e0, if_neg e2, h2 q (by omega)]; rfl
    | succ m ih =>
      intro k f' hk h1 h2
      unfold P_F_count_2
      rw [show (7 : Int32) ≤ nn k ↔ nn 7 ≤ nn k from Iff.rfl, nn_le (by omega) (by omega)]
      refine ⟨fun q => absurd q (by omega), fun _ => ?_⟩
      simp (disch := (first | assumption | omega)) only [true_and, and_true, zr_u, zi_u, zI_u, Option.some.injEq, exists_eq_left', nn_tn, nn_add, nn_s, nn_2, nn_5, nn_7, nn_8, na0, na2, na3, na4, na5, na6, uf_ne, uf_eq, ur_eq, ur_ne, true_or, or_true, not_true_eq_false, not_false_eq_true, true_implies, false_implies, implies_true, e10, e01, reduceIte, Option.isSome_none, Option.isSome_some, Bool.false_eq_true, bi_t, bi_f, ko_7, rc_7_7 hC, ka_19]
      refine ih (k + 1) _ (by omega) (fun a z1 z2 z3 => ?_) (fun q hq => ?_)
      · simp (disch := (first | assumption | omega)) only [true_and, and_true, zr_u, zi_u, zI_u, Option.some.injEq, exists_eq_left', nn_tn, nn_add, nn_s, nn_2, nn_5, nn_7, nn_8, na0, na2, na3, na4, na5, na6, uf_ne, uf_eq, ur_eq, ur_ne, true_or, or_true, not_true_eq_false, not_false_eq_true, true_implies, false_implies, implies_true, e10, e01, reduceIte, Option.isSome_none, Option.isSome_some, Bool.false_eq_true, bi_t, bi_f]
        exact h1 a z1 z2 z3
      · by_cases e : q = k
        · subst e; simp (disch := (first | assumption | omega)) only [true_and, and_true, zr_u, zi_u, zI_u, Option.some.injEq, exists_eq_left', nn_tn, nn_add, nn_s, nn_2, nn_5, nn_7, nn_8, na0, na2, na3, na4, na5, na6, uf_ne, uf_eq, ur_eq, ur_ne, true_or, or_true, not_true_eq_false, not_false_eq_true, true_implies, false_implies, implies_true, e10, e01, reduceIte, Option.isSome_none, Option.isSome_some, Bool.false_eq_true, bi_t, bi_f]
        · simp (disch := (first | assumption | omega)) only [true_and, and_true, zr_u, zi_u, zI_u, Option.some.injEq, exists_eq_left', nn_tn, nn_add, nn_s, nn_2, nn_5, nn_7, nn_8, na0, na2, na3, na4, na5, na6, uf_ne, uf_eq, ur_eq, ur_ne, true_or, or_true, not_true_eq_false, not_false_eq_true, true_implies, false_implies, implies_true, e10, e01, reduceIte, Option.isSome_none, Option.isSome_some, Bool.false_eq_true, bi_t, bi_f]
          exact h2 q (by omega)
  exact ⟨_, k2 7 0 f rfl (frT.rfl' f) (fun q hq => absurd hq (by omega))⟩
