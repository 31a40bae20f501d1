/-! The class: programs, and what it knows of blocks. -/
def eC (f : zf) (p b : Nat) (e : mE) : Prop := f (p + 6) b = nn e.1 ∧ e.1 ≤ 2 ∧ (e.1 = 2 → oC (f (p + 4)) (f (p + 5)) (160 + b) e.2.1) ∧ (e.1 ≠ 0 → f (p + 7) (2 * b) = nn e.2.2.1) ∧ (e.1 = 2 → f (p + 7) (2 * b + 1) = nn e.2.2.2)
def pC (f : zf) (p : Nat) (G : mG) : Prop := f p 0 = nn G.1 ∧ f p 1 = nn G.2.1 ∧ (∀ b, b ≤ G.1 → f (p + 1) b = nn (G.2.2.1 b)) ∧ (∀ s, s < G.2.1 → tC f p s (G.2.2.2.1 s)) ∧ (∀ b, b < G.1 → eC f p b (G.2.2.2.2 b)) ∧ sK f p
theorem pC.same {f f' : zf} {p : Nat} {G : mG} (h : pC f p G) (a : ∀ i, i < 8 → f' (p + i) = f (p + i)) : pC f' p G := by
  have a0 := a 0 (by decide)
  rw [Nat.add_zero] at a0
  unfold pC tC eC sK
  rw [a0, a 1 (by decide), a 2 (by decide), a 3 (by decide), a 4 (by decide), a 5 (by decide), a 6 (by decide), a 7 (by decide)]
  exact h
def rC1 (f : zf) (b : Nat) (o : Option mV) : Prop := match o with
  | none => f 8 b = 0
  | some v => f 8 b = 1 ∧ hV f (20 + 6 * b) v
def rC (f : zf) (F : mF) : Prop := (∀ b, b < 24 → rC1 f b (F b)) ∧ ∀ b, 24 ≤ b → F b = none
theorem rC1.same {f f' : zf} {b : Nat} {o : Option mV} (h : rC1 f b o) (h1 : f' 8 b = f 8 b) (h2 : f' (20 + 6 * b + 1) = f (20 + 6 * b + 1)) (h3 : f' (20 + 6 * b + 2) = f (20 + 6 * b + 2)) : rC1 f' b o := by
  cases o with
  | none => show f' 8 b = 0; rw [h1]; exact h
  | some v => exact ⟨by rw [h1]; exact h.1, h.2.same h2 h3⟩
theorem rC.same {f f' : zf} {F : mF} (h : rC f F) (h1 : f' 8 = f 8) (h2 : ∀ b, b < 24 → f' (20 + 6 * b + 1) = f (20 + 6 * b + 1) ∧ f' (20 + 6 * b + 2) = f (20 + 6 * b + 2)) : rC f' F := ⟨fun b hb => (h.1 b hb).same (by rw [h1]) (h2 b hb).1 (h2 b hb).2, h.2⟩
theorem s_comeTo {f : zf} {ρ : zo} (hC : zC ρ) {c q : Nat} {F : mF} {w : mV} {Q : zS → Prop} (hq : q < 24) (hc : zv_ c) (hcq : c ≠ 20 + 6 * q) (hF : rC f F) (hw : hV f c w) (h : ∀ f', (∀ a, a ≠ 8 → a ≠ 9 → a ≠ 20 + 6 * q + 1 → a ≠ 20 + 6 * q + 2 → f' a = f a) → rC f' (mpu F q (mjo (F q) w)) → (mpu F q (mjo (F q) w) = F ∧ f' 9 = f 9 ∨ f' 9 = ur (f 9) q 1 ∧ mph F 24 < mph (mpu F q (mjo (F q) w)) 24) → Q (f', ρ)) : P_F_comeTo 201 7 (nn q) c (f, ρ) Q := by
  have hv := zv_b hq
  have hc' := hc
  unfold zv_ at hc'
  have hB := hF.1 q hq
  unfold P_F_comeTo P_F_comeTo_56
  simp (disch := (first | assumption | omega)) only [true_and, and_true, zr_u, zi_u, zI_u, Option.some.injEq, exists_eq_left', nn_tn, nn_add, nn_s, nn_2, nn_5, nn_7, nn_8, na0, na2, na3, na4, na5, na6, uf_ne, uf_eq, ur_eq, ur_ne, true_or, or_true, not_true_eq_false, not_false_eq_true, true_implies, false_implies, implies_true, e10, e01, reduceIte, Option.isSome_none, Option.isSome_some, Bool.false_eq_true, bi_t, bi_f, ko_7, rc_7_0 hC, rc_7_1 hC, rc_7_2 hC, ka_8, ka_9, ka_10, rc_b hC, ko_v, nar_b1]
  have put : ∀ (f' : zf) (z : mV), (∀ a, a ≠ 8 → a ≠ 9 → a ≠ 20 + 6 * q + 1 → a ≠ 20 + 6 * q + 2 → f' a = f a) → (∀ j, j ≠ q → f' 8 j = f 8 j) → f' 8 q = 1 → hV f' (20 + 6 * q) z → rC f' (mpu F q z) := by
    intro f' z q1 q2 q3 q4
    refine ⟨fun b hb => ?_, fun b hb => ?_⟩
    · unfold mpu
      by_cases e : b = q
      · subst e; rw [if_pos rfl]; exact ⟨q3, q4⟩
      · rw [if_neg e]
        exact (hF.1 b hb).same (q2 b e) (q1 _ (by omega) (by omega) (by omega) (by omega)) (q1 _ (by omega) (by omega) (by omega) (by omega))
    · unfold mpu; rw [if_neg (by omega)]; exact hF.2 b hb
  cases ho : F q with
  | none =>
    rw [ho] at hB
    have hB : f 8 q = 0 := hB
    rw [ho] at h
    refine ⟨fun z => absurd hB z, fun _ => ?_⟩
    refine s_become hC hv hc (fun e => hcq e.symm) (hw.same (by simp (disch := (first | assumption | omega)) only [true_and, and_true, zr_u, zi_u, zI_u, Option.some.injEq, exists_eq_left', nn_tn, nn_add, nn_s, nn_2, nn_5, nn_7, nn_8, na0, na2, na3, na4, na5, na6, uf_ne, uf_eq, ur_eq, ur_ne, true_or, or_true, not_true_eq_false, not_false_eq_true, true_implies, false_implies, implies_true, e10, e01, reduceIte, Option.isSome_none, Option.isSome_some, Bool.false_eq_true, bi_t, bi_f]) (by simp (disch := (first | assumption | omega)) only [true_and, and_true, zr_u, zi_u, zI_u, Option.some.injEq, exists_eq_left', nn_tn, nn_add, nn_s, nn_2, nn_5, nn_7, nn_8, na0, na2, na3, na4, na5, na6, uf_ne, uf_eq, ur_eq, ur_ne, true_or, or_true, not_true_eq_false, not_false_eq_true, true_implies, false_implies, implies_true, e10, e01, reduceIte, Option.isSome_none, Option.isSome_some, Bool.false_eq_true, bi_t, bi_f])) (fun f' r1 r2 => ?_)
    have fr : ∀ a, a ≠ 8 → a ≠ 9 → a ≠ 20 + 6 * q + 1 → a ≠ 20 + 6 * q + 2 → f' a = f a := fun a z1 z2 z3 z4 => by
      rw [r1 a z3 z4]; simp (disch := (first | assumption | omega)) only [true_and, and_true, zr_u, zi_u, zI_u, Option.some.injEq, exists_eq_left', nn_tn, nn_add, nn_s, nn_2, nn_5, nn_7, nn_8, na0, na2, na3, na4, na5, na6, uf_ne, uf_eq, ur_eq, ur_ne, true_or, or_true, not_true_eq_false, not_false_eq_true, true_implies, false_implies, implies_true, e10, e01, reduceIte, Option.isSome_none, Option.isSome_some, Bool.false_eq_true, bi_t, bi_f]
    have e8 : f' 8 = ur (f 8) q 1 := by rw [r1 8 (by omega) (by omega)]; simp (disch := (first | assumption | omega)) only [true_and, and_true, zr_u, zi_u, zI_u, Option.some.injEq, exists_eq_left', nn_tn, nn_add, nn_s, nn_2, nn_5, nn_7, nn_8, na0, na2, na3, na4, na5, na6, uf_ne, uf_eq, ur_eq, ur_ne, true_or, or_true, not_true_eq_false, not_false_eq_true, true_implies, false_implies, implies_true, e10, e01, reduceIte, Option.isSome_none, Option.isSome_some, Bool.false_eq_true, bi_t, bi_f]
    have e9 : f' 9 = ur (f 9) q 1 := by rw [r1 9 (by omega) (by omega)]; simp (disch := (first | assumption | omega)) only [true_and, and_true, zr_u, zi_u, zI_u, Option.some.injEq, exists_eq_left', nn_tn, nn_add, nn_s, nn_2, nn_5, nn_7, nn_8, na0, na2, na3, na4, na5, na6, uf_ne, uf_eq, ur_eq, ur_ne, true_or, or_true, not_true_eq_false, not_false_eq_true, true_implies, false_implies, implies_true, e10, e01, reduceIte, Option.isSome_none, Option.isSome_some, Bool.false_eq_true, bi_t, bi_f]
    refine h f' fr (put f' w fr (fun j hj => by rw [e8, ur_ne _ hj]) (by rw [e8, ur_eq]) r2) (Or.inr ⟨e9, ?_⟩)
    have := mpu_ph_lt (F := F) (q := q) (w := w) hq (Or.inl ho)
    rw [ho] at this; exact this
  | some v =>
    rw [ho] at hB h
    refine ⟨fun _ => ?_, fun z => absurd (hB.1.symm.trans z) (by decide)⟩
    refine s_join hC hv hc (fun e => hcq e.symm) hB.2 hw (fun f' r r1 r2 r3 => ?_)
    have fr : ∀ a, a ≠ 8 → a ≠ 9 → a ≠ 20 + 6 * q + 1 → a ≠ 20 + 6 * q + 2 → f' a = f a := fun a z1 z2 z3 z4 => r1 a z3 z3
    have e8 : f' 8 = f 8 := r1 8 (by omega) (by omega)
    have e9 : f' 9 = f 9 := r1 9 (by omega) (by omega)
    simp (disch := (first | assumption | omega)) only [true_and, and_true, zr_u, zi_u, zI_u, Option.some.injEq, exists_eq_left', nn_tn, nn_add, nn_s, nn_2, nn_5, nn_7, nn_8, na0, na2, na3, na4, na5, na6, uf_ne, uf_eq, ur_eq, ur_ne, true_or, or_true, not_true_eq_false, not_false_eq_true, true_implies, false_implies, implies_true, e10, e01, reduceIte, Option.isSome_none, Option.isSome_some, Bool.false_eq_true, bi_t, bi_f, rc_7_1 hC, ka_9, nar_b1]
    refine ⟨fun z => ?_, fun z => ?_⟩
    · rcases r3 with ⟨r3, r4⟩ | ⟨r3, -⟩
      · refine h f' fr (put f' _ fr (fun j hj => by rw [e8]) (by rw [e8]; exact hB.1) r2) (Or.inl ⟨?_, e9⟩)
        show mpu F q (mjn v w) = F
        rw [r4]; exact mpu_self ho
      · rw [r3] at z; exact absurd z (by decide)
    · rcases r3 with ⟨r3, r4⟩ | ⟨r3, x, hx, hne⟩
      · exact absurd r3 z
      · have fr2' : ∀ a, a ≠ 8 → a ≠ 9 → a ≠ 20 + 6 * q + 1 → a ≠ 20 + 6 * q + 2 → uf f' 9 q 1 a = f a := fun a z1 z2 z3 z4 => by rw [uf_ne _ z2]; exact fr a z1 z2 z3 z4
        refine h _ fr2' (put _ _ fr2' (fun j hj => by simp (disch := (first | assumption | omega)) only [true_and, and_true, zr_u, zi_u, zI_u, Option.some.injEq, exists_eq_left', nn_tn, nn_add, nn_s, nn_2, nn_5, nn_7, nn_8, na0, na2, na3, na4, na5, na6, uf_ne, uf_eq, ur_eq, ur_ne, true_or, or_true, not_true_eq_false, not_false_eq_true, true_implies, false_implies, implies_true, e10, e01, reduceIte, Option.isSome_none, Option.isSome_some, Bool.false_eq_true, bi_t, bi_f, e8]) (by simp (disch := (first | assumption | omega)) only [true_and, and_true, zr_u, zi_u, zI_u, Option.some.injEq, exists_eq_left', nn_tn, nn_add, nn_s, nn_2, nn_5, nn_7, nn_8, na0, na2, na3, na4, na5, na6, uf_ne, uf_eq, ur_eq, ur_ne, true_or, or_true, not_true_eq_false, not_false_eq_true, true_implies, false_implies, implies_true, e10, e01, reduceIte, Option.isSome_none, Option.isSome_some, Bool.false_eq_true, bi_t, bi_f, e8]; exact hB.1) (r2.same (by simp (disch := (first | assumption | omega)) only [true_and, and_true, zr_u, zi_u, zI_u, Option.some.injEq, exists_eq_left', nn_tn, nn_add, nn_s, nn_2, nn_5, nn_7, nn_8, na0, na2, na3, na4, na5, na6, uf_ne, uf_eq, ur_eq, ur_ne, true_or, or_true, not_true_eq_false, not_false_eq_true, true_implies, false_implies, implies_true, e10, e01, reduceIte, Option.isSome_none, Option.isSome_some, Bool.false_eq_true, bi_t, bi_f]) (by simp (disch := (first | assumption | omega)) only [true_and, and_true, zr_u, zi_u, zI_u, Option.some.injEq, exists_eq_left', nn_tn, nn_add, nn_s, nn_2, nn_5, nn_7, nn_8, na0, na2, na3, na4, na5, na6, uf_ne, uf_eq, ur_eq, ur_ne, true_or, or_true, not_true_eq_false, not_false_eq_true, true_implies, false_implies, implies_true, e10, e01, reduceIte, Option.isSome_none, Option.isSome_some, Bool.false_eq_true, bi_t, bi_f]))) (Or.inr ⟨by simp (disch := (first | assumption | omega)) only [true_and, and_true, zr_u, zi_u, zI_u, Option.some.injEq, exists_eq_left', nn_tn, nn_add, nn_s, nn_2, nn_5, nn_7, nn_8, na0, na2, na3, na4, na5, na6, uf_ne, uf_eq, ur_eq, ur_ne, true_or, or_true, not_true_eq_false, not_false_eq_true, true_implies, false_implies, implies_true, e10, e01, reduceIte, Option.isSome_none, Option.isSome_some, Bool.false_eq_true, bi_t, bi_f, e9], ?_⟩)
        have := mpu_ph_lt (F := F) (q := q) (w := w) hq (Or.inr ⟨v, x, ho, hx, hne⟩)
        rw [ho] at this; exact this
theorem s_forks {f : zf} {ρ : zo} (hC : zC ρ) {p b : Nat} {e : mE} {w : mV} {Q : Int32 → zS → Prop} (hp : zp_ p) (hb : b < 24) (he : eC f p b e) (hw : hV f (23 + 6 * b) w) (h : ∀ r, (r = 0 ∧ (e.1 = 2 → ∃ c, mop w e.2.1 = some c) ∨ r = 1 ∧ e.1 = 2 ∧ mop w e.2.1 = none) → Q r (f, ρ)) : P_F_forks 201 7 p (nn b) (f, ρ) Q := by
  obtain ⟨g1, g2, g3, g4, g5⟩ := he
  have hv := zv_e hb
  unfold P_F_forks P_F_forks_31 P_F_forks_32 P_G_ofEnd
  simp (disch := (first | assumption | omega)) only [true_and, and_true, zr_u, zi_u, zI_u, Option.some.injEq, exists_eq_left', nn_tn, nn_add, nn_s, nn_2, nn_5, nn_7, nn_8, na0, na2, na3, na4, na5, na6, uf_ne, uf_eq, ur_eq, ur_ne, true_or, or_true, not_true_eq_false, not_false_eq_true, true_implies, false_implies, implies_true, e10, e01, reduceIte, Option.isSome_none, Option.isSome_some, Bool.false_eq_true, bi_t, bi_f, ko_p, rc_p7 hC, ka_p6, g1, nn_e2, ko_7, rc_7_3 hC, ka_11, rc_e hC, ko_v, show (160 : Int32) = nn 160 from rfl]
  refine ⟨fun q => h 0 (Or.inl ⟨rfl, fun z => absurd z q⟩), fun q => ?_⟩
  refine s_knows hC hv hp (by omega) hw (g3 q) ?_
  cases ho : mop w e.2.1 with
  | none => simp (disch := (first | assumption | omega)) only [true_and, and_true, zr_u, zi_u, zI_u, Option.some.injEq, exists_eq_left', nn_tn, nn_add, nn_s, nn_2, nn_5, nn_7, nn_8, na0, na2, na3, na4, na5, na6, uf_ne, uf_eq, ur_eq, ur_ne, true_or, or_true, not_true_eq_false, not_false_eq_true, true_implies, false_implies, implies_true, e10, e01, reduceIte, Option.isSome_none, Option.isSome_some, Bool.false_eq_true, bi_t, bi_f]
            exact h 1 (Or.inr ⟨rfl, q, ho⟩)
  | some c => simp (disch := (first | assumption | omega)) only [true_and, and_true, zr_u, zi_u, zI_u, Option.some.injEq, exists_eq_left', nn_tn, nn_add, nn_s, nn_2, nn_5, nn_7, nn_8, na0, na2, na3, na4, na5, na6, uf_ne, uf_eq, ur_eq, ur_ne, true_or, or_true, not_true_eq_false, not_false_eq_true, true_implies, false_implies, implies_true, e10, e01, reduceIte, Option.isSome_none, Option.isSome_some, Bool.false_eq_true, bi_t, bi_f]
              exact h 0 (Or.inl ⟨rfl, fun _ => ⟨c, ho⟩⟩)
theorem s_goal {f : zf} {ρ : zo} (hC : zC ρ) {p b k : Nat} {Q : Int32 → zS → Prop} (hp : zp_ p) (hb : b < 24) (hk : k < 2) (h : Q (f (p + 7) (2 * b + k)) (f, ρ)) : P_G_goal 201 p (nn b) (nn k) (f, ρ) Q := by
  unfold P_G_goal P_G_goalSlot
  simp (disch := (first | assumption | omega)) only [true_and, and_true, zr_u, zi_u, zI_u, Option.some.injEq, exists_eq_left', nn_tn, nn_add, nn_s, nn_2, nn_5, nn_7, nn_8, na0, na2, na3, na4, na5, na6, uf_ne, uf_eq, ur_eq, ur_ne, true_or, or_true, not_true_eq_false, not_false_eq_true, true_implies, false_implies, implies_true, e10, e01, reduceIte, Option.isSome_none, Option.isSome_some, Bool.false_eq_true, bi_t, bi_f, ko_p, rc_p8 hC, ka_p7]
  exact h
theorem s_goalFor {f : zf} {ρ : zo} (hC : zC ρ) {p b : Nat} {e : mE} {x : Int32} {Q : Int32 → zS → Prop} (hp : zp_ p) (hb : b < 24) (he : eC f p b e) (h0 : e.1 ≠ 0) (h : Q (nn (if e.1 = 2 ∧ x = 0 then e.2.2.2 else e.2.2.1)) (f, ρ)) : P_G_goalFor 201 p (nn b) x (f, ρ) Q := by
  obtain ⟨g1, g2, g3, g4, g5⟩ := he
  unfold P_G_goalFor P_G_goalFor_18 P_G_goalFor_19 P_G_goalFor_31
  simp (disch := (first | assumption | omega)) only [true_and, and_true, zr_u, zi_u, zI_u, Option.some.injEq, exists_eq_left', nn_tn, nn_add, nn_s, nn_2, nn_5, nn_7, nn_8, na0, na2, na3, na4, na5, na6, uf_ne, uf_eq, ur_eq, ur_ne, true_or, or_true, not_true_eq_false, not_false_eq_true, true_implies, false_implies, implies_true, e10, e01, reduceIte, Option.isSome_none, Option.isSome_some, Bool.false_eq_true, bi_t, bi_f, ko_p, rc_p7 hC, ka_p6, g1, nn_e2]
  have one : ¬ (e.1 = 2 ∧ x = 0) → P_G_goal 201 p (nn b) 0 (f, ρ) Q := fun q => by
    refine s_goal (k := 0) hC hp hb (by decide) ?_
    rw [if_neg q] at h
    show Q (f (p + 7) (2 * b)) (f, ρ)
    rw [g4 h0]; exact h
  refine ⟨fun q => one (fun z => q z.1), fun q => ⟨fun q' => one (fun z => q' z.2), fun q' => ?_⟩⟩
  refine s_goal (k := 1) hC hp hb (by decide) ?_
  rw [if_pos ⟨q, q'⟩] at h
  rw [g5 q]; exact h
theorem s_onlyGoal {f : zf} {ρ : zo} (hC : zC ρ) {p b : Nat} {e : mE} {w : mV} {Q : Int32 → zS → Prop} (hp : zp_ p) (hK : sK f p) (hb : b < 24) (he : eC f p b e) (hw : hV f (23 + 6 * b) w) (h0 : e.1 ≠ 0) (h2 : e.1 = 2 → ∃ c, mop w e.2.1 = some c) (h : ∀ q, msu e w = [q] → (q = e.2.2.1 ∨ e.1 = 2 ∧ q = e.2.2.2) → Q (nn q) (f, ρ)) : P_F_onlyGoal 201 7 p (nn b) (f, ρ) Q := by
  have hv := zv_e hb
  have he' := he
  obtain ⟨g1, g2, g3, g4, g5⟩ := he
  unfold P_F_onlyGoal P_G_ofEnd
  simp (disch := (first | assumption | omega)) only [true_and, and_true, zr_u, zi_u, zI_u, Option.some.injEq, exists_eq_left', nn_tn, nn_add, nn_s, nn_2, nn_5, nn_7, nn_8, na0, na2, na3, na4, na5, na6, uf_ne, uf_eq, ur_eq, ur_ne, true_or, or_true, not_true_eq_false, not_false_eq_true, true_implies, false_implies, implies_true, e10, e01, reduceIte, Option.isSome_none, Option.isSome_some, Bool.false_eq_true, bi_t, bi_f, ko_7, rc_7_3 hC, ka_11, rc_e hC, ko_v, show (160 : Int32) = nn 160 from rfl]
  refine s_numberOf hC hv hp (by omega) hw hK (fun x hx => ?_)
  simp (disch := (first | assumption | omega)) only [true_and, and_true, zr_u, zi_u, zI_u, Option.some.injEq, exists_eq_left', nn_tn, nn_add, nn_s, nn_2, nn_5, nn_7, nn_8, na0, na2, na3, na4, na5, na6, uf_ne, uf_eq, ur_eq, ur_ne, true_or, or_true, not_true_eq_false, not_false_eq_true, true_implies, false_implies, implies_true, e10, e01, reduceIte, Option.isSome_none, Option.isSome_some, Bool.false_eq_true, bi_t, bi_f, ko_p]
  refine s_goalFor hC hp hb he' h0 ?_
  by_cases e2 : e.1 = 2
  · obtain ⟨c, hc⟩ := h2 e2
    have ex := hx _ _ (g3 e2) hc
    subst ex
    refine h _ ?_ ?_
    · unfold msu
      rw [if_neg h0, if_neg (by omega), hc]
      simp only [e2, true_and]
      split <;> rfl
    · by_cases z : x = 0
      · rw [if_pos ⟨e2, z⟩]; exact Or.inr ⟨e2, rfl⟩
      · rw [if_neg (fun y => z y.2)]; exact Or.inl rfl
  · rw [if_neg (fun z => e2 z.1)]
    refine h _ ?_ (Or.inl rfl)
    unfold msu
    rw [if_neg h0, if_pos (by omega)]
/-- rows that finding facts may change -/
def frF (f f' : zf) : Prop := ∀ a, a ≠ 8 → a ≠ 9 → (a < 20 ∨ 164 ≤ a) → f' a = f a
theorem frF.rfl' (f : zf) : frF f f := fun _ _ _ _ => rfl
theorem frF.trans {f g h : zf} (a : frF f g) (b : frF g h) : frF f h := fun k h1 h2 h3 => by rw [b k h1 h2 h3, a k h1 h2 h3]
theorem pC.F {f f' : zf} {p : Nat} {G : mG} (hp : zp_ p) (h : pC f p G) (a : frF f f') : pC f' p G := h.same (fun i hi => by
  unfold zp_ at hp
  exact a _ (by omega) (by omega) (by omega))
/-- stale marks: what has changed is marked; where nothing is told anew, nothing changes -/
def stl (f f' : zf) (F F' : mF) : Prop := (∀ j, j < 24 → f' 9 j = f 9 j ∨ (f' 9 j = 1 ∧ F' j ≠ none)) ∧ (∀ j, F' j ≠ F j → f' 9 j = 1) ∧ (mph F 24 < mph F' 24 ∨ F' = F ∧ f' 9 = f 9)
theorem stl.one {f f' : zf} {F : mF} {q : Nat} {z : mV} (h : mpu F q z = F ∧ f' 9 = f 9 ∨ f' 9 = ur (f 9) q 1 ∧ mph F 24 < mph (mpu F q z) 24) : stl f f' F (mpu F q z) := by
  rcases h with ⟨h1, h2⟩ | ⟨h1, h2⟩
  · exact ⟨fun j _ => Or.inl (by rw [h2]), fun j hj => absurd (by rw [h1]) hj, Or.inr ⟨h1, h2⟩⟩
  · refine ⟨fun j _ => ?_, fun j hj => ?_, Or.inl h2⟩
    · by_cases e : j = q
      · subst e
        refine Or.inr ⟨by rw [h1, ur_eq], ?_⟩
        unfold mpu; rw [if_pos rfl]; exact fun h => by cases h
      · exact Or.inl (by rw [h1, ur_ne _ e])
    · by_cases e : j = q
      · subst e; rw [h1, ur_eq]
      · exact absurd (by unfold mpu; rw [if_neg e]) hj
theorem stl.trans {f g h : zf} {F G H : mF} (a : stl f g F G) (b : stl g h G H) (gr : mlF G H) (l1 : mph F 24 ≤ mph G 24) (l2 : mph G 24 ≤ mph H 24) (hG : ∀ j, 24 ≤ j → G j = F j ∧ H j = F j) : stl f h F H := by
  refine ⟨fun j hj => ?_, fun j hj => ?_, ?_⟩
  · rcases b.1 j hj with q | q
    · rcases a.1 j hj with r | r
      · exact Or.inl (by rw [q, r])
      · refine Or.inr ⟨by rw [q]; exact r.1, ?_⟩
        cases hv : G j with
        | none => exact absurd hv r.2
        | some v =>
          obtain ⟨u, hu, -⟩ := gr j v hv
          rw [hu]; exact fun z => by cases z
    · exact Or.inr q
  · by_cases e : H j = G j
    · have h1 : G j ≠ F j := by rw [← e]; exact hj
      have h2 := a.2.1 j h1
      by_cases hj' : j < 24
      · rcases b.1 j hj' with q | q
        · rw [q]; exact h2
        · exact q.1
      · exact absurd (hG j (by omega)).1 h1
    · exact b.2.1 j e
  · rcases a.2.2 with q | q
    · exact Or.inl (by omega)
    · rcases b.2.2 with r | r
      · exact Or.inl (by omega)
      · exact Or.inr ⟨by rw [r.1, q.1], by rw [r.2, q.2]⟩
theorem stl.rfl' (f : zf) (F : mF) : stl f f F F := ⟨fun _ _ => Or.inl rfl, fun _ h => absurd rfl h, Or.inr ⟨rfl, rfl⟩⟩
theorem mjs_ge {w : mV} : ∀ (qs : List Nat) (F : mF), (∀ q, q ∈ qs → q < 24) → ∀ j, 24 ≤ j → mjs F w qs j = F j
  | [], _, _, _, _ => rfl
  | q :: r, F, h, j, hj => by
    have h1 := h q List.mem_cons_self
    rw [mjs, mjs_ge r _ (fun x hx => h x (List.mem_cons_of_mem _ hx)) j hj]
    unfold mpu; rw [if_neg (by omega)]
theorem s_flowThrough {f : zf} {ρ : zo} (hC : zC ρ) {p b : Nat} {G : mG} {F : mF} {v : mV} {Q : zS → Prop} (hp : zp_ p) (hG : gG G) (hb : b < G.1) (hP : pC f p G) (hF : rC f F) (hv : F b = some v) (h : ∀ f', frF f f' → (∀ j, j < 24 → j ≠ b → f' (23 + 6 * j + 1) = f (23 + 6 * j + 1) ∧ f' (23 + 6 * j + 2) = f (23 + 6 * j + 2)) → rC f' (mstp G F b) → hV f' (23 + 6 * b) (mfb G b v) → stl f f' F (mstp G F b) → Q (f', ρ)) : P_F_flowThrough 201 7 p (nn b) (f, ρ) Q := by
  have hn := hG.2.1
  have hb24 : b < 24 := by omega
  have hvb := zv_b hb24
  have hve := zv_e hb24
  have hp' := hp
  unfold zp_ at hp'
  have hl := hG.f_le (b := b + 1) (by omega)
  have hmono := hG.2.2.2.2.2.1 b hb
  obtain ⟨k1, k2, k3⟩ := hG.2.2.2.2.2.2 b hb
  have hBb := hF.1 b hb24
  rw [hv] at hBb
  have key : ∀ (m k : Nat) (f' : zf), G.2.2.1 b + k + m = G.2.2.1 (b + 1) → fr2 f f' (23 + 6 * b + 1) (23 + 6 * b + 2) → hV f' (23 + 6 * b) (mfr G.2.2.2.1 (G.2.2.1 b) k v) → P_F_flowThrough_25 201 Q (m + 1) 7 p (nn b) (23 + 6 * b) (nn (G.2.2.1 b + k)) (f', ρ) := by
    intro m
    induction m with
    | zero =>
      intro k f' hk h1 h2
      have hP' : pC f' p G := hP.same (fun i hi => h1 _ (by omega) (by omega))
      have hF' : rC f' F := hF.same (h1 _ (by omega) (by omega)) (fun j hj => ⟨h1 _ (by omega) (by omega), h1 _ (by omega) (by omega)⟩)
      have he := hP'.2.2.2.2.1 b hb
      have he' := he
      obtain ⟨g1, g2, g3, g4, g5⟩ := he
      have ew : mfr G.2.2.2.1 (G.2.2.1 b) k v = mfb G b v := by
        unfold mfb; rw [show G.2.2.1 (b + 1) - G.2.2.1 b = k by omega]
      rw [ew] at h2
      have es : mstp G F b = mjs F (mfb G b v) (msu (G.2.2.2.2 b) (mfb G b v)) := by unfold mstp; rw [hv]
      unfold P_F_flowThrough_25 P_F_flowThrough_106
      simp (disch := (first | assumption | omega)) only [true_and, and_true, zr_u, zi_u, zI_u, Option.some.injEq, exists_eq_left', nn_tn, nn_add, nn_s, nn_2, nn_5, nn_7, nn_8, na0, na2, na3, na4, na5, na6, uf_ne, uf_eq, ur_eq, ur_ne, true_or, or_true, not_true_eq_false, not_false_eq_true, true_implies, false_implies, implies_true, e10, e01, reduceIte, Option.isSome_none, Option.isSome_some, Bool.false_eq_true, bi_t, bi_f, ko_p, rc_p2 hC, ka_p1, hP'.2.2.1 (b + 1) (by omega), rc_p7 hC, ka_p6, g1, nn_e0, ko_7]
      simp (disch := omega) only [nn_le]
      refine ⟨fun _ => ⟨fun q0 => ?_, fun q0 => ?_⟩, fun q => absurd (by omega) q⟩
      · have g41 := k2 q0
        refine s_forks hC hp hb24 he' h2 (fun r hr => ?_)
        have fin : ∀ (f1 : zf) (q1 : Nat) (q2 : Nat), q1 < 24 → q2 < 24 → (∀ a, a ≠ 8 → a ≠ 9 → a ≠ 20 + 6 * q1 + 1 → a ≠ 20 + 6 * q1 + 2 → a ≠ 20 + 6 * q2 + 1 → a ≠ 20 + 6 * q2 + 2 → f1 a = f' a) → rC f1 (mstp G F b) → stl f' f1 F (mstp G F b) → Q (f1, ρ) := by
          intro f1 q1 q2 l1 l2 z1 z2 z3
          refine h f1 (fun a y1 y2 y3 => ?_) (fun j hj hne => ⟨?_, ?_⟩) z2 (h2.same ?_ ?_) ?_
          · rw [z1 a y1 y2 (by omega) (by omega) (by omega) (by omega), h1 a (by omega) (by omega)]
          · rw [z1 _ (by omega) (by omega) (by omega) (by omega) (by omega) (by omega), h1 _ (by omega) (by omega)]
          · rw [z1 _ (by omega) (by omega) (by omega) (by omega) (by omega) (by omega), h1 _ (by omega) (by omega)]
          · exact z1 _ (by omega) (by omega) (by omega) (by omega) (by omega) (by omega)
          · exact z1 _ (by omega) (by omega) (by omega) (by omega) (by omega) (by omega)
          · have e9 : f' 9 = f 9 := h1 _ (by omega) (by omega)
            unfold stl at z3 ⊢
            rw [e9] at z3; exact z3
        rcases hr with ⟨hr, hr2⟩ | ⟨hr, hr2, hr3⟩
        · subst hr
          simp (disch := (first | assumption | omega)) only [true_and, and_true, zr_u, zi_u, zI_u, Option.some.injEq, exists_eq_left', nn_tn, nn_add, nn_s, nn_2, nn_5, nn_7, nn_8, na0, na2, na3, na4, na5, na6, uf_ne, uf_eq, ur_eq, ur_ne, true_or, or_true, not_true_eq_false, not_false_eq_true, true_implies, false_implies, implies_true, e10, e01, reduceIte, Option.isSome_none, Option.isSome_some, Bool.false_eq_true, bi_t, bi_f]
          refine s_onlyGoal hC hp hP'.2.2.2.2.2 hb24 he' h2 q0 hr2 (fun q hq hq2 => ?_)
          have lq : q < 24 := by
            rcases hq2 with e | ⟨e, e'⟩
            · omega
            · have := k3 e; omega
          have e1 : mstp G F b = mpu F q (mjo (F q) (mfb G b v)) := by rw [es, hq]; rfl
          refine s_comeTo hC lq hve (by omega) hF' h2 (fun f1 a1 a2 a3 => ?_)
          refine fin f1 q q lq lq (fun a y1 y2 y3 y4 _ _ => a1 a y1 y2 y3 y4) ?_ ?_
          · rw [e1]; exact a2
          · rw [e1]; exact stl.one a3
        · subst hr
          simp (disch := (first | assumption | omega)) only [true_and, and_true, zr_u, zi_u, zI_u, Option.some.injEq, exists_eq_left', nn_tn, nn_add, nn_s, nn_2, nn_5, nn_7, nn_8, na0, na2, na3, na4, na5, na6, uf_ne, uf_eq, ur_eq, ur_ne, true_or, or_true, not_true_eq_false, not_false_eq_true, true_implies, false_implies, implies_true, e10, e01, reduceIte, Option.isSome_none, Option.isSome_some, Bool.false_eq_true, bi_t, bi_f]
          have g42 := k3 hr2
          refine s_goal (k := 0) hC hp hb24 (by decide) ?_
          rw [show f' (p + 7) (2 * b + 0) = nn (G.2.2.2.2 b).2.2.1 from g4 q0]
          have e1 : mstp G F b = mpu (mpu F (G.2.2.2.2 b).2.2.1 (mjo (F (G.2.2.2.2 b).2.2.1) (mfb G b v))) (G.2.2.2.2 b).2.2.2 (mjo (mpu F (G.2.2.2.2 b).2.2.1 (mjo (F (G.2.2.2.2 b).2.2.1) (mfb G b v)) (G.2.2.2.2 b).2.2.2) (mfb G b v)) := by
            rw [es]; unfold msu; rw [if_neg q0, if_neg (by omega), hr3]; rfl
          refine s_comeTo hC (by omega) hve (by omega) hF' h2 (fun f1 a1 a2 a3 => ?_)
          refine s_goal (k := 1) hC hp hb24 (by decide) ?_
          have e7 : f1 (p + 7) = f' (p + 7) := a1 _ (by omega) (by omega) (by omega) (by omega)
          rw [e7, g5 hr2]
          have h2' : hV f1 (23 + 6 * b) (mfb G b v) := h2.same (a1 _ (by omega) (by omega) (by omega) (by omega)) (a1 _ (by omega) (by omega) (by omega) (by omega))
          refine s_comeTo hC (by omega) hve (by omega) a2 h2' (fun f2 b1 b2 b3 => ?_)
          refine fin f2 (G.2.2.2.2 b).2.2.1 (G.2.2.2.2 b).2.2.2 (by omega) (by omega) (fun a y1 y2 y3 y4 y5 y6 => by rw [b1 a y1 y2 y5 y6, a1 a y1 y2 y3 y4]) ?_ ?_
          · rw [e1]; exact b2
          · rw [e1]
            refine (stl.one a3).trans (stl.one b3) (mpu_grow _ _ _) (mpu_ph (by omega)) (mpu_ph (by omega)) (fun j hj => ⟨?_, ?_⟩)
            · unfold mpu; rw [if_neg (by omega)]
            · show mpu (mpu F _ _) _ _ j = F j
              unfold mpu; rw [if_neg (by omega), if_neg (by omega)]
      · have hm : mstp G F b = F := by rw [es]; unfold msu; rw [if_pos q0]; rfl
        refine h f' (fun a y1 y2 y3 => h1 a (by omega) (by omega)) (fun j hj hne => ⟨h1 _ (by omega) (by omega), h1 _ (by omega) (by omega)⟩) ?_ h2 ?_
        · rw [hm]; exact hF'
        · have e9 : f' 9 = f 9 := h1 _ (by omega) (by omega)
          rw [hm]; unfold stl; rw [e9]; exact stl.rfl' f F
    | succ m ih =>
      intro k f' hk h1 h2
      have hP' : pC f' p G := hP.same (fun i hi => h1 _ (by omega) (by omega))
      unfold P_F_flowThrough_25
      simp (disch := (first | assumption | omega)) only [true_and, and_true, zr_u, zi_u, zI_u, Option.some.injEq, exists_eq_left', nn_tn, nn_add, nn_s, nn_2, nn_5, nn_7, nn_8, na0, na2, na3, na4, na5, na6, uf_ne, uf_eq, ur_eq, ur_ne, true_or, or_true, not_true_eq_false, not_false_eq_true, true_implies, false_implies, implies_true, e10, e01, reduceIte, Option.isSome_none, Option.isSome_some, Bool.false_eq_true, bi_t, bi_f, ko_p, rc_p2 hC, ka_p1, hP'.2.2.1 (b + 1) (by omega), ko_v]
      simp (disch := omega) only [nn_le]
      refine ⟨fun q => absurd q (by omega), fun _ => ?_⟩
      have hns : G.2.2.1 b + k < G.2.1 := by
        have q1 : ∀ j c, c + j = G.1 → G.2.2.1 c ≤ G.2.2.1 G.1 := by
          intro j
          induction j with
          | zero => intro c e; rw [Nat.add_zero] at e; rw [e]; exact Nat.le_refl _
          | succ j ij =>
            intro c e
            have := hG.2.2.2.2.2.1 c (by omega)
            have := ij (c + 1) (by omega)
            omega
        have := q1 (G.1 - (b + 1)) (b + 1) (by omega)
        have := hG.2.2.2.2.1
        omega
      refine s_assign hC hve hp hP'.2.2.2.2.2 (hP'.2.2.2.1 _ hns) h2 (fun f'' r1 r2 => ?_)
      exact ih (k + 1) f'' (by omega) (fun a z1 z2 => by rw [r1 a z1 z2, h1 a z1 z2]) r2
  unfold P_F_flowThrough
  simp (disch := (first | assumption | omega)) only [true_and, and_true, zr_u, zi_u, zI_u, Option.some.injEq, exists_eq_left', nn_tn, nn_add, nn_s, nn_2, nn_5, nn_7, nn_8, na0, na2, na3, na4, na5, na6, uf_ne, uf_eq, ur_eq, ur_ne, true_or, or_true, not_true_eq_false, not_false_eq_true, true_implies, false_implies, implies_true, e10, e01, reduceIte, Option.isSome_none, Option.isSome_some, Bool.false_eq_true, bi_t, bi_f, ko_7, rc_7_3 hC, rc_7_2 hC, ka_10, ka_11, rc_b hC, rc_e hC, ko_v]
  refine s_become hC hve hvb (by omega) hBb.2 (fun f' r1 r2 => ?_)
  have hP' : pC f' p G := hP.same (fun i hi => r1 _ (by omega) (by omega))
  simp (disch := (first | assumption | omega)) only [true_and, and_true, zr_u, zi_u, zI_u, Option.some.injEq, exists_eq_left', nn_tn, nn_add, nn_s, nn_2, nn_5, nn_7, nn_8, na0, na2, na3, na4, na5, na6, uf_ne, uf_eq, ur_eq, ur_ne, true_or, or_true, not_true_eq_false, not_false_eq_true, true_implies, false_implies, implies_true, e10, e01, reduceIte, Option.isSome_none, Option.isSome_some, Bool.false_eq_true, bi_t, bi_f, ko_p, rc_p2 hC, ka_p1, hP'.2.2.1 b (by omega)]
  exact ⟨_, key (G.2.2.1 (b + 1) - G.2.2.1 b) 0 f' (by omega) r1 r2⟩
