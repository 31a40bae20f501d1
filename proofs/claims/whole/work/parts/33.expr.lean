/-! Expressions of the class by what is known of variables. -/
def oC (a b : Nat → Int32) (s : Nat) (o : mO) : Prop := match o with
  | .inl x => a s = 1 ∧ b s = nn x ∧ x < 8
  | .inr c => a s = 0 ∧ b s = c
/-- every operand's place is in order, used or not -/
def sK (f : zf) (p : Nat) : Prop := ∀ s, s < 184 → (f (p + 4) s = 0 ∨ f (p + 4) s = 1 ∧ ∃ x, x < 8 ∧ f (p + 5) s = nn x)
/-- statement s of the program at p is t -/
def tC (f : zf) (p s : Nat) (t : mT) : Prop := s < 80 ∧ f (p + 2) s = nn t.1 ∧ t.1 < 8 ∧ f (p + 3) s = nn t.2.1 ∧ t.2.1 < 128 ∧ (t.2.1 ≠ 0 → oC (f (p + 4)) (f (p + 5)) (2 * s) t.2.2.1) ∧ (t.2.1 ≠ 0 → t.2.1 ≠ 1 → oC (f (p + 4)) (f (p + 5)) (2 * s + 1) t.2.2.2)
theorem s_knows {f : zf} {ρ : zo} (hC : zC ρ) {c p s : Nat} {v : mV} {o : mO} {Q : Int32 → zS → Prop} (hc : zv_ c) (hp : zp_ p) (hs : s < 184) (hv : hV f c v) (ho : oC (f (p + 4)) (f (p + 5)) s o) (h : Q (bi (mop v o).isSome) (f, ρ)) : P_V_knows 201 c p (nn s) (f, ρ) Q := by
  unfold P_V_knows P_V_knows_23 P_V_knows_28
  simp (disch := (first | assumption | omega)) only [true_and, and_true, zr_u, zi_u, zI_u, Option.some.injEq, exists_eq_left', nn_tn, nn_add, nn_s, nn_2, nn_5, nn_7, nn_8, na0, na2, na3, na4, na5, na6, uf_ne, uf_eq, ur_eq, ur_ne, true_or, or_true, not_true_eq_false, not_false_eq_true, true_implies, false_implies, implies_true, e10, e01, reduceIte, Option.isSome_none, Option.isSome_some, Bool.false_eq_true, bi_t, bi_f, ko_v, ko_p, rc_v0 hC, rc_p5 hC, rc_p6 hC, ka_p4, ka_p5]
  cases o with
  | inl x =>
    obtain ⟨h1, h2, h3⟩ := ho
    simp (disch := (first | assumption | omega)) only [true_and, and_true, zr_u, zi_u, zI_u, Option.some.injEq, exists_eq_left', nn_tn, nn_add, nn_s, nn_2, nn_5, nn_7, nn_8, na0, na2, na3, na4, na5, na6, uf_ne, uf_eq, ur_eq, ur_ne, true_or, or_true, not_true_eq_false, not_false_eq_true, true_implies, false_implies, implies_true, e10, e01, reduceIte, Option.isSome_none, Option.isSome_some, Bool.false_eq_true, bi_t, bi_f, h1, h2, ka_v1]
    have hk := hv.k h3
    refine ⟨fun q => ?_, fun q => ?_⟩
    · rw [if_neg q] at hk
      have e : mop v (.inl x) = none := hk
      rw [e] at h; exact h
    · rw [if_pos q] at hk
      have e : mop v (.inl x) = some (f (c + 2) x) := hk
      rw [e] at h; exact h
  | inr y =>
    obtain ⟨h1, h2⟩ := ho
    simp (disch := (first | assumption | omega)) only [true_and, and_true, zr_u, zi_u, zI_u, Option.some.injEq, exists_eq_left', nn_tn, nn_add, nn_s, nn_2, nn_5, nn_7, nn_8, na0, na2, na3, na4, na5, na6, uf_ne, uf_eq, ur_eq, ur_ne, true_or, or_true, not_true_eq_false, not_false_eq_true, true_implies, false_implies, implies_true, e10, e01, reduceIte, Option.isSome_none, Option.isSome_some, Bool.false_eq_true, bi_t, bi_f, h1]
    exact h
theorem s_numberOf {f : zf} {ρ : zo} (hC : zC ρ) {c p s : Nat} {v : mV} {Q : Int32 → zS → Prop} (hc : zv_ c) (hp : zp_ p) (hs : s < 184) (hv : hV f c v) (hK : sK f p) (h : ∀ x, (∀ o y, oC (f (p + 4)) (f (p + 5)) s o → mop v o = some y → x = y) → Q x (f, ρ)) : P_V_numberOf 201 c p (nn s) (f, ρ) Q := by
  unfold P_V_numberOf P_V_numberOf_26
  simp (disch := (first | assumption | omega)) only [true_and, and_true, zr_u, zi_u, zI_u, Option.some.injEq, exists_eq_left', nn_tn, nn_add, nn_s, nn_2, nn_5, nn_7, nn_8, na0, na2, na3, na4, na5, na6, uf_ne, uf_eq, ur_eq, ur_ne, true_or, or_true, not_true_eq_false, not_false_eq_true, true_implies, false_implies, implies_true, e10, e01, reduceIte, Option.isSome_none, Option.isSome_some, Bool.false_eq_true, bi_t, bi_f, ko_v, ko_p, rc_v1 hC, rc_p5 hC, rc_p6 hC, ka_p4, ka_p5]
  refine ⟨fun q => h _ (fun o y ho hy => ?_), fun q => ?_⟩
  · cases o with
    | inl x => rw [ho.1] at q; exact absurd q (by decide)
    | inr z => rw [ho.2]; cases hy; rfl
  · rcases hK s hs with h0 | ⟨-, x, hx, h1⟩
    · exact absurd h0 q
    · simp (disch := (first | assumption | omega)) only [true_and, and_true, zr_u, zi_u, zI_u, Option.some.injEq, exists_eq_left', nn_tn, nn_add, nn_s, nn_2, nn_5, nn_7, nn_8, na0, na2, na3, na4, na5, na6, uf_ne, uf_eq, ur_eq, ur_ne, true_or, or_true, not_true_eq_false, not_false_eq_true, true_implies, false_implies, implies_true, e10, e01, reduceIte, Option.isSome_none, Option.isSome_some, Bool.false_eq_true, bi_t, bi_f, h1, ka_v2]
      refine h _ (fun o y ho hy => ?_)
      cases o with
      | inl z =>
        have e : x = z := by
          have := ho.2.1
          rw [h1, nn_eq (by omega) (by have := ho.2.2; omega)] at this; exact this
        subst e
        have hk := hv.k hx
        have hy' : v x = some y := hy
        rw [hk] at hy'
        split at hy'
        · exact Option.some.inj hy'
        · cases hy'
      | inr z => exact absurd ho.1 q
theorem s_reckon {σ : zS} {how : Nat} {x y : Int32} {Q : Int32 → zS → Prop} (hh : how < 128) (h : Q (mrk how x y) σ) : P_C_reckon 201 (nn how) x y σ Q := by
  unfold P_C_reckon P_C_reckon_115 P_C_reckon_127 P_C_reckon_150 P_C_reckon_161
  simp only [show (37 : Int32) = nn 37 from rfl, show (38 : Int32) = nn 38 from rfl, show (42 : Int32) = nn 42 from rfl, show (43 : Int32) = nn 43 from rfl, show (45 : Int32) = nn 45 from rfl, show (47 : Int32) = nn 47 from rfl, show (60 : Int32) = nn 60 from rfl, show (61 : Int32) = nn 61 from rfl, show (94 : Int32) = nn 94 from rfl, show (124 : Int32) = nn 124 from rfl]
  simp (disch := omega) only [nn_eq]
  unfold mrk at h
  refine ⟨?_, ?_, ?_, ?_, ?_, ?_, ?_, ?_, ?_, ?_, ?_⟩
  · intro e; subst e; simp only [reduceIte, Nat.reduceEqDiff] at h
    exact ⟨fun q => ⟨q, by rw [if_neg q] at h; exact h⟩, fun q => by rw [if_pos q] at h; exact h⟩
  · intro e; subst e; simpa using h
  · intro e; subst e; simpa using h
  · intro e; subst e; simpa using h
  · intro e; subst e; simpa using h
  · intro e; subst e; simp only [reduceIte, Nat.reduceEqDiff] at h
    exact ⟨fun q => ⟨q, by rw [if_neg q] at h; exact h⟩, fun q => by rw [if_pos q] at h; exact h⟩
  · intro e; subst e; simp only [reduceIte, Nat.reduceEqDiff] at h
    exact ⟨fun q => by rw [if_neg (Int32.not_lt.mpr q)] at h; exact h, fun q => by rw [if_pos (Int32.not_le.mp q)] at h; exact h⟩
  · intro e; subst e; simp only [reduceIte, Nat.reduceEqDiff] at h
    exact ⟨fun q => by rw [if_neg q] at h; exact h, fun q => by rw [if_pos q] at h; exact h⟩
  · intro e; subst e; simpa using h
  · intro e; subst e; simpa using h
  · intro a b c d e g i j k l
    simp only [a, b, c, d, e, g, i, j, k, l, if_false] at h
    exact h
theorem s_settles {f : zf} {ρ : zo} (hC : zC ρ) {c p s : Nat} {v : mV} {t : mT} {Q : Int32 → zS → Prop} (hc : zv_ c) (hp : zp_ p) (hK : sK f p) (ht : tC f p s t) (hv : hV f c v) (h : Q (bi (mev t v).isSome) (f, ρ)) : P_V_settles 201 c p (nn s) (f, ρ) Q := by
  obtain ⟨h1, h2, h3, h4, h5, h6, h7⟩ := ht
  unfold P_V_settles P_G_left P_G_right
  simp (disch := (first | assumption | omega)) only [true_and, and_true, zr_u, zi_u, zI_u, Option.some.injEq, exists_eq_left', nn_tn, nn_add, nn_s, nn_2, nn_5, nn_7, nn_8, na0, na2, na3, na4, na5, na6, uf_ne, uf_eq, ur_eq, ur_ne, true_or, or_true, not_true_eq_false, not_false_eq_true, true_implies, false_implies, implies_true, e10, e01, reduceIte, Option.isSome_none, Option.isSome_some, Bool.false_eq_true, bi_t, bi_f, ko_v, ko_p, rc_p4 hC, ka_p3, h4, nn_e0, nn_e1]
  refine ⟨fun q0 => ?_, fun q0 => ?_⟩
  · refine s_knows hC hc hp (by omega) hv (h6 q0) ?_
    refine ⟨fun q1 => ?_, fun q1 => ?_⟩
    · refine s_knows hC hc hp (by omega) hv (h7 q0 q1) ?_
      unfold mev at h
      simp only [q0, q1, if_false] at h
      simp only [show (42 : Int32) = nn 42 from rfl, show (38 : Int32) = nn 38 from rfl]
      simp (disch := omega) only [nn_eq]
      unfold P_V_settles_70 P_V_settles_86 P_V_settles_84 P_V_settles_85
      cases hl : mop v t.2.2.1 with
      | none =>
        cases hr : mop v t.2.2.2 with
        | none =>
          rw [hl, hr] at h
          simp (disch := (first | assumption | omega)) only [true_and, and_true, zr_u, zi_u, zI_u, Option.some.injEq, exists_eq_left', nn_tn, nn_add, nn_s, nn_2, nn_5, nn_7, nn_8, na0, na2, na3, na4, na5, na6, uf_ne, uf_eq, ur_eq, ur_ne, true_or, or_true, not_true_eq_false, not_false_eq_true, true_implies, false_implies, implies_true, e10, e01, reduceIte, Option.isSome_none, Option.isSome_some, Bool.false_eq_true, bi_t, bi_f] at h ⊢
          exact h
        | some y =>
          rw [hl, hr] at h
          simp (disch := (first | assumption | omega)) only [true_and, and_true, zr_u, zi_u, zI_u, Option.some.injEq, exists_eq_left', nn_tn, nn_add, nn_s, nn_2, nn_5, nn_7, nn_8, na0, na2, na3, na4, na5, na6, uf_ne, uf_eq, ur_eq, ur_ne, true_or, or_true, not_true_eq_false, not_false_eq_true, true_implies, false_implies, implies_true, e10, e01, reduceIte, Option.isSome_none, Option.isSome_some, Bool.false_eq_true, bi_t, bi_f] at h ⊢
          have go : (t.2.1 = 42 ∨ t.2.1 = 38) → P_V_settles_100 201 Q c p (nn (2 * s + 1)) (f, ρ) := by
            intro hm
            unfold P_V_settles_100 P_V_settles_111
            refine ⟨by rw [ko_v hc]; trivial, ?_⟩
            refine s_numberOf hC hc hp (by omega) hv hK (fun x hx => ?_)
            have e := hx _ _ (h7 q0 q1) hr
            subst e
            simp (disch := (first | assumption | omega)) only [true_and, and_true, zr_u, zi_u, zI_u, Option.some.injEq, exists_eq_left', nn_tn, nn_add, nn_s, nn_2, nn_5, nn_7, nn_8, na0, na2, na3, na4, na5, na6, uf_ne, uf_eq, ur_eq, ur_ne, true_or, or_true, not_true_eq_false, not_false_eq_true, true_implies, false_implies, implies_true, e10, e01, reduceIte, Option.isSome_none, Option.isSome_some, Bool.false_eq_true, bi_t, bi_f]
            refine ⟨fun q => ?_, fun q => ?_⟩
            · rw [show (if x = 0 ∧ (t.2.1 = 42 ∨ t.2.1 = 38) then some (0 : Int32) else none) = none from if_neg (fun hq => q hq.1)] at h; exact h
            · rw [show (if x = 0 ∧ (t.2.1 = 42 ∨ t.2.1 = 38) then some (0 : Int32) else none) = some 0 from if_pos ⟨q, hm⟩] at h; exact h
          refine ⟨fun hm => go (Or.inl hm), fun hm => ⟨fun hm' => go (Or.inr hm'), fun hm' => ?_⟩⟩
          rw [show (if y = 0 ∧ (t.2.1 = 42 ∨ t.2.1 = 38) then some (0 : Int32) else none) = none from if_neg (fun hq => hq.2.elim hm hm')] at h; exact h
      | some x =>
        cases hr : mop v t.2.2.2 with
        | none =>
          rw [hl, hr] at h
          simp (disch := (first | assumption | omega)) only [true_and, and_true, zr_u, zi_u, zI_u, Option.some.injEq, exists_eq_left', nn_tn, nn_add, nn_s, nn_2, nn_5, nn_7, nn_8, na0, na2, na3, na4, na5, na6, uf_ne, uf_eq, ur_eq, ur_ne, true_or, or_true, not_true_eq_false, not_false_eq_true, true_implies, false_implies, implies_true, e10, e01, reduceIte, Option.isSome_none, Option.isSome_some, Bool.false_eq_true, bi_t, bi_f] at h ⊢
          have go : (t.2.1 = 42 ∨ t.2.1 = 38) → P_V_settles_100 201 Q c p (nn (2 * s)) (f, ρ) := by
            intro hm
            unfold P_V_settles_100 P_V_settles_111
            refine ⟨by rw [ko_v hc]; trivial, ?_⟩
            refine s_numberOf hC hc hp (by omega) hv hK (fun x hx => ?_)
            have e := hx _ _ (h6 q0) hl
            subst e
            simp (disch := (first | assumption | omega)) only [true_and, and_true, zr_u, zi_u, zI_u, Option.some.injEq, exists_eq_left', nn_tn, nn_add, nn_s, nn_2, nn_5, nn_7, nn_8, na0, na2, na3, na4, na5, na6, uf_ne, uf_eq, ur_eq, ur_ne, true_or, or_true, not_true_eq_false, not_false_eq_true, true_implies, false_implies, implies_true, e10, e01, reduceIte, Option.isSome_none, Option.isSome_some, Bool.false_eq_true, bi_t, bi_f]
            refine ⟨fun q => ?_, fun q => ?_⟩
            · rw [show (if x = 0 ∧ (t.2.1 = 42 ∨ t.2.1 = 38) then some (0 : Int32) else none) = none from if_neg (fun hq => q hq.1)] at h; exact h
            · rw [show (if x = 0 ∧ (t.2.1 = 42 ∨ t.2.1 = 38) then some (0 : Int32) else none) = some 0 from if_pos ⟨q, hm⟩] at h; exact h
          refine ⟨fun hm => go (Or.inl hm), fun hm => ⟨fun hm' => go (Or.inr hm'), fun hm' => ?_⟩⟩
          rw [show (if x = 0 ∧ (t.2.1 = 42 ∨ t.2.1 = 38) then some (0 : Int32) else none) = none from if_neg (fun hq => hq.2.elim hm hm')] at h; exact h
        | some y =>
          rw [hl, hr] at h
          simp (disch := (first | assumption | omega)) only [true_and, and_true, zr_u, zi_u, zI_u, Option.some.injEq, exists_eq_left', nn_tn, nn_add, nn_s, nn_2, nn_5, nn_7, nn_8, na0, na2, na3, na4, na5, na6, uf_ne, uf_eq, ur_eq, ur_ne, true_or, or_true, not_true_eq_false, not_false_eq_true, true_implies, false_implies, implies_true, e10, e01, reduceIte, Option.isSome_none, Option.isSome_some, Bool.false_eq_true, bi_t, bi_f] at h ⊢
          exact h
    · unfold mev at h
      simp only [q1, if_true] at h
      simp only [show ¬ (1 = 0) by decide, if_false] at h
      refine ⟨?_, h⟩
      cases (mop v t.2.2.1).isSome
      · exact Or.inl rfl
      · exact Or.inr rfl
  · unfold mev at h
    rw [if_pos q0] at h; exact h
theorem s_settled {f : zf} {ρ : zo} (hC : zC ρ) {c p s : Nat} {v : mV} {t : mT} {r : Int32} {Q : Int32 → zS → Prop} (hc : zv_ c) (hp : zp_ p) (hK : sK f p) (ht : tC f p s t) (hv : hV f c v) (he : mev t v = some r) (h : Q r (f, ρ)) : P_V_settled 201 c p (nn s) (f, ρ) Q := by
  obtain ⟨h1, h2, h3, h4, h5, h6, h7⟩ := ht
  unfold P_V_settled P_G_left P_G_right
  simp (disch := (first | assumption | omega)) only [true_and, and_true, zr_u, zi_u, zI_u, Option.some.injEq, exists_eq_left', nn_tn, nn_add, nn_s, nn_2, nn_5, nn_7, nn_8, na0, na2, na3, na4, na5, na6, uf_ne, uf_eq, ur_eq, ur_ne, true_or, or_true, not_true_eq_false, not_false_eq_true, true_implies, false_implies, implies_true, e10, e01, reduceIte, Option.isSome_none, Option.isSome_some, Bool.false_eq_true, bi_t, bi_f, ko_v]
  refine s_numberOf hC hc hp (by omega) hv hK (fun x hx => ?_)
  refine s_numberOf hC hc hp (by omega) hv hK (fun y hy => ?_)
  simp (disch := (first | assumption | omega)) only [true_and, and_true, zr_u, zi_u, zI_u, Option.some.injEq, exists_eq_left', nn_tn, nn_add, nn_s, nn_2, nn_5, nn_7, nn_8, na0, na2, na3, na4, na5, na6, uf_ne, uf_eq, ur_eq, ur_ne, true_or, or_true, not_true_eq_false, not_false_eq_true, true_implies, false_implies, implies_true, e10, e01, reduceIte, Option.isSome_none, Option.isSome_some, Bool.false_eq_true, bi_t, bi_f, ko_p, rc_p4 hC, ka_p3, h4]
  refine s_reckon (by omega) ?_
  unfold mev at he
  by_cases q0 : t.2.1 = 0
  · rw [if_pos q0] at he; cases he
  rw [if_neg q0] at he
  by_cases q1 : t.2.1 = 1
  · rw [if_pos q1] at he
    rw [q1]
    have e := hx _ _ (h6 q0) he
    subst e
    exact h
  rw [if_neg q1] at he
  cases hl : mop v t.2.2.1 with
  | none =>
    cases hr : mop v t.2.2.2 with
    | none => rw [hl, hr] at he; cases he
    | some b =>
      rw [hl, hr] at he
      simp only at he
      split at he
      · next hq =>
        cases he
        have e := hy _ _ (h7 q0 q1) hr
        rw [e, hq.1, mrk_z2 x hq.2]; exact h
      · cases he
  | some a =>
    have ea := hx _ _ (h6 q0) hl
    cases hr : mop v t.2.2.2 with
    | none =>
      rw [hl, hr] at he
      simp only at he
      split at he
      · next hq =>
        cases he
        rw [ea, hq.1, mrk_z1 y hq.2]; exact h
      · cases he
    | some b =>
      rw [hl, hr] at he
      have eb := hy _ _ (h7 q0 q1) hr
      simp only [Option.some.injEq] at he
      rw [ea, eb, he]; exact h
theorem s_assign {f : zf} {ρ : zo} (hC : zC ρ) {c p s : Nat} {v : mV} {t : mT} {Q : zS → Prop} (hc : zv_ c) (hp : zp_ p) (hK : sK f p) (ht : tC f p s t) (hv : hV f c v) (h : ∀ f', fr2 f f' (c + 1) (c + 2) → hV f' c (mst v t) → Q (f', ρ)) : P_V_assign 201 c p (nn s) (f, ρ) Q := by
  have hc' := hc
  unfold zv_ at hc'
  have ht' := ht
  obtain ⟨h1, h2, h3, h4, h5, h6, h7⟩ := ht
  unfold P_V_assign P_V_assign_32 P_V_assign_47
  simp (disch := (first | assumption | omega)) only [true_and, and_true, zr_u, zi_u, zI_u, Option.some.injEq, exists_eq_left', nn_tn, nn_add, nn_s, nn_2, nn_5, nn_7, nn_8, na0, na2, na3, na4, na5, na6, uf_ne, uf_eq, ur_eq, ur_ne, true_or, or_true, not_true_eq_false, not_false_eq_true, true_implies, false_implies, implies_true, e10, e01, reduceIte, Option.isSome_none, Option.isSome_some, Bool.false_eq_true, bi_t, bi_f, ko_v, ko_p, rc_p3 hC, ka_p2, h2]
  refine s_settles hC hc hp hK ht' hv ?_
  have fin : ∀ f', fr2 f f' (c + 1) (c + 2) → (∀ x, x < 8 → (f' (c + 1) x = 0 ∨ f' (c + 1) x = 1)) → (∀ x, x < 8 → x ≠ t.1 → f' (c + 1) x = f (c + 1) x ∧ f' (c + 2) x = f (c + 2) x) → ((if f' (c + 1) t.1 = 0 then some (f' (c + 2) t.1) else none) = mev t v) → Q (f', ρ) := by
    intro f' q1 q2 q3 q4
    refine h f' q1 ⟨q2, funext fun x => ?_⟩
    unfold av mst mas
    by_cases hx : x < 8
    · rw [if_pos hx]
      by_cases e : x = t.1
      · subst e; rw [if_pos rfl]; exact q4
      · rw [if_neg e, (q3 x hx e).1, (q3 x hx e).2, hv.k hx]
    · rw [if_neg hx, if_neg (by omega), ← hv.2]; exact (if_neg hx).symm
  cases he : mev t v with
  | none =>
    simp (disch := (first | assumption | omega)) only [true_and, and_true, zr_u, zi_u, zI_u, Option.some.injEq, exists_eq_left', nn_tn, nn_add, nn_s, nn_2, nn_5, nn_7, nn_8, na0, na2, na3, na4, na5, na6, uf_ne, uf_eq, ur_eq, ur_ne, true_or, or_true, not_true_eq_false, not_false_eq_true, true_implies, false_implies, implies_true, e10, e01, reduceIte, Option.isSome_none, Option.isSome_some, Bool.false_eq_true, bi_t, bi_f, rc_v0 hC, ka_v1, nar_b1]
    refine fin _ (fun a qa qb => ?_) (fun x hx => ?_) (fun x hx hne => ?_) ?_
    · simp (disch := (first | assumption | omega)) only [true_and, and_true, zr_u, zi_u, zI_u, Option.some.injEq, exists_eq_left', nn_tn, nn_add, nn_s, nn_2, nn_5, nn_7, nn_8, na0, na2, na3, na4, na5, na6, uf_ne, uf_eq, ur_eq, ur_ne, true_or, or_true, not_true_eq_false, not_false_eq_true, true_implies, false_implies, implies_true, e10, e01, reduceIte, Option.isSome_none, Option.isSome_some, Bool.false_eq_true, bi_t, bi_f]
    · by_cases e : x = t.1
      · subst e; simp (disch := (first | assumption | omega)) only [true_and, and_true, zr_u, zi_u, zI_u, Option.some.injEq, exists_eq_left', nn_tn, nn_add, nn_s, nn_2, nn_5, nn_7, nn_8, na0, na2, na3, na4, na5, na6, uf_ne, uf_eq, ur_eq, ur_ne, true_or, or_true, not_true_eq_false, not_false_eq_true, true_implies, false_implies, implies_true, e10, e01, reduceIte, Option.isSome_none, Option.isSome_some, Bool.false_eq_true, bi_t, bi_f]
      · simp (disch := (first | assumption | omega)) only [true_and, and_true, zr_u, zi_u, zI_u, Option.some.injEq, exists_eq_left', nn_tn, nn_add, nn_s, nn_2, nn_5, nn_7, nn_8, na0, na2, na3, na4, na5, na6, uf_ne, uf_eq, ur_eq, ur_ne, true_or, or_true, not_true_eq_false, not_false_eq_true, true_implies, false_implies, implies_true, e10, e01, reduceIte, Option.isSome_none, Option.isSome_some, Bool.false_eq_true, bi_t, bi_f]
        exact hv.1 x hx
    · simp (disch := (first | assumption | omega)) only [true_and, and_true, zr_u, zi_u, zI_u, Option.some.injEq, exists_eq_left', nn_tn, nn_add, nn_s, nn_2, nn_5, nn_7, nn_8, na0, na2, na3, na4, na5, na6, uf_ne, uf_eq, ur_eq, ur_ne, true_or, or_true, not_true_eq_false, not_false_eq_true, true_implies, false_implies, implies_true, e10, e01, reduceIte, Option.isSome_none, Option.isSome_some, Bool.false_eq_true, bi_t, bi_f]
    · simp (disch := (first | assumption | omega)) only [true_and, and_true, zr_u, zi_u, zI_u, Option.some.injEq, exists_eq_left', nn_tn, nn_add, nn_s, nn_2, nn_5, nn_7, nn_8, na0, na2, na3, na4, na5, na6, uf_ne, uf_eq, ur_eq, ur_ne, true_or, or_true, not_true_eq_false, not_false_eq_true, true_implies, false_implies, implies_true, e10, e01, reduceIte, Option.isSome_none, Option.isSome_some, Bool.false_eq_true, bi_t, bi_f, he]
  | some r =>
    simp (disch := (first | assumption | omega)) only [true_and, and_true, zr_u, zi_u, zI_u, Option.some.injEq, exists_eq_left', nn_tn, nn_add, nn_s, nn_2, nn_5, nn_7, nn_8, na0, na2, na3, na4, na5, na6, uf_ne, uf_eq, ur_eq, ur_ne, true_or, or_true, not_true_eq_false, not_false_eq_true, true_implies, false_implies, implies_true, e10, e01, reduceIte, Option.isSome_none, Option.isSome_some, Bool.false_eq_true, bi_t, bi_f, rc_v1 hC]
    refine s_settled hC hc hp hK ht' hv he ?_
    simp (disch := (first | assumption | omega)) only [true_and, and_true, zr_u, zi_u, zI_u, Option.some.injEq, exists_eq_left', nn_tn, nn_add, nn_s, nn_2, nn_5, nn_7, nn_8, na0, na2, na3, na4, na5, na6, uf_ne, uf_eq, ur_eq, ur_ne, true_or, or_true, not_true_eq_false, not_false_eq_true, true_implies, false_implies, implies_true, e10, e01, reduceIte, Option.isSome_none, Option.isSome_some, Bool.false_eq_true, bi_t, bi_f, rc_v0 hC, ka_v1, ka_v2, nar_b0]
    refine fin _ (fun a qa qb => ?_) (fun x hx => ?_) (fun x hx hne => ?_) ?_
    · simp (disch := (first | assumption | omega)) only [true_and, and_true, zr_u, zi_u, zI_u, Option.some.injEq, exists_eq_left', nn_tn, nn_add, nn_s, nn_2, nn_5, nn_7, nn_8, na0, na2, na3, na4, na5, na6, uf_ne, uf_eq, ur_eq, ur_ne, true_or, or_true, not_true_eq_false, not_false_eq_true, true_implies, false_implies, implies_true, e10, e01, reduceIte, Option.isSome_none, Option.isSome_some, Bool.false_eq_true, bi_t, bi_f]
    · by_cases e : x = t.1
      · subst e; simp (disch := (first | assumption | omega)) only [true_and, and_true, zr_u, zi_u, zI_u, Option.some.injEq, exists_eq_left', nn_tn, nn_add, nn_s, nn_2, nn_5, nn_7, nn_8, na0, na2, na3, na4, na5, na6, uf_ne, uf_eq, ur_eq, ur_ne, true_or, or_true, not_true_eq_false, not_false_eq_true, true_implies, false_implies, implies_true, e10, e01, reduceIte, Option.isSome_none, Option.isSome_some, Bool.false_eq_true, bi_t, bi_f]
      · simp (disch := (first | assumption | omega)) only [true_and, and_true, zr_u, zi_u, zI_u, Option.some.injEq, exists_eq_left', nn_tn, nn_add, nn_s, nn_2, nn_5, nn_7, nn_8, na0, na2, na3, na4, na5, na6, uf_ne, uf_eq, ur_eq, ur_ne, true_or, or_true, not_true_eq_false, not_false_eq_true, true_implies, false_implies, implies_true, e10, e01, reduceIte, Option.isSome_none, Option.isSome_some, Bool.false_eq_true, bi_t, bi_f]
        exact hv.1 x hx
    · simp (disch := (first | assumption | omega)) only [true_and, and_true, zr_u, zi_u, zI_u, Option.some.injEq, exists_eq_left', nn_tn, nn_add, nn_s, nn_2, nn_5, nn_7, nn_8, na0, na2, na3, na4, na5, na6, uf_ne, uf_eq, ur_eq, ur_ne, true_or, or_true, not_true_eq_false, not_false_eq_true, true_implies, false_implies, implies_true, e10, e01, reduceIte, Option.isSome_none, Option.isSome_some, Bool.false_eq_true, bi_t, bi_f]
    · simp (disch := (first | assumption | omega)) only [true_and, and_true, zr_u, zi_u, zI_u, Option.some.injEq, exists_eq_left', nn_tn, nn_add, nn_s, nn_2, nn_5, nn_7, nn_8, na0, na2, na3, na4, na5, na6, uf_ne, uf_eq, ur_eq, ur_ne, true_or, or_true, not_true_eq_false, not_false_eq_true, true_implies, false_implies, implies_true, e10, e01, reduceIte, Option.isSome_none, Option.isSome_some, Bool.false_eq_true, bi_t, bi_f, he]
