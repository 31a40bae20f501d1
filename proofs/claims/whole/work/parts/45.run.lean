/-! Running. -/
def ro (vals : Nat → Int32) : mO → Int32
  | .inl x => vals x
  | .inr c => c
def rv (vals : Nat → Int32) (t : mT) : Int32 := if t.2.1 = 1 then ro vals t.2.2.1 else mrk t.2.1 (ro vals t.2.2.1) (ro vals t.2.2.2)
def rgo (e : mE) (vals : Nat → Int32) : Nat := if e.1 = 2 ∧ ro vals e.2.1 = 0 then e.2.2.2 else e.2.2.1
/-- a run of n steps, d of them done: how many in all, if it ends; the values; how many inputs were asked for -/
def mrn (G : mG) (I : Nat → Int32) (cnt : Nat) : Nat → Nat → Nat → Nat → (Nat → Int32) → Nat → Option Nat × (Nat → Int32) × Nat
  | 0, _, _, _, vals, a => (none, vals, a)
  | n + 1, d, b, s, vals, a =>
    if s < G.2.2.1 (b + 1) then
      (if (G.2.2.2.1 s).2.1 = 0 then mrn G I cnt n (d + 1) b (s + 1) (ur vals (G.2.2.2.1 s).1 (if a < cnt then I a else 0)) (a + 1)
       else mrn G I cnt n (d + 1) b (s + 1) (ur vals (G.2.2.2.1 s).1 (rv vals (G.2.2.2.1 s))) a)
    else if (G.2.2.2.2 b).1 = 0 then (some (d + 1), vals, a)
    else mrn G I cnt n (d + 1) (rgo (G.2.2.2.2 b) vals) (G.2.2.1 (rgo (G.2.2.2.2 b) vals)) vals a
def ron (o : Option Nat) : Int32 := match o with
  | none => -1
  | some d => nn d
theorem rgo_lt {G : mG} (hG : gG G) {b : Nat} (hb : b < G.1) (h0 : (G.2.2.2.2 b).1 ≠ 0) (vals : Nat → Int32) : rgo (G.2.2.2.2 b) vals < G.1 := by
  obtain ⟨k1, k2, k3⟩ := hG.2.2.2.2.2.2 b hb
  unfold rgo
  split
  · next h => exact k3 h.1
  · exact k2 h0
/-- of row 164 the place 3, and row 166, may differ -/
def frE (f f' : zf) : Prop := (∀ a, a ≠ 164 → a ≠ 166 → f' a = f a) ∧ ∀ j, j ≠ 3 → f' 164 j = f 164 j
theorem frE.rfl' (f : zf) : frE f f := ⟨fun _ _ _ => rfl, fun _ _ => rfl⟩
theorem frE.trans {f g h : zf} (a : frE f g) (b : frE g h) : frE f h := ⟨fun k h1 h2 => by rw [b.1 k h1 h2, a.1 k h1 h2], fun j h1 => by rw [b.2 j h1, a.2 j h1]⟩
theorem pC.E {f f' : zf} {p : Nat} {G : mG} (hp : zp_ p) (h : pC f p G) (a : frE f f') : pC f' p G := h.same (fun i hi => by
  unfold zp_ at hp
  exact a.1 _ (by omega) (by omega))
theorem s_Xop {f : zf} {ρ : zo} (hC : zC ρ) {p s : Nat} {vals : Nat → Int32} {Q : Int32 → zS → Prop} (hp : zp_ p) (hs : s < 184) (hK : sK f p) (hv : ∀ x, x < 8 → f 166 x = vals x) (h : ∀ y, (∀ o, oC (f (p + 4)) (f (p + 5)) s o → y = ro vals o) → Q y (f, ρ)) : P_X_operand 201 164 p (nn s) (f, ρ) Q := by
  unfold P_X_operand P_X_operand_26
  simp (disch := (first | assumption | omega)) only [true_and, and_true, zr_u, zi_u, zI_u, Option.some.injEq, exists_eq_left', nn_tn, nn_add, nn_s, nn_2, nn_5, nn_7, nn_8, na0, na2, na3, na4, na5, na6, uf_ne, uf_eq, ur_eq, ur_ne, true_or, or_true, not_true_eq_false, not_false_eq_true, true_implies, false_implies, implies_true, e10, e01, reduceIte, Option.isSome_none, Option.isSome_some, Bool.false_eq_true, bi_t, bi_f, ko_p, rc_p5 hC, rc_p6 hC, ka_p4, ka_p5, ko_164, rc_164_2 hC]
  refine ⟨fun q => h _ (fun o ho => ?_), fun q => ?_⟩
  · cases o with
    | inl x => rw [ho.1] at q; exact absurd q (by decide)
    | inr z => exact ho.2
  · rcases hK s hs with h0 | ⟨-, x, hx, h1⟩
    · exact absurd h0 q
    · simp (disch := (first | assumption | omega)) only [true_and, and_true, zr_u, zi_u, zI_u, Option.some.injEq, exists_eq_left', nn_tn, nn_add, nn_s, nn_2, nn_5, nn_7, nn_8, na0, na2, na3, na4, na5, na6, uf_ne, uf_eq, ur_eq, ur_ne, true_or, or_true, not_true_eq_false, not_false_eq_true, true_implies, false_implies, implies_true, e10, e01, reduceIte, Option.isSome_none, Option.isSome_some, Bool.false_eq_true, bi_t, bi_f, h1, ka_166]
      rw [hv x hx]
      refine h _ (fun o ho => ?_)
      cases o with
      | inl z =>
        have e : x = z := by
          have := ho.2.1
          rw [h1, nn_eq (by omega) (by have := ho.2.2; omega)] at this; exact this
        subst e; rfl
      | inr z => exact absurd ho.1 q
theorem s_exec {f : zf} {ρ : zo} (hC : zC ρ) {p N cnt : Nat} {G : mG} {I : Nat → Int32} {Q : Int32 → zS → Prop} (hp : zp_ p) (hG : gG G) (hP : pC f p G) (hN : N ≤ 20000) (hc : f 164 1 = nn cnt) (hc32 : cnt ≤ 32) (hI : ∀ i, i < cnt → f 165 i = I i) (h : ∀ f', frE f f' → (∀ x, x < 8 → f' 166 x = (mrn G I cnt N 0 0 0 (fun _ => 0) 0).2.1 x) → f' 164 3 = nn (mrn G I cnt N 0 0 0 (fun _ => 0) 0).2.2 → (mrn G I cnt N 0 0 0 (fun _ => 0) 0).2.2 ≤ 20000 → Q (ron (mrn G I cnt N 0 0 0 (fun _ => 0) 0).1) (f', ρ)) : P_X_execute 201 164 p (nn N) (f, ρ) Q := by
  have hn := hG.2.1
  have hp' := hp
  unfold zp_ at hp'
  have k39 : ∀ (m d b s a : Nat) (vals : Nat → Int32) (f' : zf), d + m = N → a ≤ d → b < G.1 → G.2.2.1 b ≤ s → s ≤ G.2.2.1 (b + 1) → frE f f' → (∀ x, x < 8 → f' 166 x = vals x) → f' 164 3 = nn a → (∀ f', frE f f' → (∀ x, x < 8 → f' 166 x = (mrn G I cnt m d b s vals a).2.1 x) → f' 164 3 = nn (mrn G I cnt m d b s vals a).2.2 → (mrn G I cnt m d b s vals a).2.2 ≤ 20000 → Q (ron (mrn G I cnt m d b s vals a).1) (f', ρ)) → P_X_execute_39 201 Q (m + 1) 164 p (nn N) (nn b) (nn s) (nn (d + 1)) (f', ρ) := by
    intro m
    induction m with
    | zero =>
      intro d b s a vals f' hd had hb hs1 hs2 h1 h2 h3 h4
      unfold P_X_execute_39
      simp (disch := omega) only [nn_lt]
      exact ⟨fun _ => h4 f' h1 h2 h3 (by show a ≤ 20000; omega), fun z => absurd (by omega) z⟩
    | succ m ih =>
      intro d b s a vals f' hd had hb hs1 hs2 h1 h2 h3 h4
      have hP' := hP.E hp h1
      have hl80 := hG.f_le (b := b + 1) (by omega)
      have he := hP'.2.2.2.2.1 b hb
      have he' := he
      obtain ⟨g1, g2, g3, g4, g5⟩ := he
      unfold P_X_execute_39 P_X_execute_118 P_G_ofEnd
      simp (disch := (first | assumption | omega)) only [true_and, and_true, zr_u, zi_u, zI_u, Option.some.injEq, exists_eq_left', nn_tn, nn_add, nn_s, nn_2, nn_5, nn_7, nn_8, na0, na2, na3, na4, na5, na6, uf_ne, uf_eq, ur_eq, ur_ne, true_or, or_true, not_true_eq_false, not_false_eq_true, true_implies, false_implies, implies_true, e10, e01, reduceIte, Option.isSome_none, Option.isSome_some, Bool.false_eq_true, bi_t, bi_f, ko_p, rc_p2 hC, ka_p1, hP'.2.2.1 (b + 1) (by omega), rc_p7 hC, ka_p6, g1, nn_e0, ko_164, show (160 : Int32) = nn 160 from rfl, rc_164_2 hC, rc_p3 hC]
      simp (disch := omega) only [nn_lt, nn_le]
      refine ⟨fun z => absurd z (by omega), fun _ => ⟨fun q => ⟨fun q0 => ?_, fun q0 => ?_⟩, fun q => ?_⟩⟩
      · have em : mrn G I cnt (m + 1) d b s vals a = mrn G I cnt m (d + 1) (rgo (G.2.2.2.2 b) vals) (G.2.2.1 (rgo (G.2.2.2.2 b) vals)) vals a := by
          show (if s < G.2.2.1 (b + 1) then _ else _) = _
          rw [if_neg (by omega), if_neg q0]
        rw [em] at h4
        refine s_Xop hC hp (by omega) hP'.2.2.2.2.2 h2 (fun y hy => ?_)
        refine s_goalFor hC hp (by omega) he' q0 ?_
        have eg : (if (G.2.2.2.2 b).1 = 2 ∧ y = 0 then (G.2.2.2.2 b).2.2.2 else (G.2.2.2.2 b).2.2.1) = rgo (G.2.2.2.2 b) vals := by
          unfold rgo
          by_cases e2 : (G.2.2.2.2 b).1 = 2
          · rw [hy _ (g3 e2)]
          · rw [if_neg (fun z => e2 z.1), if_neg (fun z => e2 z.1)]
        rw [eg]
        have hr := rgo_lt hG hb q0 vals
        simp (disch := (first | assumption | omega)) only [true_and, and_true, zr_u, zi_u, zI_u, Option.some.injEq, exists_eq_left', nn_tn, nn_add, nn_s, nn_2, nn_5, nn_7, nn_8, na0, na2, na3, na4, na5, na6, uf_ne, uf_eq, ur_eq, ur_ne, true_or, or_true, not_true_eq_false, not_false_eq_true, true_implies, false_implies, implies_true, e10, e01, reduceIte, Option.isSome_none, Option.isSome_some, Bool.false_eq_true, bi_t, bi_f, rc_p2 hC, ka_p1, hP'.2.2.1 (rgo (G.2.2.2.2 b) vals) (by omega)]
        exact ih (d + 1) _ _ a vals f' (by omega) (by omega) hr (Nat.le_refl _) (hG.2.2.2.2.2.1 _ hr) h1 h2 h3 h4
      · have em : mrn G I cnt (m + 1) d b s vals a = (some (d + 1), vals, a) := by
          show (if s < G.2.2.1 (b + 1) then _ else _) = _
          rw [if_neg (by omega), if_pos q0]
        rw [em] at h4
        exact h4 f' h1 h2 h3 (by show a ≤ 20000; omega)
      · have hsn := hG.s_lt hb (s := s) (by omega)
        have ht := hP'.2.2.2.1 s hsn
        obtain ⟨c1, c2, c3, c4, c5, c6, c7⟩ := ht
        unfold P_X_valueOf P_G_left P_G_right
        simp (disch := (first | assumption | omega)) only [true_and, and_true, zr_u, zi_u, zI_u, Option.some.injEq, exists_eq_left', nn_tn, nn_add, nn_s, nn_2, nn_5, nn_7, nn_8, na0, na2, na3, na4, na5, na6, uf_ne, uf_eq, ur_eq, ur_ne, true_or, or_true, not_true_eq_false, not_false_eq_true, true_implies, false_implies, implies_true, e10, e01, reduceIte, Option.isSome_none, Option.isSome_some, Bool.false_eq_true, bi_t, bi_f, ka_p2, ko_p, rc_p4 hC, ka_p3, c4, c2, nn_e0, ko_164]
        refine ⟨fun q0 => ?_, fun q0 => ?_⟩
        · have em : mrn G I cnt (m + 1) d b s vals a = mrn G I cnt m (d + 1) b (s + 1) (ur vals (G.2.2.2.1 s).1 (rv vals (G.2.2.2.1 s))) a := by
            show (if s < G.2.2.1 (b + 1) then _ else _) = _
            rw [if_pos (by omega), if_neg q0]
          rw [em] at h4
          refine s_Xop hC hp (by omega) hP'.2.2.2.2.2 h2 (fun x hx => ?_)
          refine s_Xop hC hp (by omega) hP'.2.2.2.2.2 h2 (fun y hy => ?_)
          refine s_reckon (by omega) ?_
          have ev : mrk (G.2.2.2.1 s).2.1 x y = rv vals (G.2.2.2.1 s) := by
            unfold rv
            rw [hx _ (c6 q0)]
            by_cases q1 : (G.2.2.2.1 s).2.1 = 1
            · rw [if_pos q1, q1]; rfl
            · rw [if_neg q1, hy _ (c7 q0 q1)]
          rw [ev]
          simp (disch := (first | assumption | omega)) only [true_and, and_true, zr_u, zi_u, zI_u, Option.some.injEq, exists_eq_left', nn_tn, nn_add, nn_s, nn_2, nn_5, nn_7, nn_8, na0, na2, na3, na4, na5, na6, uf_ne, uf_eq, ur_eq, ur_ne, true_or, or_true, not_true_eq_false, not_false_eq_true, true_implies, false_implies, implies_true, e10, e01, reduceIte, Option.isSome_none, Option.isSome_some, Bool.false_eq_true, bi_t, bi_f, ka_166]
          refine ih (d + 1) b (s + 1) a _ _ (by omega) (by omega) hb (by omega) (by omega) (h1.trans ⟨fun k z1 z2 => ?_, fun j z1 => ?_⟩) (fun x' hx' => ?_) ?_ h4
          · simp (disch := (first | assumption | omega)) only [true_and, and_true, zr_u, zi_u, zI_u, Option.some.injEq, exists_eq_left', nn_tn, nn_add, nn_s, nn_2, nn_5, nn_7, nn_8, na0, na2, na3, na4, na5, na6, uf_ne, uf_eq, ur_eq, ur_ne, true_or, or_true, not_true_eq_false, not_false_eq_true, true_implies, false_implies, implies_true, e10, e01, reduceIte, Option.isSome_none, Option.isSome_some, Bool.false_eq_true, bi_t, bi_f]
          · simp (disch := (first | assumption | omega)) only [true_and, and_true, zr_u, zi_u, zI_u, Option.some.injEq, exists_eq_left', nn_tn, nn_add, nn_s, nn_2, nn_5, nn_7, nn_8, na0, na2, na3, na4, na5, na6, uf_ne, uf_eq, ur_eq, ur_ne, true_or, or_true, not_true_eq_false, not_false_eq_true, true_implies, false_implies, implies_true, e10, e01, reduceIte, Option.isSome_none, Option.isSome_some, Bool.false_eq_true, bi_t, bi_f]
          · by_cases e : x' = (G.2.2.2.1 s).1
            · subst e; simp (disch := (first | assumption | omega)) only [true_and, and_true, zr_u, zi_u, zI_u, Option.some.injEq, exists_eq_left', nn_tn, nn_add, nn_s, nn_2, nn_5, nn_7, nn_8, na0, na2, na3, na4, na5, na6, uf_ne, uf_eq, ur_eq, ur_ne, true_or, or_true, not_true_eq_false, not_false_eq_true, true_implies, false_implies, implies_true, e10, e01, reduceIte, Option.isSome_none, Option.isSome_some, Bool.false_eq_true, bi_t, bi_f]
            · simp (disch := (first | assumption | omega)) only [true_and, and_true, zr_u, zi_u, zI_u, Option.some.injEq, exists_eq_left', nn_tn, nn_add, nn_s, nn_2, nn_5, nn_7, nn_8, na0, na2, na3, na4, na5, na6, uf_ne, uf_eq, ur_eq, ur_ne, true_or, or_true, not_true_eq_false, not_false_eq_true, true_implies, false_implies, implies_true, e10, e01, reduceIte, Option.isSome_none, Option.isSome_some, Bool.false_eq_true, bi_t, bi_f]
              exact h2 x' hx'
          · simp (disch := (first | assumption | omega)) only [true_and, and_true, zr_u, zi_u, zI_u, Option.some.injEq, exists_eq_left', nn_tn, nn_add, nn_s, nn_2, nn_5, nn_7, nn_8, na0, na2, na3, na4, na5, na6, uf_ne, uf_eq, ur_eq, ur_ne, true_or, or_true, not_true_eq_false, not_false_eq_true, true_implies, false_implies, implies_true, e10, e01, reduceIte, Option.isSome_none, Option.isSome_some, Bool.false_eq_true, bi_t, bi_f]
            exact h3
        · have em : mrn G I cnt (m + 1) d b s vals a = mrn G I cnt m (d + 1) b (s + 1) (ur vals (G.2.2.2.1 s).1 (if a < cnt then I a else 0)) (a + 1) := by
            show (if s < G.2.2.1 (b + 1) then _ else _) = _
            rw [if_pos (by omega), if_pos q0]
          rw [em] at h4
          unfold P_X_nextInput P_X_nextInput_24
          have hc' : f' 164 1 = nn cnt := by rw [h1.2 1 (by decide)]; exact hc
          simp (disch := (first | assumption | omega)) only [true_and, and_true, zr_u, zi_u, zI_u, Option.some.injEq, exists_eq_left', nn_tn, nn_add, nn_s, nn_2, nn_5, nn_7, nn_8, na0, na2, na3, na4, na5, na6, uf_ne, uf_eq, ur_eq, ur_ne, true_or, or_true, not_true_eq_false, not_false_eq_true, true_implies, false_implies, implies_true, e10, e01, reduceIte, Option.isSome_none, Option.isSome_some, Bool.false_eq_true, bi_t, bi_f, ko_164, hc', h3, rc_164_0 hC]
          simp (disch := omega) only [nn_le]
          have go : ∀ y : Int32, y = (if a < cnt then I a else 0) → za 201 166 10 (nn (G.2.2.2.1 s).1) ∧ P_X_execute_39 201 Q (m + 1) 164 p (nn N) (nn b) (nn (s + 1)) (nn (d + 1 + 1)) (uf (uf f' 164 3 (nn (a + 1))) 166 (G.2.2.2.1 s).1 y, ρ) := by
            intro y hy
            rw [ka_166 c3, hy]
            refine ⟨trivial, ih (d + 1) b (s + 1) (a + 1) _ _ (by omega) (by omega) hb (by omega) (by omega) (h1.trans ⟨fun k z1 z2 => ?_, fun j z1 => ?_⟩) (fun x' hx' => ?_) ?_ h4⟩
            · simp (disch := (first | assumption | omega)) only [true_and, and_true, zr_u, zi_u, zI_u, Option.some.injEq, exists_eq_left', nn_tn, nn_add, nn_s, nn_2, nn_5, nn_7, nn_8, na0, na2, na3, na4, na5, na6, uf_ne, uf_eq, ur_eq, ur_ne, true_or, or_true, not_true_eq_false, not_false_eq_true, true_implies, false_implies, implies_true, e10, e01, reduceIte, Option.isSome_none, Option.isSome_some, Bool.false_eq_true, bi_t, bi_f]
            · simp (disch := (first | assumption | omega)) only [true_and, and_true, zr_u, zi_u, zI_u, Option.some.injEq, exists_eq_left', nn_tn, nn_add, nn_s, nn_2, nn_5, nn_7, nn_8, na0, na2, na3, na4, na5, na6, uf_ne, uf_eq, ur_eq, ur_ne, true_or, or_true, not_true_eq_false, not_false_eq_true, true_implies, false_implies, implies_true, e10, e01, reduceIte, Option.isSome_none, Option.isSome_some, Bool.false_eq_true, bi_t, bi_f]
            · by_cases e : x' = (G.2.2.2.1 s).1
              · subst e; simp (disch := (first | assumption | omega)) only [true_and, and_true, zr_u, zi_u, zI_u, Option.some.injEq, exists_eq_left', nn_tn, nn_add, nn_s, nn_2, nn_5, nn_7, nn_8, na0, na2, na3, na4, na5, na6, uf_ne, uf_eq, ur_eq, ur_ne, true_or, or_true, not_true_eq_false, not_false_eq_true, true_implies, false_implies, implies_true, e10, e01, reduceIte, Option.isSome_none, Option.isSome_some, Bool.false_eq_true, bi_t, bi_f]
              · simp (disch := (first | assumption | omega)) only [true_and, and_true, zr_u, zi_u, zI_u, Option.some.injEq, exists_eq_left', nn_tn, nn_add, nn_s, nn_2, nn_5, nn_7, nn_8, na0, na2, na3, na4, na5, na6, uf_ne, uf_eq, ur_eq, ur_ne, true_or, or_true, not_true_eq_false, not_false_eq_true, true_implies, false_implies, implies_true, e10, e01, reduceIte, Option.isSome_none, Option.isSome_some, Bool.false_eq_true, bi_t, bi_f]
                exact h2 x' hx'
            · simp (disch := (first | assumption | omega)) only [true_and, and_true, zr_u, zi_u, zI_u, Option.some.injEq, exists_eq_left', nn_tn, nn_add, nn_s, nn_2, nn_5, nn_7, nn_8, na0, na2, na3, na4, na5, na6, uf_ne, uf_eq, ur_eq, ur_ne, true_or, or_true, not_true_eq_false, not_false_eq_true, true_implies, false_implies, implies_true, e10, e01, reduceIte, Option.isSome_none, Option.isSome_some, Bool.false_eq_true, bi_t, bi_f]
          refine ⟨fun z => ?_, fun z => ?_⟩
          · exact go 0 (by rw [if_neg (by omega)])
          · have e5 : f' 165 a = I a := by rw [h1.1 165 (by decide) (by decide)]; exact hI a (by omega)
            simp (disch := (first | assumption | omega)) only [true_and, and_true, zr_u, zi_u, zI_u, Option.some.injEq, exists_eq_left', nn_tn, nn_add, nn_s, nn_2, nn_5, nn_7, nn_8, na0, na2, na3, na4, na5, na6, uf_ne, uf_eq, ur_eq, ur_ne, true_or, or_true, not_true_eq_false, not_false_eq_true, true_implies, false_implies, implies_true, e10, e01, reduceIte, Option.isSome_none, Option.isSome_some, Bool.false_eq_true, bi_t, bi_f, ka_165, e5]
            have := go (I a) (by rw [if_pos (by omega)])
            rw [ka_166 c3] at this ⊢
            exact this
  have k2 : ∀ (m k : Nat) (f' : zf), k + m = 8 → frE f f' → (∀ x, x < k → f' 166 x = 0) → P_X_execute_2 201 Q (m + 1) 164 p (nn N) (nn k) (f', ρ) := by
    intro m
    induction m with
    | zero =>
      intro k f' hk h1 h2
      have hP' := hP.E hp h1
      unfold P_X_execute_2
      rw [show (8 : Int32) ≤ nn k ↔ nn 8 ≤ nn k from Iff.rfl, nn_le (by omega) (by omega)]
      refine ⟨fun _ => ?_, fun z => absurd (by omega) z⟩
      rw [show (0 : Int32) = nn 0 from rfl]
      simp (disch := (first | assumption | omega)) only [true_and, and_true, zr_u, zi_u, zI_u, Option.some.injEq, exists_eq_left', nn_tn, nn_add, nn_s, nn_2, nn_5, nn_7, nn_8, na0, na2, na3, na4, na5, na6, uf_ne, uf_eq, ur_eq, ur_ne, true_or, or_true, not_true_eq_false, not_false_eq_true, true_implies, false_implies, implies_true, e10, e01, reduceIte, Option.isSome_none, Option.isSome_some, Bool.false_eq_true, bi_t, bi_f, ko_164, ko_p, rc_p2 hC, ka_p1, hP'.2.2.1 0 (by omega), hG.2.2.2.1]
      refine ⟨_, k39 N 0 0 0 0 (fun _ => 0) _ (by omega) (by omega) hG.1 (by rw [hG.2.2.2.1]; omega) (by omega) (h1.trans ⟨fun a z1 z2 => ?_, fun j z1 => ?_⟩) (fun x hx => ?_) ?_ h⟩
      · simp (disch := (first | assumption | omega)) only [true_and, and_true, zr_u, zi_u, zI_u, Option.some.injEq, exists_eq_left', nn_tn, nn_add, nn_s, nn_2, nn_5, nn_7, nn_8, na0, na2, na3, na4, na5, na6, uf_ne, uf_eq, ur_eq, ur_ne, true_or, or_true, not_true_eq_false, not_false_eq_true, true_implies, false_implies, implies_true, e10, e01, reduceIte, Option.isSome_none, Option.isSome_some, Bool.false_eq_true, bi_t, bi_f]
      · simp (disch := (first | assumption | omega)) only [true_and, and_true, zr_u, zi_u, zI_u, Option.some.injEq, exists_eq_left', nn_tn, nn_add, nn_s, nn_2, nn_5, nn_7, nn_8, na0, na2, na3, na4, na5, na6, uf_ne, uf_eq, ur_eq, ur_ne, true_or, or_true, not_true_eq_false, not_false_eq_true, true_implies, false_implies, implies_true, e10, e01, reduceIte, Option.isSome_none, Option.isSome_some, Bool.false_eq_true, bi_t, bi_f]
      · simp (disch := (first | assumption | omega)) only [true_and, and_true, zr_u, zi_u, zI_u, Option.some.injEq, exists_eq_left', nn_tn, nn_add, nn_s, nn_2, nn_5, nn_7, nn_8, na0, na2, na3, na4, na5, na6, uf_ne, uf_eq, ur_eq, ur_ne, true_or, or_true, not_true_eq_false, not_false_eq_true, true_implies, false_implies, implies_true, e10, e01, reduceIte, Option.isSome_none, Option.isSome_some, Bool.false_eq_true, bi_t, bi_f]
        exact h2 x (by omega)
      · simp (disch := (first | assumption | omega)) only [true_and, and_true, zr_u, zi_u, zI_u, Option.some.injEq, exists_eq_left', nn_tn, nn_add, nn_s, nn_2, nn_5, nn_7, nn_8, na0, na2, na3, na4, na5, na6, uf_ne, uf_eq, ur_eq, ur_ne, true_or, or_true, not_true_eq_false, not_false_eq_true, true_implies, false_implies, implies_true, e10, e01, reduceIte, Option.isSome_none, Option.isSome_some, Bool.false_eq_true, bi_t, bi_f]
    | succ m ih =>
      intro k f' hk h1 h2
      unfold P_X_execute_2
      rw [show (8 : Int32) ≤ nn k ↔ nn 8 ≤ nn k from Iff.rfl, nn_le (by omega) (by omega)]
      refine ⟨fun z => absurd z (by omega), fun _ => ?_⟩
      simp (disch := (first | assumption | omega)) only [true_and, and_true, zr_u, zi_u, zI_u, Option.some.injEq, exists_eq_left', nn_tn, nn_add, nn_s, nn_2, nn_5, nn_7, nn_8, na0, na2, na3, na4, na5, na6, uf_ne, uf_eq, ur_eq, ur_ne, true_or, or_true, not_true_eq_false, not_false_eq_true, true_implies, false_implies, implies_true, e10, e01, reduceIte, Option.isSome_none, Option.isSome_some, Bool.false_eq_true, bi_t, bi_f, ko_164, rc_164_2 hC, ka_166]
      refine ih (k + 1) _ (by omega) (h1.trans ⟨fun a z1 z2 => ?_, fun j z1 => ?_⟩) (fun x hx => ?_)
      · simp (disch := (first | assumption | omega)) only [true_and, and_true, zr_u, zi_u, zI_u, Option.some.injEq, exists_eq_left', nn_tn, nn_add, nn_s, nn_2, nn_5, nn_7, nn_8, na0, na2, na3, na4, na5, na6, uf_ne, uf_eq, ur_eq, ur_ne, true_or, or_true, not_true_eq_false, not_false_eq_true, true_implies, false_implies, implies_true, e10, e01, reduceIte, Option.isSome_none, Option.isSome_some, Bool.false_eq_true, bi_t, bi_f]
      · simp (disch := (first | assumption | omega)) only [true_and, and_true, zr_u, zi_u, zI_u, Option.some.injEq, exists_eq_left', nn_tn, nn_add, nn_s, nn_2, nn_5, nn_7, nn_8, na0, na2, na3, na4, na5, na6, uf_ne, uf_eq, ur_eq, ur_ne, true_or, or_true, not_true_eq_false, not_false_eq_true, true_implies, false_implies, implies_true, e10, e01, reduceIte, Option.isSome_none, Option.isSome_some, Bool.false_eq_true, bi_t, bi_f]
      · by_cases e : x = k
        · subst e; simp (disch := (first | assumption | omega)) only [true_and, and_true, zr_u, zi_u, zI_u, Option.some.injEq, exists_eq_left', nn_tn, nn_add, nn_s, nn_2, nn_5, nn_7, nn_8, na0, na2, na3, na4, na5, na6, uf_ne, uf_eq, ur_eq, ur_ne, true_or, or_true, not_true_eq_false, not_false_eq_true, true_implies, false_implies, implies_true, e10, e01, reduceIte, Option.isSome_none, Option.isSome_some, Bool.false_eq_true, bi_t, bi_f]
        · simp (disch := (first | assumption | omega)) only [true_and, and_true, zr_u, zi_u, zI_u, Option.some.injEq, exists_eq_left', nn_tn, nn_add, nn_s, nn_2, nn_5, nn_7, nn_8, na0, na2, na3, na4, na5, na6, uf_ne, uf_eq, ur_eq, ur_ne, true_or, or_true, not_true_eq_false, not_false_eq_true, true_implies, false_implies, implies_true, e10, e01, reduceIte, Option.isSome_none, Option.isSome_some, Bool.false_eq_true, bi_t, bi_f]
          exact h2 x (by omega)
  exact ⟨_, k2 8 0 f rfl (frE.rfl' f) (fun x hx => absurd hx (by omega))⟩
/-! The reference runs. -/
/-- of row 183 the places 0 and 32, and row 199, may differ -/
def frR (f f' : zf) : Prop := (∀ a, a ≠ 183 → a ≠ 199 → f' a = f a) ∧ ∀ j, j ≠ 0 → j ≠ 32 → f' 183 j = f 183 j
theorem frR.rfl' (f : zf) : frR f f := ⟨fun _ _ _ => rfl, fun _ _ _ => rfl⟩
theorem frR.trans {f g h : zf} (a : frR f g) (b : frR g h) : frR f h := ⟨fun k h1 h2 => by rw [b.1 k h1 h2, a.1 k h1 h2], fun j h1 h2 => by rw [b.2 j h1 h2, a.2 j h1 h2]⟩
theorem pM.R {f f' : zf} {G : mG} (h : pM f G) (a : frR f f') : pM f' G := h.same (a.2 _ (by decide) (by decide)) (a.2 _ (by decide) (by decide)) (a.1 _ (by decide) (by decide)) (a.1 _ (by decide) (by decide)) (a.1 _ (by decide) (by decide))
theorem kM.R {f f' : zf} {F : mF} (h : kM f F) (a : frR f f') : kM f' F := by
  rcases h with h | h
  · left; rw [a.2 19 (by decide) (by decide)]; exact h
  · exact Or.inr (h.same (a.1 _ (by decide) (by decide)) (a.1 _ (by decide) (by decide)) (a.1 _ (by decide) (by decide)))
theorem s_MvalueOf {f : zf} {ρ : zo} (hC : zC ρ) {g : Nat → Int32} {k : Nat} {o : mO} {vals : Nat → Int32} {Q : Int32 → zS → Prop} (hv : ∀ x, x < 8 → f 199 x = vals x) (ho : oM g k o) (h : Q (ro vals o) (f, ρ)) : P_M_valueOf 201 183 (g k) (g (k + 1)) (f, ρ) Q := by
  unfold P_M_valueOf P_M_valueOf_14
  cases o with
  | inl x =>
    obtain ⟨h1, h2, h3⟩ := ho
    simp (disch := (first | assumption | omega)) only [true_and, and_true, zr_u, zi_u, zI_u, Option.some.injEq, exists_eq_left', nn_tn, nn_add, nn_s, nn_2, nn_5, nn_7, nn_8, na0, na2, na3, na4, na5, na6, uf_ne, uf_eq, ur_eq, ur_ne, true_or, or_true, not_true_eq_false, not_false_eq_true, true_implies, false_implies, implies_true, e10, e01, reduceIte, Option.isSome_none, Option.isSome_some, Bool.false_eq_true, bi_t, bi_f, h1, h2, ko_183, rc_183_31 hC, ka_199, hv x h3]
    exact h
  | inr c =>
    obtain ⟨h1, h2⟩ := ho
    simp (disch := (first | assumption | omega)) only [true_and, and_true, zr_u, zi_u, zI_u, Option.some.injEq, exists_eq_left', nn_tn, nn_add, nn_s, nn_2, nn_5, nn_7, nn_8, na0, na2, na3, na4, na5, na6, uf_ne, uf_eq, ur_eq, ur_ne, true_or, or_true, not_true_eq_false, not_false_eq_true, true_implies, false_implies, implies_true, e10, e01, reduceIte, Option.isSome_none, Option.isSome_some, Bool.false_eq_true, bi_t, bi_f, h1]
    rw [h2]; exact h
theorem s_Mdone {f : zf} {ρ : zo} (hC : zC ρ) {s a cnt : Nat} {t : mT} {I vals : Nat → Int32} {Q : zS → Prop} (ht : tM (f 185) s t) (hv : ∀ x, x < 8 → f 199 x = vals x) (ha : f 183 32 = nn a) (hab : a ≤ 20000) (hc : f 183 30 = nn cnt) (hc32 : cnt ≤ 32) (hI : ∀ i, i < cnt → f 198 i = I i) (h0 : t.2.1 = 0 → ∀ f', frR f f' → f' 183 0 = f 183 0 → (∀ x, x < 8 → f' 199 x = ur vals t.1 (if a < cnt then I a else 0) x) → f' 183 32 = nn (a + 1) → Q (f', ρ)) (h1 : t.2.1 ≠ 0 → ∀ f', frR f f' → f' 183 0 = f 183 0 → (∀ x, x < 8 → f' 199 x = ur vals t.1 (rv vals t) x) → f' 183 32 = nn a → Q (f', ρ)) : P_M_done 201 183 (nn s) (f, ρ) Q := by
  obtain ⟨g1, g2, g3, g4, g5, g6⟩ := ht
  unfold P_M_done P_M_done_129
  simp (disch := (first | assumption | omega)) only [true_and, and_true, zr_u, zi_u, zI_u, Option.some.injEq, exists_eq_left', nn_tn, nn_add, nn_s, nn_2, nn_5, nn_7, nn_8, na0, na2, na3, na4, na5, na6, uf_ne, uf_eq, ur_eq, ur_ne, true_or, or_true, not_true_eq_false, not_false_eq_true, true_implies, false_implies, implies_true, e10, e01, reduceIte, Option.isSome_none, Option.isSome_some, Bool.false_eq_true, bi_t, bi_f, ko_183, rc_183_8 hC, ka_185, g4]
  unfold hso at g4 ⊢
  refine ⟨fun q0 => ?_, fun q0 => ?_⟩
  · have n0 : t.2.1 ≠ 0 := fun e => q0 (by rw [if_pos e]; rfl)
    have fin : ∀ y, y = rv vals t → P_M_done_130 201 Q 183 (nn (7 * s)) y (f, ρ) := by
      intro y hy
      unfold P_M_done_130
      simp (disch := (first | assumption | omega)) only [true_and, and_true, zr_u, zi_u, zI_u, Option.some.injEq, exists_eq_left', nn_tn, nn_add, nn_s, nn_2, nn_5, nn_7, nn_8, na0, na2, na3, na4, na5, na6, uf_ne, uf_eq, ur_eq, ur_ne, true_or, or_true, not_true_eq_false, not_false_eq_true, true_implies, false_implies, implies_true, e10, e01, reduceIte, Option.isSome_none, Option.isSome_some, Bool.false_eq_true, bi_t, bi_f, ko_183, rc_183_31 hC, rc_183_8 hC, ka_185, ka_199, g2]
      refine h1 n0 _ ⟨fun k z1 z2 => ?_, fun j z1 z2 => ?_⟩ ?_ (fun x hx => ?_) ?_
      · simp (disch := (first | assumption | omega)) only [true_and, and_true, zr_u, zi_u, zI_u, Option.some.injEq, exists_eq_left', nn_tn, nn_add, nn_s, nn_2, nn_5, nn_7, nn_8, na0, na2, na3, na4, na5, na6, uf_ne, uf_eq, ur_eq, ur_ne, true_or, or_true, not_true_eq_false, not_false_eq_true, true_implies, false_implies, implies_true, e10, e01, reduceIte, Option.isSome_none, Option.isSome_some, Bool.false_eq_true, bi_t, bi_f]
      · simp (disch := (first | assumption | omega)) only [true_and, and_true, zr_u, zi_u, zI_u, Option.some.injEq, exists_eq_left', nn_tn, nn_add, nn_s, nn_2, nn_5, nn_7, nn_8, na0, na2, na3, na4, na5, na6, uf_ne, uf_eq, ur_eq, ur_ne, true_or, or_true, not_true_eq_false, not_false_eq_true, true_implies, false_implies, implies_true, e10, e01, reduceIte, Option.isSome_none, Option.isSome_some, Bool.false_eq_true, bi_t, bi_f]
      · simp (disch := (first | assumption | omega)) only [true_and, and_true, zr_u, zi_u, zI_u, Option.some.injEq, exists_eq_left', nn_tn, nn_add, nn_s, nn_2, nn_5, nn_7, nn_8, na0, na2, na3, na4, na5, na6, uf_ne, uf_eq, ur_eq, ur_ne, true_or, or_true, not_true_eq_false, not_false_eq_true, true_implies, false_implies, implies_true, e10, e01, reduceIte, Option.isSome_none, Option.isSome_some, Bool.false_eq_true, bi_t, bi_f]
      · by_cases e : x = t.1
        · subst e; simp (disch := (first | assumption | omega)) only [true_and, and_true, zr_u, zi_u, zI_u, Option.some.injEq, exists_eq_left', nn_tn, nn_add, nn_s, nn_2, nn_5, nn_7, nn_8, na0, na2, na3, na4, na5, na6, uf_ne, uf_eq, ur_eq, ur_ne, true_or, or_true, not_true_eq_false, not_false_eq_true, true_implies, false_implies, implies_true, e10, e01, reduceIte, Option.isSome_none, Option.isSome_some, Bool.false_eq_true, bi_t, bi_f]
          exact hy
        · simp (disch := (first | assumption | omega)) only [true_and, and_true, zr_u, zi_u, zI_u, Option.some.injEq, exists_eq_left', nn_tn, nn_add, nn_s, nn_2, nn_5, nn_7, nn_8, na0, na2, na3, na4, na5, na6, uf_ne, uf_eq, ur_eq, ur_ne, true_or, or_true, not_true_eq_false, not_false_eq_true, true_implies, false_implies, implies_true, e10, e01, reduceIte, Option.isSome_none, Option.isSome_some, Bool.false_eq_true, bi_t, bi_f]
          exact hv x hx
      · simp (disch := (first | assumption | omega)) only [true_and, and_true, zr_u, zi_u, zI_u, Option.some.injEq, exists_eq_left', nn_tn, nn_add, nn_s, nn_2, nn_5, nn_7, nn_8, na0, na2, na3, na4, na5, na6, uf_ne, uf_eq, ur_eq, ur_ne, true_or, or_true, not_true_eq_false, not_false_eq_true, true_implies, false_implies, implies_true, e10, e01, reduceIte, Option.isSome_none, Option.isSome_some, Bool.false_eq_true, bi_t, bi_f]
        exact ha
    refine s_MvalueOf hC hv (g5 n0) ?_
    simp (disch := (first | assumption | omega)) only [true_and, and_true, zr_u, zi_u, zI_u, Option.some.injEq, exists_eq_left', nn_tn, nn_add, nn_s, nn_2, nn_5, nn_7, nn_8, na0, na2, na3, na4, na5, na6, uf_ne, uf_eq, ur_eq, ur_ne, true_or, or_true, not_true_eq_false, not_false_eq_true, true_implies, false_implies, implies_true, e10, e01, reduceIte, Option.isSome_none, Option.isSome_some, Bool.false_eq_true, bi_t, bi_f, rc_183_8 hC, ka_185, g4]
    by_cases n1 : t.2.1 = 1
    · rw [if_neg n0, if_pos n1]
      exact ⟨fun _ => fin _ (by unfold rv; rw [if_pos n1]), fun z => absurd z (by decide)⟩
    · obtain ⟨p1, p2, p3⟩ := g6 n0 n1
      rw [if_neg n0, if_neg n1]
      refine ⟨fun z => absurd rfl z, fun _ => ?_⟩
      refine s_MvalueOf hC hv p3 ?_
      rw [p2]
      refine s_Mreckoned p1 ?_
      exact fin _ (by unfold rv; rw [if_neg n1])
  · have n0 : t.2.1 = 0 := by
      by_cases e : t.2.1 = 0
      · exact e
      · rw [if_neg e] at q0
        split at q0 <;> exact absurd q0 (by decide)
    simp (disch := (first | assumption | omega)) only [true_and, and_true, zr_u, zi_u, zI_u, Option.some.injEq, exists_eq_left', nn_tn, nn_add, nn_s, nn_2, nn_5, nn_7, nn_8, na0, na2, na3, na4, na5, na6, uf_ne, uf_eq, ur_eq, ur_ne, true_or, or_true, not_true_eq_false, not_false_eq_true, true_implies, false_implies, implies_true, e10, e01, reduceIte, Option.isSome_none, Option.isSome_some, Bool.false_eq_true, bi_t, bi_f, hc, ha]
    simp (disch := omega) only [nn_le]
    have fin : ∀ y, y = (if a < cnt then I a else 0) → P_M_done_42 201 Q 183 (nn (7 * s)) y (f, ρ) := by
      intro y hy
      unfold P_M_done_42 P_M_done_130
      simp (disch := (first | assumption | omega)) only [true_and, and_true, zr_u, zi_u, zI_u, Option.some.injEq, exists_eq_left', nn_tn, nn_add, nn_s, nn_2, nn_5, nn_7, nn_8, na0, na2, na3, na4, na5, na6, uf_ne, uf_eq, ur_eq, ur_ne, true_or, or_true, not_true_eq_false, not_false_eq_true, true_implies, false_implies, implies_true, e10, e01, reduceIte, Option.isSome_none, Option.isSome_some, Bool.false_eq_true, bi_t, bi_f, ko_183, rc_183_31 hC, rc_183_8 hC, ka_185, ka_199, g2, ha]
      refine h0 n0 _ ⟨fun k z1 z2 => ?_, fun j z1 z2 => ?_⟩ ?_ (fun x hx => ?_) ?_
      · simp (disch := (first | assumption | omega)) only [true_and, and_true, zr_u, zi_u, zI_u, Option.some.injEq, exists_eq_left', nn_tn, nn_add, nn_s, nn_2, nn_5, nn_7, nn_8, na0, na2, na3, na4, na5, na6, uf_ne, uf_eq, ur_eq, ur_ne, true_or, or_true, not_true_eq_false, not_false_eq_true, true_implies, false_implies, implies_true, e10, e01, reduceIte, Option.isSome_none, Option.isSome_some, Bool.false_eq_true, bi_t, bi_f]
      · simp (disch := (first | assumption | omega)) only [true_and, and_true, zr_u, zi_u, zI_u, Option.some.injEq, exists_eq_left', nn_tn, nn_add, nn_s, nn_2, nn_5, nn_7, nn_8, na0, na2, na3, na4, na5, na6, uf_ne, uf_eq, ur_eq, ur_ne, true_or, or_true, not_true_eq_false, not_false_eq_true, true_implies, false_implies, implies_true, e10, e01, reduceIte, Option.isSome_none, Option.isSome_some, Bool.false_eq_true, bi_t, bi_f]
      · simp (disch := (first | assumption | omega)) only [true_and, and_true, zr_u, zi_u, zI_u, Option.some.injEq, exists_eq_left', nn_tn, nn_add, nn_s, nn_2, nn_5, nn_7, nn_8, na0, na2, na3, na4, na5, na6, uf_ne, uf_eq, ur_eq, ur_ne, true_or, or_true, not_true_eq_false, not_false_eq_true, true_implies, false_implies, implies_true, e10, e01, reduceIte, Option.isSome_none, Option.isSome_some, Bool.false_eq_true, bi_t, bi_f]
      · by_cases e : x = t.1
        · subst e; simp (disch := (first | assumption | omega)) only [true_and, and_true, zr_u, zi_u, zI_u, Option.some.injEq, exists_eq_left', nn_tn, nn_add, nn_s, nn_2, nn_5, nn_7, nn_8, na0, na2, na3, na4, na5, na6, uf_ne, uf_eq, ur_eq, ur_ne, true_or, or_true, not_true_eq_false, not_false_eq_true, true_implies, false_implies, implies_true, e10, e01, reduceIte, Option.isSome_none, Option.isSome_some, Bool.false_eq_true, bi_t, bi_f]
          exact hy
        · simp (disch := (first | assumption | omega)) only [true_and, and_true, zr_u, zi_u, zI_u, Option.some.injEq, exists_eq_left', nn_tn, nn_add, nn_s, nn_2, nn_5, nn_7, nn_8, na0, na2, na3, na4, na5, na6, uf_ne, uf_eq, ur_eq, ur_ne, true_or, or_true, not_true_eq_false, not_false_eq_true, true_implies, false_implies, implies_true, e10, e01, reduceIte, Option.isSome_none, Option.isSome_some, Bool.false_eq_true, bi_t, bi_f]
          exact hv x hx
      · simp (disch := (first | assumption | omega)) only [true_and, and_true, zr_u, zi_u, zI_u, Option.some.injEq, exists_eq_left', nn_tn, nn_add, nn_s, nn_2, nn_5, nn_7, nn_8, na0, na2, na3, na4, na5, na6, uf_ne, uf_eq, ur_eq, ur_ne, true_or, or_true, not_true_eq_false, not_false_eq_true, true_implies, false_implies, implies_true, e10, e01, reduceIte, Option.isSome_none, Option.isSome_some, Bool.false_eq_true, bi_t, bi_f]
    refine ⟨fun z => fin 0 (by rw [if_neg (by omega)]), fun z => ?_⟩
    simp (disch := (first | assumption | omega)) only [true_and, and_true, zr_u, zi_u, zI_u, Option.some.injEq, exists_eq_left', nn_tn, nn_add, nn_s, nn_2, nn_5, nn_7, nn_8, na0, na2, na3, na4, na5, na6, uf_ne, uf_eq, ur_eq, ur_ne, true_or, or_true, not_true_eq_false, not_false_eq_true, true_implies, false_implies, implies_true, e10, e01, reduceIte, Option.isSome_none, Option.isSome_some, Bool.false_eq_true, bi_t, bi_f, rc_183_29 hC, ka_198]
    exact fin _ (by rw [hI a (by omega), if_pos (by omega)])
theorem s_Mexec {f : zf} {ρ : zo} (hC : zC ρ) {N cnt : Nat} {G : mG} {I : Nat → Int32} {Q : Int32 → zS → Prop} (hG : gG G) (hP : pM f G) (hN : N ≤ 20000) (hc : f 183 30 = nn cnt) (hc32 : cnt ≤ 32) (hI : ∀ i, i < cnt → f 198 i = I i) (h : ∀ f', frR f f' → f' 183 0 = f 183 0 → (∀ x, x < 8 → f' 199 x = (mrn G I cnt N 0 0 0 (fun _ => 0) 0).2.1 x) → f' 183 32 = nn (mrn G I cnt N 0 0 0 (fun _ => 0) 0).2.2 → Q (ron (mrn G I cnt N 0 0 0 (fun _ => 0) 0).1) (f', ρ)) : ∃ g, P_M_run_31 201 Q g 183 (nn N) 0 (f, ρ) := by
  have hn := hG.2.1
  have k67 : ∀ (m d b s a : Nat) (vals : Nat → Int32) (f' : zf), d + m = N → a ≤ d → b < G.1 → G.2.2.1 b ≤ s → s ≤ G.2.2.1 (b + 1) → frR f f' → f' 183 0 = f 183 0 → (∀ x, x < 8 → f' 199 x = vals x) → f' 183 32 = nn a → (∀ f', frR f f' → f' 183 0 = f 183 0 → (∀ x, x < 8 → f' 199 x = (mrn G I cnt m d b s vals a).2.1 x) → f' 183 32 = nn (mrn G I cnt m d b s vals a).2.2 → Q (ron (mrn G I cnt m d b s vals a).1) (f', ρ)) → P_M_run_67 201 Q (m + 1) 183 (nn N) (nn b) (nn s) (nn d) (f', ρ) := by
    intro m
    induction m with
    | zero =>
      intro d b s a vals f' hd had hb hs1 hs2 h1 h10 h2 h3 h4
      unfold P_M_run_67
      simp (disch := omega) only [nn_le]
      exact ⟨fun _ => h4 f' h1 h10 h2 h3, fun z => absurd (by omega) z⟩
    | succ m ih =>
      intro d b s a vals f' hd had hb hs1 hs2 h1 h10 h2 h3 h4
      have hP' := hP.R h1
      have hl80 := hG.f_le (b := b + 1) (by omega)
      have he := hP'.2.2.2.2 b hb
      obtain ⟨g1, g2, g3, g4, g5⟩ := he
      have hc' : f' 183 30 = nn cnt := by rw [h1.2 30 (by decide) (by decide)]; exact hc
      have hI' : ∀ i, i < cnt → f' 198 i = I i := fun i hi => by rw [h1.1 198 (by decide) (by decide)]; exact hI i hi
      unfold P_M_run_67 P_M_run_196 P_M_run_155
      simp (disch := (first | assumption | omega)) only [true_and, and_true, zr_u, zi_u, zI_u, Option.some.injEq, exists_eq_left', nn_tn, nn_add, nn_s, nn_2, nn_5, nn_7, nn_8, na0, na2, na3, na4, na5, na6, uf_ne, uf_eq, ur_eq, ur_ne, true_or, or_true, not_true_eq_false, not_false_eq_true, true_implies, false_implies, implies_true, e10, e01, reduceIte, Option.isSome_none, Option.isSome_some, Bool.false_eq_true, bi_t, bi_f, ko_183, rc_183_10 hC, ka_187, hP'.2.2.1 (b + 1) (by omega), rc_183_9 hC, ka_186, g1, nn_e0, nn_e1]
      simp (disch := omega) only [nn_le]
      refine ⟨fun z => absurd z (by omega), fun _ => ⟨fun q => ⟨fun q0 => ?_, fun q0 => ?_⟩, fun q => ?_⟩⟩
      · have em : mrn G I cnt (m + 1) d b s vals a = mrn G I cnt m (d + 1) (rgo (G.2.2.2.2 b) vals) (G.2.2.1 (rgo (G.2.2.2.2 b) vals)) vals a := by
          show (if s < G.2.2.1 (b + 1) then _ else _) = _
          rw [if_neg (by omega), if_neg q0]
        rw [em] at h4
        have hr := rgo_lt hG hb q0 vals
        have fin : ∀ r : Int32, r = nn (rgo (G.2.2.2.2 b) vals) → P_M_run_188 201 Q (fun a0 a1 a2 a3 a4 σ => P_M_run_67 201 Q (m + 1) a0 a1 a2 a3 a4 σ) 183 (nn N) (nn d) r (f', ρ) := by
          intro r hr'
          subst hr'
          unfold P_M_run_188 P_M_run_196
          simp (disch := (first | assumption | omega)) only [true_and, and_true, zr_u, zi_u, zI_u, Option.some.injEq, exists_eq_left', nn_tn, nn_add, nn_s, nn_2, nn_5, nn_7, nn_8, na0, na2, na3, na4, na5, na6, uf_ne, uf_eq, ur_eq, ur_ne, true_or, or_true, not_true_eq_false, not_false_eq_true, true_implies, false_implies, implies_true, e10, e01, reduceIte, Option.isSome_none, Option.isSome_some, Bool.false_eq_true, bi_t, bi_f, ko_183, rc_183_10 hC, ka_187, hP'.2.2.1 (rgo (G.2.2.2.2 b) vals) (by omega)]
          exact ih (d + 1) _ _ a vals f' (by omega) (by omega) hr (Nat.le_refl _) (hG.2.2.2.2.2.1 _ hr) h1 h10 h2 h3 h4
        refine ⟨fun q1 => ?_, fun q1 => ?_⟩
        · unfold P_M_run_160
          simp (disch := (first | assumption | omega)) only [true_and, and_true, zr_u, zi_u, zI_u, Option.some.injEq, exists_eq_left', nn_tn, nn_add, nn_s, nn_2, nn_5, nn_7, nn_8, na0, na2, na3, na4, na5, na6, uf_ne, uf_eq, ur_eq, ur_ne, true_or, or_true, not_true_eq_false, not_false_eq_true, true_implies, false_implies, implies_true, e10, e01, reduceIte, Option.isSome_none, Option.isSome_some, Bool.false_eq_true, bi_t, bi_f, ko_183, rc_183_9 hC, ka_186, g4 q0]
          exact fin _ (by unfold rgo; rw [if_neg (fun z => by omega)])
        · refine s_MvalueOf hC h2 (g3 (by omega)) ?_
          refine ⟨fun z => ?_, fun z => ?_⟩
          · unfold P_M_run_160
            simp (disch := (first | assumption | omega)) only [true_and, and_true, zr_u, zi_u, zI_u, Option.some.injEq, exists_eq_left', nn_tn, nn_add, nn_s, nn_2, nn_5, nn_7, nn_8, na0, na2, na3, na4, na5, na6, uf_ne, uf_eq, ur_eq, ur_ne, true_or, or_true, not_true_eq_false, not_false_eq_true, true_implies, false_implies, implies_true, e10, e01, reduceIte, Option.isSome_none, Option.isSome_some, Bool.false_eq_true, bi_t, bi_f, ko_183, rc_183_9 hC, ka_186, g5 (by omega)]
            exact fin _ (by unfold rgo; rw [if_pos ⟨by omega, z⟩])
          · unfold P_M_run_160
            simp (disch := (first | assumption | omega)) only [true_and, and_true, zr_u, zi_u, zI_u, Option.some.injEq, exists_eq_left', nn_tn, nn_add, nn_s, nn_2, nn_5, nn_7, nn_8, na0, na2, na3, na4, na5, na6, uf_ne, uf_eq, ur_eq, ur_ne, true_or, or_true, not_true_eq_false, not_false_eq_true, true_implies, false_implies, implies_true, e10, e01, reduceIte, Option.isSome_none, Option.isSome_some, Bool.false_eq_true, bi_t, bi_f, ko_183, rc_183_9 hC, ka_186, g4 q0]
            exact fin _ (by unfold rgo; rw [if_neg (fun y => z y.2)])
      · have em : mrn G I cnt (m + 1) d b s vals a = (some (d + 1), vals, a) := by
          show (if s < G.2.2.1 (b + 1) then _ else _) = _
          rw [if_neg (by omega), if_pos q0]
        rw [em] at h4
        exact h4 f' h1 h10 h2 h3
      · have hsn := hG.s_lt hb (s := s) (by omega)
        have ht := hP'.2.2.2.1 s hsn
        refine s_Mdone hC ht h2 h3 (by omega) hc' hc32 hI' (fun q0 f'' z1 z2 z3 z4 => ?_) (fun q0 f'' z1 z2 z3 z4 => ?_)
        · have em : mrn G I cnt (m + 1) d b s vals a = mrn G I cnt m (d + 1) b (s + 1) (ur vals (G.2.2.2.1 s).1 (if a < cnt then I a else 0)) (a + 1) := by
            show (if s < G.2.2.1 (b + 1) then _ else _) = _
            rw [if_pos (by omega), if_pos q0]
          rw [em] at h4
          try simp (disch := (first | assumption | omega)) only [true_and, and_true, zr_u, zi_u, zI_u, Option.some.injEq, exists_eq_left', nn_tn, nn_add, nn_s, nn_2, nn_5, nn_7, nn_8, na0, na2, na3, na4, na5, na6, uf_ne, uf_eq, ur_eq, ur_ne, true_or, or_true, not_true_eq_false, not_false_eq_true, true_implies, false_implies, implies_true, e10, e01, reduceIte, Option.isSome_none, Option.isSome_some, Bool.false_eq_true, bi_t, bi_f]
          exact ih (d + 1) b (s + 1) (a + 1) _ f'' (by omega) (by omega) hb (by omega) (by omega) (h1.trans z1) (by rw [z2, h10]) z3 z4 h4
        · have em : mrn G I cnt (m + 1) d b s vals a = mrn G I cnt m (d + 1) b (s + 1) (ur vals (G.2.2.2.1 s).1 (rv vals (G.2.2.2.1 s))) a := by
            show (if s < G.2.2.1 (b + 1) then _ else _) = _
            rw [if_pos (by omega), if_neg q0]
          rw [em] at h4
          try simp (disch := (first | assumption | omega)) only [true_and, and_true, zr_u, zi_u, zI_u, Option.some.injEq, exists_eq_left', nn_tn, nn_add, nn_s, nn_2, nn_5, nn_7, nn_8, na0, na2, na3, na4, na5, na6, uf_ne, uf_eq, ur_eq, ur_ne, true_or, or_true, not_true_eq_false, not_false_eq_true, true_implies, false_implies, implies_true, e10, e01, reduceIte, Option.isSome_none, Option.isSome_some, Bool.false_eq_true, bi_t, bi_f]
          exact ih (d + 1) b (s + 1) a _ f'' (by omega) (by omega) hb (by omega) (by omega) (h1.trans z1) (by rw [z2, h10]) z3 z4 h4
  have k31 : ∀ (m k : Nat) (f' : zf), k + m = 8 → frR f f' → f' 183 0 = f 183 0 → (∀ x, x < k → f' 199 x = 0) → P_M_run_31 201 Q (m + 1) 183 (nn N) (nn k) (f', ρ) := by
    intro m
    induction m with
    | zero =>
      intro k f' hk h1 h10 h2
      have hP' := hP.R h1
      unfold P_M_run_31
      rw [show (8 : Int32) ≤ nn k ↔ nn 8 ≤ nn k from Iff.rfl, nn_le (by omega) (by omega)]
      refine ⟨fun _ => ?_, fun z => absurd (by omega) z⟩
      rw [show (0 : Int32) = nn 0 from rfl]
      simp (disch := (first | assumption | omega)) only [true_and, and_true, zr_u, zi_u, zI_u, Option.some.injEq, exists_eq_left', nn_tn, nn_add, nn_s, nn_2, nn_5, nn_7, nn_8, na0, na2, na3, na4, na5, na6, uf_ne, uf_eq, ur_eq, ur_ne, true_or, or_true, not_true_eq_false, not_false_eq_true, true_implies, false_implies, implies_true, e10, e01, reduceIte, Option.isSome_none, Option.isSome_some, Bool.false_eq_true, bi_t, bi_f, ko_183, rc_183_10 hC, ka_187, hP'.2.2.1 0 (by omega), hG.2.2.2.1]
      refine ⟨_, k67 N 0 0 0 0 (fun _ => 0) _ (by omega) (by omega) hG.1 (by rw [hG.2.2.2.1]; omega) (by omega) (h1.trans ⟨fun a z1 z2 => ?_, fun j z1 z2 => ?_⟩) ?_ (fun x hx => ?_) ?_ h⟩
      · simp (disch := (first | assumption | omega)) only [true_and, and_true, zr_u, zi_u, zI_u, Option.some.injEq, exists_eq_left', nn_tn, nn_add, nn_s, nn_2, nn_5, nn_7, nn_8, na0, na2, na3, na4, na5, na6, uf_ne, uf_eq, ur_eq, ur_ne, true_or, or_true, not_true_eq_false, not_false_eq_true, true_implies, false_implies, implies_true, e10, e01, reduceIte, Option.isSome_none, Option.isSome_some, Bool.false_eq_true, bi_t, bi_f]
      · simp (disch := (first | assumption | omega)) only [true_and, and_true, zr_u, zi_u, zI_u, Option.some.injEq, exists_eq_left', nn_tn, nn_add, nn_s, nn_2, nn_5, nn_7, nn_8, na0, na2, na3, na4, na5, na6, uf_ne, uf_eq, ur_eq, ur_ne, true_or, or_true, not_true_eq_false, not_false_eq_true, true_implies, false_implies, implies_true, e10, e01, reduceIte, Option.isSome_none, Option.isSome_some, Bool.false_eq_true, bi_t, bi_f]
      · simp (disch := (first | assumption | omega)) only [true_and, and_true, zr_u, zi_u, zI_u, Option.some.injEq, exists_eq_left', nn_tn, nn_add, nn_s, nn_2, nn_5, nn_7, nn_8, na0, na2, na3, na4, na5, na6, uf_ne, uf_eq, ur_eq, ur_ne, true_or, or_true, not_true_eq_false, not_false_eq_true, true_implies, false_implies, implies_true, e10, e01, reduceIte, Option.isSome_none, Option.isSome_some, Bool.false_eq_true, bi_t, bi_f]
        exact h10
      · simp (disch := (first | assumption | omega)) only [true_and, and_true, zr_u, zi_u, zI_u, Option.some.injEq, exists_eq_left', nn_tn, nn_add, nn_s, nn_2, nn_5, nn_7, nn_8, na0, na2, na3, na4, na5, na6, uf_ne, uf_eq, ur_eq, ur_ne, true_or, or_true, not_true_eq_false, not_false_eq_true, true_implies, false_implies, implies_true, e10, e01, reduceIte, Option.isSome_none, Option.isSome_some, Bool.false_eq_true, bi_t, bi_f]
        exact h2 x (by omega)
      · simp (disch := (first | assumption | omega)) only [true_and, and_true, zr_u, zi_u, zI_u, Option.some.injEq, exists_eq_left', nn_tn, nn_add, nn_s, nn_2, nn_5, nn_7, nn_8, na0, na2, na3, na4, na5, na6, uf_ne, uf_eq, ur_eq, ur_ne, true_or, or_true, not_true_eq_false, not_false_eq_true, true_implies, false_implies, implies_true, e10, e01, reduceIte, Option.isSome_none, Option.isSome_some, Bool.false_eq_true, bi_t, bi_f]
    | succ m ih =>
      intro k f' hk h1 h10 h2
      unfold P_M_run_31
      rw [show (8 : Int32) ≤ nn k ↔ nn 8 ≤ nn k from Iff.rfl, nn_le (by omega) (by omega)]
      refine ⟨fun z => absurd z (by omega), fun _ => ?_⟩
      simp (disch := (first | assumption | omega)) only [true_and, and_true, zr_u, zi_u, zI_u, Option.some.injEq, exists_eq_left', nn_tn, nn_add, nn_s, nn_2, nn_5, nn_7, nn_8, na0, na2, na3, na4, na5, na6, uf_ne, uf_eq, ur_eq, ur_ne, true_or, or_true, not_true_eq_false, not_false_eq_true, true_implies, false_implies, implies_true, e10, e01, reduceIte, Option.isSome_none, Option.isSome_some, Bool.false_eq_true, bi_t, bi_f, ko_183, rc_183_31 hC, ka_199]
      refine ih (k + 1) _ (by omega) (h1.trans ⟨fun a z1 z2 => ?_, fun j z1 z2 => ?_⟩) ?_ (fun x hx => ?_)
      · simp (disch := (first | assumption | omega)) only [true_and, and_true, zr_u, zi_u, zI_u, Option.some.injEq, exists_eq_left', nn_tn, nn_add, nn_s, nn_2, nn_5, nn_7, nn_8, na0, na2, na3, na4, na5, na6, uf_ne, uf_eq, ur_eq, ur_ne, true_or, or_true, not_true_eq_false, not_false_eq_true, true_implies, false_implies, implies_true, e10, e01, reduceIte, Option.isSome_none, Option.isSome_some, Bool.false_eq_true, bi_t, bi_f]
      · simp (disch := (first | assumption | omega)) only [true_and, and_true, zr_u, zi_u, zI_u, Option.some.injEq, exists_eq_left', nn_tn, nn_add, nn_s, nn_2, nn_5, nn_7, nn_8, na0, na2, na3, na4, na5, na6, uf_ne, uf_eq, ur_eq, ur_ne, true_or, or_true, not_true_eq_false, not_false_eq_true, true_implies, false_implies, implies_true, e10, e01, reduceIte, Option.isSome_none, Option.isSome_some, Bool.false_eq_true, bi_t, bi_f]
      · simp (disch := (first | assumption | omega)) only [true_and, and_true, zr_u, zi_u, zI_u, Option.some.injEq, exists_eq_left', nn_tn, nn_add, nn_s, nn_2, nn_5, nn_7, nn_8, na0, na2, na3, na4, na5, na6, uf_ne, uf_eq, ur_eq, ur_ne, true_or, or_true, not_true_eq_false, not_false_eq_true, true_implies, false_implies, implies_true, e10, e01, reduceIte, Option.isSome_none, Option.isSome_some, Bool.false_eq_true, bi_t, bi_f]
        exact h10
      · by_cases e : x = k
        · subst e; simp (disch := (first | assumption | omega)) only [true_and, and_true, zr_u, zi_u, zI_u, Option.some.injEq, exists_eq_left', nn_tn, nn_add, nn_s, nn_2, nn_5, nn_7, nn_8, na0, na2, na3, na4, na5, na6, uf_ne, uf_eq, ur_eq, ur_ne, true_or, or_true, not_true_eq_false, not_false_eq_true, true_implies, false_implies, implies_true, e10, e01, reduceIte, Option.isSome_none, Option.isSome_some, Bool.false_eq_true, bi_t, bi_f]
        · simp (disch := (first | assumption | omega)) only [true_and, and_true, zr_u, zi_u, zI_u, Option.some.injEq, exists_eq_left', nn_tn, nn_add, nn_s, nn_2, nn_5, nn_7, nn_8, na0, na2, na3, na4, na5, na6, uf_ne, uf_eq, ur_eq, ur_ne, true_or, or_true, not_true_eq_false, not_false_eq_true, true_implies, false_implies, implies_true, e10, e01, reduceIte, Option.isSome_none, Option.isSome_some, Bool.false_eq_true, bi_t, bi_f]
          exact h2 x (by omega)
  exact ⟨_, k31 8 0 f rfl (frR.rfl' f) rfl (fun x hx => absurd hx (by omega))⟩
