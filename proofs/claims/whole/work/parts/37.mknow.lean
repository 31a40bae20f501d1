/-! The reference finds the least facts. -/
/-- rows 192 to 196, and of row 183 the places 19, 25, 26, may differ -/
def frN (f f' : zf) : Prop := (∀ a, a ≠ 183 → a ≠ 192 → a ≠ 193 → a ≠ 194 → a ≠ 195 → a ≠ 196 → f' a = f a) ∧ ∀ j, j ≠ 19 → j ≠ 25 → j ≠ 26 → f' 183 j = f 183 j
theorem frN.rfl' (f : zf) : frN f f := ⟨fun _ _ _ _ _ _ _ => rfl, fun _ _ _ _ => rfl⟩
theorem frN.trans {f g h : zf} (a : frN f g) (b : frN g h) : frN f h := ⟨fun k h1 h2 h3 h4 h5 h6 => by rw [b.1 k h1 h2 h3 h4 h5 h6, a.1 k h1 h2 h3 h4 h5 h6], fun j h1 h2 h3 => by rw [b.2 j h1 h2 h3, a.2 j h1 h2 h3]⟩
theorem frN.ofW {f g : zf} (a : frW f g) : frN f g := ⟨fun k h1 _ _ _ h5 h6 => a.1 k h1 h5 h6, fun j _ h2 h3 => a.2 j h2 h3⟩
theorem frN.of3 {f g : zf} (a : ∀ k, k ≠ 192 → k ≠ 193 → k ≠ 194 → g k = f k) : frN f g := ⟨fun k _ h2 h3 h4 _ _ => a k h2 h3 h4, fun j _ _ _ => by rw [a 183 (by decide) (by decide) (by decide)]⟩
theorem frN.of2 {f g : zf} (a : fr2 f g 195 196) : frN f g := ⟨fun k _ _ _ _ h5 h6 => a k h5 h6, fun j _ _ _ => by rw [a 183 (by decide) (by decide)]⟩
theorem pM.N {f f' : zf} {G : mG} (h : pM f G) (a : frN f f') : pM f' G := h.same (a.2 _ (by decide) (by decide) (by decide)) (a.2 _ (by decide) (by decide) (by decide)) (a.1 _ (by decide) (by decide) (by decide) (by decide) (by decide) (by decide)) (a.1 _ (by decide) (by decide) (by decide) (by decide) (by decide) (by decide)) (a.1 _ (by decide) (by decide) (by decide) (by decide) (by decide) (by decide))
theorem rM.W {f f' : zf} {F : mF} (h : rM f F) (a : frW f f') : rM f' F := h.same (a.1 _ (by decide) (by decide) (by decide)) (a.1 _ (by decide) (by decide) (by decide)) (a.1 _ (by decide) (by decide) (by decide))
theorem rM.two {f f' : zf} {F : mF} (h : rM f F) (a : fr2 f f' 195 196) : rM f' F := h.same (a _ (by decide) (by decide)) (a _ (by decide) (by decide)) (a _ (by decide) (by decide))
def nor (r m : Int32) : Int32 := if r = 0 then (if m = 0 then 0 else 1) else 1
theorem s_know125 {ρ : zo} (hC : zC ρ) {G : mG} {F : mF} {v : mV} {b : Nat} {a1 : Int32} {Q : zS → Prop} {K88 : Nat → Int32 → zS → Prop} {K96 : Nat → Int32 → Int32 → zS → Prop} (hG : gG G) (hb : b < G.1) (hv : F b = some v) (f : zf) (h : ∀ f' r, frN f f' → rM f' (mstp G F b) → (r = 0 ∧ mstp G F b = F ∨ r = 1 ∧ mph F 24 < mph (mstp G F b) 24) → K96 183 (nor r a1) (nn (b + 1)) (f', ρ)) : ∀ (m k : Nat) (f' : zf), G.2.2.1 b + k + m = G.2.2.1 (b + 1) → frN f f' → pM f' G → rM f' F → hM (f' 195) (f' 196) 0 (mfr G.2.2.2.1 (G.2.2.1 b) k v) → P_M_know_125 201 Q K88 K96 (m + 1) 183 a1 (nn b) (nn (G.2.2.1 b + k)) (f', ρ) := by
  have hl := hG.f_le (b := b + 1) (by omega)
  have hn := hG.2.1
  intro m
  induction m with
  | zero =>
    intro k f' hk h1 hP hF hM'
    unfold P_M_know_125
    simp (disch := (first | assumption | omega)) only [true_and, and_true, zr_u, zi_u, zI_u, Option.some.injEq, exists_eq_left', nn_tn, nn_add, nn_s, nn_2, nn_5, nn_7, nn_8, na0, na2, na3, na4, na5, na6, uf_ne, uf_eq, ur_eq, ur_ne, true_or, or_true, not_true_eq_false, not_false_eq_true, true_implies, false_implies, implies_true, e10, e01, reduceIte, Option.isSome_none, Option.isSome_some, Bool.false_eq_true, bi_t, bi_f, ko_183, rc_183_10 hC, ka_187, hP.2.2.1 (b + 1) (by omega)]
    simp (disch := omega) only [nn_le]
    refine ⟨fun _ => ?_, fun q => absurd (by omega) q⟩
    refine s_Mlead hC hG hb hP hF hM' (fun f'' r r1 r2 r3 => ?_)
    have em : mstp G F b = mjs F (mfr G.2.2.2.1 (G.2.2.1 b) k v) (msu (G.2.2.2.2 b) (mfr G.2.2.2.1 (G.2.2.1 b) k v)) := by
      unfold mstp mfb; rw [hv]; simp only; rw [show G.2.2.1 (b + 1) - G.2.2.1 b = k by omega]
    rw [← em] at r2 r3
    have hh := h f'' r (h1.trans (frN.of3 r1)) r2 r3
    unfold P_M_know_160 P_M_know_165 P_M_know_166
    simp (disch := (first | assumption | omega)) only [true_and, and_true, zr_u, zi_u, zI_u, Option.some.injEq, exists_eq_left', nn_tn, nn_add, nn_s, nn_2, nn_5, nn_7, nn_8, na0, na2, na3, na4, na5, na6, uf_ne, uf_eq, ur_eq, ur_ne, true_or, or_true, not_true_eq_false, not_false_eq_true, true_implies, false_implies, implies_true, e10, e01, reduceIte, Option.isSome_none, Option.isSome_some, Bool.false_eq_true, bi_t, bi_f]
    unfold nor at hh
    rcases r3 with ⟨r3, -⟩ | ⟨r3, -⟩
    · rw [r3] at hh ⊢
      rw [if_pos rfl] at hh
      exact ⟨fun q => absurd rfl q, fun _ => ⟨fun q => by rw [if_pos q] at hh; exact hh, fun q => by rw [if_neg q] at hh; exact hh⟩⟩
    · rw [r3] at hh ⊢
      rw [if_neg (by decide)] at hh
      exact ⟨fun _ => hh, fun q => absurd q (by decide)⟩
  | succ m ih =>
    intro k f' hk h1 hP hF hM'
    unfold P_M_know_125
    simp (disch := (first | assumption | omega)) only [true_and, and_true, zr_u, zi_u, zI_u, Option.some.injEq, exists_eq_left', nn_tn, nn_add, nn_s, nn_2, nn_5, nn_7, nn_8, na0, na2, na3, na4, na5, na6, uf_ne, uf_eq, ur_eq, ur_ne, true_or, or_true, not_true_eq_false, not_false_eq_true, true_implies, false_implies, implies_true, e10, e01, reduceIte, Option.isSome_none, Option.isSome_some, Bool.false_eq_true, bi_t, bi_f, ko_183, rc_183_10 hC, ka_187, hP.2.2.1 (b + 1) (by omega)]
    simp (disch := omega) only [nn_le]
    refine ⟨fun q => absurd q (by omega), fun _ => ?_⟩
    have hns : G.2.2.1 b + k < G.2.1 := by
      have q1 : ∀ j c, c + j = G.1 → G.2.2.1 c ≤ G.2.2.1 G.1 := by
        intro j
        induction j with
        | zero => intro c e; rw [Nat.add_zero] at e; rw [e]; exact Nat.le_refl _
        | succ j ij =>
          intro c e
          have := hG.2.2.2.2.2.1 c (by omega)
          have := ij (c + 1) (by omega)
          omega
      have := q1 (G.1 - (b + 1)) (b + 1) (by omega)
      have := hG.2.2.2.2.1
      omega
    refine s_Mfollow hC (hP.2.2.2.1 _ hns) (fun f'' r1 r2 => ?_)
    try simp (disch := (first | assumption | omega)) only [true_and, and_true, zr_u, zi_u, zI_u, Option.some.injEq, exists_eq_left', nn_tn, nn_add, nn_s, nn_2, nn_5, nn_7, nn_8, na0, na2, na3, na4, na5, na6, uf_ne, uf_eq, ur_eq, ur_ne, true_or, or_true, not_true_eq_false, not_false_eq_true, true_implies, false_implies, implies_true, e10, e01, reduceIte, Option.isSome_none, Option.isSome_some, Bool.false_eq_true, bi_t, bi_f]
    exact ih (k + 1) f'' (by omega) (h1.trans (frN.ofW r1)) (hP.N (frN.ofW r1)) (hF.W r1) (r2 _ hM').1
/-- the steps of the blocks below k, one behind another -/
def mrd (G : mG) (F : mF) : Nat → mF
  | 0 => F
  | k + 1 => mstp G (mrd G F k) k
theorem mrd_below {G : mG} {F H : mF} (hH : mcl G H) (hF : mlF F H) : ∀ k, k ≤ G.1 → mlF (mrd G F k) H
  | 0, _ => hF
  | k + 1, hk => mstp_below hH (mrd_below hH hF k (by omega)) (by omega)
theorem mrd_ph {G : mG} (h : gG G) (F : mF) : ∀ k, k ≤ G.1 → mph F 24 ≤ mph (mrd G F k) 24
  | 0, _ => Nat.le_refl _
  | k + 1, hk => Nat.le_trans (mrd_ph h F k (by omega)) (mstp_ph h _ (by omega))
theorem s_know96 {ρ : zo} (hC : zC ρ) {G : mG} {F : mF} {Q : zS → Prop} {K88 : Nat → Int32 → zS → Prop} (hG : gG G) (f : zf) (h : ∀ f' r, frN f f' → rM f' (mrd G F G.1) → (r = 0 ∧ (∀ k, k ≤ G.1 → mrd G F k = F) ∨ r = 1 ∧ mph F 24 < mph (mrd G F G.1) 24) → K88 183 r (f', ρ)) : ∀ (m k : Nat) (f' : zf) (r : Int32), k + m = G.1 → frN f f' → pM f' G → rM f' (mrd G F k) → (r = 0 ∧ (∀ j, j ≤ k → mrd G F j = F) ∨ r = 1 ∧ mph F 24 < mph (mrd G F k) 24) → P_M_know_96 201 Q K88 (m + 1) 183 r (nn k) (f', ρ) := by
  have hn := hG.2.1
  intro m
  induction m with
  | zero =>
    intro k f' r hk h1 hP hF hr
    have e : k = G.1 := by omega
    subst e
    unfold P_M_know_96
    simp (disch := (first | assumption | omega)) only [true_and, and_true, zr_u, zi_u, zI_u, Option.some.injEq, exists_eq_left', nn_tn, nn_add, nn_s, nn_2, nn_5, nn_7, nn_8, na0, na2, na3, na4, na5, na6, uf_ne, uf_eq, ur_eq, ur_ne, true_or, or_true, not_true_eq_false, not_false_eq_true, true_implies, false_implies, implies_true, e10, e01, reduceIte, Option.isSome_none, Option.isSome_some, Bool.false_eq_true, bi_t, bi_f, ko_183, hP.1]
    simp (disch := omega) only [nn_le]
    exact ⟨fun _ => h f' r h1 hF hr, fun q => absurd (Nat.le_refl _) q⟩
  | succ m ih =>
    intro k f' r hk h1 hP hF hr
    unfold P_M_know_96
    simp (disch := (first | assumption | omega)) only [true_and, and_true, zr_u, zi_u, zI_u, Option.some.injEq, exists_eq_left', nn_tn, nn_add, nn_s, nn_2, nn_5, nn_7, nn_8, na0, na2, na3, na4, na5, na6, uf_ne, uf_eq, ur_eq, ur_ne, true_or, or_true, not_true_eq_false, not_false_eq_true, true_implies, false_implies, implies_true, e10, e01, reduceIte, Option.isSome_none, Option.isSome_some, Bool.false_eq_true, bi_t, bi_f, ko_183, hP.1, rc_183_20 hC, ka_192]
    simp (disch := omega) only [nn_le]
    refine ⟨fun q => absurd q (by omega), fun _ => ?_⟩
    have hB' := hF.1 k (by omega)
    cases hv : mrd G F k k with
    | none =>
      rw [hv] at hB'
      have es : mrd G F (k + 1) = mrd G F k := by show mstp G (mrd G F k) k = _; unfold mstp; rw [hv]
      rw [hB'.1]
      refine ⟨fun _ => ?_, fun q => absurd rfl q⟩
      unfold P_M_know_166
      try simp (disch := (first | assumption | omega)) only [true_and, and_true, zr_u, zi_u, zI_u, Option.some.injEq, exists_eq_left', nn_tn, nn_add, nn_s, nn_2, nn_5, nn_7, nn_8, na0, na2, na3, na4, na5, na6, uf_ne, uf_eq, ur_eq, ur_ne, true_or, or_true, not_true_eq_false, not_false_eq_true, true_implies, false_implies, implies_true, e10, e01, reduceIte, Option.isSome_none, Option.isSome_some, Bool.false_eq_true, bi_t, bi_f]
      refine ih (k + 1) f' r (by omega) h1 hP (by rw [es]; exact hF) ?_
      rw [es]
      rcases hr with hr | hr
      · refine Or.inl ⟨hr.1, fun j hj => ?_⟩
        by_cases e : j = k + 1
        · subst e; rw [es]; exact hr.2 k (Nat.le_refl k)
        · exact hr.2 j (by omega)
      · exact Or.inr hr
    | some v =>
      rw [hv] at hB'
      rw [hB'.1]
      refine ⟨fun q => absurd q (by decide), fun _ => ?_⟩
      refine s_Mbegin hC (by omega) (fun f1 r1 r2 => ?_)
      have hP1 := hP.N (frN.of2 r1)
      simp (disch := (first | assumption | omega)) only [true_and, and_true, zr_u, zi_u, zI_u, Option.some.injEq, exists_eq_left', nn_tn, nn_add, nn_s, nn_2, nn_5, nn_7, nn_8, na0, na2, na3, na4, na5, na6, uf_ne, uf_eq, ur_eq, ur_ne, true_or, or_true, not_true_eq_false, not_false_eq_true, true_implies, false_implies, implies_true, e10, e01, reduceIte, Option.isSome_none, Option.isSome_some, Bool.false_eq_true, bi_t, bi_f, rc_183_10 hC, ka_187, hP1.2.2.1 k (by omega)]
      refine ⟨_, s_know125 hC hG (by omega) hv f1 (fun f2 r' q1 q2 q3 => ?_) (G.2.2.1 (k + 1) - G.2.2.1 k) 0 f1 (by have := hG.2.2.2.2.2.1 k (by omega); omega) (frN.rfl' _) hP1 (hF.two r1) (r2 v hB'.2)⟩
      have h12 := (h1.trans (frN.of2 r1)).trans q1
      refine ih (k + 1) f2 _ (by omega) h12 ((hP1.N q1)) q2 ?_
      have m1 := mrd_ph hG F k (by omega)
      have m2 := mstp_ph hG (mrd G F k) (b := k) (by omega)
      unfold nor
      rcases q3 with ⟨q3, q4⟩ | ⟨q3, q4⟩
      · rw [if_pos q3]
        rcases hr with hr | hr
        · rw [if_pos hr.1]
          refine Or.inl ⟨rfl, fun j hj => ?_⟩
          by_cases e : j = k + 1
          · subst e; show mstp G (mrd G F k) k = F; rw [q4]; exact hr.2 k (Nat.le_refl k)
          · exact hr.2 j (by omega)
        · rw [if_neg (by rw [hr.1]; decide)]
          refine Or.inr ⟨rfl, ?_⟩
          show mph F 24 < mph (mstp G (mrd G F k) k) 24
          have := hr.2
          omega
      · rw [if_neg (by rw [q3]; decide)]
        refine Or.inr ⟨rfl, ?_⟩
        show mph F 24 < mph (mstp G (mrd G F k) k) 24
        omega
theorem s_know88 {ρ : zo} (hC : zC ρ) {G : mG} {Q : zS → Prop} (hG : gG G) (f : zf) (h : ∀ f' F, frN f f' → f' 183 19 = 1 → rM f' F → mleast G F → Q (f', ρ)) : ∀ (m : Nat) (F : mF) (f' : zf) (r : Int32), 217 ≤ m + mph F 24 → frN f f' → pM f' G → rM f' F → (∀ H, mcl G H → mlF F H) → (∃ w, F 0 = some w ∧ mle mz w) → (r = 0 ∧ mcl G F ∨ r = 1) → P_M_know_88 201 Q (m + 2) 183 r (f', ρ) := by
  have hn := hG.2.1
  have fin : ∀ (m : Nat) (F : mF) (f' : zf), frN f f' → rM f' F → (∀ H, mcl G H → mlF F H) → mcl G F → P_M_know_88 201 Q (m + 1) 183 0 (f', ρ) := by
    intro m F f' h1 hF hb hc
    unfold P_M_know_88
    simp (disch := (first | assumption | omega)) only [true_and, and_true, zr_u, zi_u, zI_u, Option.some.injEq, exists_eq_left', nn_tn, nn_add, nn_s, nn_2, nn_5, nn_7, nn_8, na0, na2, na3, na4, na5, na6, uf_ne, uf_eq, ur_eq, ur_ne, true_or, or_true, not_true_eq_false, not_false_eq_true, true_implies, false_implies, implies_true, e10, e01, reduceIte, Option.isSome_none, Option.isSome_some, Bool.false_eq_true, bi_t, bi_f, ko_183]
    refine h _ F ⟨fun a z1 z2 z3 z4 z5 z6 => ?_, fun j z1 z2 z3 => ?_⟩ ?_ (hF.same ?_ ?_ ?_) ⟨hc, hb⟩
    · simp (disch := (first | assumption | omega)) only [true_and, and_true, zr_u, zi_u, zI_u, Option.some.injEq, exists_eq_left', nn_tn, nn_add, nn_s, nn_2, nn_5, nn_7, nn_8, na0, na2, na3, na4, na5, na6, uf_ne, uf_eq, ur_eq, ur_ne, true_or, or_true, not_true_eq_false, not_false_eq_true, true_implies, false_implies, implies_true, e10, e01, reduceIte, Option.isSome_none, Option.isSome_some, Bool.false_eq_true, bi_t, bi_f]
      exact h1.1 a z1 z2 z3 z4 z5 z6
    · simp (disch := (first | assumption | omega)) only [true_and, and_true, zr_u, zi_u, zI_u, Option.some.injEq, exists_eq_left', nn_tn, nn_add, nn_s, nn_2, nn_5, nn_7, nn_8, na0, na2, na3, na4, na5, na6, uf_ne, uf_eq, ur_eq, ur_ne, true_or, or_true, not_true_eq_false, not_false_eq_true, true_implies, false_implies, implies_true, e10, e01, reduceIte, Option.isSome_none, Option.isSome_some, Bool.false_eq_true, bi_t, bi_f]
      exact h1.2 j z1 z2 z3
    · simp (disch := (first | assumption | omega)) only [true_and, and_true, zr_u, zi_u, zI_u, Option.some.injEq, exists_eq_left', nn_tn, nn_add, nn_s, nn_2, nn_5, nn_7, nn_8, na0, na2, na3, na4, na5, na6, uf_ne, uf_eq, ur_eq, ur_ne, true_or, or_true, not_true_eq_false, not_false_eq_true, true_implies, false_implies, implies_true, e10, e01, reduceIte, Option.isSome_none, Option.isSome_some, Bool.false_eq_true, bi_t, bi_f]
    · simp (disch := (first | assumption | omega)) only [true_and, and_true, zr_u, zi_u, zI_u, Option.some.injEq, exists_eq_left', nn_tn, nn_add, nn_s, nn_2, nn_5, nn_7, nn_8, na0, na2, na3, na4, na5, na6, uf_ne, uf_eq, ur_eq, ur_ne, true_or, or_true, not_true_eq_false, not_false_eq_true, true_implies, false_implies, implies_true, e10, e01, reduceIte, Option.isSome_none, Option.isSome_some, Bool.false_eq_true, bi_t, bi_f]
    · simp (disch := (first | assumption | omega)) only [true_and, and_true, zr_u, zi_u, zI_u, Option.some.injEq, exists_eq_left', nn_tn, nn_add, nn_s, nn_2, nn_5, nn_7, nn_8, na0, na2, na3, na4, na5, na6, uf_ne, uf_eq, ur_eq, ur_ne, true_or, or_true, not_true_eq_false, not_false_eq_true, true_implies, false_implies, implies_true, e10, e01, reduceIte, Option.isSome_none, Option.isSome_some, Bool.false_eq_true, bi_t, bi_f]
    · simp (disch := (first | assumption | omega)) only [true_and, and_true, zr_u, zi_u, zI_u, Option.some.injEq, exists_eq_left', nn_tn, nn_add, nn_s, nn_2, nn_5, nn_7, nn_8, na0, na2, na3, na4, na5, na6, uf_ne, uf_eq, ur_eq, ur_ne, true_or, or_true, not_true_eq_false, not_false_eq_true, true_implies, false_implies, implies_true, e10, e01, reduceIte, Option.isSome_none, Option.isSome_some, Bool.false_eq_true, bi_t, bi_f]
  have step : ∀ (K : Nat → Int32 → zS → Prop) (F : mF) (f' : zf), frN f f' → pM f' G → rM f' F → (∀ H, mcl G H → mlF F H) → (∃ w, F 0 = some w ∧ mle mz w) → (∀ f'' F' r, frN f f'' → pM f'' G → rM f'' F' → (∀ H, mcl G H → mlF F' H) → (∃ w, F' 0 = some w ∧ mle mz w) → (r = 0 ∧ mcl G F' ∨ r = 1 ∧ mph F 24 < mph F' 24) → K 183 r (f'', ρ)) → ∃ g, P_M_know_96 201 Q K g 183 0 (nn 0) (f', ρ) := by
    intro K F f' h1 hP hF hb h0 hK
    refine ⟨_, s_know96 hC hG f' (fun f'' r q1 q2 q3 => ?_) G.1 0 f' 0 (by omega) (frN.rfl' _) hP hF (Or.inl ⟨rfl, fun j hj => (Nat.le_zero.mp hj) ▸ rfl⟩)⟩
    refine hK f'' _ r (h1.trans q1) (hP.N q1) q2 (fun H hH => mrd_below hH (hb H hH) _ (Nat.le_refl _)) ?_ ?_
    · obtain ⟨w, hw, l⟩ := h0
      have grow : ∀ k, k ≤ G.1 → mlF F (mrd G F k) := by
        intro k
        induction k with
        | zero => intro _; exact mlF_rfl F
        | succ k ih => intro hk; exact mlF_trans (ih (by omega)) (mstp_grow G _ k)
      obtain ⟨u, hu, l2⟩ := grow G.1 (Nat.le_refl _) 0 w hw
      exact ⟨u, hu, mle_trans l l2⟩
    · rcases q3 with ⟨q3, q4⟩ | q3
      · refine Or.inl ⟨q3, ?_⟩
        rw [q4 _ (Nat.le_refl _)]
        refine ⟨h0, fun b v hb hv q hq => ?_⟩
        have e1 : mstp G F b = F := by
          have := q4 (b + 1) (by omega)
          have e2 := q4 b (by omega)
          have : mstp G (mrd G F b) b = F := this
          rw [e2] at this; exact this
        have := mstp_has hv hq
        rw [e1] at this; exact this
      · exact Or.inr q3
  intro m
  induction m with
  | zero =>
    intro F f' r hm h1 hP hF hb h0 hr
    rcases hr with hr | hr
    · rw [hr.1]; exact fin 1 F f' h1 hF hb hr.2
    · exfalso
      have := mph_le F 24
      omega
  | succ m ih =>
    intro F f' r hm h1 hP hF hb h0 hr
    rcases hr with hr | hr
    · rw [hr.1]; exact fin _ F f' h1 hF hb hr.2
    · unfold P_M_know_88
      rw [hr]
      refine ⟨fun q => absurd q (by decide), fun _ => ?_⟩
      refine step _ F f' h1 hP hF hb h0 (fun f'' F' r' q1 q2 q3 q4 q5 q6 => ?_)
      rcases q6 with ⟨q6, q7⟩ | ⟨q6, q7⟩
      · rw [q6]; exact fin _ F' f'' q1 q3 q4 q7
      · exact ih F' f'' r' (by omega) q1 q2 q3 q4 q5 (Or.inr q6)
def mF0 : mF := fun b => if b = 0 then some mz else none
theorem s_know {f : zf} {ρ : zo} (hC : zC ρ) {G : mG} {Q : zS → Prop} (hG : gG G) (hP : pM f G) (hk : f 183 19 = 0 ∨ ∃ F, rM f F ∧ mleast G F) (h : ∀ f' F, frN f f' → (f 183 19 = 0 → f' 183 19 = 1) → (f 183 19 ≠ 0 → f' = f) → rM f' F → mleast G F → Q (f', ρ)) : P_M_know 201 183 (f, ρ) Q := by
  unfold P_M_know
  simp (disch := (first | assumption | omega)) only [true_and, and_true, zr_u, zi_u, zI_u, Option.some.injEq, exists_eq_left', nn_tn, nn_add, nn_s, nn_2, nn_5, nn_7, nn_8, na0, na2, na3, na4, na5, na6, uf_ne, uf_eq, ur_eq, ur_ne, true_or, or_true, not_true_eq_false, not_false_eq_true, true_implies, false_implies, implies_true, e10, e01, reduceIte, Option.isSome_none, Option.isSome_some, Bool.false_eq_true, bi_t, bi_f, ko_183]
  refine ⟨fun hz => ?_, fun hz => ?_⟩
  · have k67 : ∀ (m k : Nat) (f' : zf), k + m = 8 → frN f f' → (∀ i, i < 24 → f' 192 i = if i = 0 then 1 else 0) → (∀ i, i < 192 → f' 193 i = (if i < k then 1 else 0) ∧ f' 194 i = 0) → P_M_know_67 201 Q (m + 1) 183 (nn k) (f', ρ) := by
      intro m
      induction m with
      | zero =>
        intro k f' hk' h1 h2 h3
        unfold P_M_know_67
        rw [show (8 : Int32) ≤ nn k ↔ nn 8 ≤ nn k from Iff.rfl, nn_le (by omega) (by omega)]
        refine ⟨fun _ => ⟨_, s_know88 hC hG f (fun f'' F q1 q2 q3 q4 => h f'' F q1 (fun _ => q2) (fun q => absurd hz q) q3 q4) 217 mF0 f' 1 (by omega) h1 (hP.N h1) ⟨fun b hb => ?_, fun b hb => ?_⟩ (fun H hH b v hv => ?_) ⟨mz, rfl, mle_rfl _⟩ (Or.inr rfl)⟩, fun q => absurd (by omega) q⟩
        · unfold mF0
          by_cases e : b = 0
          · subst e
            refine ⟨by rw [h2 0 (by omega)]; rfl, fun x hx => ⟨fun c hc => ?_, fun hc => ?_⟩, fun x hx => rfl⟩
            · cases hc
              have := h3 (8 * 0 + x) (by omega)
              rw [if_pos (by omega)] at this; exact this
            · cases hc
          · rw [if_neg e]
            refine ⟨by rw [h2 b hb, if_neg e], fun x hx => ?_⟩
            have := (h3 (8 * b + x) (by omega)).1
            rw [if_neg (by omega)] at this; exact this
        · unfold mF0; rw [if_neg (by omega)]
        · unfold mF0 at hv
          by_cases e : b = 0
          · subst e; rw [if_pos rfl] at hv; cases hv; exact hH.1
          · rw [if_neg e] at hv; cases hv
      | succ m ih =>
        intro k f' hk' h1 h2 h3
        unfold P_M_know_67
        rw [show (8 : Int32) ≤ nn k ↔ nn 8 ≤ nn k from Iff.rfl, nn_le (by omega) (by omega)]
        refine ⟨fun q => absurd q (by omega), fun _ => ?_⟩
        simp (disch := (first | assumption | omega)) only [true_and, and_true, zr_u, zi_u, zI_u, Option.some.injEq, exists_eq_left', nn_tn, nn_add, nn_s, nn_2, nn_5, nn_7, nn_8, na0, na2, na3, na4, na5, na6, uf_ne, uf_eq, ur_eq, ur_ne, true_or, or_true, not_true_eq_false, not_false_eq_true, true_implies, false_implies, implies_true, e10, e01, reduceIte, Option.isSome_none, Option.isSome_some, Bool.false_eq_true, bi_t, bi_f, ko_183, rc_183_21 hC, ka_193]
        refine ih (k + 1) _ (by omega) ⟨fun a z1 z2 z3 z4 z5 z6 => ?_, fun j z1 z2 z3 => ?_⟩ (fun i hi => ?_) (fun i hi => ?_)
        · simp (disch := (first | assumption | omega)) only [true_and, and_true, zr_u, zi_u, zI_u, Option.some.injEq, exists_eq_left', nn_tn, nn_add, nn_s, nn_2, nn_5, nn_7, nn_8, na0, na2, na3, na4, na5, na6, uf_ne, uf_eq, ur_eq, ur_ne, true_or, or_true, not_true_eq_false, not_false_eq_true, true_implies, false_implies, implies_true, e10, e01, reduceIte, Option.isSome_none, Option.isSome_some, Bool.false_eq_true, bi_t, bi_f]
          exact h1.1 a z1 z2 z3 z4 z5 z6
        · simp (disch := (first | assumption | omega)) only [true_and, and_true, zr_u, zi_u, zI_u, Option.some.injEq, exists_eq_left', nn_tn, nn_add, nn_s, nn_2, nn_5, nn_7, nn_8, na0, na2, na3, na4, na5, na6, uf_ne, uf_eq, ur_eq, ur_ne, true_or, or_true, not_true_eq_false, not_false_eq_true, true_implies, false_implies, implies_true, e10, e01, reduceIte, Option.isSome_none, Option.isSome_some, Bool.false_eq_true, bi_t, bi_f]
          exact h1.2 j z1 z2 z3
        · simp (disch := (first | assumption | omega)) only [true_and, and_true, zr_u, zi_u, zI_u, Option.some.injEq, exists_eq_left', nn_tn, nn_add, nn_s, nn_2, nn_5, nn_7, nn_8, na0, na2, na3, na4, na5, na6, uf_ne, uf_eq, ur_eq, ur_ne, true_or, or_true, not_true_eq_false, not_false_eq_true, true_implies, false_implies, implies_true, e10, e01, reduceIte, Option.isSome_none, Option.isSome_some, Bool.false_eq_true, bi_t, bi_f]
          exact h2 i hi
        · by_cases e : i = k
          · subst e; simp (disch := (first | assumption | omega)) only [true_and, and_true, zr_u, zi_u, zI_u, Option.some.injEq, exists_eq_left', nn_tn, nn_add, nn_s, nn_2, nn_5, nn_7, nn_8, na0, na2, na3, na4, na5, na6, uf_ne, uf_eq, ur_eq, ur_ne, true_or, or_true, not_true_eq_false, not_false_eq_true, true_implies, false_implies, implies_true, e10, e01, reduceIte, Option.isSome_none, Option.isSome_some, Bool.false_eq_true, bi_t, bi_f]
            rw [if_pos (by omega)]; exact ⟨rfl, (h3 i hi).2⟩
          · simp (disch := (first | assumption | omega)) only [true_and, and_true, zr_u, zi_u, zI_u, Option.some.injEq, exists_eq_left', nn_tn, nn_add, nn_s, nn_2, nn_5, nn_7, nn_8, na0, na2, na3, na4, na5, na6, uf_ne, uf_eq, ur_eq, ur_ne, true_or, or_true, not_true_eq_false, not_false_eq_true, true_implies, false_implies, implies_true, e10, e01, reduceIte, Option.isSome_none, Option.isSome_some, Bool.false_eq_true, bi_t, bi_f]
            have := h3 i hi
            by_cases e2 : i < k
            · rw [if_pos (by omega)]; rw [if_pos e2] at this; exact this
            · rw [if_neg (by omega)]; rw [if_neg e2] at this; exact this
    have k39 : ∀ (m k : Nat) (f' : zf), k + m = 24 → frN f f' → (∀ i, i < k → f' 192 i = 0) → (∀ i, i < 192 → f' 193 i = 0 ∧ f' 194 i = 0) → P_M_know_39 201 Q (m + 1) 183 (nn k) (f', ρ) := by
      intro m
      induction m with
      | zero =>
        intro k f' hk' h1 h2 h3
        unfold P_M_know_39
        rw [show (24 : Int32) ≤ nn k ↔ nn 24 ≤ nn k from Iff.rfl, nn_le (by omega) (by omega)]
        refine ⟨fun _ => ?_, fun q => absurd (by omega) q⟩
        rw [show (0 : Int32) = nn 0 from rfl]
        simp (disch := (first | assumption | omega)) only [true_and, and_true, zr_u, zi_u, zI_u, Option.some.injEq, exists_eq_left', nn_tn, nn_add, nn_s, nn_2, nn_5, nn_7, nn_8, na0, na2, na3, na4, na5, na6, uf_ne, uf_eq, ur_eq, ur_ne, true_or, or_true, not_true_eq_false, not_false_eq_true, true_implies, false_implies, implies_true, e10, e01, reduceIte, Option.isSome_none, Option.isSome_some, Bool.false_eq_true, bi_t, bi_f, ko_183, rc_183_20 hC, ka_192, nar_b1]
        refine ⟨_, k67 8 0 _ rfl ⟨fun a z1 z2 z3 z4 z5 z6 => ?_, fun j z1 z2 z3 => ?_⟩ (fun i hi => ?_) (fun i hi => ?_)⟩
        · simp (disch := (first | assumption | omega)) only [true_and, and_true, zr_u, zi_u, zI_u, Option.some.injEq, exists_eq_left', nn_tn, nn_add, nn_s, nn_2, nn_5, nn_7, nn_8, na0, na2, na3, na4, na5, na6, uf_ne, uf_eq, ur_eq, ur_ne, true_or, or_true, not_true_eq_false, not_false_eq_true, true_implies, false_implies, implies_true, e10, e01, reduceIte, Option.isSome_none, Option.isSome_some, Bool.false_eq_true, bi_t, bi_f]
          exact h1.1 a z1 z2 z3 z4 z5 z6
        · simp (disch := (first | assumption | omega)) only [true_and, and_true, zr_u, zi_u, zI_u, Option.some.injEq, exists_eq_left', nn_tn, nn_add, nn_s, nn_2, nn_5, nn_7, nn_8, na0, na2, na3, na4, na5, na6, uf_ne, uf_eq, ur_eq, ur_ne, true_or, or_true, not_true_eq_false, not_false_eq_true, true_implies, false_implies, implies_true, e10, e01, reduceIte, Option.isSome_none, Option.isSome_some, Bool.false_eq_true, bi_t, bi_f]
          exact h1.2 j z1 z2 z3
        · by_cases e : i = 0
          · subst e; simp (disch := (first | assumption | omega)) only [true_and, and_true, zr_u, zi_u, zI_u, Option.some.injEq, exists_eq_left', nn_tn, nn_add, nn_s, nn_2, nn_5, nn_7, nn_8, na0, na2, na3, na4, na5, na6, uf_ne, uf_eq, ur_eq, ur_ne, true_or, or_true, not_true_eq_false, not_false_eq_true, true_implies, false_implies, implies_true, e10, e01, reduceIte, Option.isSome_none, Option.isSome_some, Bool.false_eq_true, bi_t, bi_f]
          · simp (disch := (first | assumption | omega)) only [true_and, and_true, zr_u, zi_u, zI_u, Option.some.injEq, exists_eq_left', nn_tn, nn_add, nn_s, nn_2, nn_5, nn_7, nn_8, na0, na2, na3, na4, na5, na6, uf_ne, uf_eq, ur_eq, ur_ne, true_or, or_true, not_true_eq_false, not_false_eq_true, true_implies, false_implies, implies_true, e10, e01, reduceIte, Option.isSome_none, Option.isSome_some, Bool.false_eq_true, bi_t, bi_f, if_neg e]
            exact h2 i (by omega)
        · simp (disch := (first | assumption | omega)) only [true_and, and_true, zr_u, zi_u, zI_u, Option.some.injEq, exists_eq_left', nn_tn, nn_add, nn_s, nn_2, nn_5, nn_7, nn_8, na0, na2, na3, na4, na5, na6, uf_ne, uf_eq, ur_eq, ur_ne, true_or, or_true, not_true_eq_false, not_false_eq_true, true_implies, false_implies, implies_true, e10, e01, reduceIte, Option.isSome_none, Option.isSome_some, Bool.false_eq_true, bi_t, bi_f]
          exact h3 i hi
      | succ m ih =>
        intro k f' hk' h1 h2 h3
        unfold P_M_know_39
        rw [show (24 : Int32) ≤ nn k ↔ nn 24 ≤ nn k from Iff.rfl, nn_le (by omega) (by omega)]
        refine ⟨fun q => absurd q (by omega), fun _ => ?_⟩
        simp (disch := (first | assumption | omega)) only [true_and, and_true, zr_u, zi_u, zI_u, Option.some.injEq, exists_eq_left', nn_tn, nn_add, nn_s, nn_2, nn_5, nn_7, nn_8, na0, na2, na3, na4, na5, na6, uf_ne, uf_eq, ur_eq, ur_ne, true_or, or_true, not_true_eq_false, not_false_eq_true, true_implies, false_implies, implies_true, e10, e01, reduceIte, Option.isSome_none, Option.isSome_some, Bool.false_eq_true, bi_t, bi_f, ko_183, rc_183_20 hC, ka_192, nar_b0]
        refine ih (k + 1) _ (by omega) ⟨fun a z1 z2 z3 z4 z5 z6 => ?_, fun j z1 z2 z3 => ?_⟩ (fun i hi => ?_) (fun i hi => ?_)
        · simp (disch := (first | assumption | omega)) only [true_and, and_true, zr_u, zi_u, zI_u, Option.some.injEq, exists_eq_left', nn_tn, nn_add, nn_s, nn_2, nn_5, nn_7, nn_8, na0, na2, na3, na4, na5, na6, uf_ne, uf_eq, ur_eq, ur_ne, true_or, or_true, not_true_eq_false, not_false_eq_true, true_implies, false_implies, implies_true, e10, e01, reduceIte, Option.isSome_none, Option.isSome_some, Bool.false_eq_true, bi_t, bi_f]
          exact h1.1 a z1 z2 z3 z4 z5 z6
        · simp (disch := (first | assumption | omega)) only [true_and, and_true, zr_u, zi_u, zI_u, Option.some.injEq, exists_eq_left', nn_tn, nn_add, nn_s, nn_2, nn_5, nn_7, nn_8, na0, na2, na3, na4, na5, na6, uf_ne, uf_eq, ur_eq, ur_ne, true_or, or_true, not_true_eq_false, not_false_eq_true, true_implies, false_implies, implies_true, e10, e01, reduceIte, Option.isSome_none, Option.isSome_some, Bool.false_eq_true, bi_t, bi_f]
          exact h1.2 j z1 z2 z3
        · by_cases e : i = k
          · subst e; simp (disch := (first | assumption | omega)) only [true_and, and_true, zr_u, zi_u, zI_u, Option.some.injEq, exists_eq_left', nn_tn, nn_add, nn_s, nn_2, nn_5, nn_7, nn_8, na0, na2, na3, na4, na5, na6, uf_ne, uf_eq, ur_eq, ur_ne, true_or, or_true, not_true_eq_false, not_false_eq_true, true_implies, false_implies, implies_true, e10, e01, reduceIte, Option.isSome_none, Option.isSome_some, Bool.false_eq_true, bi_t, bi_f]
          · simp (disch := (first | assumption | omega)) only [true_and, and_true, zr_u, zi_u, zI_u, Option.some.injEq, exists_eq_left', nn_tn, nn_add, nn_s, nn_2, nn_5, nn_7, nn_8, na0, na2, na3, na4, na5, na6, uf_ne, uf_eq, ur_eq, ur_ne, true_or, or_true, not_true_eq_false, not_false_eq_true, true_implies, false_implies, implies_true, e10, e01, reduceIte, Option.isSome_none, Option.isSome_some, Bool.false_eq_true, bi_t, bi_f]
            exact h2 i (by omega)
        · simp (disch := (first | assumption | omega)) only [true_and, and_true, zr_u, zi_u, zI_u, Option.some.injEq, exists_eq_left', nn_tn, nn_add, nn_s, nn_2, nn_5, nn_7, nn_8, na0, na2, na3, na4, na5, na6, uf_ne, uf_eq, ur_eq, ur_ne, true_or, or_true, not_true_eq_false, not_false_eq_true, true_implies, false_implies, implies_true, e10, e01, reduceIte, Option.isSome_none, Option.isSome_some, Bool.false_eq_true, bi_t, bi_f]
          exact h3 i hi
    have k10 : ∀ (m k : Nat) (f' : zf), k + m = 192 → frN f f' → (∀ i, i < k → f' 193 i = 0 ∧ f' 194 i = 0) → P_M_know_10 201 Q (m + 1) 183 (nn k) (f', ρ) := by
      intro m
      induction m with
      | zero =>
        intro k f' hk' h1 h3
        unfold P_M_know_10
        rw [show (192 : Int32) ≤ nn k ↔ nn 192 ≤ nn k from Iff.rfl, nn_le (by omega) (by omega)]
        exact ⟨fun _ => ⟨_, k39 24 0 f' rfl h1 (fun i hi => absurd hi (by omega)) (fun i hi => h3 i (by omega))⟩, fun q => absurd (by omega) q⟩
      | succ m ih =>
        intro k f' hk' h1 h3
        unfold P_M_know_10
        rw [show (192 : Int32) ≤ nn k ↔ nn 192 ≤ nn k from Iff.rfl, nn_le (by omega) (by omega)]
        refine ⟨fun q => absurd q (by omega), fun _ => ?_⟩
        simp (disch := (first | assumption | omega)) only [true_and, and_true, zr_u, zi_u, zI_u, Option.some.injEq, exists_eq_left', nn_tn, nn_add, nn_s, nn_2, nn_5, nn_7, nn_8, na0, na2, na3, na4, na5, na6, uf_ne, uf_eq, ur_eq, ur_ne, true_or, or_true, not_true_eq_false, not_false_eq_true, true_implies, false_implies, implies_true, e10, e01, reduceIte, Option.isSome_none, Option.isSome_some, Bool.false_eq_true, bi_t, bi_f, ko_183, rc_183_21 hC, rc_183_22 hC, ka_193, ka_194]
        refine ih (k + 1) _ (by omega) ⟨fun a z1 z2 z3 z4 z5 z6 => ?_, fun j z1 z2 z3 => ?_⟩ (fun i hi => ?_)
        · simp (disch := (first | assumption | omega)) only [true_and, and_true, zr_u, zi_u, zI_u, Option.some.injEq, exists_eq_left', nn_tn, nn_add, nn_s, nn_2, nn_5, nn_7, nn_8, na0, na2, na3, na4, na5, na6, uf_ne, uf_eq, ur_eq, ur_ne, true_or, or_true, not_true_eq_false, not_false_eq_true, true_implies, false_implies, implies_true, e10, e01, reduceIte, Option.isSome_none, Option.isSome_some, Bool.false_eq_true, bi_t, bi_f]
          exact h1.1 a z1 z2 z3 z4 z5 z6
        · simp (disch := (first | assumption | omega)) only [true_and, and_true, zr_u, zi_u, zI_u, Option.some.injEq, exists_eq_left', nn_tn, nn_add, nn_s, nn_2, nn_5, nn_7, nn_8, na0, na2, na3, na4, na5, na6, uf_ne, uf_eq, ur_eq, ur_ne, true_or, or_true, not_true_eq_false, not_false_eq_true, true_implies, false_implies, implies_true, e10, e01, reduceIte, Option.isSome_none, Option.isSome_some, Bool.false_eq_true, bi_t, bi_f]
          exact h1.2 j z1 z2 z3
        · by_cases e : i = k
          · subst e; simp (disch := (first | assumption | omega)) only [true_and, and_true, zr_u, zi_u, zI_u, Option.some.injEq, exists_eq_left', nn_tn, nn_add, nn_s, nn_2, nn_5, nn_7, nn_8, na0, na2, na3, na4, na5, na6, uf_ne, uf_eq, ur_eq, ur_ne, true_or, or_true, not_true_eq_false, not_false_eq_true, true_implies, false_implies, implies_true, e10, e01, reduceIte, Option.isSome_none, Option.isSome_some, Bool.false_eq_true, bi_t, bi_f]
          · simp (disch := (first | assumption | omega)) only [true_and, and_true, zr_u, zi_u, zI_u, Option.some.injEq, exists_eq_left', nn_tn, nn_add, nn_s, nn_2, nn_5, nn_7, nn_8, na0, na2, na3, na4, na5, na6, uf_ne, uf_eq, ur_eq, ur_ne, true_or, or_true, not_true_eq_false, not_false_eq_true, true_implies, false_implies, implies_true, e10, e01, reduceIte, Option.isSome_none, Option.isSome_some, Bool.false_eq_true, bi_t, bi_f]
            exact h3 i (by omega)
    exact ⟨_, k10 192 0 f rfl (frN.rfl' f) (fun i hi => absurd hi (by omega))⟩
  · rcases hk with hk | ⟨F, hF, hl⟩
    · exact absurd hk hz
    · exact h f F (frN.rfl' f) (fun q => absurd q hz) (fun _ => rfl) hF hl
