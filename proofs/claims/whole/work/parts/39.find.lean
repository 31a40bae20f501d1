/-! The class finds the least facts. -/
/-- what holds between the flows -/
def iF (f : zf) (G : mG) (F : mF) : Prop := rC f F ∧ (∀ H, mcl G H → mlF F H) ∧ (∃ w, F 0 = some w ∧ mle mz w) ∧ (∀ j, j < 24 → f 9 j = 0 ∨ f 9 j = 1 ∧ F j ≠ none) ∧ (∀ j, F j ≠ none → j < G.1) ∧ ∀ b v, F b = some v → f 9 b = 0 → hV f (23 + 6 * b) (mfb G b v) ∧ ∀ q, q ∈ msu (G.2.2.2.2 b) (mfb G b v) → ∃ u, F q = some u ∧ mle (mfb G b v) u
def nost (f : zf) : Prop := ∀ j, j < 24 → f 9 j = 0
theorem mstp_dom {G : mG} (hG : gG G) {F : mF} (h : ∀ j, F j ≠ none → j < G.1) {b : Nat} (hb : b < G.1) : ∀ j, mstp G F b j ≠ none → j < G.1 := by
  have key : ∀ (w : mV) (qs : List Nat) (F : mF), (∀ j, F j ≠ none → j < G.1) → (∀ q, q ∈ qs → q < G.1) → ∀ j, mjs F w qs j ≠ none → j < G.1 := by
    intro w qs
    induction qs with
    | nil => intro F h1 _ j hj; exact h1 j hj
    | cons q r ih =>
      intro F h1 h2 j hj
      refine ih _ (fun i hi => ?_) (fun x hx => h2 x (List.mem_cons_of_mem _ hx)) j hj
      unfold mpu at hi
      by_cases e : i = q
      · rw [e]; exact h2 q List.mem_cons_self
      · rw [if_neg e] at hi; exact h1 i hi
  intro j hj
  unfold mstp at hj
  cases hv : F b with
  | none => rw [hv] at hj; exact h j hj
  | some v => rw [hv] at hj; exact key _ _ F h (msu_lt hG hb _) j hj
theorem s_flowOnce {f : zf} {ρ : zo} (hC : zC ρ) {p i : Nat} {G : mG} {F : mF} {Q : Int32 → zS → Prop} (hp : zp_ p) (hG : gG G) (hP : pC f p G) (hI : iF f G F) (hi : nost f ∨ i + 1 ≤ mph F 24) (h : ∀ f' F' r, frF f f' → iF f' G F' → (r = 0 ∧ nost f' ∨ r = 1 ∧ (nost f' ∨ i + 2 ≤ mph F' 24)) → Q r (f', ρ)) : P_F_flowOnce 201 7 p (f, ρ) Q := by
  have hn := hG.2.1
  have key : ∀ (m k : Nat) (f' : zf) (F' : mF) (r : Int32), k + m = G.1 → frF f f' → iF f' G F' → (r = 0 ∨ r = 1) → (r = 0 → ∀ j, j < k → f' 9 j = 0) → (nost f' ∨ i + 1 ≤ mph F' 24 ∧ ∀ j, j < k → f' 9 j = 1 → i + 2 ≤ mph F' 24) → P_F_flowOnce_4 201 Q (m + 1) 7 p r (nn k) (f', ρ) := by
    intro m
    induction m with
    | zero =>
      intro k f' F' r hk h1 h2 h3 h4 h5
      have hP' := hP.F hp h1
      unfold P_F_flowOnce_4
      simp (disch := (first | assumption | omega)) only [true_and, and_true, zr_u, zi_u, zI_u, Option.some.injEq, exists_eq_left', nn_tn, nn_add, nn_s, nn_2, nn_5, nn_7, nn_8, na0, na2, na3, na4, na5, na6, uf_ne, uf_eq, ur_eq, ur_ne, true_or, or_true, not_true_eq_false, not_false_eq_true, true_implies, false_implies, implies_true, e10, e01, reduceIte, Option.isSome_none, Option.isSome_some, Bool.false_eq_true, bi_t, bi_f, ko_p, hP'.1]
      simp (disch := omega) only [nn_le]
      refine ⟨fun _ => ⟨h3, h f' F' r h1 h2 ?_⟩, fun q => absurd (by omega) q⟩
      have big : ∀ j, j < 24 → G.1 ≤ j → f' 9 j = 0 := fun j hj hj2 => by
        rcases h2.2.2.2.1 j hj with q | q
        · exact q
        · have := h2.2.2.2.2.1 j q.2; omega
      rcases h3 with h3 | h3
      · refine Or.inl ⟨h3, fun j hj => ?_⟩
        by_cases e : j < k
        · exact h4 h3 j e
        · exact big j hj (by omega)
      · refine Or.inr ⟨h3, ?_⟩
        rcases h5 with h5 | ⟨-, h5⟩
        · exact Or.inl h5
        · by_cases z : i + 2 ≤ mph F' 24
          · exact Or.inr z
          · refine Or.inl (fun j hj => ?_)
            rcases h2.2.2.2.1 j hj with q | q
            · exact q
            · exact absurd (h5 j (by have := h2.2.2.2.2.1 j q.2; omega) q.1) z
    | succ m ih =>
      intro k f' F' r hk h1 h2 h3 h4 h5
      have hP' := hP.F hp h1
      unfold P_F_flowOnce_4 P_F_flowOnce_36
      simp (disch := (first | assumption | omega)) only [true_and, and_true, zr_u, zi_u, zI_u, Option.some.injEq, exists_eq_left', nn_tn, nn_add, nn_s, nn_2, nn_5, nn_7, nn_8, na0, na2, na3, na4, na5, na6, uf_ne, uf_eq, ur_eq, ur_ne, true_or, or_true, not_true_eq_false, not_false_eq_true, true_implies, false_implies, implies_true, e10, e01, reduceIte, Option.isSome_none, Option.isSome_some, Bool.false_eq_true, bi_t, bi_f, ko_p, hP'.1, ko_7, rc_7_1 hC, ka_9, nar_b0]
      simp (disch := omega) only [nn_le]
      refine ⟨fun q => absurd q (by omega), fun _ => ⟨fun q => ?_, fun q => ?_⟩⟩
      · refine ih (k + 1) f' F' r (by omega) h1 h2 h3 (fun z j hj => ?_) ?_
        · by_cases e : j = k
          · rw [e]; exact q
          · exact h4 z j (by omega)
        · rcases h5 with h5 | ⟨h5, h6⟩
          · exact Or.inl h5
          · refine Or.inr ⟨h5, fun j hj hj1 => ?_⟩
            by_cases e : j = k
            · rw [e, q] at hj1; exact absurd hj1 (by decide)
            · exact h6 j (by omega) hj1
      · obtain ⟨c1, c2, c3, c4, c5, c6⟩ := h2
        have hk1 : f' 9 k = 1 ∧ F' k ≠ none := by
          rcases c4 k (by omega) with z | z
          · exact absurd z q
          · exact z
        have h6 : i + 1 ≤ mph F' 24 ∧ ∀ j, j < k → f' 9 j = 1 → i + 2 ≤ mph F' 24 := by
          rcases h5 with h5 | h5
          · exact absurd (h5 k (by omega)) q
          · exact h5
        cases hv : F' k with
        | none => exact absurd hv hk1.2
        | some v =>
          have g1 : frF f (uf f' 9 k 0) := h1.trans (fun a _ z _ => uf_ne _ z)
          have g2 : rC (uf f' 9 k 0) F' := c1.same (uf_ne _ (by decide)) (fun b hb => ⟨uf_ne _ (by omega), uf_ne _ (by omega)⟩)
          refine s_flowThrough hC hp hG (by omega) (hP.F hp g1) g2 hv (fun f2 r1 r2 r3 r4 r5 => ?_)
          have ph := mstp_ph hG F' (b := k) (by omega)
          refine ih (k + 1) f2 (mstp G F' k) 1 (by omega) (g1.trans r1) ⟨r3, fun H hH => mstp_below hH (c2 H hH) (by omega), ?_, fun j hj => ?_, mstp_dom hG c5 (by omega), fun b w hb h9 => ?_⟩ (Or.inr rfl) (fun z => absurd z (by decide)) (Or.inr ⟨by omega, fun j hj hj1 => ?_⟩)
          · obtain ⟨w, hw, l⟩ := c3
            obtain ⟨u, hu, l2⟩ := mstp_grow G F' k 0 w hw
            exact ⟨u, hu, mle_trans l l2⟩
          · rcases r5.1 j hj with z | z
            · rw [z, uf_eq]
              by_cases e : j = k
              · left; rw [e, ur_eq]
              · rw [ur_ne _ e]
                rcases c4 j hj with y | y
                · exact Or.inl y
                · refine Or.inr ⟨y.1, ?_⟩
                  cases hw : F' j with
                  | none => exact absurd hw y.2
                  | some w =>
                    obtain ⟨u, hu, -⟩ := mstp_grow G F' k j w hw
                    rw [hu]; exact fun z => by cases z
            · exact Or.inr z
          · have e1 : mstp G F' k b = F' b := by
              by_cases e : mstp G F' k b = F' b
              · exact e
              · exact absurd ((r5.2.1 b e).symm.trans h9) (by decide)
            rw [e1] at hb
            by_cases e : b = k
            · subst e
              rw [hv] at hb; cases hb
              exact ⟨r4, fun q hq => mstp_has hv hq⟩
            · have hb24 : b < 24 := by have := c5 b (by rw [hb]; exact fun z => by cases z); omega
              have h90 : f' 9 b = 0 := by
                rcases r5.1 b hb24 with z | z
                · rw [z, uf_eq, ur_ne _ e] at h9; exact h9
                · exact absurd (z.1.symm.trans h9) (by decide)
              obtain ⟨d1, d2⟩ := c6 b w hb h90
              refine ⟨d1.same ?_ ?_, fun q hq => ?_⟩
              · rw [(r2 b hb24 e).1, uf_ne _ (by omega)]
              · rw [(r2 b hb24 e).2, uf_ne _ (by omega)]
              · obtain ⟨u, hu, l⟩ := d2 q hq
                obtain ⟨u2, hu2, l2⟩ := mstp_grow G F' k q u hu
                exact ⟨u2, hu2, mle_trans l l2⟩
          · rcases r5.2.2 with z | ⟨z1, z2⟩
            · omega
            · rw [z1]
              rw [z2, uf_eq] at hj1
              by_cases e : j = k
              · rw [e, ur_eq] at hj1; exact absurd hj1 (by decide)
              · rw [ur_ne _ e] at hj1; exact h6.2 j (by omega) hj1
  refine ⟨_, key G.1 0 f F 0 (by omega) (frF.rfl' f) hI (Or.inl rfl) (fun _ j hj => absurd hj (by omega)) ?_⟩
  rcases hi with hi | hi
  · exact Or.inl hi
  · exact Or.inr ⟨hi, fun j hj => absurd hj (by omega)⟩
theorem nost_least {f : zf} {G : mG} {F : mF} (h : iF f G F) (hn : nost f) (hG : gG G) : mleast G F ∧ ∀ b v, F b = some v → hV f (23 + 6 * b) (mfb G b v) := by
  have h9 : ∀ b v, F b = some v → f 9 b = 0 := fun b v hv => hn b (by have := h.2.2.2.2.1 b (by rw [hv]; exact fun z => by cases z); have := hG.2.1; omega)
  exact ⟨⟨⟨h.2.2.1, fun b v _ hv => (h.2.2.2.2.2 b v hv (h9 b v hv)).2⟩, h.2.1⟩, fun b v hv => (h.2.2.2.2.2 b v hv (h9 b v hv)).1⟩
/-- the facts as the class holds them when they are found -/
def kC (f : zf) (G : mG) (F : mF) : Prop := rC f F ∧ mleast G F ∧ (∀ b v, F b = some v → b < G.1 ∧ hV f (23 + 6 * b) (mfb G b v)) ∧ hV f 12 mz
theorem s_find {f : zf} {ρ : zo} (hC : zC ρ) {p : Nat} {G : mG} {Q : zS → Prop} (hp : zp_ p) (hG : gG G) (hP : pC f p G) (hz : hV f 12 mz) (h : ∀ f' F, frF f f' → kC f' G F → P_F_count 201 7 p (f', ρ) Q) : P_F_find 201 7 p (f, ρ) Q := by
  have hn := hG.2.1
  have fin : ∀ (f' : zf) (F : mF), frF f f' → iF f' G F → nost f' → P_F_find_64 201 Q 7 p (f', ρ) := by
    intro f' F h1 h2 h3
    unfold P_F_find_64
    simp (disch := (first | assumption | omega)) only [true_and, and_true, zr_u, zi_u, zI_u, Option.some.injEq, exists_eq_left', nn_tn, nn_add, nn_s, nn_2, nn_5, nn_7, nn_8, na0, na2, na3, na4, na5, na6, uf_ne, uf_eq, ur_eq, ur_ne, true_or, or_true, not_true_eq_false, not_false_eq_true, true_implies, false_implies, implies_true, e10, e01, reduceIte, Option.isSome_none, Option.isSome_some, Bool.false_eq_true, bi_t, bi_f, ko_7]
    obtain ⟨q1, q2⟩ := nost_least h2 h3 hG
    exact h f' F h1 ⟨h2.1, q1, fun b v hv => ⟨h2.2.2.2.2.1 b (by rw [hv]; exact fun z => by cases z), q2 b v hv⟩, hz.same (h1 _ (by decide) (by decide) (by decide)) (h1 _ (by decide) (by decide) (by decide))⟩
  have k41 : ∀ (m i : Nat) (f' : zf) (F : mF) (r : Int32), i + m = 217 → frF f f' → iF f' G F → (r = 0 ∧ nost f' ∨ r = 1 ∧ (nost f' ∨ i + 1 ≤ mph F 24)) → P_F_find_41 201 Q (m + 1) 7 p r (nn i) (f', ρ) := by
    intro m
    induction m with
    | zero =>
      intro i f' F r hi h1 h2 h3
      unfold P_F_find_41
      rw [show (217 : Int32) ≤ nn i ↔ nn 217 ≤ nn i from Iff.rfl, nn_le (by omega) (by omega)]
      have h4 : nost f' := by
        rcases h3 with ⟨-, h3⟩ | ⟨-, h3 | h3⟩
        · exact h3
        · exact h3
        · have := mph_le F 24; omega
      exact ⟨fun _ => fin f' F h1 h2 h4, fun _ => ⟨fun _ => fin f' F h1 h2 h4, fun q => absurd (by omega) q⟩⟩
    | succ m ih =>
      intro i f' F r hi h1 h2 h3
      unfold P_F_find_41
      rw [show (217 : Int32) ≤ nn i ↔ nn 217 ≤ nn i from Iff.rfl, nn_le (by omega) (by omega)]
      simp (disch := (first | assumption | omega)) only [true_and, and_true, zr_u, zi_u, zI_u, Option.some.injEq, exists_eq_left', nn_tn, nn_add, nn_s, nn_2, nn_5, nn_7, nn_8, na0, na2, na3, na4, na5, na6, uf_ne, uf_eq, ur_eq, ur_ne, true_or, or_true, not_true_eq_false, not_false_eq_true, true_implies, false_implies, implies_true, e10, e01, reduceIte, Option.isSome_none, Option.isSome_some, Bool.false_eq_true, bi_t, bi_f, ko_7]
      refine ⟨fun q => ?_, fun q => ⟨fun z => absurd z (by omega), fun _ => ?_⟩⟩
      · rcases h3 with ⟨-, h3⟩ | ⟨h3, -⟩
        · exact fin f' F h1 h2 h3
        · rw [h3] at q; exact absurd q (by decide)
      · have h4 : nost f' ∨ i + 1 ≤ mph F 24 := by
          rcases h3 with ⟨h3, -⟩ | ⟨-, h3⟩
          · exact absurd h3 q
          · exact h3
        refine s_flowOnce (i := i) hC hp hG (hP.F hp h1) h2 h4 (fun f2 F2 r2 a1 a2 a3 => ?_)
        exact ih (i + 1) f2 F2 r2 (by omega) (h1.trans a1) a2 a3
  have k2 : ∀ (m k : Nat) (f' : zf), k + m = 24 → frF f f' → (∀ j, j < k → f' 8 j = 0 ∧ f' 9 j = 0) → P_F_find_2 201 Q (m + 1) 7 p (nn k) (f', ρ) := by
    intro m
    induction m with
    | zero =>
      intro k f' hk h1 h2
      have k24 : k = 24 := by omega
      subst k24
      unfold P_F_find_2
      rw [show (24 : Int32) ≤ nn 24 ↔ nn 24 ≤ nn 24 from Iff.rfl, nn_le (by omega) (by omega)]
      refine ⟨fun _ => ?_, fun q => absurd (by omega) q⟩
      simp (disch := (first | assumption | omega)) only [true_and, and_true, zr_u, zi_u, zI_u, Option.some.injEq, exists_eq_left', nn_tn, nn_add, nn_s, nn_2, nn_5, nn_7, nn_8, na0, na2, na3, na4, na5, na6, uf_ne, uf_eq, ur_eq, ur_ne, true_or, or_true, not_true_eq_false, not_false_eq_true, true_implies, false_implies, implies_true, e10, e01, reduceIte, Option.isSome_none, Option.isSome_some, Bool.false_eq_true, bi_t, bi_f, ko_7, rc_7_4 hC]
      rw [show (0 : Int32) = nn 0 from rfl]
      have hv12 : zv_ 12 := Or.inl rfl
      refine s_comeTo (F := fun _ => none) (w := mz) hC (by decide) hv12 (by decide) ⟨fun b hb => (h2 b hb).1, fun _ _ => rfl⟩ (hz.same (h1 _ (by decide) (by decide) (by decide)) (h1 _ (by decide) (by decide) (by decide))) (fun f2 a1 a2 a3 => ?_)
      have e0 : mpu (fun _ => none) 0 (mjo none mz) = mF0 := rfl
      have a2 : rC f2 mF0 := a2
      have e9 : f2 9 = ur (f' 9) 0 1 := by
        rcases a3 with ⟨a3, -⟩ | ⟨a3, -⟩
        · have := congrFun a3 0
          cases this
        · exact a3
      have nz : ∀ b v, mF0 b = some v → b = 0 := fun b v hv => by
        unfold mF0 at hv
        by_cases e : b = 0
        · exact e
        · rw [if_neg e] at hv; cases hv
      refine ⟨_, k41 217 0 f2 mF0 1 rfl (h1.trans (fun a z1 z2 z3 => a1 a z1 z2 (by omega) (by omega))) ⟨a2, fun H hH b v hv => ?_, ⟨mz, rfl, mle_rfl _⟩, fun j hj => ?_, fun j hj => ?_, fun b v hv h9 => ?_⟩ (Or.inr ⟨rfl, Or.inr ?_⟩)⟩
      · have e := nz b v hv
        subst e
        cases hv; exact hH.1
      · rw [e9]
        by_cases e : j = 0
        · subst e; right; exact ⟨ur_eq _, fun z => by cases z⟩
        · left; rw [ur_ne _ e]; exact (h2 j hj).2
      · cases hv : mF0 j with
        | none => exact absurd hv hj
        | some v => have := nz j v hv; have := hG.1; omega
      · have e := nz b v hv
        subst e
        rw [e9, ur_eq] at h9; exact absurd h9 (by decide)
      · have := (mph_put (fun _ => none) 0 mz 24).1 (by decide)
        have e3 : mpu (fun _ => none) 0 mz = mF0 := rfl
        rw [e3] at this
        have e4 : mwt (none : Option mV) = 0 := rfl
        have e5 : mwt (some mz) = 1 + mca mz 8 := rfl
        omega
    | succ m ih =>
      intro k f' hk h1 h2
      unfold P_F_find_2
      rw [show (24 : Int32) ≤ nn k ↔ nn 24 ≤ nn k from Iff.rfl, nn_le (by omega) (by omega)]
      refine ⟨fun q => absurd q (by omega), fun _ => ?_⟩
      simp (disch := (first | assumption | omega)) only [true_and, and_true, zr_u, zi_u, zI_u, Option.some.injEq, exists_eq_left', nn_tn, nn_add, nn_s, nn_2, nn_5, nn_7, nn_8, na0, na2, na3, na4, na5, na6, uf_ne, uf_eq, ur_eq, ur_ne, true_or, or_true, not_true_eq_false, not_false_eq_true, true_implies, false_implies, implies_true, e10, e01, reduceIte, Option.isSome_none, Option.isSome_some, Bool.false_eq_true, bi_t, bi_f, ko_7, rc_7_0 hC, rc_7_1 hC, ka_8, ka_9, nar_b0]
      refine ih (k + 1) _ (by omega) (fun a z1 z2 z3 => ?_) (fun j hj => ?_)
      · simp (disch := (first | assumption | omega)) only [true_and, and_true, zr_u, zi_u, zI_u, Option.some.injEq, exists_eq_left', nn_tn, nn_add, nn_s, nn_2, nn_5, nn_7, nn_8, na0, na2, na3, na4, na5, na6, uf_ne, uf_eq, ur_eq, ur_ne, true_or, or_true, not_true_eq_false, not_false_eq_true, true_implies, false_implies, implies_true, e10, e01, reduceIte, Option.isSome_none, Option.isSome_some, Bool.false_eq_true, bi_t, bi_f]
        exact h1 a z1 z2 z3
      · by_cases e : j = k
        · subst e; simp (disch := (first | assumption | omega)) only [true_and, and_true, zr_u, zi_u, zI_u, Option.some.injEq, exists_eq_left', nn_tn, nn_add, nn_s, nn_2, nn_5, nn_7, nn_8, na0, na2, na3, na4, na5, na6, uf_ne, uf_eq, ur_eq, ur_ne, true_or, or_true, not_true_eq_false, not_false_eq_true, true_implies, false_implies, implies_true, e10, e01, reduceIte, Option.isSome_none, Option.isSome_some, Bool.false_eq_true, bi_t, bi_f]
        · simp (disch := (first | assumption | omega)) only [true_and, and_true, zr_u, zi_u, zI_u, Option.some.injEq, exists_eq_left', nn_tn, nn_add, nn_s, nn_2, nn_5, nn_7, nn_8, na0, na2, na3, na4, na5, na6, uf_ne, uf_eq, ur_eq, ur_ne, true_or, or_true, not_true_eq_false, not_false_eq_true, true_implies, false_implies, implies_true, e10, e01, reduceIte, Option.isSome_none, Option.isSome_some, Bool.false_eq_true, bi_t, bi_f]
          exact h2 j (by omega)
  exact ⟨_, k2 24 0 f rfl (frF.rfl' f) (fun j hj => absurd hj (by omega))⟩
