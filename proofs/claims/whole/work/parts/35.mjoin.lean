/-! The reference follows statements, begins blocks, joins. -/
/-- rows 183 (but for 25 and 26), 195 and 196 may differ, no others -/
def frW (f f' : zf) : Prop := (∀ a, a ≠ 183 → a ≠ 195 → a ≠ 196 → f' a = f a) ∧ ∀ j, j ≠ 25 → j ≠ 26 → f' 183 j = f 183 j
theorem frW.rfl' (f : zf) : frW f f := ⟨fun _ _ _ _ => rfl, fun _ _ _ => rfl⟩
theorem frW.trans {f g h : zf} (a : frW f g) (b : frW g h) : frW f h := ⟨fun k h1 h2 h3 => by rw [b.1 k h1 h2 h3, a.1 k h1 h2 h3], fun j h1 h2 => by rw [b.2 j h1 h2, a.2 j h1 h2]⟩
theorem s_Mfollow {f : zf} {ρ : zo} (hC : zC ρ) {s : Nat} {t : mT} {Q : zS → Prop} (ht : tM (f 185) s t) (h : ∀ f', frW f f' → (∀ v, hM (f 195) (f 196) 0 v → hM (f' 195) (f' 196) 0 (mst v t) ∧ f' 183 25 = sb (mev t v)) → Q (f', ρ)) : P_M_follow 201 183 (nn s) (f, ρ) Q := by
  have ht' := ht
  obtain ⟨h1, h2, h3, h4, h5, h6⟩ := ht
  unfold P_M_follow
  rw [ko_183]
  refine ⟨trivial, s_Mmake hC ht' (fun g hg hv => ?_)⟩
  have e8 : g 185 = f 185 := hg.1 _ (by decide)
  have e5 : g 195 = f 195 := hg.1 _ (by decide)
  have e6 : g 196 = f 196 := hg.1 _ (by decide)
  simp (disch := (first | assumption | omega)) only [true_and, and_true, zr_u, zi_u, zI_u, Option.some.injEq, exists_eq_left', nn_tn, nn_add, nn_s, nn_2, nn_5, nn_7, nn_8, na0, na2, na3, na4, na5, na6, uf_ne, uf_eq, ur_eq, ur_ne, true_or, or_true, not_true_eq_false, not_false_eq_true, true_implies, false_implies, implies_true, e10, e01, reduceIte, Option.isSome_none, Option.isSome_some, Bool.false_eq_true, bi_t, bi_f, rc_183_23 hC, rc_183_24 hC, rc_183_8 hC, ka_185, ka_195, ka_196, e8, h2]
  refine h _ ⟨fun a q1 q2 q3 => ?_, fun j q1 q2 => ?_⟩ (fun v hm => ?_)
  · simp (disch := (first | assumption | omega)) only [true_and, and_true, zr_u, zi_u, zI_u, Option.some.injEq, exists_eq_left', nn_tn, nn_add, nn_s, nn_2, nn_5, nn_7, nn_8, na0, na2, na3, na4, na5, na6, uf_ne, uf_eq, ur_eq, ur_ne, true_or, or_true, not_true_eq_false, not_false_eq_true, true_implies, false_implies, implies_true, e10, e01, reduceIte, Option.isSome_none, Option.isSome_some, Bool.false_eq_true, bi_t, bi_f]
    exact hg.1 a q1
  · simp (disch := (first | assumption | omega)) only [true_and, and_true, zr_u, zi_u, zI_u, Option.some.injEq, exists_eq_left', nn_tn, nn_add, nn_s, nn_2, nn_5, nn_7, nn_8, na0, na2, na3, na4, na5, na6, uf_ne, uf_eq, ur_eq, ur_ne, true_or, or_true, not_true_eq_false, not_false_eq_true, true_implies, false_implies, implies_true, e10, e01, reduceIte, Option.isSome_none, Option.isSome_some, Bool.false_eq_true, bi_t, bi_f]
    exact hg.2 j q1 q2
  · obtain ⟨r1, r2⟩ := hv v hm
    refine ⟨⟨fun x hx => ?_, fun x hx => ?_⟩, ?_⟩
    · rw [Nat.zero_add]
      have hm1 := hm.1 x hx
      rw [Nat.zero_add] at hm1
      unfold mst mas
      by_cases e : x = t.1
      · subst e
        simp (disch := (first | assumption | omega)) only [true_and, and_true, zr_u, zi_u, zI_u, Option.some.injEq, exists_eq_left', nn_tn, nn_add, nn_s, nn_2, nn_5, nn_7, nn_8, na0, na2, na3, na4, na5, na6, uf_ne, uf_eq, ur_eq, ur_ne, true_or, or_true, not_true_eq_false, not_false_eq_true, true_implies, false_implies, implies_true, e10, e01, reduceIte, Option.isSome_none, Option.isSome_some, Bool.false_eq_true, bi_t, bi_f, e5, e6]
        rw [r1]
        cases he : mev t v with
        | none => exact ⟨fun c hc => (by cases hc), fun _ => rfl⟩
        | some y => exact ⟨fun c hc => by cases hc; exact ⟨rfl, r2 y he⟩, fun hc => by cases hc⟩
      · simp (disch := (first | assumption | omega)) only [true_and, and_true, zr_u, zi_u, zI_u, Option.some.injEq, exists_eq_left', nn_tn, nn_add, nn_s, nn_2, nn_5, nn_7, nn_8, na0, na2, na3, na4, na5, na6, uf_ne, uf_eq, ur_eq, ur_ne, true_or, or_true, not_true_eq_false, not_false_eq_true, true_implies, false_implies, implies_true, e10, e01, reduceIte, Option.isSome_none, Option.isSome_some, Bool.false_eq_true, bi_t, bi_f, e5, e6, if_neg e]
        exact hm1
    · unfold mst mas
      rw [if_neg (by omega)]; exact hm.2 x hx
    · simp (disch := (first | assumption | omega)) only [true_and, and_true, zr_u, zi_u, zI_u, Option.some.injEq, exists_eq_left', nn_tn, nn_add, nn_s, nn_2, nn_5, nn_7, nn_8, na0, na2, na3, na4, na5, na6, uf_ne, uf_eq, ur_eq, ur_ne, true_or, or_true, not_true_eq_false, not_false_eq_true, true_implies, false_implies, implies_true, e10, e01, reduceIte, Option.isSome_none, Option.isSome_some, Bool.false_eq_true, bi_t, bi_f]
      exact r1
theorem s_Mbegin {f : zf} {ρ : zo} (hC : zC ρ) {b : Nat} {Q : zS → Prop} (hb : b < 24) (h : ∀ f', fr2 f f' 195 196 → (∀ v, hM (f 193) (f 194) (8 * b) v → hM (f' 195) (f' 196) 0 v) → Q (f', ρ)) : P_M_beginBlock 201 183 (nn b) (f, ρ) Q := by
  have key : ∀ (m k : Nat) (f' : zf), k + m = 8 → fr2 f f' 195 196 → (∀ i, i < k → f' 195 i = f 193 (8 * b + i) ∧ f' 196 i = f 194 (8 * b + i)) → P_M_beginBlock_2 201 Q (m + 1) 183 (nn b) (nn k) (f', ρ) := by
    intro m
    induction m with
    | zero =>
      intro k f' hk h1 h2
      unfold P_M_beginBlock_2
      rw [show (8 : Int32) = nn 8 from rfl, nn_le (by omega) (by omega)]
      refine ⟨fun _ => h f' h1 (fun v hv => ⟨fun x hx => ?_, hv.2⟩), fun h' => absurd (show 8 ≤ k by omega) h'⟩
      rw [Nat.zero_add, (h2 x (by omega)).1, (h2 x (by omega)).2]; exact hv.1 x hx
    | succ m ih =>
      intro k f' hk h1 h2
      unfold P_M_beginBlock_2
      rw [show (8 : Int32) ≤ nn k ↔ nn 8 ≤ nn k from Iff.rfl, nn_le (by omega) (by omega)]
      refine ⟨fun h' => absurd h' (by omega), fun _ => ?_⟩
      have e1 : f' 193 = f 193 := h1 _ (by omega) (by omega)
      have e2 : f' 194 = f 194 := h1 _ (by omega) (by omega)
      simp (disch := (first | assumption | omega)) only [true_and, and_true, zr_u, zi_u, zI_u, Option.some.injEq, exists_eq_left', nn_tn, nn_add, nn_s, nn_2, nn_5, nn_7, nn_8, na0, na2, na3, na4, na5, na6, uf_ne, uf_eq, ur_eq, ur_ne, true_or, or_true, not_true_eq_false, not_false_eq_true, true_implies, false_implies, implies_true, e10, e01, reduceIte, Option.isSome_none, Option.isSome_some, Bool.false_eq_true, bi_t, bi_f, ko_183, rc_183_21 hC, rc_183_22 hC, rc_183_23 hC, rc_183_24 hC, ka_193, ka_194, ka_195, ka_196, e1, e2]
      refine ih (k + 1) _ (by omega) (fun a ha hb => ?_) (fun i hi => ?_)
      · simp (disch := (first | assumption | omega)) only [true_and, and_true, zr_u, zi_u, zI_u, Option.some.injEq, exists_eq_left', nn_tn, nn_add, nn_s, nn_2, nn_5, nn_7, nn_8, na0, na2, na3, na4, na5, na6, uf_ne, uf_eq, ur_eq, ur_ne, true_or, or_true, not_true_eq_false, not_false_eq_true, true_implies, false_implies, implies_true, e10, e01, reduceIte, Option.isSome_none, Option.isSome_some, Bool.false_eq_true, bi_t, bi_f]
        exact h1 a ha hb
      · by_cases e : i = k
        · subst e
          simp (disch := (first | assumption | omega)) only [true_and, and_true, zr_u, zi_u, zI_u, Option.some.injEq, exists_eq_left', nn_tn, nn_add, nn_s, nn_2, nn_5, nn_7, nn_8, na0, na2, na3, na4, na5, na6, uf_ne, uf_eq, ur_eq, ur_ne, true_or, or_true, not_true_eq_false, not_false_eq_true, true_implies, false_implies, implies_true, e10, e01, reduceIte, Option.isSome_none, Option.isSome_some, Bool.false_eq_true, bi_t, bi_f]
        · simp (disch := (first | assumption | omega)) only [true_and, and_true, zr_u, zi_u, zI_u, Option.some.injEq, exists_eq_left', nn_tn, nn_add, nn_s, nn_2, nn_5, nn_7, nn_8, na0, na2, na3, na4, na5, na6, uf_ne, uf_eq, ur_eq, ur_ne, true_or, or_true, not_true_eq_false, not_false_eq_true, true_implies, false_implies, implies_true, e10, e01, reduceIte, Option.isSome_none, Option.isSome_some, Bool.false_eq_true, bi_t, bi_f]
          exact h2 i (by omega)
  exact ⟨9, key 8 0 f rfl (fun _ _ _ => rfl) (fun _ hi => absurd hi (by omega))⟩
/-- what is known at the beginning of a block of the reference: sorts, numbers; none: all 0 -/
def hB (f : zf) (b : Nat) (o : Option mV) : Prop := match o with
  | none => f 192 b = 0 ∧ ∀ x, x < 8 → f 193 (8 * b + x) = 0
  | some v => f 192 b = 1 ∧ hM (f 193) (f 194) (8 * b) v
theorem hB.same {f f' : zf} {b : Nat} {o : Option mV} (h : hB f b o) (h2 : f' 192 b = f 192 b) (h3 : ∀ x, x < 8 → f' 193 (8 * b + x) = f 193 (8 * b + x)) (h4 : ∀ x, x < 8 → f' 194 (8 * b + x) = f 194 (8 * b + x)) : hB f' b o := by
  cases o with
  | none => exact ⟨by rw [h2]; exact h.1, fun x hx => by rw [h3 x hx]; exact h.2 x hx⟩
  | some v => exact ⟨by rw [h2]; exact h.1, fun x hx => by rw [h3 x hx, h4 x hx]; exact h.2.1 x hx, h.2.2⟩
/-- what a block that is come to with w knows then -/
def mjo (o : Option mV) (w : mV) : mV := match o with
  | none => w
  | some v => mjn v w
theorem s_Mjoin {f : zf} {ρ : zo} (hC : zC ρ) {b : Nat} {o : Option mV} {w : mV} {Q : Int32 → zS → Prop} (hb : b < 24) (ho : hB f b o) (hw : hM (f 195) (f 196) 0 w) (h : ∀ f' r, (∀ a, a ≠ 192 → a ≠ 193 → a ≠ 194 → f' a = f a) → (∀ j, j ≠ b → f' 192 j = f 192 j) → (∀ j, (j < 8 * b ∨ 8 * b + 8 ≤ j) → f' 193 j = f 193 j ∧ f' 194 j = f 194 j) → hB f' b (some (mjo o w)) → (r = 0 ∧ o = some (mjo o w) ∨ r = 1 ∧ (o = none ∨ ∃ v x, o = some v ∧ x < 8 ∧ mjn v w x ≠ v x)) → Q r (f', ρ)) : P_M_join 201 183 (nn b) (f, ρ) Q := by
  have key : ∀ (m k : Nat) (f' : zf) (r : Int32), k + m = 8 → (∀ a, a ≠ 192 → a ≠ 193 → a ≠ 194 → f' a = f a) → (∀ j, j ≠ b → f' 192 j = f 192 j) → f' 192 b = 1 → (∀ j, (j < 8 * b ∨ 8 * b + k ≤ j) → f' 193 j = f 193 j ∧ f' 194 j = f 194 j) → (∀ x, x < k → (∀ c, mjo o w x = some c → f' 193 (8 * b + x) = 1 ∧ f' 194 (8 * b + x) = c) ∧ (mjo o w x = none → f' 193 (8 * b + x) = 2)) → (r = 0 ∧ (∃ v, o = some v ∧ ∀ x, x < k → mjn v w x = v x) ∨ r = 1 ∧ (o = none ∨ ∃ v x, o = some v ∧ x < 8 ∧ mjn v w x ≠ v x)) → P_M_join_24 201 Q (m + 1) 183 (nn b) r (nn k) (f', ρ) := by
    intro m
    induction m with
    | zero =>
      intro k f' r hk h1 h2 h3 h4 h5 h6
      unfold P_M_join_24
      rw [show (8 : Int32) ≤ nn k ↔ nn 8 ≤ nn k from Iff.rfl, nn_le (by omega) (by omega)]
      have k8 : k = 8 := by omega
      subst k8
      have big : ∀ x, 8 ≤ x → mjo o w x = some 0 := fun x hx => by
        cases o with
        | none => exact hw.2 x hx
        | some v =>
          show mjn v w x = some 0
          unfold mjn; rw [hw.2 x hx, ho.2.2 x hx]; rfl
      refine ⟨fun _ => ⟨?_, h f' r h1 h2 h4 ⟨h3, h5, big⟩ ?_⟩, fun h' => absurd (show 8 ≤ 8 by omega) h'⟩
      · rcases h6 with h6 | h6
        · exact Or.inl h6.1
        · exact Or.inr h6.1
      · rcases h6 with ⟨h6, v, hv, h7⟩ | h6
        · refine Or.inl ⟨h6, ?_⟩
          subst hv
          show some v = some (mjn v w)
          congr 1
          funext x
          by_cases hx : x < 8
          · exact (h7 x hx).symm
          · rw [show mjn v w x = some 0 from big x (by omega)]; exact ho.2.2 x (by omega)
        · exact Or.inr h6
    | succ m ih =>
      intro k f' r hk h1 h2 h3 h4 h5 h6
      unfold P_M_join_24
      rw [show (8 : Int32) ≤ nn k ↔ nn 8 ≤ nn k from Iff.rfl, nn_le (by omega) (by omega)]
      refine ⟨fun h' => absurd h' (by omega), fun _ => ?_⟩
      have e1 : f' 195 = f 195 := h1 _ (by omega) (by omega) (by omega)
      have e2 : f' 196 = f 196 := h1 _ (by omega) (by omega) (by omega)
      have e3 := (h4 (8 * b + k) (by omega)).1
      have e4 := (h4 (8 * b + k) (by omega)).2
      have k8 : k < 8 := by omega
      have hwk := hw.1 k k8
      rw [Nat.zero_add] at hwk
      unfold P_M_join_134 P_M_join_116
      simp (disch := (first | assumption | omega)) only [true_and, and_true, zr_u, zi_u, zI_u, Option.some.injEq, exists_eq_left', nn_tn, nn_add, nn_s, nn_2, nn_5, nn_7, nn_8, na0, na2, na3, na4, na5, na6, uf_ne, uf_eq, ur_eq, ur_ne, true_or, or_true, not_true_eq_false, not_false_eq_true, true_implies, false_implies, implies_true, e10, e01, reduceIte, Option.isSome_none, Option.isSome_some, Bool.false_eq_true, bi_t, bi_f, ko_183, rc_183_21 hC, rc_183_22 hC, rc_183_23 hC, rc_183_24 hC, ka_193, ka_194, ka_195, ka_196, e1, e2, e3, e4, P_M_join_134]
      have set : ∀ (p q r' : Int32), (∀ c, mjo o w k = some c → p = 1 ∧ q = c) → (mjo o w k = none → p = 2) → (r' = 1 ∧ (o = none ∨ ∃ v x, o = some v ∧ x < 8 ∧ mjn v w x ≠ v x)) → P_M_join_24 201 Q (m + 1) 183 (nn b) r' (nn (k + 1)) (uf (uf f' 193 (8 * b + k) p) 194 (8 * b + k) q, ρ) := by
        intro p q r' q1 q2 q3
        refine ih (k + 1) _ r' (by omega) (fun a z1 z2 z3 => ?_) (fun j hj => ?_) ?_ (fun j hj => ?_) (fun x hx => ?_) (Or.inr q3)
        · simp (disch := (first | assumption | omega)) only [true_and, and_true, zr_u, zi_u, zI_u, Option.some.injEq, exists_eq_left', nn_tn, nn_add, nn_s, nn_2, nn_5, nn_7, nn_8, na0, na2, na3, na4, na5, na6, uf_ne, uf_eq, ur_eq, ur_ne, true_or, or_true, not_true_eq_false, not_false_eq_true, true_implies, false_implies, implies_true, e10, e01, reduceIte, Option.isSome_none, Option.isSome_some, Bool.false_eq_true, bi_t, bi_f]
          exact h1 a z1 z2 z3
        · simp (disch := (first | assumption | omega)) only [true_and, and_true, zr_u, zi_u, zI_u, Option.some.injEq, exists_eq_left', nn_tn, nn_add, nn_s, nn_2, nn_5, nn_7, nn_8, na0, na2, na3, na4, na5, na6, uf_ne, uf_eq, ur_eq, ur_ne, true_or, or_true, not_true_eq_false, not_false_eq_true, true_implies, false_implies, implies_true, e10, e01, reduceIte, Option.isSome_none, Option.isSome_some, Bool.false_eq_true, bi_t, bi_f]
          exact h2 j hj
        · simp (disch := (first | assumption | omega)) only [true_and, and_true, zr_u, zi_u, zI_u, Option.some.injEq, exists_eq_left', nn_tn, nn_add, nn_s, nn_2, nn_5, nn_7, nn_8, na0, na2, na3, na4, na5, na6, uf_ne, uf_eq, ur_eq, ur_ne, true_or, or_true, not_true_eq_false, not_false_eq_true, true_implies, false_implies, implies_true, e10, e01, reduceIte, Option.isSome_none, Option.isSome_some, Bool.false_eq_true, bi_t, bi_f]
          exact h3
        · simp (disch := (first | assumption | omega)) only [true_and, and_true, zr_u, zi_u, zI_u, Option.some.injEq, exists_eq_left', nn_tn, nn_add, nn_s, nn_2, nn_5, nn_7, nn_8, na0, na2, na3, na4, na5, na6, uf_ne, uf_eq, ur_eq, ur_ne, true_or, or_true, not_true_eq_false, not_false_eq_true, true_implies, false_implies, implies_true, e10, e01, reduceIte, Option.isSome_none, Option.isSome_some, Bool.false_eq_true, bi_t, bi_f]
          exact h4 j (by omega)
        · by_cases e : x = k
          · subst e; simp (disch := (first | assumption | omega)) only [true_and, and_true, zr_u, zi_u, zI_u, Option.some.injEq, exists_eq_left', nn_tn, nn_add, nn_s, nn_2, nn_5, nn_7, nn_8, na0, na2, na3, na4, na5, na6, uf_ne, uf_eq, ur_eq, ur_ne, true_or, or_true, not_true_eq_false, not_false_eq_true, true_implies, false_implies, implies_true, e10, e01, reduceIte, Option.isSome_none, Option.isSome_some, Bool.false_eq_true, bi_t, bi_f]
            exact ⟨q1, q2⟩
          · simp (disch := (first | assumption | omega)) only [true_and, and_true, zr_u, zi_u, zI_u, Option.some.injEq, exists_eq_left', nn_tn, nn_add, nn_s, nn_2, nn_5, nn_7, nn_8, na0, na2, na3, na4, na5, na6, uf_ne, uf_eq, ur_eq, ur_ne, true_or, or_true, not_true_eq_false, not_false_eq_true, true_implies, false_implies, implies_true, e10, e01, reduceIte, Option.isSome_none, Option.isSome_some, Bool.false_eq_true, bi_t, bi_f]
            exact h5 x (by omega)
      have stay : ∀ v, o = some v → mjn v w k = v k → P_M_join_24 201 Q (m + 1) 183 (nn b) r (nn (k + 1)) (f', ρ) := by
        intro v hv hj
        subst hv
        refine ih (k + 1) f' r (by omega) h1 h2 h3 (fun j hj => h4 j (by omega)) (fun x hx => ?_) ?_
        · by_cases e : x = k
          · subst e
            rw [e3, e4]
            show (∀ c, mjn v w x = some c → _) ∧ (mjn v w x = none → _)
            rw [hj]; exact ho.2.1 x k8
          · exact h5 x (by omega)
        · rcases h6 with ⟨h6, v', hv', h7⟩ | h6
          · cases hv'
            refine Or.inl ⟨h6, v, rfl, fun x hx => ?_⟩
            by_cases e : x = k
            · subst e; exact hj
            · exact h7 x (by omega)
          · exact Or.inr h6
      cases o with
      | none =>
        have z := ho.2 k k8
        rw [z]
        refine ⟨fun q => absurd rfl q, fun _ => set _ _ 1 (fun c hc => ?_) (fun hc => ?_) ⟨rfl, Or.inl rfl⟩⟩
        · exact hwk.1 c hc
        · exact hwk.2 hc
      | some v =>
        have hvk := ho.2.1 k k8
        have gone : mjn v w k = none → v k ≠ none → P_M_join_24 201 Q (m + 1) 183 (nn b) 1 (nn (k + 1)) (uf (uf f' 193 (8 * b + k) 2) 194 (8 * b + k) 0, ρ) := fun q1 q2 =>
          set 2 0 1 (fun c hc => by rw [show mjo (some v) w k = none from q1] at hc; cases hc) (fun _ => rfl) ⟨rfl, Or.inr ⟨v, k, rfl, k8, by rw [q1]; exact fun h => q2 h.symm⟩⟩
        cases hv : v k with
        | none =>
          rw [hvk.2 hv]
          refine ⟨fun _ => ⟨fun _ => stay v rfl ?_, fun q => absurd q (by decide)⟩, fun q => absurd q (by decide)⟩
          unfold mjn; rw [hv]; split <;> rfl
        | some c =>
          obtain ⟨g1, g2⟩ := hvk.1 c hv
          rw [g1, g2]
          refine ⟨fun _ => ⟨fun q => absurd rfl q, fun _ => ⟨fun q => gone ?_ (by rw [hv]; exact fun h => by cases h), fun q => ⟨fun q' => stay v rfl ?_, fun q' => gone ?_ (by rw [hv]; exact fun h => by cases h)⟩⟩⟩, fun q => absurd q (by decide)⟩
          · cases hwk' : w k with
            | none => unfold mjn; rw [hwk', hv]; rfl
            | some d => exact absurd (hwk.1 d hwk').1 q
          · cases hwk' : w k with
            | none => rw [hwk.2 hwk'] at q; exact absurd q (by decide)
            | some d =>
              have := (hwk.1 d hwk').2
              unfold mjn; rw [hwk', hv, ← this, q', if_pos rfl]
          · cases hwk' : w k with
            | none => rw [hwk.2 hwk'] at q; exact absurd q (by decide)
            | some d =>
              have := (hwk.1 d hwk').2
              unfold mjn; rw [hwk', hv, ← this, if_neg (fun h => q' (Option.some.inj h))]
  unfold P_M_join P_M_join_14
  simp (disch := (first | assumption | omega)) only [true_and, and_true, zr_u, zi_u, zI_u, Option.some.injEq, exists_eq_left', nn_tn, nn_add, nn_s, nn_2, nn_5, nn_7, nn_8, na0, na2, na3, na4, na5, na6, uf_ne, uf_eq, ur_eq, ur_ne, true_or, or_true, not_true_eq_false, not_false_eq_true, true_implies, false_implies, implies_true, e10, e01, reduceIte, Option.isSome_none, Option.isSome_some, Bool.false_eq_true, bi_t, bi_f, ko_183, rc_183_20 hC, ka_192, nar_b1]
  have st : ∀ r, (r = 0 ∧ (∃ v, o = some v ∧ ∀ x, x < 0 → mjn v w x = v x) ∨ r = 1 ∧ (o = none ∨ ∃ v x, o = some v ∧ x < 8 ∧ mjn v w x ≠ v x)) → ∃ g, P_M_join_24 201 Q g 183 (nn b) r 0 (uf f 192 b 1, ρ) := fun r hr =>
    ⟨9, key 8 0 _ r rfl (fun a z1 z2 z3 => uf_ne _ z1) (fun j hj => by rw [uf_eq, ur_ne _ hj]) (by rw [uf_eq, ur_eq]) (fun j _ => ⟨by rw [uf_ne _ (by decide)], by rw [uf_ne _ (by decide)]⟩) (fun x hx => absurd hx (by omega)) hr⟩
  refine ⟨fun q => st 0 (Or.inl ⟨rfl, ?_⟩), fun q => st 1 (Or.inr ⟨rfl, Or.inl ?_⟩)⟩
  · cases o with
    | none => exact absurd ho.1 q
    | some v => exact ⟨v, rfl, fun x hx => absurd hx (by omega)⟩
  · cases o with
    | none => rfl
    | some v => rw [ho.1] at q; exact absurd q (by decide)
