/-! Expressions of the reference by what is known of variables. -/
def oM (g : Nat → Int32) (k : Nat) (o : mO) : Prop := match o with
  | .inl x => g k = 1 ∧ g (k + 1) = nn x ∧ x < 8
  | .inr c => g k = 0 ∧ g (k + 1) = c
def hix (how : Nat) : Nat := if how = 43 then 0 else if how = 45 then 1 else if how = 42 then 2 else if how = 47 then 3 else if how = 37 then 4 else if how = 38 then 5 else if how = 124 then 6 else if how = 94 then 7 else if how = 60 then 8 else 9
def isop (how : Nat) : Prop := how = 43 ∨ how = 45 ∨ how = 42 ∨ how = 47 ∨ how = 37 ∨ how = 38 ∨ how = 124 ∨ how = 94 ∨ how = 60 ∨ how = 61
def hso (how : Nat) : Nat := if how = 0 then 0 else if how = 1 then 1 else 2
/-- statement s of the rows g is t -/
def tM (g : Nat → Int32) (s : Nat) (t : mT) : Prop := s < 80 ∧ g (7 * s) = nn t.1 ∧ t.1 < 8 ∧ g (7 * s + 1) = nn (hso t.2.1) ∧ (t.2.1 ≠ 0 → oM g (7 * s + 3) t.2.2.1) ∧ (t.2.1 ≠ 0 → t.2.1 ≠ 1 → isop t.2.1 ∧ g (7 * s + 2) = nn (hix t.2.1) ∧ oM g (7 * s + 5) t.2.2.2)
/-- the view whose sorts and numbers stand in a and b from o on -/
def hM (a b : Nat → Int32) (o : Nat) (v : mV) : Prop := (∀ x, x < 8 → (∀ c, v x = some c → a (o + x) = 1 ∧ b (o + x) = c) ∧ (v x = none → a (o + x) = 2)) ∧ ∀ x, 8 ≤ x → v x = some 0
def sb (o : Option Int32) : Int32 := match o with
  | some _ => 1
  | none => 2
theorem e21 : ((2 : Int32) = 1) = False := eq_false (by decide)
theorem e20 : ((2 : Int32) = 0) = False := eq_false (by decide)
theorem e12 : ((1 : Int32) = 2) = False := eq_false (by decide)
theorem e02 : ((0 : Int32) = 2) = False := eq_false (by decide)
theorem s_Mreckoned {σ : zS} {how : Nat} {x y : Int32} {Q : Int32 → zS → Prop} (hh : isop how) (h : Q (mrk how x y) σ) : P_M_reckoned 201 (nn (hix how)) x y σ Q := by
  unfold P_M_reckoned P_M_reckoned_75 P_M_reckoned_87 P_M_reckoned_110 P_M_reckoned_121
  simp only [show (0 : Int32) = nn 0 from rfl, show (1 : Int32) = nn 1 from rfl, show (2 : Int32) = nn 2 from rfl, show (3 : Int32) = nn 3 from rfl, show (4 : Int32) = nn 4 from rfl, show (5 : Int32) = nn 5 from rfl, show (6 : Int32) = nn 6 from rfl, show (7 : Int32) = nn 7 from rfl, show (8 : Int32) = nn 8 from rfl]
  have hl : hix how < 10 := by unfold hix; repeat' split
                               all_goals omega
  simp (disch := omega) only [nn_eq]
  have hz : nn 0 = 0 := rfl
  have hz1 : nn 1 = 1 := rfl
  rw [hz, hz1]
  unfold mrk at h
  rcases hh with e | e | e | e | e | e | e | e | e | e <;> subst e <;> simp [hix] at h ⊢
  · exact h
  · exact h
  · exact h
  · exact ⟨fun q => by rw [if_neg q] at h; exact ⟨q, h⟩, fun q => by rw [if_pos q] at h; exact h⟩
  · exact ⟨fun q => by rw [if_neg q] at h; exact ⟨q, h⟩, fun q => by rw [if_pos q] at h; exact h⟩
  · exact h
  · exact h
  · exact h
  · exact ⟨fun q => by rw [if_neg (Int32.not_lt.mpr q)] at h; exact h, fun q => by rw [if_pos q] at h; exact h⟩
  · exact ⟨fun q => by rw [if_neg q] at h; exact h, fun q => by rw [if_pos q] at h; exact h⟩
theorem s_MsortOf {f : zf} {ρ : zo} (hC : zC ρ) {A B g : Nat → Int32} {k : Nat} {o : mO} {Q : Int32 → zS → Prop} (hA : f 195 = A) (ho : oM g k o) (h : ∀ x, (∀ v, hM A B 0 v → x = sb (mop v o)) → Q x (f, ρ)) : P_M_sortOf 201 183 (g k) (g (k + 1)) (f, ρ) Q := by
  unfold P_M_sortOf P_M_sortOf_14
  cases o with
  | inl x =>
    obtain ⟨h1, h2, h3⟩ := ho
    simp (disch := (first | assumption | omega)) only [true_and, and_true, zr_u, zi_u, zI_u, Option.some.injEq, exists_eq_left', nn_tn, nn_add, nn_s, nn_2, nn_5, nn_7, nn_8, na0, na2, na3, na4, na5, na6, uf_ne, uf_eq, ur_eq, ur_ne, true_or, or_true, not_true_eq_false, not_false_eq_true, true_implies, false_implies, implies_true, e10, e01, reduceIte, Option.isSome_none, Option.isSome_some, Bool.false_eq_true, bi_t, bi_f, h1, h2, ko_183, rc_183_23 hC, ka_195, hA]
    refine h _ (fun v hv => ?_)
    have hx := hv.1 x h3
    rw [Nat.zero_add] at hx
    show _ = sb (v x)
    cases hvx : v x with
    | none => exact hx.2 hvx
    | some c => exact (hx.1 c hvx).1
  | inr c =>
    obtain ⟨h1, h2⟩ := ho
    simp (disch := (first | assumption | omega)) only [true_and, and_true, zr_u, zi_u, zI_u, Option.some.injEq, exists_eq_left', nn_tn, nn_add, nn_s, nn_2, nn_5, nn_7, nn_8, na0, na2, na3, na4, na5, na6, uf_ne, uf_eq, ur_eq, ur_ne, true_or, or_true, not_true_eq_false, not_false_eq_true, true_implies, false_implies, implies_true, e10, e01, reduceIte, Option.isSome_none, Option.isSome_some, Bool.false_eq_true, bi_t, bi_f, h1]
    exact h _ (fun v hv => rfl)
theorem s_MnumberOf {f : zf} {ρ : zo} (hC : zC ρ) {A B g : Nat → Int32} {k : Nat} {o : mO} {Q : Int32 → zS → Prop} (hB : f 196 = B) (ho : oM g k o) (h : ∀ x, (∀ v y, hM A B 0 v → mop v o = some y → x = y) → Q x (f, ρ)) : P_M_numberOf 201 183 (g k) (g (k + 1)) (f, ρ) Q := by
  unfold P_M_numberOf P_M_numberOf_14
  cases o with
  | inl x =>
    obtain ⟨h1, h2, h3⟩ := ho
    simp (disch := (first | assumption | omega)) only [true_and, and_true, zr_u, zi_u, zI_u, Option.some.injEq, exists_eq_left', nn_tn, nn_add, nn_s, nn_2, nn_5, nn_7, nn_8, na0, na2, na3, na4, na5, na6, uf_ne, uf_eq, ur_eq, ur_ne, true_or, or_true, not_true_eq_false, not_false_eq_true, true_implies, false_implies, implies_true, e10, e01, reduceIte, Option.isSome_none, Option.isSome_some, Bool.false_eq_true, bi_t, bi_f, h1, h2, ko_183, rc_183_24 hC, ka_196, hB]
    refine h _ (fun v y hv hy => ?_)
    have hx := (hv.1 x h3).1 y hy
    rw [Nat.zero_add] at hx
    exact hx.2
  | inr c =>
    obtain ⟨h1, h2⟩ := ho
    simp (disch := (first | assumption | omega)) only [true_and, and_true, zr_u, zi_u, zI_u, Option.some.injEq, exists_eq_left', nn_tn, nn_add, nn_s, nn_2, nn_5, nn_7, nn_8, na0, na2, na3, na4, na5, na6, uf_ne, uf_eq, ur_eq, ur_ne, true_or, or_true, not_true_eq_false, not_false_eq_true, true_implies, false_implies, implies_true, e10, e01, reduceIte, Option.isSome_none, Option.isSome_some, Bool.false_eq_true, bi_t, bi_f, h1]
    exact h _ (fun v y hv hy => by cases hy; exact h2)
/-- only the places 25 and 26 of row 183 differ -/
def frQ (f f' : zf) : Prop := (∀ a, a ≠ 183 → f' a = f a) ∧ ∀ j, j ≠ 25 → j ≠ 26 → f' 183 j = f 183 j
theorem frQ.put {f f' : zf} (h : frQ f f') (x y : Int32) : frQ f (uf (uf f' 183 25 x) 183 26 y) := by
  refine ⟨fun a ha => ?_, fun j h1 h2 => ?_⟩
  · rw [uf_ne _ ha, uf_ne _ ha]; exact h.1 a ha
  · rw [uf_eq, ur_ne _ h2, uf_eq, ur_ne _ h1]; exact h.2 j h1 h2
theorem s_Mmake {f : zf} {ρ : zo} (hC : zC ρ) {s : Nat} {t : mT} {Q : zS → Prop} (ht : tM (f 185) s t) (h : ∀ f', frQ f f' → (∀ v, hM (f 195) (f 196) 0 v → f' 183 25 = sb (mev t v) ∧ ∀ y, mev t v = some y → f' 183 26 = y) → Q (f', ρ)) : P_M_make 201 183 (nn s) (f, ρ) Q := by
  obtain ⟨h1, h2, h3, h4, h5, h6⟩ := ht
  have f0 : frQ f f := ⟨fun _ _ => rfl, fun _ _ _ => rfl⟩
  unfold P_M_make
  simp (disch := (first | assumption | omega)) only [true_and, and_true, zr_u, zi_u, zI_u, Option.some.injEq, exists_eq_left', nn_tn, nn_add, nn_s, nn_2, nn_5, nn_7, nn_8, na0, na2, na3, na4, na5, na6, uf_ne, uf_eq, ur_eq, ur_ne, true_or, or_true, not_true_eq_false, not_false_eq_true, true_implies, false_implies, implies_true, e10, e01, reduceIte, Option.isSome_none, Option.isSome_some, Bool.false_eq_true, bi_t, bi_f, ko_183, rc_183_8 hC, ka_185, h4]
  unfold hso at h4 ⊢
  refine ⟨fun q0 => ?_, fun q0 => ?_⟩
  · have n0 : t.2.1 ≠ 0 := by
      intro e; apply q0; rw [if_pos e]; rfl
    refine s_MnumberOf (A := f 195) (B := f 196) hC rfl (h5 n0) (fun x hx => ?_)
    simp (disch := (first | assumption | omega)) only [true_and, and_true, zr_u, zi_u, zI_u, Option.some.injEq, exists_eq_left', nn_tn, nn_add, nn_s, nn_2, nn_5, nn_7, nn_8, na0, na2, na3, na4, na5, na6, uf_ne, uf_eq, ur_eq, ur_ne, true_or, or_true, not_true_eq_false, not_false_eq_true, true_implies, false_implies, implies_true, e10, e01, reduceIte, Option.isSome_none, Option.isSome_some, Bool.false_eq_true, bi_t, bi_f, rc_183_8 hC, ka_185]
    refine s_MsortOf (A := f 195) (B := f 196) hC rfl (h5 n0) (fun a ha => ?_)
    simp (disch := (first | assumption | omega)) only [true_and, and_true, zr_u, zi_u, zI_u, Option.some.injEq, exists_eq_left', nn_tn, nn_add, nn_s, nn_2, nn_5, nn_7, nn_8, na0, na2, na3, na4, na5, na6, uf_ne, uf_eq, ur_eq, ur_ne, true_or, or_true, not_true_eq_false, not_false_eq_true, true_implies, false_implies, implies_true, e10, e01, reduceIte, Option.isSome_none, Option.isSome_some, Bool.false_eq_true, bi_t, bi_f, rc_183_8 hC, ka_185, h4, if_neg n0]
    by_cases n1 : t.2.1 = 1
    · simp only [n1, if_true, show nn 1 = 1 from rfl, e12, false_implies, and_true, not_false_eq_true, true_implies]
      unfold P_M_make_270
      refine h _ (f0.put _ _) (fun v hv => ?_)
      have e : mev t v = mop v t.2.2.1 := by unfold mev; rw [if_neg n0, if_pos n1]
      simp (disch := (first | assumption | omega)) only [true_and, and_true, zr_u, zi_u, zI_u, Option.some.injEq, exists_eq_left', nn_tn, nn_add, nn_s, nn_2, nn_5, nn_7, nn_8, na0, na2, na3, na4, na5, na6, uf_ne, uf_eq, ur_eq, ur_ne, true_or, or_true, not_true_eq_false, not_false_eq_true, true_implies, false_implies, implies_true, e10, e01, reduceIte, Option.isSome_none, Option.isSome_some, Bool.false_eq_true, bi_t, bi_f]
      rw [e]
      exact ⟨ha v hv, fun y hy => hx v y hv hy⟩
    · obtain ⟨g1, g2, g3⟩ := h6 n0 n1
      simp only [n1, if_false, show nn 2 = 2 from rfl, not_true_eq_false, false_implies, true_and, true_implies]
      refine s_MnumberOf (A := f 195) (B := f 196) hC rfl g3 (fun y hy => ?_)
      simp (disch := (first | assumption | omega)) only [true_and, and_true, zr_u, zi_u, zI_u, Option.some.injEq, exists_eq_left', nn_tn, nn_add, nn_s, nn_2, nn_5, nn_7, nn_8, na0, na2, na3, na4, na5, na6, uf_ne, uf_eq, ur_eq, ur_ne, true_or, or_true, not_true_eq_false, not_false_eq_true, true_implies, false_implies, implies_true, e10, e01, reduceIte, Option.isSome_none, Option.isSome_some, Bool.false_eq_true, bi_t, bi_f, rc_183_8 hC, ka_185]
      refine s_MsortOf (A := f 195) (B := f 196) hC rfl g3 (fun b hb => ?_)
      have f1 := f0.put a x
      have stp : ∀ (f' : zf) (z u w : Int32), frQ f f' → (z ≠ 0 → u = 1 → (∀ v, hM (f 195) (f 196) 0 v → mev t v = some 0)) → (z = 0 → u = 1 → ∀ v, hM (f 195) (f 196) 0 v → mev t v = some (mrk t.2.1 x y)) → (u = 2 → ∀ v, hM (f 195) (f 196) 0 v → mev t v = none) → (u = 1 ∨ u = 2 ∧ z = 0) → P_M_make_232 201 Q 183 (nn (7 * s)) x y z 183 u (f', ρ) := by
        intro f' z u w q1 q2 q3 q4 q5
        unfold P_M_make_232 P_M_make_249 P_M_make_267 P_M_make_270
        have e8 : f' 185 = f 185 := q1.1 _ (by decide)
        simp (disch := (first | assumption | omega)) only [true_and, and_true, zr_u, zi_u, zI_u, Option.some.injEq, exists_eq_left', nn_tn, nn_add, nn_s, nn_2, nn_5, nn_7, nn_8, na0, na2, na3, na4, na5, na6, uf_ne, uf_eq, ur_eq, ur_ne, true_or, or_true, not_true_eq_false, not_false_eq_true, true_implies, false_implies, implies_true, e10, e01, reduceIte, Option.isSome_none, Option.isSome_some, Bool.false_eq_true, bi_t, bi_f, ko_183, rc_183_8 hC, ka_185, e8, g2]
        refine ⟨fun hz => ?_, fun hz => ⟨fun hu => ?_, fun hu => ?_⟩⟩
        · rcases q5 with q5 | q5
          · refine h _ (q1.put _ _) (fun v hv => ?_)
            simp (disch := (first | assumption | omega)) only [true_and, and_true, zr_u, zi_u, zI_u, Option.some.injEq, exists_eq_left', nn_tn, nn_add, nn_s, nn_2, nn_5, nn_7, nn_8, na0, na2, na3, na4, na5, na6, uf_ne, uf_eq, ur_eq, ur_ne, true_or, or_true, not_true_eq_false, not_false_eq_true, true_implies, false_implies, implies_true, e10, e01, reduceIte, Option.isSome_none, Option.isSome_some, Bool.false_eq_true, bi_t, bi_f]
            rw [q2 hz q5 v hv]
            exact ⟨q5, fun y hy => by cases hy; rfl⟩
          · exact absurd q5.2 hz
        · rcases q5 with q5 | q5
          · refine s_Mreckoned g1 ?_
            simp (disch := (first | assumption | omega)) only [true_and, and_true, zr_u, zi_u, zI_u, Option.some.injEq, exists_eq_left', nn_tn, nn_add, nn_s, nn_2, nn_5, nn_7, nn_8, na0, na2, na3, na4, na5, na6, uf_ne, uf_eq, ur_eq, ur_ne, true_or, or_true, not_true_eq_false, not_false_eq_true, true_implies, false_implies, implies_true, e10, e01, reduceIte, Option.isSome_none, Option.isSome_some, Bool.false_eq_true, bi_t, bi_f]
            refine h _ (q1.put _ _) (fun v hv => ?_)
            simp (disch := (first | assumption | omega)) only [true_and, and_true, zr_u, zi_u, zI_u, Option.some.injEq, exists_eq_left', nn_tn, nn_add, nn_s, nn_2, nn_5, nn_7, nn_8, na0, na2, na3, na4, na5, na6, uf_ne, uf_eq, ur_eq, ur_ne, true_or, or_true, not_true_eq_false, not_false_eq_true, true_implies, false_implies, implies_true, e10, e01, reduceIte, Option.isSome_none, Option.isSome_some, Bool.false_eq_true, bi_t, bi_f]
            rw [q3 hz q5 v hv]
            exact ⟨q5, fun y hy => by cases hy; rfl⟩
          · exact absurd q5.1 hu
        · refine h _ (q1.put _ _) (fun v hv => ?_)
          simp (disch := (first | assumption | omega)) only [true_and, and_true, zr_u, zi_u, zI_u, Option.some.injEq, exists_eq_left', nn_tn, nn_add, nn_s, nn_2, nn_5, nn_7, nn_8, na0, na2, na3, na4, na5, na6, uf_ne, uf_eq, ur_eq, ur_ne, true_or, or_true, not_true_eq_false, not_false_eq_true, true_implies, false_implies, implies_true, e10, e01, reduceIte, Option.isSome_none, Option.isSome_some, Bool.false_eq_true, bi_t, bi_f]
          rw [q4 hu v hv]
          exact ⟨hu, fun y hy => by cases hy⟩
      have bin : ∀ v, hM (f 195) (f 196) 0 v → mev t v = (match mop v t.2.2.1, mop v t.2.2.2 with
          | some x, some y => some (mrk t.2.1 x y)
          | some x, none => if x = 0 ∧ (t.2.1 = 42 ∨ t.2.1 = 38) then some 0 else none
          | none, some y => if y = 0 ∧ (t.2.1 = 42 ∨ t.2.1 = 38) then some 0 else none
          | none, none => none) := fun v hv => by
            unfold mev; rw [if_neg n0, if_neg n1]
            cases mop v t.2.2.1 <;> cases mop v t.2.2.2 <;> rfl
      have k207 : ∀ z : Int32, (z = 0 ∨ z = 1) → (z = 1 ↔ ((a = 1 ∧ x = 0 ∨ b = 1 ∧ y = 0) ∧ (t.2.1 = 42 ∨ t.2.1 = 38))) → P_M_make_207 201 Q 183 (nn (7 * s)) x a y b z (uf (uf f 183 25 a) 183 26 x, ρ) := by
        intro z hz hz1
        unfold P_M_make_207 P_M_make_227 P_M_make_231
        have sa : ∀ v, hM (f 195) (f 196) 0 v → a = 1 → mop v t.2.2.1 = some x := fun v hv qa => by
          have := ha v hv
          cases hl : mop v t.2.2.1 with
          | none => rw [hl, qa] at this; exact absurd this (by decide)
          | some c => rw [hx v c hv hl]
        have na : ∀ v, hM (f 195) (f 196) 0 v → a ≠ 1 → mop v t.2.2.1 = none := fun v hv qa => by
          have := ha v hv
          cases hl : mop v t.2.2.1 with
          | none => rfl
          | some c => rw [hl] at this; exact absurd this qa
        have sb' : ∀ v, hM (f 195) (f 196) 0 v → b = 1 → mop v t.2.2.2 = some y := fun v hv qa => by
          have := hb v hv
          cases hl : mop v t.2.2.2 with
          | none => rw [hl, qa] at this; exact absurd this (by decide)
          | some c => rw [hy v c hv hl]
        have nb : ∀ v, hM (f 195) (f 196) 0 v → b ≠ 1 → mop v t.2.2.2 = none := fun v hv qa => by
          have := hb v hv
          cases hl : mop v t.2.2.2 with
          | none => rfl
          | some c => rw [hl] at this; exact absurd this qa
        have gone : ∀ v, hM (f 195) (f 196) 0 v → z ≠ 0 → mev t v = some 0 := fun v hv qz => by
          have q1 : z = 1 := hz.resolve_left qz
          obtain ⟨qs, qm⟩ := hz1.mp q1
          rw [bin v hv]
          rcases qs with ⟨r1, r2⟩ | ⟨r1, r2⟩
          · rw [sa v hv r1, r2]
            by_cases r3 : b = 1
            · rw [sb' v hv r3]; simp only; rw [mrk_z1 y qm]
            · rw [nb v hv r3]; simp only; rw [if_pos ⟨trivial, qm⟩]
          · rw [sb' v hv r1, r2]
            by_cases r3 : a = 1
            · rw [sa v hv r3]; simp only; rw [mrk_z2 x qm]
            · rw [na v hv r3]; simp only; rw [if_pos ⟨trivial, qm⟩]
        have both : ∀ v, hM (f 195) (f 196) 0 v → a = 1 → b = 1 → mev t v = some (mrk t.2.1 x y) := fun v hv r1 r2 => by
          rw [bin v hv, sa v hv r1, sb' v hv r2]
        have none' : ∀ v, hM (f 195) (f 196) 0 v → z = 0 → ¬ (a = 1 ∧ b = 1) → mev t v = none := fun v hv qz qn => by
          have q1 : ¬ ((a = 1 ∧ x = 0 ∨ b = 1 ∧ y = 0) ∧ (t.2.1 = 42 ∨ t.2.1 = 38)) := fun h => by
            have := hz1.mpr h; rw [qz] at this; exact absurd this (by decide)
          rw [bin v hv]
          by_cases r1 : a = 1
          · have r2 : b ≠ 1 := fun h => qn ⟨r1, h⟩
            rw [sa v hv r1, nb v hv r2]; simp only
            rw [if_neg (fun h => q1 ⟨Or.inl ⟨r1, h.1⟩, h.2⟩)]
          · by_cases r2 : b = 1
            · rw [na v hv r1, sb' v hv r2]; simp only
              rw [if_neg (fun h => q1 ⟨Or.inr ⟨r2, h.1⟩, h.2⟩)]
            · rw [na v hv r1, nb v hv r2]
        refine ⟨fun qz => stp _ z 1 0 f1 (fun _ _ v hv => gone v hv qz) (fun q => absurd q qz) (fun q => absurd q (by decide)) (Or.inl rfl), fun qz => ⟨fun q1 => stp _ z 2 0 f1 (fun q => absurd qz q) (fun _ q => absurd q (by decide)) (fun _ v hv => none' v hv qz (fun h => q1 h.1)) (Or.inr ⟨rfl, qz⟩), fun q1 => ⟨fun q2 => stp _ z 2 0 f1 (fun q => absurd qz q) (fun _ q => absurd q (by decide)) (fun _ v hv => none' v hv qz (fun h => q2 h.2)) (Or.inr ⟨rfl, qz⟩), fun q2 => stp _ z 1 0 f1 (fun q => absurd qz q) (fun _ _ v hv => both v hv q1 q2) (fun q => absurd q (by decide)) (Or.inl rfl)⟩⟩⟩
      have hi2 : (nn (hix t.2.1) = 2) ↔ t.2.1 = 42 := by
        rcases g1 with e | e | e | e | e | e | e | e | e | e <;> rw [e] <;> decide
      have hi5 : (nn (hix t.2.1) = 5) ↔ t.2.1 = 38 := by
        rcases g1 with e | e | e | e | e | e | e | e | e | e <;> rw [e] <;> decide
      have k171 : ∀ z : Int32, (z = 1 ∧ (a = 1 ∧ x = 0 ∨ b = 1 ∧ y = 0) ∨ z = 0 ∧ ¬ (a = 1 ∧ x = 0 ∨ b = 1 ∧ y = 0)) → P_M_make_171 201 Q 183 (nn (7 * s)) x a y b z (uf (uf f 183 25 a) 183 26 x, ρ) := by
        intro z hz
        unfold P_M_make_171 P_M_make_206 P_M_make_202
        simp (disch := (first | assumption | omega)) only [true_and, and_true, zr_u, zi_u, zI_u, Option.some.injEq, exists_eq_left', nn_tn, nn_add, nn_s, nn_2, nn_5, nn_7, nn_8, na0, na2, na3, na4, na5, na6, uf_ne, uf_eq, ur_eq, ur_ne, true_or, or_true, not_true_eq_false, not_false_eq_true, true_implies, false_implies, implies_true, e10, e01, reduceIte, Option.isSome_none, Option.isSome_some, Bool.false_eq_true, bi_t, bi_f, ko_183, rc_183_8 hC, ka_185, g2]
        refine ⟨fun qz => k207 0 (Or.inl rfl) ⟨fun q => absurd q (by decide), fun q => ?_⟩, fun qz => ⟨fun q2 => k207 1 (Or.inr rfl) ⟨fun _ => ?_, fun _ => rfl⟩, fun q2 => ⟨fun q5 => k207 0 (Or.inl rfl) ⟨fun q => absurd q (by decide), fun q => ?_⟩, fun q5 => k207 1 (Or.inr rfl) ⟨fun _ => ?_, fun _ => rfl⟩⟩⟩⟩
        · rcases hz with hz | hz
          · rw [hz.1] at qz; exact absurd qz (by decide)
          · exact absurd q.1 hz.2
        · rcases hz with hz | hz
          · exact ⟨hz.2, Or.inl (hi2.mp q2)⟩
          · exact absurd hz.1 qz
        · rcases q.2 with q' | q'
          · exact absurd (hi2.mpr q') q2
          · exact absurd (hi5.mpr q') q5
        · rcases hz with hz | hz
          · exact ⟨hz.2, Or.inr (hi5.mp q5)⟩
          · exact absurd hz.1 qz
      unfold P_M_make_155 P_M_make_170 P_M_make_166
      have k155 : ¬ (a = 1 ∧ x = 0) → (¬b = 1 → P_M_make_171 201 Q 183 (nn (7 * s)) x a y b 0 (uf (uf f 183 25 a) 183 26 x, ρ)) ∧ (b = 1 → (¬y = 0 → P_M_make_171 201 Q 183 (nn (7 * s)) x a y b 0 (uf (uf f 183 25 a) 183 26 x, ρ)) ∧ (y = 0 → P_M_make_171 201 Q 183 (nn (7 * s)) x a y b 1 (uf (uf f 183 25 a) 183 26 x, ρ))) := by
        intro hn
        refine ⟨fun q => k171 0 (Or.inr ⟨rfl, ?_⟩), fun q => ⟨fun q' => k171 0 (Or.inr ⟨rfl, ?_⟩), fun q' => k171 1 (Or.inl ⟨rfl, Or.inr ⟨q, q'⟩⟩)⟩⟩
        · rintro (h | h)
          · exact hn h
          · exact q h.1
        · rintro (h | h)
          · exact hn h
          · exact q' h.2
      exact ⟨fun q => k155 (fun h => q h.1), fun q => ⟨fun q' => k171 1 (Or.inl ⟨rfl, Or.inl ⟨q, q'⟩⟩), fun q' => k155 (fun h => q' h.2)⟩⟩
  · have n0 : t.2.1 = 0 := by
      by_cases e : t.2.1 = 0
      · exact e
      · rw [if_neg e] at q0
        split at q0 <;> exact absurd q0 (by decide)
    refine h _ (f0.put _ _) (fun v hv => ?_)
    have e : mev t v = none := by unfold mev; rw [if_pos n0]
    rw [e]
    simp (disch := (first | assumption | omega)) only [true_and, and_true, zr_u, zi_u, zI_u, Option.some.injEq, exists_eq_left', nn_tn, nn_add, nn_s, nn_2, nn_5, nn_7, nn_8, na0, na2, na3, na4, na5, na6, uf_ne, uf_eq, ur_eq, ur_ne, true_or, or_true, not_true_eq_false, not_false_eq_true, true_implies, false_implies, implies_true, e10, e01, reduceIte, Option.isSome_none, Option.isSome_some, Bool.false_eq_true, bi_t, bi_f]
    exact ⟨rfl, fun y hy => by cases hy⟩
