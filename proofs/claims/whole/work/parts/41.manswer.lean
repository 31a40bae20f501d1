/-! The reference's answers from facts. -/
theorem i32_range {x : Int32} {k : Nat} (hk : k < 2147483648) (h0 : ¬ x < 0) (h1 : x < nn k) : ∃ q, q < k ∧ x = nn q := by
  rw [Int32.lt_iff_toInt_lt] at h0
  rw [Int32.lt_iff_toInt_lt, nn_int hk] at h1
  have h2 : (0 : Int32).toInt = 0 := by decide
  refine ⟨x.toInt.toNat, by omega, ?_⟩
  apply Int32.toInt_inj.mp
  rw [nn_int (by omega)]
  omega
theorem s_know' {f : zf} {ρ : zo} (hC : zC ρ) {G : mG} {F : mF} {Q : zS → Prop} (hG : gG G) (hP : pM f G) (hL : mleast G F) (hk : f 183 19 = 0 ∨ rM f F) (h : ∀ f', frN f f' → (f' 183 19 = 1 ∨ f' 183 19 = f 183 19) → f' 183 19 ≠ 0 → rM f' F → Q (f', ρ)) : P_M_know 201 183 (f, ρ) Q := by
  refine s_know hC hG hP (hk.imp_right fun q => ⟨F, q, hL⟩) (fun f' F' h1 h2 h3 h4 h5 => ?_)
  rw [mleast_eq h5 hL] at h4
  by_cases e : f 183 19 = 0
  · exact h f' h1 (Or.inl (h2 e)) (by rw [h2 e]; decide) h4
  · exact h f' h1 (Or.inr (by rw [h3 e])) (by rw [h3 e]; exact e) h4
theorem s_Mtold {f : zf} {ρ : zo} (hC : zC ρ) {G : mG} {F : mF} {q : Nat} {Q : Int32 → zS → Prop} (hG : gG G) (hP : pM f G) (hF : rM f F) (hq : q < 7) (h : ∀ f', frN f f' → f' 183 19 = f 183 19 → rM f' F → Q (nn (mtl G F q)) (f', ρ)) : ∃ g, P_M_told_48 201 Q g 183 (nn q) 0 0 0 0 0 0 (f, ρ) := by
  have hn := hG.2.1
  have key : ∀ (m k : Nat) (f' : zf), k + m = G.1 → frN f f' → f' 183 19 = f 183 19 → rM f' F → P_M_told_48 201 Q (m + 1) 183 (nn q) (nn (tq G F 1 k)) (nn (tq G F 3 k)) (nn (tq G F 4 k)) (nn (tq G F 5 k)) (nn (tq G F 6 k)) (nn k) (f', ρ) := by
    intro m
    induction m with
    | zero =>
      intro k f' hk h1 h2 h3
      have e : k = G.1 := by omega
      subst e
      have hP' := hP.N h1
      unfold P_M_told_48 P_M_told_238
      simp (disch := (first | assumption | omega)) only [true_and, and_true, zr_u, zi_u, zI_u, Option.some.injEq, exists_eq_left', nn_tn, nn_add, nn_s, nn_2, nn_5, nn_7, nn_8, na0, na2, na3, na4, na5, na6, uf_ne, uf_eq, ur_eq, ur_ne, true_or, or_true, not_true_eq_false, not_false_eq_true, true_implies, false_implies, implies_true, e10, e01, reduceIte, Option.isSome_none, Option.isSome_some, Bool.false_eq_true, bi_t, bi_f, ko_183, hP'.1, hP'.2.1]
      simp (disch := omega) only [nn_le]
      refine ⟨fun _ => ?_, fun z => absurd (Nat.le_refl _) z⟩
      have hh := h f' h1 h2 h3
      unfold mtl at hh
      simp only [ni1, show (2 : Int32) = nn 2 from rfl, ni3, ni4, ni5]
      simp (disch := omega) only [nn_e0, nn_eq]
      have hq7 : q = 0 ∨ q = 1 ∨ q = 2 ∨ q = 3 ∨ q = 4 ∨ q = 5 ∨ q = 6 := by omega
      rcases hq7 with e | e | e | e | e | e | e <;> subst e <;> simpa using hh
    | succ m ih =>
      intro k f' hk h1 h2 h3
      have hP' := hP.N h1
      have hB := h3.1 k (by omega)
      have hl := hG.f_le (b := k + 1) (by omega)
      have hmono := hG.2.2.2.2.2.1 k (by omega)
      unfold P_M_told_48
      simp (disch := (first | assumption | omega)) only [true_and, and_true, zr_u, zi_u, zI_u, Option.some.injEq, exists_eq_left', nn_tn, nn_add, nn_s, nn_2, nn_5, nn_7, nn_8, na0, na2, na3, na4, na5, na6, uf_ne, uf_eq, ur_eq, ur_ne, true_or, or_true, not_true_eq_false, not_false_eq_true, true_implies, false_implies, implies_true, e10, e01, reduceIte, Option.isSome_none, Option.isSome_some, Bool.false_eq_true, bi_t, bi_f, ko_183, hP'.1, rc_183_20 hC, ka_192]
      simp (disch := omega) only [nn_le]
      refine ⟨fun z => absurd z (by omega), fun _ => ?_⟩
      cases hv : F k with
      | none =>
        rw [hv] at hB
        refine ⟨fun _ => ?_, fun z => absurd hB.1 z⟩
        unfold P_M_told_169
        try simp (disch := (first | assumption | omega)) only [true_and, and_true, zr_u, zi_u, zI_u, Option.some.injEq, exists_eq_left', nn_tn, nn_add, nn_s, nn_2, nn_5, nn_7, nn_8, na0, na2, na3, na4, na5, na6, uf_ne, uf_eq, ur_eq, ur_ne, true_or, or_true, not_true_eq_false, not_false_eq_true, true_implies, false_implies, implies_true, e10, e01, reduceIte, Option.isSome_none, Option.isSome_some, Bool.false_eq_true, bi_t, bi_f]
        have ht : ∀ q, tq G F q (k + 1) = tq G F q k := fun q => by
          show tq G F q k + (match F k with | none => 0 | some v => wq G k v q) = _
          rw [hv]; rfl
        have := ih (k + 1) f' (by omega) h1 h2 h3
        rw [ht, ht, ht, ht, ht] at this
        exact this
      | some v =>
        rw [hv] at hB
        refine ⟨fun z => absurd (hB.1.symm.trans z) (by decide), fun _ => ?_⟩
        have ht : ∀ q, tq G F q (k + 1) = tq G F q k + wq G k v q := fun q => by
          show tq G F q k + (match F k with | none => 0 | some v => wq G k v q) = _
          rw [hv]
        refine s_Mbegin hC (by omega) (fun f1 r1 r2 => ?_)
        have fr1 : frN f f1 := h1.trans (frN.of2 r1)
        have hP1 := hP.N fr1
        simp (disch := (first | assumption | omega)) only [true_and, and_true, zr_u, zi_u, zI_u, Option.some.injEq, exists_eq_left', nn_tn, nn_add, nn_s, nn_2, nn_5, nn_7, nn_8, na0, na2, na3, na4, na5, na6, uf_ne, uf_eq, ur_eq, ur_ne, true_or, or_true, not_true_eq_false, not_false_eq_true, true_implies, false_implies, implies_true, e10, e01, reduceIte, Option.isSome_none, Option.isSome_some, Bool.false_eq_true, bi_t, bi_f, rc_183_10 hC, ka_187, hP1.2.2.1 k (by omega)]
        have i85 : ∀ (m' j : Nat) (g : zf), G.2.2.1 k + j + m' = G.2.2.1 (k + 1) → frN f g → g 183 19 = f 183 19 → rM g F → hM (g 195) (g 196) 0 (mfr G.2.2.2.1 (G.2.2.1 k) j v) → P_M_told_85 201 Q (fun a0 a1 a2 a3 a4 a5 a6 a7 σ => P_M_told_48 201 Q (m + 1) a0 a1 a2 a3 a4 a5 a6 a7 σ) (m' + 1) 183 (nn q) (nn (tq G F 1 k + 1)) (nn (tq G F 3 k + j)) (nn (tq G F 4 k + csr G.2.2.2.1 (G.2.2.1 k) j v)) (nn (tq G F 5 k)) (nn (tq G F 6 k)) (nn k) (nn (G.2.2.1 k + j)) (g, ρ) := by
          intro m'
          induction m' with
          | zero =>
            intro j g hj g1 g2 g3 g4
            have hPg := hP.N g1
            have he := hPg.2.2.2.2 k (by omega)
            have he' := he
            obtain ⟨c1, c2, c3, c4, c5⟩ := he
            have ej : j = bln G k := by unfold bln; omega
            subst ej
            have ew : mfr G.2.2.2.1 (G.2.2.1 k) (bln G k) v = mfb G k v := rfl
            rw [ew] at g4
            unfold P_M_told_85 P_M_told_169 P_M_told_167
            simp (disch := (first | assumption | omega)) only [true_and, and_true, zr_u, zi_u, zI_u, Option.some.injEq, exists_eq_left', nn_tn, nn_add, nn_s, nn_2, nn_5, nn_7, nn_8, na0, na2, na3, na4, na5, na6, uf_ne, uf_eq, ur_eq, ur_ne, true_or, or_true, not_true_eq_false, not_false_eq_true, true_implies, false_implies, implies_true, e10, e01, reduceIte, Option.isSome_none, Option.isSome_some, Bool.false_eq_true, bi_t, bi_f, ko_183, rc_183_10 hC, ka_187, hPg.2.2.1 (k + 1) (by omega), rc_183_9 hC, ka_186, c1, nn_e2]
            simp (disch := omega) only [nn_le]
            refine ⟨fun _ => ⟨fun z2 => ?_, fun z2 => ?_⟩, fun z => absurd (by omega) z⟩
            · have := ih (k + 1) g (by omega) g1 g2 g3
              rw [ht, ht, ht, ht, ht, wq_n z2, wq_n z2, wq_n z2, wq_n z2, wq_n z2] at this
              exact this
            · refine s_Mgoes hC (by omega) he' z2 g4 ⟨fun hn' => ?_, fun c hc => ?_⟩
              · refine ⟨fun _ => ?_, fun z => absurd (by decide) z⟩
                unfold P_M_told_169
                try simp (disch := (first | assumption | omega)) only [true_and, and_true, zr_u, zi_u, zI_u, Option.some.injEq, exists_eq_left', nn_tn, nn_add, nn_s, nn_2, nn_5, nn_7, nn_8, na0, na2, na3, na4, na5, na6, uf_ne, uf_eq, ur_eq, ur_ne, true_or, or_true, not_true_eq_false, not_false_eq_true, true_implies, false_implies, implies_true, e10, e01, reduceIte, Option.isSome_none, Option.isSome_some, Bool.false_eq_true, bi_t, bi_f]
                have := ih (k + 1) g (by omega) g1 g2 g3
                rw [ht, ht, ht, ht, ht, wq_f z2 hn', wq_f z2 hn', wq_f z2 hn', wq_f z2 hn', wq_f z2 hn'] at this
                exact this
              · have hl2 : (if c = 0 then (G.2.2.2.2 k).2.2.2 else (G.2.2.2.2 k).2.2.1) < 2147483648 := by
                  have q1 := (hG.2.2.2.2.2.2 k (by omega)).2.1 (by omega)
                  have q2 := (hG.2.2.2.2.2.2 k (by omega)).2.2 z2
                  split <;> omega
                rw [nn_neg hl2]
                refine ⟨False.elim, fun _ => ?_⟩
                unfold P_M_told_169
                try simp (disch := (first | assumption | omega)) only [true_and, and_true, zr_u, zi_u, zI_u, Option.some.injEq, exists_eq_left', nn_tn, nn_add, nn_s, nn_2, nn_5, nn_7, nn_8, na0, na2, na3, na4, na5, na6, uf_ne, uf_eq, ur_eq, ur_ne, true_or, or_true, not_true_eq_false, not_false_eq_true, true_implies, false_implies, implies_true, e10, e01, reduceIte, Option.isSome_none, Option.isSome_some, Bool.false_eq_true, bi_t, bi_f]
                have hs : (mop (mfb G k v) (G.2.2.2.2 k).2.1).isSome := by rw [hc]; rfl
                have := ih (k + 1) g (by omega) g1 g2 g3
                rw [ht, ht, ht, ht, ht, wq_s z2 hs, wq_s z2 hs, wq_s z2 hs, wq_s z2 hs, wq_s z2 hs] at this
                exact this
          | succ m' ih' =>
            intro j g hj g1 g2 g3 g4
            have hPg := hP.N g1
            unfold P_M_told_85 P_M_told_125
            simp (disch := (first | assumption | omega)) only [true_and, and_true, zr_u, zi_u, zI_u, Option.some.injEq, exists_eq_left', nn_tn, nn_add, nn_s, nn_2, nn_5, nn_7, nn_8, na0, na2, na3, na4, na5, na6, uf_ne, uf_eq, ur_eq, ur_ne, true_or, or_true, not_true_eq_false, not_false_eq_true, true_implies, false_implies, implies_true, e10, e01, reduceIte, Option.isSome_none, Option.isSome_some, Bool.false_eq_true, bi_t, bi_f, ko_183, rc_183_10 hC, ka_187, hPg.2.2.1 (k + 1) (by omega)]
            simp (disch := omega) only [nn_le]
            refine ⟨fun z => absurd z (by omega), fun _ => ?_⟩
            refine s_Mfollow hC (hPg.2.2.2.1 _ (hG.s_lt (b := k) (by omega) (by omega))) (fun g' y1 y2 => ?_)
            obtain ⟨y3, y4⟩ := y2 _ g4
            have y19 : g' 183 19 = f 183 19 := by rw [y1.2 19 (by decide) (by decide)]; exact g2
            have nx := ih' (j + 1) g' (by omega) (g1.trans (frN.ofW y1)) y19 (g3.W y1) y3
            have ec : csr G.2.2.2.1 (G.2.2.1 k) (j + 1) v = csr G.2.2.2.1 (G.2.2.1 k) j v + (if (mev (G.2.2.2.1 (G.2.2.1 k + j)) (mfr G.2.2.2.1 (G.2.2.1 k) j v)).isSome then 1 else 0) := rfl
            rw [ec] at nx
            simp (disch := (first | assumption | omega)) only [true_and, and_true, zr_u, zi_u, zI_u, Option.some.injEq, exists_eq_left', nn_tn, nn_add, nn_s, nn_2, nn_5, nn_7, nn_8, na0, na2, na3, na4, na5, na6, uf_ne, uf_eq, ur_eq, ur_ne, true_or, or_true, not_true_eq_false, not_false_eq_true, true_implies, false_implies, implies_true, e10, e01, reduceIte, Option.isSome_none, Option.isSome_some, Bool.false_eq_true, bi_t, bi_f, y4]
            cases he : mev (G.2.2.2.1 (G.2.2.1 k + j)) (mfr G.2.2.2.1 (G.2.2.1 k) j v) with
            | none =>
              rw [he] at nx
              exact ⟨fun _ => nx, fun z => absurd z (by decide)⟩
            | some y =>
              rw [he] at nx
              exact ⟨fun z => absurd rfl z, fun _ => nx⟩
        exact ⟨_, i85 (G.2.2.1 (k + 1) - G.2.2.1 k) 0 f1 (by omega) fr1 (by rw [r1 183 (by decide) (by decide)]; exact h2) (h3.two r1) (r2 v hB.2)⟩
  exact ⟨_, key G.1 0 f (by omega) (frN.rfl' f) rfl hF⟩
/-- rows 192 to 196, and of row 183 the places 0, 19, 25, 26, may differ -/
def frP (f f' : zf) : Prop := (∀ a, a ≠ 183 → a ≠ 192 → a ≠ 193 → a ≠ 194 → a ≠ 195 → a ≠ 196 → f' a = f a) ∧ ∀ j, j ≠ 0 → j ≠ 19 → j ≠ 25 → j ≠ 26 → f' 183 j = f 183 j
theorem frP.of0 (f : zf) (x : Int32) : frP f (uf f 183 0 x) := ⟨fun a h _ _ _ _ _ => uf_ne _ h, fun j h _ _ _ => by rw [uf_eq, ur_ne _ h]⟩
theorem frP.N {f g h : zf} (a : frP f g) (b : frN g h) : frP f h := ⟨fun k h1 h2 h3 h4 h5 h6 => by rw [b.1 k h1 h2 h3 h4 h5 h6, a.1 k h1 h2 h3 h4 h5 h6], fun j h0 h1 h2 h3 => by rw [b.2 j h1 h2 h3, a.2 j h0 h1 h2 h3]⟩
theorem frP.put {f g : zf} (a : frP f g) (x : Int32) : frP f (uf g 183 0 x) := ⟨fun k h1 h2 h3 h4 h5 h6 => by rw [uf_ne _ h1, a.1 k h1 h2 h3 h4 h5 h6], fun j h0 h1 h2 h3 => by rw [uf_eq, ur_ne _ h0, a.2 j h0 h1 h2 h3]⟩
theorem pM.P {f f' : zf} {G : mG} (h : pM f G) (a : frP f f') : pM f' G := h.same (a.2 _ (by decide) (by decide) (by decide) (by decide)) (a.2 _ (by decide) (by decide) (by decide) (by decide)) (a.1 _ (by decide) (by decide) (by decide) (by decide) (by decide) (by decide)) (a.1 _ (by decide) (by decide) (by decide) (by decide) (by decide) (by decide)) (a.1 _ (by decide) (by decide) (by decide) (by decide) (by decide) (by decide))
/-- the reference's facts, found or not -/
def kM (f : zf) (F : mF) : Prop := f 183 19 = 0 ∨ rM f F
theorem kM.put {f : zf} {F : mF} (h : kM f F) (x : Int32) : kM (uf f 183 0 x) F := by
  rcases h with h | h
  · left; rw [uf_eq, ur_ne _ (by decide)]; exact h
  · exact Or.inr (h.same (uf_ne _ (by decide)) (uf_ne _ (by decide)) (uf_ne _ (by decide)))
theorem le0_0 : ((0 : Int32) ≤ 0) = True := eq_true (by decide)
theorem le1_0 : ((1 : Int32) ≤ 0) = False := eq_false (by decide)
theorem le2_0 : ((2 : Int32) ≤ 0) = False := eq_false (by decide)
theorem M_told {f : zf} {ρ : zo} (hC : zC ρ) {G : mG} {F : mF} {x : Int32} {Q : Int32 → zS → Prop} (hG : gG G) (hP : pM f G) (hL : mleast G F) (hk : kM f F) (h1 : (x < 0 ∨ 6 < x) → Q 0 (uf f 183 0 1, ρ)) (h2 : ∀ q f', q < 7 → x = nn q → frP f f' → f' 183 0 = 0 → kM f' F → Q (nn (mtl G F q)) (f', ρ)) : P_M_told 201 183 x (f, ρ) Q := by
  unfold P_M_told P_M_told_11 P_M_told_16
  simp (disch := (first | assumption | omega)) only [true_and, and_true, zr_u, zi_u, zI_u, Option.some.injEq, exists_eq_left', nn_tn, nn_add, nn_s, nn_2, nn_5, nn_7, nn_8, na0, na2, na3, na4, na5, na6, uf_ne, uf_eq, ur_eq, ur_ne, true_or, or_true, not_true_eq_false, not_false_eq_true, true_implies, false_implies, implies_true, e10, e01, reduceIte, Option.isSome_none, Option.isSome_some, Bool.false_eq_true, bi_t, bi_f, ko_183, le0_0, le1_0]
  refine ⟨fun q => h1 (Or.inl q), fun q => ⟨fun q' => ?_, fun q' => h1 (Or.inr (Int32.not_le.mp q'))⟩⟩
  have hx : x < nn 7 := by
    rw [Int32.lt_iff_toInt_lt, nn_int (by decide)]
    rw [Int32.le_iff_toInt_le] at q'
    have : (6 : Int32).toInt = 6 := by decide
    omega
  obtain ⟨j, hj, ej⟩ := i32_range (by decide) q hx
  refine s_know' hC hG (hP.P (frP.of0 f 0)) hL (hk.put 0) (fun f1 a1 a2 a3 a4 => ?_)
  rw [ej]
  refine s_Mtold hC hG ((hP.P (frP.of0 f 0)).N a1) a4 hj (fun f2 b1 b2 b3 => ?_)
  refine h2 j f2 hj ej (((frP.of0 f 0).N a1).N b1) ?_ (Or.inr b3)
  rw [b1.2 0 (by decide) (by decide) (by decide), a1.2 0 (by decide) (by decide) (by decide), uf_eq, ur_eq]
theorem s_noBlock {f : zf} {ρ : zo} {G : mG} {x : Int32} {Q : Int32 → zS → Prop} (hG : gG G) (hP : f 183 6 = nn G.1) (h1 : (x < 0 ∨ nn G.1 ≤ x) → Q 1 (f, ρ)) (h2 : ∀ b, b < G.1 → x = nn b → Q 0 (f, ρ)) : P_M_noBlock 201 183 x (f, ρ) Q := by
  unfold P_M_noBlock P_M_noBlock_12 P_M_noBlock_17
  simp (disch := (first | assumption | omega)) only [true_and, and_true, zr_u, zi_u, zI_u, Option.some.injEq, exists_eq_left', nn_tn, nn_add, nn_s, nn_2, nn_5, nn_7, nn_8, na0, na2, na3, na4, na5, na6, uf_ne, uf_eq, ur_eq, ur_ne, true_or, or_true, not_true_eq_false, not_false_eq_true, true_implies, false_implies, implies_true, e10, e01, reduceIte, Option.isSome_none, Option.isSome_some, Bool.false_eq_true, bi_t, bi_f, ko_183, hP]
  refine ⟨fun q => h1 (Or.inl q), fun q => ⟨fun q' => ?_, fun q' => h1 (Or.inr (Int32.not_lt.mp q'))⟩⟩
  obtain ⟨b, hb, e⟩ := i32_range (by have := hG.2.1; omega) q q'
  exact h2 b hb e
theorem M_comes {f : zf} {ρ : zo} (hC : zC ρ) {G : mG} {F : mF} {x : Int32} {Q : Int32 → zS → Prop} (hG : gG G) (hP : pM f G) (hL : mleast G F) (hk : kM f F) (h1 : (x < 0 ∨ nn G.1 ≤ x) → Q 0 (uf f 183 0 1, ρ)) (h2 : ∀ b f', b < G.1 → x = nn b → frP f f' → f' 183 0 = 0 → kM f' F → Q (bi (F b).isSome) (f', ρ)) : P_M_comes 201 183 x (f, ρ) Q := by
  unfold P_M_comes
  simp (disch := (first | assumption | omega)) only [true_and, and_true, zr_u, zi_u, zI_u, Option.some.injEq, exists_eq_left', nn_tn, nn_add, nn_s, nn_2, nn_5, nn_7, nn_8, na0, na2, na3, na4, na5, na6, uf_ne, uf_eq, ur_eq, ur_ne, true_or, or_true, not_true_eq_false, not_false_eq_true, true_implies, false_implies, implies_true, e10, e01, reduceIte, Option.isSome_none, Option.isSome_some, Bool.false_eq_true, bi_t, bi_f, ko_183]
  refine s_noBlock hG hP.1 (fun q => ?_) (fun b hb e => ?_)
  · unfold P_M_comes_14
    simp (disch := (first | assumption | omega)) only [true_and, and_true, zr_u, zi_u, zI_u, Option.some.injEq, exists_eq_left', nn_tn, nn_add, nn_s, nn_2, nn_5, nn_7, nn_8, na0, na2, na3, na4, na5, na6, uf_ne, uf_eq, ur_eq, ur_ne, true_or, or_true, not_true_eq_false, not_false_eq_true, true_implies, false_implies, implies_true, e10, e01, reduceIte, Option.isSome_none, Option.isSome_some, Bool.false_eq_true, bi_t, bi_f, ko_183, le1_0]
    exact h1 q
  · unfold P_M_comes_14
    simp (disch := (first | assumption | omega)) only [true_and, and_true, zr_u, zi_u, zI_u, Option.some.injEq, exists_eq_left', nn_tn, nn_add, nn_s, nn_2, nn_5, nn_7, nn_8, na0, na2, na3, na4, na5, na6, uf_ne, uf_eq, ur_eq, ur_ne, true_or, or_true, not_true_eq_false, not_false_eq_true, true_implies, false_implies, implies_true, e10, e01, reduceIte, Option.isSome_none, Option.isSome_some, Bool.false_eq_true, bi_t, bi_f, ko_183, le0_0]
    refine s_know' hC hG (hP.P (frP.of0 f 0)) hL (hk.put 0) (fun f1 a1 a2 a3 a4 => ?_)
    have hn := hG.2.1
    rw [e]
    simp (disch := (first | assumption | omega)) only [true_and, and_true, zr_u, zi_u, zI_u, Option.some.injEq, exists_eq_left', nn_tn, nn_add, nn_s, nn_2, nn_5, nn_7, nn_8, na0, na2, na3, na4, na5, na6, uf_ne, uf_eq, ur_eq, ur_ne, true_or, or_true, not_true_eq_false, not_false_eq_true, true_implies, false_implies, implies_true, e10, e01, reduceIte, Option.isSome_none, Option.isSome_some, Bool.false_eq_true, bi_t, bi_f, rc_183_20 hC, ka_192]
    have hh := h2 b f1 hb e ((frP.of0 f 0).N a1) (by rw [a1.2 0 (by decide) (by decide) (by decide), uf_eq, ur_eq]) (Or.inr a4)
    have hB := a4.1 b (by omega)
    cases hv : F b with
    | none =>
      rw [hv] at hB hh
      rw [hB.1]; exact ⟨Or.inl rfl, hh⟩
    | some v =>
      rw [hv] at hB hh
      rw [hB.1]; exact ⟨Or.inr rfl, hh⟩
/-- what is known of block b at its beginning or at its end -/
def mvw (G : mG) (F : mF) (b : Nat) (e : Int32) : Option mV := (F b).map fun v => if e = 0 then v else mfb G b v
theorem s_goTo {f : zf} {ρ : zo} (hC : zC ρ) {G : mG} {F : mF} {b : Nat} {e : Int32} {Q : zS → Prop} (hG : gG G) (hP : pM f G) (hL : mleast G F) (hk : kM f F) (hb : b < G.1) (h : ∀ f', frN f f' → rM f' F → (∀ v, mvw G F b e = some v → hM (f' 195) (f' 196) 0 v) → Q (f', ρ)) : P_M_goTo 201 183 (nn b) e (f, ρ) Q := by
  have hn := hG.2.1
  have hl := hG.f_le (b := b + 1) (by omega)
  have hmono := hG.2.2.2.2.2.1 b hb
  unfold P_M_goTo
  simp (disch := (first | assumption | omega)) only [true_and, and_true, zr_u, zi_u, zI_u, Option.some.injEq, exists_eq_left', nn_tn, nn_add, nn_s, nn_2, nn_5, nn_7, nn_8, na0, na2, na3, na4, na5, na6, uf_ne, uf_eq, ur_eq, ur_ne, true_or, or_true, not_true_eq_false, not_false_eq_true, true_implies, false_implies, implies_true, e10, e01, reduceIte, Option.isSome_none, Option.isSome_some, Bool.false_eq_true, bi_t, bi_f, ko_183]
  refine s_know' hC hG hP hL hk (fun f1 a1 a2 a3 a4 => ?_)
  refine s_Mbegin hC (by omega) (fun f2 b1 b2 => ?_)
  have fr2' : frN f f2 := a1.trans (frN.of2 b1)
  have hP2 := hP.N fr2'
  simp (disch := (first | assumption | omega)) only [true_and, and_true, zr_u, zi_u, zI_u, Option.some.injEq, exists_eq_left', nn_tn, nn_add, nn_s, nn_2, nn_5, nn_7, nn_8, na0, na2, na3, na4, na5, na6, uf_ne, uf_eq, ur_eq, ur_ne, true_or, or_true, not_true_eq_false, not_false_eq_true, true_implies, false_implies, implies_true, e10, e01, reduceIte, Option.isSome_none, Option.isSome_some, Bool.false_eq_true, bi_t, bi_f, rc_183_10 hC, ka_187, hP2.2.2.1 b (by omega)]
  have key : ∀ (m k : Nat) (g : zf), G.2.2.1 b + k + m = G.2.2.1 (b + 1) → frN f g → rM g F → (e = 0 → k = 0) → (∀ v, F b = some v → hM (g 195) (g 196) 0 (mfr G.2.2.2.1 (G.2.2.1 b) k v)) → P_M_goTo_16 201 Q (m + 1) 183 (nn b) e (nn (G.2.2.1 b + k)) (g, ρ) := by
    intro m
    induction m with
    | zero =>
      intro k g hk' g1 g2 g3 g4
      have hPg := hP.N g1
      unfold P_M_goTo_16 P_M_goTo_43
      simp (disch := (first | assumption | omega)) only [true_and, and_true, zr_u, zi_u, zI_u, Option.some.injEq, exists_eq_left', nn_tn, nn_add, nn_s, nn_2, nn_5, nn_7, nn_8, na0, na2, na3, na4, na5, na6, uf_ne, uf_eq, ur_eq, ur_ne, true_or, or_true, not_true_eq_false, not_false_eq_true, true_implies, false_implies, implies_true, e10, e01, reduceIte, Option.isSome_none, Option.isSome_some, Bool.false_eq_true, bi_t, bi_f, ko_183, rc_183_10 hC, ka_187, hPg.2.2.1 (b + 1) (by omega)]
      simp (disch := omega) only [nn_le]
      refine ⟨fun _ => h g g1 g2 (fun v hv => ?_), fun z => absurd (by omega) z⟩
      unfold mvw at hv
      cases hF : F b with
      | none => rw [hF] at hv; cases hv
      | some w =>
        rw [hF] at hv
        cases hv
        have := g4 w hF
        show hM _ _ 0 (if e = 0 then w else mfb G b w)
        by_cases e0 : e = 0
        · rw [if_pos e0]
          have k0 := g3 e0
          subst k0; exact this
        · rw [if_neg e0]
          unfold mfb
          rw [show G.2.2.1 (b + 1) - G.2.2.1 b = k by omega]; exact this
    | succ m ih =>
      intro k g hk' g1 g2 g3 g4
      have hPg := hP.N g1
      unfold P_M_goTo_16 P_M_goTo_43
      simp (disch := (first | assumption | omega)) only [true_and, and_true, zr_u, zi_u, zI_u, Option.some.injEq, exists_eq_left', nn_tn, nn_add, nn_s, nn_2, nn_5, nn_7, nn_8, na0, na2, na3, na4, na5, na6, uf_ne, uf_eq, ur_eq, ur_ne, true_or, or_true, not_true_eq_false, not_false_eq_true, true_implies, false_implies, implies_true, e10, e01, reduceIte, Option.isSome_none, Option.isSome_some, Bool.false_eq_true, bi_t, bi_f, ko_183, rc_183_10 hC, ka_187, hPg.2.2.1 (b + 1) (by omega)]
      simp (disch := omega) only [nn_le]
      refine ⟨fun z => absurd z (by omega), fun _ => ⟨fun e0 => h g g1 g2 (fun v hv => ?_), fun e0 => ?_⟩⟩
      · unfold mvw at hv
        cases hF : F b with
        | none => rw [hF] at hv; cases hv
        | some w =>
          rw [hF] at hv
          cases hv
          show hM _ _ 0 (if e = 0 then w else mfb G b w)
          rw [if_pos e0]
          have := g4 w hF
          have k0 := g3 e0
          subst k0; exact this
      · refine s_Mfollow hC (hPg.2.2.2.1 _ (hG.s_lt hb (by omega))) (fun g' y1 y2 => ?_)
        exact ih (k + 1) g' (by omega) (g1.trans (frN.ofW y1)) (g2.W y1) (fun z => absurd z e0) (fun v hv => (y2 _ (g4 v hv)).1)
  refine ⟨_, key (G.2.2.1 (b + 1) - G.2.2.1 b) 0 f2 (by omega) fr2' (a4.two b1) (fun _ => rfl) (fun v hv => ?_)⟩
  have hB := a4.1 b (by omega)
  rw [hv] at hB
  exact b2 v hB.2
theorem mvw_n {G : mG} {F : mF} {b : Nat} {e : Int32} : mvw G F b e = none ↔ F b = none := by
  unfold mvw
  cases F b with
  | none => exact ⟨fun _ => rfl, fun _ => rfl⟩
  | some v => exact ⟨fun h => (by cases h), fun h => (by cases h)⟩
theorem M_known {f : zf} {ρ : zo} (hC : zC ρ) {G : mG} {F : mF} {x y e : Int32} {Q : Int32 → zS → Prop} (hG : gG G) (hP : pM f G) (hL : mleast G F) (hk : kM f F) (h1 : (x < 0 ∨ nn G.1 ≤ x ∨ y < 0 ∨ 8 ≤ y) → Q 0 (uf f 183 0 1, ρ)) (h2 : ∀ b z f', b < G.1 → x = nn b → z < 8 → y = nn z → frP f f' → f' 183 0 = 0 → kM f' F → Q (match mvw G F b e with | none => 0 | some v => sb (v z)) (f', ρ)) : P_M_known 201 183 x y e (f, ρ) Q := by
  have hn := hG.2.1
  unfold P_M_known
  simp (disch := (first | assumption | omega)) only [true_and, and_true, zr_u, zi_u, zI_u, Option.some.injEq, exists_eq_left', nn_tn, nn_add, nn_s, nn_2, nn_5, nn_7, nn_8, na0, na2, na3, na4, na5, na6, uf_ne, uf_eq, ur_eq, ur_ne, true_or, or_true, not_true_eq_false, not_false_eq_true, true_implies, false_implies, implies_true, e10, e01, reduceIte, Option.isSome_none, Option.isSome_some, Bool.false_eq_true, bi_t, bi_f, ko_183]
  have thr : (x < 0 ∨ nn G.1 ≤ x ∨ y < 0 ∨ 8 ≤ y) → P_M_known_19 201 Q 183 x y e 183 (f, ρ) := fun q => by
    unfold P_M_known_19 P_M_known_24
    simp (disch := (first | assumption | omega)) only [true_and, and_true, zr_u, zi_u, zI_u, Option.some.injEq, exists_eq_left', nn_tn, nn_add, nn_s, nn_2, nn_5, nn_7, nn_8, na0, na2, na3, na4, na5, na6, uf_ne, uf_eq, ur_eq, ur_ne, true_or, or_true, not_true_eq_false, not_false_eq_true, true_implies, false_implies, implies_true, e10, e01, reduceIte, Option.isSome_none, Option.isSome_some, Bool.false_eq_true, bi_t, bi_f, ko_183, le1_0]
    exact h1 q
  refine s_noBlock hG hP.1 (fun q => ?_) (fun b hb eb => ?_)
  · simp (disch := (first | assumption | omega)) only [true_and, and_true, zr_u, zi_u, zI_u, Option.some.injEq, exists_eq_left', nn_tn, nn_add, nn_s, nn_2, nn_5, nn_7, nn_8, na0, na2, na3, na4, na5, na6, uf_ne, uf_eq, ur_eq, ur_ne, true_or, or_true, not_true_eq_false, not_false_eq_true, true_implies, false_implies, implies_true, e10, e01, reduceIte, Option.isSome_none, Option.isSome_some, Bool.false_eq_true, bi_t, bi_f]
    refine thr ?_
    rcases q with q | q
    · exact Or.inl q
    · exact Or.inr (Or.inl q)
  · simp (disch := (first | assumption | omega)) only [true_and, and_true, zr_u, zi_u, zI_u, Option.some.injEq, exists_eq_left', nn_tn, nn_add, nn_s, nn_2, nn_5, nn_7, nn_8, na0, na2, na3, na4, na5, na6, uf_ne, uf_eq, ur_eq, ur_ne, true_or, or_true, not_true_eq_false, not_false_eq_true, true_implies, false_implies, implies_true, e10, e01, reduceIte, Option.isSome_none, Option.isSome_some, Bool.false_eq_true, bi_t, bi_f]
    refine ⟨fun q => thr (Or.inr (Or.inr (Or.inl q))), fun q => ⟨fun q' => ?_, fun q' => thr (Or.inr (Or.inr (Or.inr (Int32.not_lt.mp q'))))⟩⟩
    obtain ⟨z, hz, ez⟩ := i32_range (k := 8) (by decide) q q'
    unfold P_M_known_24 P_M_known_61
    simp (disch := (first | assumption | omega)) only [true_and, and_true, zr_u, zi_u, zI_u, Option.some.injEq, exists_eq_left', nn_tn, nn_add, nn_s, nn_2, nn_5, nn_7, nn_8, na0, na2, na3, na4, na5, na6, uf_ne, uf_eq, ur_eq, ur_ne, true_or, or_true, not_true_eq_false, not_false_eq_true, true_implies, false_implies, implies_true, e10, e01, reduceIte, Option.isSome_none, Option.isSome_some, Bool.false_eq_true, bi_t, bi_f, ko_183, le0_0]
    rw [eb, ez]
    refine s_goTo hC hG (hP.P (frP.of0 f 0)) hL (hk.put 0) hb (fun f1 a1 a2 a3 => ?_)
    simp (disch := (first | assumption | omega)) only [true_and, and_true, zr_u, zi_u, zI_u, Option.some.injEq, exists_eq_left', nn_tn, nn_add, nn_s, nn_2, nn_5, nn_7, nn_8, na0, na2, na3, na4, na5, na6, uf_ne, uf_eq, ur_eq, ur_ne, true_or, or_true, not_true_eq_false, not_false_eq_true, true_implies, false_implies, implies_true, e10, e01, reduceIte, Option.isSome_none, Option.isSome_some, Bool.false_eq_true, bi_t, bi_f, rc_183_20 hC, ka_192, rc_183_23 hC, ka_195]
    have hh := h2 b z f1 hb eb hz ez ((frP.of0 f 0).N a1) (by rw [a1.2 0 (by decide) (by decide) (by decide), uf_eq, ur_eq]) (Or.inr a2)
    have hB := a2.1 b (by omega)
    cases hv : F b with
    | none =>
      rw [mvw_n.mpr hv] at hh
      rw [hv] at hB
      rw [hB.1]
      exact ⟨fun _ => hh, fun q => absurd rfl q⟩
    | some v =>
      rw [hv] at hB
      rw [hB.1]
      refine ⟨fun q => absurd q (by decide), fun _ => ?_⟩
      cases hw : mvw G F b e with
      | none => rw [mvw_n.mp hw] at hv; cases hv
      | some w =>
        rw [hw] at hh
        have hm := (a3 w hw).1 z hz
        rw [Nat.zero_add] at hm
        simp only at hh
        cases hwz : w z with
        | none => rw [hwz] at hh; rw [hm.2 hwz]; exact hh
        | some c => rw [hwz] at hh; rw [(hm.1 c hwz).1]; exact hh
theorem M_number {f : zf} {ρ : zo} (hC : zC ρ) {G : mG} {F : mF} {x y e : Int32} {Q : Int32 → zS → Prop} (hG : gG G) (hP : pM f G) (hL : mleast G F) (hk : kM f F) (h1 : (x < 0 ∨ nn G.1 ≤ x ∨ y < 0 ∨ 8 ≤ y) → Q 0 (uf f 183 0 1, ρ)) (h2 : ∀ b z f', b < G.1 → x = nn b → z < 8 → y = nn z → frP f f' → kM f' F → (∀ v c, mvw G F b e = some v → v z = some c → f' 183 0 = 0 → Q c (f', ρ)) ∧ ((∀ v, mvw G F b e = some v → v z = none) → f' 183 0 = 2 → Q 0 (f', ρ))) : P_M_number 201 183 x y e (f, ρ) Q := by
  have hn := hG.2.1
  unfold P_M_number
  simp (disch := (first | assumption | omega)) only [true_and, and_true, zr_u, zi_u, zI_u, Option.some.injEq, exists_eq_left', nn_tn, nn_add, nn_s, nn_2, nn_5, nn_7, nn_8, na0, na2, na3, na4, na5, na6, uf_ne, uf_eq, ur_eq, ur_ne, true_or, or_true, not_true_eq_false, not_false_eq_true, true_implies, false_implies, implies_true, e10, e01, reduceIte, Option.isSome_none, Option.isSome_some, Bool.false_eq_true, bi_t, bi_f, ko_183]
  have thr : (x < 0 ∨ nn G.1 ≤ x ∨ y < 0 ∨ 8 ≤ y) → P_M_number_19 201 Q 183 x y e 183 (f, ρ) := fun q => by
    unfold P_M_number_19 P_M_number_24
    simp (disch := (first | assumption | omega)) only [true_and, and_true, zr_u, zi_u, zI_u, Option.some.injEq, exists_eq_left', nn_tn, nn_add, nn_s, nn_2, nn_5, nn_7, nn_8, na0, na2, na3, na4, na5, na6, uf_ne, uf_eq, ur_eq, ur_ne, true_or, or_true, not_true_eq_false, not_false_eq_true, true_implies, false_implies, implies_true, e10, e01, reduceIte, Option.isSome_none, Option.isSome_some, Bool.false_eq_true, bi_t, bi_f, ko_183, le1_0]
    exact h1 q
  refine s_noBlock hG hP.1 (fun q => ?_) (fun b hb eb => ?_)
  · simp (disch := (first | assumption | omega)) only [true_and, and_true, zr_u, zi_u, zI_u, Option.some.injEq, exists_eq_left', nn_tn, nn_add, nn_s, nn_2, nn_5, nn_7, nn_8, na0, na2, na3, na4, na5, na6, uf_ne, uf_eq, ur_eq, ur_ne, true_or, or_true, not_true_eq_false, not_false_eq_true, true_implies, false_implies, implies_true, e10, e01, reduceIte, Option.isSome_none, Option.isSome_some, Bool.false_eq_true, bi_t, bi_f]
    refine thr ?_
    rcases q with q | q
    · exact Or.inl q
    · exact Or.inr (Or.inl q)
  · simp (disch := (first | assumption | omega)) only [true_and, and_true, zr_u, zi_u, zI_u, Option.some.injEq, exists_eq_left', nn_tn, nn_add, nn_s, nn_2, nn_5, nn_7, nn_8, na0, na2, na3, na4, na5, na6, uf_ne, uf_eq, ur_eq, ur_ne, true_or, or_true, not_true_eq_false, not_false_eq_true, true_implies, false_implies, implies_true, e10, e01, reduceIte, Option.isSome_none, Option.isSome_some, Bool.false_eq_true, bi_t, bi_f]
    refine ⟨fun q => thr (Or.inr (Or.inr (Or.inl q))), fun q => ⟨fun q' => ?_, fun q' => thr (Or.inr (Or.inr (Or.inr (Int32.not_lt.mp q'))))⟩⟩
    obtain ⟨z, hz, ez⟩ := i32_range (k := 8) (by decide) q q'
    unfold P_M_number_24 P_M_number_66
    simp (disch := (first | assumption | omega)) only [true_and, and_true, zr_u, zi_u, zI_u, Option.some.injEq, exists_eq_left', nn_tn, nn_add, nn_s, nn_2, nn_5, nn_7, nn_8, na0, na2, na3, na4, na5, na6, uf_ne, uf_eq, ur_eq, ur_ne, true_or, or_true, not_true_eq_false, not_false_eq_true, true_implies, false_implies, implies_true, e10, e01, reduceIte, Option.isSome_none, Option.isSome_some, Bool.false_eq_true, bi_t, bi_f, ko_183, le0_0]
    rw [eb, ez]
    refine s_goTo hC hG (hP.P (frP.of0 f 0)) hL (hk.put 0) hb (fun f1 a1 a2 a3 => ?_)
    simp (disch := (first | assumption | omega)) only [true_and, and_true, zr_u, zi_u, zI_u, Option.some.injEq, exists_eq_left', nn_tn, nn_add, nn_s, nn_2, nn_5, nn_7, nn_8, na0, na2, na3, na4, na5, na6, uf_ne, uf_eq, ur_eq, ur_ne, true_or, or_true, not_true_eq_false, not_false_eq_true, true_implies, false_implies, implies_true, e10, e01, reduceIte, Option.isSome_none, Option.isSome_some, Bool.false_eq_true, bi_t, bi_f, rc_183_20 hC, ka_192, rc_183_23 hC, ka_195]
    have fr1 := (frP.of0 f 0).N a1
    have hB := a2.1 b (by omega)
    have no : (∀ v, mvw G F b e = some v → v z = none) → P_M_number_67 201 Q 183 (nn z) 183 2 (f1, ρ) := fun q => by
      unfold P_M_number_67 P_M_number_87
      simp (disch := (first | assumption | omega)) only [true_and, and_true, zr_u, zi_u, zI_u, Option.some.injEq, exists_eq_left', nn_tn, nn_add, nn_s, nn_2, nn_5, nn_7, nn_8, na0, na2, na3, na4, na5, na6, uf_ne, uf_eq, ur_eq, ur_ne, true_or, or_true, not_true_eq_false, not_false_eq_true, true_implies, false_implies, implies_true, e10, e01, reduceIte, Option.isSome_none, Option.isSome_some, Bool.false_eq_true, bi_t, bi_f, ko_183, le2_0]
      exact (h2 b z _ hb eb hz ez (fr1.put 2) (kM.put (Or.inr a2) 2)).2 q (by simp (disch := (first | assumption | omega)) only [true_and, and_true, zr_u, zi_u, zI_u, Option.some.injEq, exists_eq_left', nn_tn, nn_add, nn_s, nn_2, nn_5, nn_7, nn_8, na0, na2, na3, na4, na5, na6, uf_ne, uf_eq, ur_eq, ur_ne, true_or, or_true, not_true_eq_false, not_false_eq_true, true_implies, false_implies, implies_true, e10, e01, reduceIte, Option.isSome_none, Option.isSome_some, Bool.false_eq_true, bi_t, bi_f])
    cases hv : F b with
    | none =>
      rw [hv] at hB
      rw [hB.1]
      exact ⟨fun _ => no (fun v hw => by rw [mvw_n.mpr hv] at hw; cases hw), fun q => absurd rfl q⟩
    | some v =>
      rw [hv] at hB
      rw [hB.1]
      refine ⟨fun q => absurd q (by decide), fun _ => ?_⟩
      cases hw : mvw G F b e with
      | none => rw [mvw_n.mp hw] at hv; cases hv
      | some w =>
        have hm := (a3 w hw).1 z hz
        rw [Nat.zero_add] at hm
        cases hwz : w z with
        | none =>
          rw [hm.2 hwz]
          exact ⟨fun _ => no (fun v hw' => by rw [hw] at hw'; cases hw'; exact hwz), fun q => absurd q (by decide)⟩
        | some c =>
          obtain ⟨m1, m2⟩ := hm.1 c hwz
          rw [m1]
          refine ⟨fun q => absurd rfl q, fun _ => ?_⟩
          unfold P_M_number_67 P_M_number_87
          simp (disch := (first | assumption | omega)) only [true_and, and_true, zr_u, zi_u, zI_u, Option.some.injEq, exists_eq_left', nn_tn, nn_add, nn_s, nn_2, nn_5, nn_7, nn_8, na0, na2, na3, na4, na5, na6, uf_ne, uf_eq, ur_eq, ur_ne, true_or, or_true, not_true_eq_false, not_false_eq_true, true_implies, false_implies, implies_true, e10, e01, reduceIte, Option.isSome_none, Option.isSome_some, Bool.false_eq_true, bi_t, bi_f, ko_183, le0_0, rc_183_24 hC, ka_196, m2]
          exact (h2 b z _ hb eb hz ez (fr1.put 0) (kM.put (Or.inr a2) 0)).1 w c hw hwz (by simp (disch := (first | assumption | omega)) only [true_and, and_true, zr_u, zi_u, zI_u, Option.some.injEq, exists_eq_left', nn_tn, nn_add, nn_s, nn_2, nn_5, nn_7, nn_8, na0, na2, na3, na4, na5, na6, uf_ne, uf_eq, ur_eq, ur_ne, true_or, or_true, not_true_eq_false, not_false_eq_true, true_implies, false_implies, implies_true, e10, e01, reduceIte, Option.isSome_none, Option.isSome_some, Bool.false_eq_true, bi_t, bi_f])
