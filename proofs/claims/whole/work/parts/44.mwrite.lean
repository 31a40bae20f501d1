/-! The reference writes. -/
/-- rows 195, 196, 197, and of row 183 the places 25, 26, 28, may differ -/
def frZ (f f' : zf) : Prop := (∀ a, a ≠ 183 → a ≠ 195 → a ≠ 196 → a ≠ 197 → f' a = f a) ∧ ∀ j, j ≠ 25 → j ≠ 26 → j ≠ 28 → f' 183 j = f 183 j
theorem frZ.rfl' (f : zf) : frZ f f := ⟨fun _ _ _ _ _ => rfl, fun _ _ _ _ => rfl⟩
theorem frZ.trans {f g h : zf} (a : frZ f g) (b : frZ g h) : frZ f h := ⟨fun k h1 h2 h3 h4 => by rw [b.1 k h1 h2 h3 h4, a.1 k h1 h2 h3 h4], fun j h1 h2 h3 => by rw [b.2 j h1 h2 h3, a.2 j h1 h2 h3]⟩
theorem frZ.U {f g : zf} (a : frU f g) : frZ f g := ⟨fun k h1 _ _ h4 => a.1 k h1 h4, fun j _ _ h3 => a.2 j h3⟩
theorem frZ.W {f g : zf} (a : frW f g) : frZ f g := ⟨fun k h1 h2 h3 _ => a.1 k h1 h2 h3, fun j h1 h2 _ => a.2 j h1 h2⟩
theorem frZ.two {f g : zf} (a : fr2 f g 195 196) : frZ f g := ⟨fun k _ h2 h3 _ => a k h2 h3, fun j _ _ _ => by rw [a 183 (by decide) (by decide)]⟩
theorem pM.Z {f f' : zf} {G : mG} (h : pM f G) (a : frZ f f') : pM f' G := h.same (a.2 _ (by decide) (by decide) (by decide)) (a.2 _ (by decide) (by decide) (by decide)) (a.1 _ (by decide) (by decide) (by decide) (by decide)) (a.1 _ (by decide) (by decide) (by decide) (by decide)) (a.1 _ (by decide) (by decide) (by decide) (by decide))
theorem rM.Z {f f' : zf} {F : mF} (h : rM f F) (a : frZ f f') : rM f' F := h.same (a.1 _ (by decide) (by decide) (by decide) (by decide)) (a.1 _ (by decide) (by decide) (by decide) (by decide)) (a.1 _ (by decide) (by decide) (by decide) (by decide))
theorem l1700 {n : Nat} (h : n < 1448) : n < 1700 := by omega
theorem s_putOp {f : zf} {ρ : zo} (hC : zC ρ) {g : Nat → Int32} {k : Nat} {v : mV} {o : mO} {L : List Nat} {Q : zS → Prop} (hv : hM (f 195) (f 196) 0 v) (ho : oM g k o) (hT' : hU f L) (hl : (L ++ ot v o).length ≤ 1448) (h : ∀ f', frU f f' → hU f' (L ++ ot v o) → Q (f', ρ)) : P_M_putOperand 201 183 (g k) (g (k + 1)) (f, ρ) Q := by
  unfold P_M_putOperand P_M_putOperand_31
  simp (disch := (first | assumption | omega)) only [true_and, and_true, zr_u, zi_u, zI_u, Option.some.injEq, exists_eq_left', nn_tn, nn_add, nn_s, nn_2, nn_5, nn_7, nn_8, na0, na2, na3, na4, na5, na6, uf_ne, uf_eq, ur_eq, ur_ne, true_or, or_true, not_true_eq_false, not_false_eq_true, true_implies, false_implies, implies_true, e10, e01, reduceIte, Option.isSome_none, Option.isSome_some, Bool.false_eq_true, bi_t, bi_f, ko_183]
  refine s_MsortOf (A := f 195) (B := f 196) hC rfl ho (fun x hx => ?_)
  have hx' := hx v hv
  unfold ot at hl h
  cases hm : mop v o with
  | none =>
    rw [hm] at hl h hx'
    rw [hx']
    refine ⟨fun _ => ?_, fun z => absurd z (by decide)⟩
    cases o with
    | inl y => exact s_put hC (c := 97 + y) (by rw [ho.2.1, show (97 : Int32) = nn 97 from rfl, nn_add]) hT' (l1700 (len_0 hl)) h
    | inr c => cases hm
  | some c =>
    rw [hm] at hl h hx'
    rw [hx']
    refine ⟨fun z => absurd rfl z, fun _ => ?_⟩
    refine s_MnumberOf (A := f 195) (B := f 196) hC rfl ho (fun y hy => ?_)
    have e := hy v c hv hm
    subst e
    exact s_putNum hC hT' hl h
theorem s_sign {σ : zS} {how : Nat} {Q : Int32 → zS → Prop} (hh : isop how) (h : Q (nn how) σ) : P_M_sign 201 (nn (hix how)) σ Q := by
  unfold P_M_sign P_M_sign_94
  have e (a b : Nat) : (nn a = nn b) = (nn a = nn b) := rfl
  simp only [ni1, show (0 : Int32) = nn 0 from rfl, show (2 : Int32) = nn 2 from rfl, ni3, ni4, ni5, ni6, show (7 : Int32) = nn 7 from rfl, show (8 : Int32) = nn 8 from rfl]
  have hl : hix how < 10 := by unfold hix; repeat' split
                               all_goals omega
  simp (disch := omega) only [nn_eq]
  rcases hh with e | e | e | e | e | e | e | e | e | e <;> subst e <;> simp [hix] <;> exact h
theorem hU.Q {f f' : zf} {L : List Nat} (h : hU f L) (a : frQ f f') : hU f' L := ⟨by rw [a.2 28 (by decide) (by decide)]; exact h.1, by rw [a.1 197 (by decide)]; exact h.2⟩
theorem s_putSt {f : zf} {ρ : zo} (hC : zC ρ) {s : Nat} {v : mV} {t : mT} {L : List Nat} {Q : zS → Prop} (ht : tM (f 185) s t) (hv : hM (f 195) (f 196) 0 v) (hT' : hU f L) (hl : (L ++ stx v t).length ≤ 1448) (h : ∀ f', frZ f f' → f' 195 = f 195 → f' 196 = f 196 → hU f' (L ++ stx v t) → Q (f', ρ)) : P_M_putStatement 201 183 (nn s) (f, ρ) Q := by
  have ht' := ht
  obtain ⟨h1, h2, h3, h4, h5, h6⟩ := ht
  have es : L ++ stx v t = L ++ [97 + t.1] ++ [61] ++ vt v t ++ [59] := by
    unfold stx; simp only [List.append_assoc]
  rw [es] at hl h
  unfold P_M_putStatement
  simp (disch := (first | assumption | omega)) only [true_and, and_true, zr_u, zi_u, zI_u, Option.some.injEq, exists_eq_left', nn_tn, nn_add, nn_s, nn_2, nn_5, nn_7, nn_8, na0, na2, na3, na4, na5, na6, uf_ne, uf_eq, ur_eq, ur_ne, true_or, or_true, not_true_eq_false, not_false_eq_true, true_implies, false_implies, implies_true, e10, e01, reduceIte, Option.isSome_none, Option.isSome_some, Bool.false_eq_true, bi_t, bi_f, ko_183, rc_183_8 hC, ka_185, h2]
  refine s_put hC (c := 97 + t.1) (by rw [show (97 : Int32) = nn 97 from rfl, nn_add]) hT' (l1700 (len_0 (len_app (len_app (len_app hl))))) (fun f1 a1 a2 => ?_)
  refine s_put hC (c := 61) rfl a2 (l1700 (len_0 (len_app (len_app hl)))) (fun f2 b1 b2 => ?_)
  have fr2' := a1.trans b1
  have e85 : f2 185 = f 185 := fr2'.1 _ (by decide) (by decide)
  have e95 : f2 195 = f 195 := fr2'.1 _ (by decide) (by decide)
  have e96 : f2 196 = f 196 := fr2'.1 _ (by decide) (by decide)
  refine s_Mmake hC (by rw [e85]; exact ht') (fun f3 c1 c2 => ?_)
  have hv2 : hM (f2 195) (f2 196) 0 v := by rw [e95, e96]; exact hv
  obtain ⟨d1, d2⟩ := c2 v hv2
  have g85 : f3 185 = f 185 := by rw [c1.1 _ (by decide), e85]
  have g95 : f3 195 = f 195 := by rw [c1.1 _ (by decide), e95]
  have g96 : f3 196 = f 196 := by rw [c1.1 _ (by decide), e96]
  have hv3 : hM (f3 195) (f3 196) 0 v := by rw [g95, g96]; exact hv
  have hU3 := b2.Q c1
  have fr3 : frZ f f3 := (frZ.U fr2').trans ⟨fun k z1 _ _ _ => c1.1 k z1, fun j z1 z2 _ => c1.2 j z1 z2⟩
  have fin : ∀ f4, frU f3 f4 → hU f4 (L ++ [97 + t.1] ++ [61] ++ vt v t) → P_M_putStatement_141 201 Q 183 (f4, ρ) := by
    intro f4 x1 x2
    unfold P_M_putStatement_141
    simp (disch := (first | assumption | omega)) only [true_and, and_true, zr_u, zi_u, zI_u, Option.some.injEq, exists_eq_left', nn_tn, nn_add, nn_s, nn_2, nn_5, nn_7, nn_8, na0, na2, na3, na4, na5, na6, uf_ne, uf_eq, ur_eq, ur_ne, true_or, or_true, not_true_eq_false, not_false_eq_true, true_implies, false_implies, implies_true, e10, e01, reduceIte, Option.isSome_none, Option.isSome_some, Bool.false_eq_true, bi_t, bi_f, ko_183]
    refine s_put hC (c := 59) rfl x2 (l1700 (len_0 hl)) (fun f5 y1 y2 => ?_)
    have fr5 := x1.trans y1
    exact h f5 (fr3.trans (frZ.U fr5)) (by rw [fr5.1 _ (by decide) (by decide), g95]) (by rw [fr5.1 _ (by decide) (by decide), g96]) y2
  have hl2 := len_app hl
  simp (disch := (first | assumption | omega)) only [true_and, and_true, zr_u, zi_u, zI_u, Option.some.injEq, exists_eq_left', nn_tn, nn_add, nn_s, nn_2, nn_5, nn_7, nn_8, na0, na2, na3, na4, na5, na6, uf_ne, uf_eq, ur_eq, ur_ne, true_or, or_true, not_true_eq_false, not_false_eq_true, true_implies, false_implies, implies_true, e10, e01, reduceIte, Option.isSome_none, Option.isSome_some, Bool.false_eq_true, bi_t, bi_f, rc_183_8 hC, ka_185, g85, h4]
  rw [d1]
  unfold vt at hl2 fin
  cases hm : mev t v with
  | some r =>
    rw [hm] at hl2 fin
    refine ⟨fun z => absurd rfl z, fun _ => ?_⟩
    rw [d2 r hm]
    exact s_putNum hC hU3 hl2 fin
  | none =>
    rw [hm] at hl2 fin
    simp only at hl2 fin
    refine ⟨fun _ => ?_, fun z => absurd z (by decide)⟩
    unfold hso at h4 ⊢
    refine ⟨fun q0 => ?_, fun q0 => ?_⟩
    · have n0 : t.2.1 ≠ 0 := fun e => q0 (by rw [if_pos e]; rfl)
      rw [if_neg n0] at hl2 fin h4
      by_cases n1 : t.2.1 = 1
      · rw [if_pos n1] at hl2 fin h4
        refine s_putOp hC hv3 (h5 n0) hU3 hl2 (fun f4 x1 x2 => ?_)
        have k85 : f4 185 = f 185 := by rw [x1.1 _ (by decide) (by decide), g85]
        simp (disch := (first | assumption | omega)) only [true_and, and_true, zr_u, zi_u, zI_u, Option.some.injEq, exists_eq_left', nn_tn, nn_add, nn_s, nn_2, nn_5, nn_7, nn_8, na0, na2, na3, na4, na5, na6, uf_ne, uf_eq, ur_eq, ur_ne, true_or, or_true, not_true_eq_false, not_false_eq_true, true_implies, false_implies, implies_true, e10, e01, reduceIte, Option.isSome_none, Option.isSome_some, Bool.false_eq_true, bi_t, bi_f, rc_183_8 hC, ka_185, k85, h4]
        exact ⟨fun _ => fin f4 x1 x2, fun z => absurd z (by decide)⟩
      · rw [if_neg n1] at hl2 fin h4
        obtain ⟨p1, p2, p3⟩ := h6 n0 n1
        rw [← List.append_assoc] at hl2 fin
        refine s_putOp hC hv3 (h5 n0) hU3 (len_app hl2) (fun f4 x1 x2 => ?_)
        have k85 : f4 185 = f 185 := by rw [x1.1 _ (by decide) (by decide), g85]
        simp (disch := (first | assumption | omega)) only [true_and, and_true, zr_u, zi_u, zI_u, Option.some.injEq, exists_eq_left', nn_tn, nn_add, nn_s, nn_2, nn_5, nn_7, nn_8, na0, na2, na3, na4, na5, na6, uf_ne, uf_eq, ur_eq, ur_ne, true_or, or_true, not_true_eq_false, not_false_eq_true, true_implies, false_implies, implies_true, e10, e01, reduceIte, Option.isSome_none, Option.isSome_some, Bool.false_eq_true, bi_t, bi_f, rc_183_8 hC, ka_185, k85, h4, p2]
        refine ⟨fun z => absurd rfl z, fun _ => ?_⟩
        refine s_sign p1 ?_
        refine s_put hC rfl x2 (l1700 (len_1 hl2)) (fun f5 y1 y2 => ?_)
        have fr5 := x1.trans y1
        have m85 : f5 185 = f 185 := by rw [y1.1 _ (by decide) (by decide), k85]
        simp (disch := (first | assumption | omega)) only [true_and, and_true, zr_u, zi_u, zI_u, Option.some.injEq, exists_eq_left', nn_tn, nn_add, nn_s, nn_2, nn_5, nn_7, nn_8, na0, na2, na3, na4, na5, na6, uf_ne, uf_eq, ur_eq, ur_ne, true_or, or_true, not_true_eq_false, not_false_eq_true, true_implies, false_implies, implies_true, e10, e01, reduceIte, Option.isSome_none, Option.isSome_some, Bool.false_eq_true, bi_t, bi_f, rc_183_8 hC, ka_185, m85]
        rw [← List.append_assoc] at hl2 fin
        exact s_putOp hC (by rw [fr5.1 _ (by decide) (by decide), fr5.1 _ (by decide) (by decide)]; exact hv3) p3 y2 hl2 (fun f6 z1 z2 => fin f6 (fr5.trans z1) z2)
    · have n0 : t.2.1 = 0 := by
        by_cases e : t.2.1 = 0
        · exact e
        · rw [if_neg e] at q0
          split at q0 <;> exact absurd q0 (by decide)
      rw [if_pos n0] at hl2 fin
      exact s_put hC (c := 63) rfl hU3 (l1700 (len_0 hl2)) fin
theorem s_newNum {f : zf} {ρ : zo} (hC : zC ρ) {F : mF} {q : Nat} {Q : Int32 → zS → Prop} (hF : rM f F) (hq : q ≤ 24) (h : Q (nn (nnu F q)) (f, ρ)) : P_M_newNumber 201 183 (nn q) (f, ρ) Q := by
  have key : ∀ (m k : Nat), k + m = q → P_M_newNumber_4 201 Q (m + 1) 183 (nn q) (nn (nnu F k)) (nn k) (f, ρ) := by
    intro m
    induction m with
    | zero =>
      intro k hk
      have e : k = q := by omega
      subst e
      unfold P_M_newNumber_4
      simp (disch := omega) only [nn_le]
      exact ⟨fun _ => h, fun z => absurd (Nat.le_refl _) z⟩
    | succ m ih =>
      intro k hk
      unfold P_M_newNumber_4 P_M_newNumber_25
      simp (disch := (first | assumption | omega)) only [true_and, and_true, zr_u, zi_u, zI_u, Option.some.injEq, exists_eq_left', nn_tn, nn_add, nn_s, nn_2, nn_5, nn_7, nn_8, na0, na2, na3, na4, na5, na6, uf_ne, uf_eq, ur_eq, ur_ne, true_or, or_true, not_true_eq_false, not_false_eq_true, true_implies, false_implies, implies_true, e10, e01, reduceIte, Option.isSome_none, Option.isSome_some, Bool.false_eq_true, bi_t, bi_f, ko_183, rc_183_20 hC, ka_192]
      simp (disch := omega) only [nn_le]
      refine ⟨fun z => absurd z (by omega), fun _ => ?_⟩
      have hB := hF.1 k (by omega)
      have nx := ih (k + 1) (by omega)
      have ne : nnu F (k + 1) = nnu F k + (if (F k).isSome then 1 else 0) := rfl
      cases hv : F k with
      | none =>
        rw [hv] at hB ne
        rw [ne] at nx
        exact ⟨fun _ => nx, fun z => absurd hB.1 z⟩
      | some v =>
        rw [hv] at hB ne
        rw [ne] at nx
        exact ⟨fun z => absurd (hB.1.symm.trans z) (by decide), fun _ => nx⟩
  exact ⟨_, key q 0 (by omega)⟩
theorem rM.U {f f' : zf} {F : mF} (h : rM f F) (a : frU f f') : rM f' F := h.Z (frZ.U a)
theorem s_putEnd {f : zf} {ρ : zo} (hC : zC ρ) {b : Nat} {G : mG} {F : mF} {w : mV} {L : List Nat} {Q : zS → Prop} (hG : gG G) (hb : b < G.1) (hP : pM f G) (hF : rM f F) (hv : hM (f 195) (f 196) 0 w) (hT' : hU f L) (hl : (L ++ etx G F b w).length ≤ 1448) (h : ∀ f', frU f f' → hU f' (L ++ etx G F b w) → Q (f', ρ)) : P_M_putEnd 201 183 (nn b) (f, ρ) Q := by
  have hn := hG.2.1
  have he := hP.2.2.2.2 b hb
  have he' := he
  obtain ⟨g1, g2, g3, g4, g5⟩ := he
  obtain ⟨k1, k2, k3⟩ := hG.2.2.2.2.2.2 b hb
  unfold P_M_putEnd
  simp (disch := (first | assumption | omega)) only [true_and, and_true, zr_u, zi_u, zI_u, Option.some.injEq, exists_eq_left', nn_tn, nn_add, nn_s, nn_2, nn_5, nn_7, nn_8, na0, na2, na3, na4, na5, na6, uf_ne, uf_eq, ur_eq, ur_ne, true_or, or_true, not_true_eq_false, not_false_eq_true, true_implies, false_implies, implies_true, e10, e01, reduceIte, Option.isSome_none, Option.isSome_some, Bool.false_eq_true, bi_t, bi_f, ko_183, rc_183_9 hC, ka_186, g1, nn_e0, nn_e1]
  have one : ∀ q, q < G.1 → (G.2.2.2.2 b).1 ≠ 0 → msu (G.2.2.2.2 b) w = [q] → P_M_putEnd_46 201 Q 183 (nn (5 * b)) (nn q) (f, ρ) := by
    intro q hq q0 hm
    unfold P_M_putEnd_46
    rw [nn_neg (by omega)]
    refine ⟨False.elim, fun _ => ⟨by rw [ko_183]; trivial, ?_⟩⟩
    rw [etx_1 q0 hm, ← List.append_assoc] at hl h
    refine s_put hC (c := 62) rfl hT' (l1700 (len_0 (len_app hl))) (fun f1 a1 a2 => ?_)
    refine s_newNum hC (hF.U a1) (by omega) ?_
    exact s_putNum hC a2 hl (fun f2 b1 b2 => h f2 (a1.trans b1) b2)
  refine ⟨fun q0 => ⟨fun q1 => ?_, fun q1 => ?_⟩, fun q0 => ?_⟩
  · have t1 := k2 q0
    have t2 := k3 (by omega)
    refine s_Mgoes hC (by omega) he' (by omega) hv ⟨fun hn' => ?_, fun c hc => ?_⟩
    · have hm : msu (G.2.2.2.2 b) w = [(G.2.2.2.2 b).2.2.1, (G.2.2.2.2 b).2.2.2] := by
        unfold msu; rw [if_neg q0, if_neg q1, hn']
      rw [etx_2 q0 hm] at hl h
      have ho := g3 (by omega)
      unfold P_M_putEnd_46
      refine ⟨fun _ => ?_, fun z => absurd (by decide) z⟩
      simp (disch := (first | assumption | omega)) only [true_and, and_true, zr_u, zi_u, zI_u, Option.some.injEq, exists_eq_left', nn_tn, nn_add, nn_s, nn_2, nn_5, nn_7, nn_8, na0, na2, na3, na4, na5, na6, uf_ne, uf_eq, ur_eq, ur_ne, true_or, or_true, not_true_eq_false, not_false_eq_true, true_implies, false_implies, implies_true, e10, e01, reduceIte, Option.isSome_none, Option.isSome_some, Bool.false_eq_true, bi_t, bi_f, ko_183, rc_183_9 hC, ka_186]
      have e0 : ∃ x, (G.2.2.2.2 b).2.1 = .inl x ∧ f 186 (5 * b + 1 + 1) = nn x := by
        cases hx : (G.2.2.2.2 b).2.1 with
        | inl x => rw [hx] at ho; exact ⟨x, rfl, ho.2.1⟩
        | inr c => rw [hx] at hn'; cases hn'
      obtain ⟨x, ex, ex2⟩ := e0
      have e1 : ot w (G.2.2.2.2 b).2.1 = [97 + x] := by unfold ot; rw [hn', ex]
      rw [e1, ← List.append_assoc] at hl h
      refine s_put hC (c := 97 + x) (by rw [ex2, show (97 : Int32) = nn 97 from rfl, nn_add]) hT' (l1700 (len_0 (len_app hl))) (fun f1 a1 a2 => ?_)
      refine s_put hC (c := 63) rfl a2 (l1700 (len_1 hl)) (fun f2 b1 b2 => ?_)
      have fr2' := a1.trans b1
      rw [← List.append_assoc] at hl h
      have e86 : f2 186 = f 186 := fr2'.1 _ (by decide) (by decide)
      simp (disch := (first | assumption | omega)) only [true_and, and_true, zr_u, zi_u, zI_u, Option.some.injEq, exists_eq_left', nn_tn, nn_add, nn_s, nn_2, nn_5, nn_7, nn_8, na0, na2, na3, na4, na5, na6, uf_ne, uf_eq, ur_eq, ur_ne, true_or, or_true, not_true_eq_false, not_false_eq_true, true_implies, false_implies, implies_true, e10, e01, reduceIte, Option.isSome_none, Option.isSome_some, Bool.false_eq_true, bi_t, bi_f, rc_183_9 hC, ka_186, e86, g4 q0]
      refine s_newNum hC (hF.U fr2') (by omega) ?_
      rw [← List.append_assoc] at hl h
      refine s_putNum hC b2 (len_app hl) (fun f3 c1 c2 => ?_)
      refine s_put hC (c := 58) rfl c2 (l1700 (len_1 hl)) (fun f4 d1 d2 => ?_)
      have fr4 := (fr2'.trans c1).trans d1
      rw [← List.append_assoc] at hl h
      have e86' : f4 186 = f 186 := fr4.1 _ (by decide) (by decide)
      simp (disch := (first | assumption | omega)) only [true_and, and_true, zr_u, zi_u, zI_u, Option.some.injEq, exists_eq_left', nn_tn, nn_add, nn_s, nn_2, nn_5, nn_7, nn_8, na0, na2, na3, na4, na5, na6, uf_ne, uf_eq, ur_eq, ur_ne, true_or, or_true, not_true_eq_false, not_false_eq_true, true_implies, false_implies, implies_true, e10, e01, reduceIte, Option.isSome_none, Option.isSome_some, Bool.false_eq_true, bi_t, bi_f, rc_183_9 hC, ka_186, e86', g5 (by omega)]
      refine s_newNum hC (hF.U fr4) (by omega) ?_
      exact s_putNum hC d2 hl (fun f5 e1 e2 => h f5 (fr4.trans e1) e2)
    · have hm : msu (G.2.2.2.2 b) w = [if c = 0 then (G.2.2.2.2 b).2.2.2 else (G.2.2.2.2 b).2.2.1] := by
        unfold msu; rw [if_neg q0, if_neg q1, hc]; simp only; split <;> rfl
      exact one _ (by split <;> assumption) q0 hm
  · rw [g4 q0]
    exact one _ (k2 q0) q0 (by unfold msu; rw [if_neg q0, if_pos q1])
  · unfold etx at hl h
    rw [if_pos q0] at hl h
    exact s_put hC (c := 46) rfl hT' (l1700 (len_0 hl)) h
/-- rows that the reference's write may change -/
def frV (f f' : zf) : Prop := (∀ a, a ≠ 183 → a ≠ 192 → a ≠ 193 → a ≠ 194 → a ≠ 195 → a ≠ 196 → a ≠ 197 → f' a = f a) ∧ ∀ j, j ≠ 0 → j ≠ 19 → j ≠ 25 → j ≠ 26 → j ≠ 28 → f' 183 j = f 183 j
theorem M_write {f : zf} {ρ : zo} (hC : zC ρ) {G : mG} {F : mF} {Q : Int32 → zS → Prop} (hG : gG G) (hP : pM f G) (hL : mleast G F) (hk : kM f F) (h : ∀ f', frV f f' → f' 183 0 = 0 → kM f' F → hU f' (ptx G F G.1) → Q (nn (ptx G F G.1).length) (f', ρ)) : P_M_write 201 183 (f, ρ) Q := by
  have hn := hG.2.1
  unfold P_M_write
  simp (disch := (first | assumption | omega)) only [true_and, and_true, zr_u, zi_u, zI_u, Option.some.injEq, exists_eq_left', nn_tn, nn_add, nn_s, nn_2, nn_5, nn_7, nn_8, na0, na2, na3, na4, na5, na6, uf_ne, uf_eq, ur_eq, ur_ne, true_or, or_true, not_true_eq_false, not_false_eq_true, true_implies, false_implies, implies_true, e10, e01, reduceIte, Option.isSome_none, Option.isSome_some, Bool.false_eq_true, bi_t, bi_f, ko_183]
  refine s_know' hC hG (hP.P (frP.of0 f 0)) hL (hk.put 0) (fun f1 a1 a2 a3 a4 => ?_)
  have frp := (frP.of0 f 0).N a1
  have z1 : f1 183 0 = 0 := by rw [a1.2 0 (by decide) (by decide) (by decide), uf_eq, ur_eq]
  have hP1 := hP.P frp
  have i16 : ∀ (m k : Nat) (g : zf), k + m = G.1 → frZ f1 g → hU g (ptx G F k) → P_M_write_16 201 Q (m + 1) 183 (nn k) (g, ρ) := by
    intro m
    induction m with
    | zero =>
      intro k g hk' g1 g2
      have e : k = G.1 := by omega
      subst e
      have hPg := hP1.Z g1
      unfold P_M_write_16
      simp (disch := (first | assumption | omega)) only [true_and, and_true, zr_u, zi_u, zI_u, Option.some.injEq, exists_eq_left', nn_tn, nn_add, nn_s, nn_2, nn_5, nn_7, nn_8, na0, na2, na3, na4, na5, na6, uf_ne, uf_eq, ur_eq, ur_ne, true_or, or_true, not_true_eq_false, not_false_eq_true, true_implies, false_implies, implies_true, e10, e01, reduceIte, Option.isSome_none, Option.isSome_some, Bool.false_eq_true, bi_t, bi_f, ko_183, hPg.1, g2.1]
      simp (disch := omega) only [nn_le]
      refine ⟨fun _ => h g ⟨fun a y1 y2 y3 y4 y5 y6 y7 => ?_, fun j y1 y2 y3 y4 y5 => ?_⟩ ?_ (Or.inr (a4.Z g1)) g2, fun z => absurd (Nat.le_refl _) z⟩
      · rw [g1.1 a y1 y5 y6 y7, frp.1 a y1 y2 y3 y4 y5 y6]
      · rw [g1.2 j y3 y4 y5, frp.2 j y1 y2 y3 y4]
      · rw [g1.2 0 (by decide) (by decide) (by decide)]; exact z1
    | succ m ih =>
      intro k g hk' g1 g2
      have hPg := hP1.Z g1
      have hFg := a4.Z g1
      have hB := hFg.1 k (by omega)
      have hl80 := hG.f_le (b := k + 1) (by omega)
      have hmono := hG.2.2.2.2.2.1 k (by omega)
      unfold P_M_write_16
      simp (disch := (first | assumption | omega)) only [true_and, and_true, zr_u, zi_u, zI_u, Option.some.injEq, exists_eq_left', nn_tn, nn_add, nn_s, nn_2, nn_5, nn_7, nn_8, na0, na2, na3, na4, na5, na6, uf_ne, uf_eq, ur_eq, ur_ne, true_or, or_true, not_true_eq_false, not_false_eq_true, true_implies, false_implies, implies_true, e10, e01, reduceIte, Option.isSome_none, Option.isSome_some, Bool.false_eq_true, bi_t, bi_f, ko_183, hPg.1, rc_183_20 hC, ka_192]
      simp (disch := omega) only [nn_le]
      refine ⟨fun z => absurd z (by omega), fun _ => ?_⟩
      have pe : ptx G F (k + 1) = ptx G F k ++ (match F k with | none => [] | some v => btx G F k v) := rfl
      cases hv : F k with
      | none =>
        rw [hv] at hB pe
        refine ⟨fun _ => ?_, fun z => absurd hB.1 z⟩
        unfold P_M_write_78
        try simp (disch := (first | assumption | omega)) only [true_and, and_true, zr_u, zi_u, zI_u, Option.some.injEq, exists_eq_left', nn_tn, nn_add, nn_s, nn_2, nn_5, nn_7, nn_8, na0, na2, na3, na4, na5, na6, uf_ne, uf_eq, ur_eq, ur_ne, true_or, or_true, not_true_eq_false, not_false_eq_true, true_implies, false_implies, implies_true, e10, e01, reduceIte, Option.isSome_none, Option.isSome_some, Bool.false_eq_true, bi_t, bi_f]
        refine ih (k + 1) g (by omega) g1 ?_
        rw [pe]; show hU g (ptx G F k ++ []); rw [List.append_nil]; exact g2
      | some v =>
        rw [hv] at hB pe
        refine ⟨fun z => absurd (hB.1.symm.trans z) (by decide), fun _ => ?_⟩
        have tot : (ptx G F k ++ btx G F k v).length ≤ 1448 := by
          have := ptx_all hG F (k := k + 1) (by omega)
          rw [pe] at this; exact this
        refine s_Mbegin hC (by omega) (fun f2 r1 r2 => ?_)
        have fr2' := g1.trans (frZ.two r1)
        have hP2 := hP1.Z fr2'
        simp (disch := (first | assumption | omega)) only [true_and, and_true, zr_u, zi_u, zI_u, Option.some.injEq, exists_eq_left', nn_tn, nn_add, nn_s, nn_2, nn_5, nn_7, nn_8, na0, na2, na3, na4, na5, na6, uf_ne, uf_eq, ur_eq, ur_ne, true_or, or_true, not_true_eq_false, not_false_eq_true, true_implies, false_implies, implies_true, e10, e01, reduceIte, Option.isSome_none, Option.isSome_some, Bool.false_eq_true, bi_t, bi_f, rc_183_10 hC, ka_187, hP2.2.2.1 k (by omega)]
        have mono : ∀ m k', (btr G.2.2.2.1 (G.2.2.1 k) k' v).length ≤ (btr G.2.2.2.1 (G.2.2.1 k) (k' + m) v).length := by
          intro m
          induction m with
          | zero => intro k'; exact Nat.le_refl _
          | succ m ih =>
            intro k'
            have := ih k'
            show _ ≤ (btr G.2.2.2.1 (G.2.2.1 k) (k' + m) v ++ _).length
            rw [List.length_append]; omega
        have i45 : ∀ (m' j : Nat) (g' : zf), G.2.2.1 k + j + m' = G.2.2.1 (k + 1) → frZ f1 g' → hM (g' 195) (g' 196) 0 (mfr G.2.2.2.1 (G.2.2.1 k) j v) → hU g' (ptx G F k ++ btr G.2.2.2.1 (G.2.2.1 k) j v) → P_M_write_45 201 Q (fun a0 a1 σ => P_M_write_16 201 Q (m + 1) a0 a1 σ) (m' + 1) 183 (nn k) (nn (G.2.2.1 k + j)) (g', ρ) := by
          intro m'
          induction m' with
          | zero =>
            intro j g' hj y1 y2 y3
            have hPg := hP1.Z y1
            have ej : j = bln G k := by unfold bln; omega
            subst ej
            unfold P_M_write_45 P_M_write_78
            simp (disch := (first | assumption | omega)) only [true_and, and_true, zr_u, zi_u, zI_u, Option.some.injEq, exists_eq_left', nn_tn, nn_add, nn_s, nn_2, nn_5, nn_7, nn_8, na0, na2, na3, na4, na5, na6, uf_ne, uf_eq, ur_eq, ur_ne, true_or, or_true, not_true_eq_false, not_false_eq_true, true_implies, false_implies, implies_true, e10, e01, reduceIte, Option.isSome_none, Option.isSome_some, Bool.false_eq_true, bi_t, bi_f, ko_183, rc_183_10 hC, ka_187, hPg.2.2.1 (k + 1) (by omega)]
            simp (disch := omega) only [nn_le]
            refine ⟨fun _ => ?_, fun z => absurd (by omega) z⟩
            unfold btx at tot pe
            rw [← List.append_assoc] at tot
            refine s_putEnd hC hG (by omega) hPg (a4.Z y1) y2 y3 tot (fun g2 x1 x2 => ?_)
            refine ih (k + 1) g2 (by omega) (y1.trans (frZ.U x1)) ?_
            rw [pe]
            show hU g2 (ptx G F k ++ (btr G.2.2.2.1 (G.2.2.1 k) (bln G k) v ++ etx G F k (mfb G k v)))
            rw [← List.append_assoc]; exact x2
          | succ m' ih' =>
            intro j g' hj y1 y2 y3
            have hPg := hP1.Z y1
            have hs := hPg.2.2.2.1 _ (hG.s_lt (b := k) (by omega) (show G.2.2.1 k + j < G.2.2.1 (k + 1) by omega))
            unfold P_M_write_45
            simp (disch := (first | assumption | omega)) only [true_and, and_true, zr_u, zi_u, zI_u, Option.some.injEq, exists_eq_left', nn_tn, nn_add, nn_s, nn_2, nn_5, nn_7, nn_8, na0, na2, na3, na4, na5, na6, uf_ne, uf_eq, ur_eq, ur_ne, true_or, or_true, not_true_eq_false, not_false_eq_true, true_implies, false_implies, implies_true, e10, e01, reduceIte, Option.isSome_none, Option.isSome_some, Bool.false_eq_true, bi_t, bi_f, ko_183, rc_183_10 hC, ka_187, hPg.2.2.1 (k + 1) (by omega)]
            simp (disch := omega) only [nn_le]
            refine ⟨fun z => absurd z (by omega), fun _ => ?_⟩
            have tl : (ptx G F k ++ btr G.2.2.2.1 (G.2.2.1 k) j v ++ stx (mfr G.2.2.2.1 (G.2.2.1 k) j v) (G.2.2.2.1 (G.2.2.1 k + j))).length ≤ 1448 := by
              have q1 := mono (bln G k - (j + 1)) (j + 1)
              rw [show j + 1 + (bln G k - (j + 1)) = bln G k by unfold bln; omega] at q1
              unfold btx at tot
              rw [List.length_append, List.length_append] at tot
              have e : btr G.2.2.2.1 (G.2.2.1 k) (j + 1) v = btr G.2.2.2.1 (G.2.2.1 k) j v ++ stx (mfr G.2.2.2.1 (G.2.2.1 k) j v) (G.2.2.2.1 (G.2.2.1 k + j)) := rfl
              rw [e] at q1
              rw [List.append_assoc, List.length_append]; omega
            refine s_putSt hC hs y2 y3 tl (fun g2 x1 x2 x3 x4 => ?_)
            have fr2'' := y1.trans x1
            have hP2 := hP1.Z fr2''
            have hs2 := hP2.2.2.2.1 _ (hG.s_lt (b := k) (by omega) (show G.2.2.1 k + j < G.2.2.1 (k + 1) by omega))
            refine s_Mfollow hC hs2 (fun g3 w1 w2 => ?_)
            try simp (disch := (first | assumption | omega)) only [true_and, and_true, zr_u, zi_u, zI_u, Option.some.injEq, exists_eq_left', nn_tn, nn_add, nn_s, nn_2, nn_5, nn_7, nn_8, na0, na2, na3, na4, na5, na6, uf_ne, uf_eq, ur_eq, ur_ne, true_or, or_true, not_true_eq_false, not_false_eq_true, true_implies, false_implies, implies_true, e10, e01, reduceIte, Option.isSome_none, Option.isSome_some, Bool.false_eq_true, bi_t, bi_f]
            refine ih' (j + 1) g3 (by omega) (fr2''.trans (frZ.W w1)) (w2 _ (by rw [x2, x3]; exact y2)).1 ⟨?_, ?_⟩
            · rw [w1.2 28 (by decide) (by decide)]
              have := x4.1
              rw [List.append_assoc] at this; exact this
            · rw [w1.1 197 (by decide) (by decide) (by decide)]
              have := x4.2
              rw [List.append_assoc] at this; exact this
        refine ⟨_, i45 (G.2.2.1 (k + 1) - G.2.2.1 k) 0 f2 (by omega) fr2' (r2 v hB.2) ?_⟩
        show hU f2 (ptx G F k ++ [])
        rw [List.append_nil]
        exact ⟨by rw [r1 183 (by decide) (by decide)]; exact g2.1, by rw [r1 197 (by decide) (by decide)]; exact g2.2⟩
  simp (disch := (first | assumption | omega)) only [true_and, and_true, zr_u, zi_u, zI_u, Option.some.injEq, exists_eq_left', nn_tn, nn_add, nn_s, nn_2, nn_5, nn_7, nn_8, na0, na2, na3, na4, na5, na6, uf_ne, uf_eq, ur_eq, ur_ne, true_or, or_true, not_true_eq_false, not_false_eq_true, true_implies, false_implies, implies_true, e10, e01, reduceIte, Option.isSome_none, Option.isSome_some, Bool.false_eq_true, bi_t, bi_f]
  refine ⟨_, i16 G.1 0 _ (by omega) ⟨fun a y1 _ _ _ => ?_, fun j _ _ y3 => ?_⟩ ⟨?_, fun i hi => absurd hi (by show ¬ i < 0; omega)⟩⟩
  · simp (disch := (first | assumption | omega)) only [true_and, and_true, zr_u, zi_u, zI_u, Option.some.injEq, exists_eq_left', nn_tn, nn_add, nn_s, nn_2, nn_5, nn_7, nn_8, na0, na2, na3, na4, na5, na6, uf_ne, uf_eq, ur_eq, ur_ne, true_or, or_true, not_true_eq_false, not_false_eq_true, true_implies, false_implies, implies_true, e10, e01, reduceIte, Option.isSome_none, Option.isSome_some, Bool.false_eq_true, bi_t, bi_f]
  · simp (disch := (first | assumption | omega)) only [true_and, and_true, zr_u, zi_u, zI_u, Option.some.injEq, exists_eq_left', nn_tn, nn_add, nn_s, nn_2, nn_5, nn_7, nn_8, na0, na2, na3, na4, na5, na6, uf_ne, uf_eq, ur_eq, ur_ne, true_or, or_true, not_true_eq_false, not_false_eq_true, true_implies, false_implies, implies_true, e10, e01, reduceIte, Option.isSome_none, Option.isSome_some, Bool.false_eq_true, bi_t, bi_f]
  · simp (disch := (first | assumption | omega)) only [true_and, and_true, zr_u, zi_u, zI_u, Option.some.injEq, exists_eq_left', nn_tn, nn_add, nn_s, nn_2, nn_5, nn_7, nn_8, na0, na2, na3, na4, na5, na6, uf_ne, uf_eq, ur_eq, ur_ne, true_or, or_true, not_true_eq_false, not_false_eq_true, true_implies, false_implies, implies_true, e10, e01, reduceIte, Option.isSome_none, Option.isSome_some, Bool.false_eq_true, bi_t, bi_f]
    rfl
