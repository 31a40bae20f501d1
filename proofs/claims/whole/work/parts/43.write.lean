/-! Programs as texts: what is written. -/
def ot (v : mV) (o : mO) : List Nat := match mop v o with
  | some c => nt c
  | none => (match o with | .inl x => [97 + x] | .inr _ => [])
def vt (v : mV) (t : mT) : List Nat := match mev t v with
  | some r => nt r
  | none => if t.2.1 = 0 then [63] else if t.2.1 = 1 then ot v t.2.2.1 else ot v t.2.2.1 ++ ([t.2.1] ++ ot v t.2.2.2)
def stx (v : mV) (t : mT) : List Nat := [97 + t.1] ++ ([61] ++ (vt v t ++ [59]))
def btr (T : Nat → mT) (lo : Nat) : Nat → mV → List Nat
  | 0, _ => []
  | k + 1, v => btr T lo k v ++ stx (mfr T lo k v) (T (lo + k))
def nnu (F : mF) : Nat → Nat
  | 0 => 0
  | k + 1 => nnu F k + (if (F k).isSome then 1 else 0)
def etx (G : mG) (F : mF) (b : Nat) (w : mV) : List Nat :=
  if (G.2.2.2.2 b).1 = 0 then [46] else
  match msu (G.2.2.2.2 b) w with
  | [q] => [62] ++ nt (nn (nnu F q))
  | _ => ot w (G.2.2.2.2 b).2.1 ++ ([63] ++ (nt (nn (nnu F (G.2.2.2.2 b).2.2.1)) ++ ([58] ++ nt (nn (nnu F (G.2.2.2.2 b).2.2.2)))))
def btx (G : mG) (F : mF) (b : Nat) (v : mV) : List Nat := btr G.2.2.2.1 (G.2.2.1 b) (bln G b) v ++ etx G F b (mfb G b v)
def ptx (G : mG) (F : mF) : Nat → List Nat
  | 0 => []
  | k + 1 => ptx G F k ++ (match F k with | none => [] | some v => btx G F k v)
theorem ot_len (v : mV) (o : mO) : (ot v o).length ≤ 11 ∧ (mop v o = none → (ot v o).length ≤ 1) := by
  unfold ot
  cases h : mop v o with
  | none =>
    have : (match o with | .inl x => [97 + x] | .inr _ => ([] : List Nat)).length ≤ 1 := by
      cases o
      · exact Nat.le_refl 1
      · exact Nat.zero_le 1
    exact ⟨Nat.le_trans this (by decide), fun _ => this⟩
  | some c => exact ⟨nt_len c, fun h => by cases h⟩
theorem vt_len (v : mV) (t : mT) : (vt v t).length ≤ 13 := by
  unfold vt
  cases h : mev t v with
  | some r => exact Nat.le_trans (nt_len r) (by decide)
  | none =>
    simp only
    by_cases h0 : t.2.1 = 0
    · rw [if_pos h0]; show 1 ≤ 13; decide
    rw [if_neg h0]
    by_cases h1 : t.2.1 = 1
    · rw [if_pos h1]; exact Nat.le_trans (ot_len v _).1 (by decide)
    rw [if_neg h1, List.length_append, List.length_append]
    show _ + (1 + _) ≤ 13
    have a1 := ot_len v t.2.2.1
    have a2 := ot_len v t.2.2.2
    unfold mev at h
    rw [if_neg h0, if_neg h1] at h
    cases hl : mop v t.2.2.1 with
    | none => have := a1.2 hl; omega
    | some x =>
      cases hr : mop v t.2.2.2 with
      | none => have := a2.2 hr; omega
      | some y => rw [hl, hr] at h; cases h
theorem stx_len (v : mV) (t : mT) : (stx v t).length ≤ 16 := by
  unfold stx
  rw [List.length_append, List.length_append, List.length_append]
  have := vt_len v t
  show 1 + (1 + (_ + 1)) ≤ 16
  omega
theorem btr_len (T : Nat → mT) (lo : Nat) (v : mV) : ∀ k, (btr T lo k v).length ≤ 16 * k
  | 0 => Nat.le_refl 0
  | k + 1 => by
    have := btr_len T lo v k
    have := stx_len (mfr T lo k v) (T (lo + k))
    unfold btr
    rw [List.length_append]; omega
theorem nnu_le (F : mF) : ∀ k, nnu F k ≤ k
  | 0 => Nat.le_refl 0
  | k + 1 => by
    have := nnu_le F k
    unfold nnu; split <;> omega
theorem msu_two {e : mE} {w : mV} (h0 : e.1 ≠ 0) : (∃ q, msu e w = [q] ∧ (q = e.2.2.1 ∨ e.1 ≠ 1 ∧ q = e.2.2.2)) ∨ (e.1 ≠ 1 ∧ mop w e.2.1 = none ∧ msu e w = [e.2.2.1, e.2.2.2]) := by
  unfold msu
  rw [if_neg h0]
  by_cases h1 : e.1 = 1
  · rw [if_pos h1]; exact Or.inl ⟨_, rfl, Or.inl rfl⟩
  · rw [if_neg h1]
    cases hw : mop w e.2.1 with
    | none => exact Or.inr ⟨h1, rfl, rfl⟩
    | some c =>
      simp only
      by_cases hc : c = 0
      · rw [if_pos hc]; exact Or.inl ⟨_, rfl, Or.inr ⟨h1, rfl⟩⟩
      · rw [if_neg hc]; exact Or.inl ⟨_, rfl, Or.inl rfl⟩
theorem etx_1 {G : mG} {F : mF} {b q : Nat} {w : mV} (h0 : (G.2.2.2.2 b).1 ≠ 0) (h : msu (G.2.2.2.2 b) w = [q]) : etx G F b w = [62] ++ nt (nn (nnu F q)) := by
  unfold etx; rw [if_neg h0, h]
theorem etx_2 {G : mG} {F : mF} {b : Nat} {w : mV} (h0 : (G.2.2.2.2 b).1 ≠ 0) (h : msu (G.2.2.2.2 b) w = [(G.2.2.2.2 b).2.2.1, (G.2.2.2.2 b).2.2.2]) : etx G F b w = ot w (G.2.2.2.2 b).2.1 ++ ([63] ++ (nt (nn (nnu F (G.2.2.2.2 b).2.2.1)) ++ ([58] ++ nt (nn (nnu F (G.2.2.2.2 b).2.2.2))))) := by
  unfold etx; rw [if_neg h0, h]
theorem etx_len {G : mG} (hG : gG G) (F : mF) {b : Nat} (hb : b < G.1) (w : mV) : (etx G F b w).length ≤ 7 := by
  obtain ⟨k1, k2, k3⟩ := hG.2.2.2.2.2.2 b hb
  have hn := hG.2.1
  by_cases h0 : (G.2.2.2.2 b).1 = 0
  · unfold etx; rw [if_pos h0]; show 1 ≤ 7; decide
  · rcases msu_two (w := w) h0 with ⟨q, hq, hq2⟩ | ⟨h1, h2, h3⟩
    · rw [etx_1 h0 hq, List.length_append]
      have q24 : q < 100 := by
        rcases hq2 with e | ⟨e, e'⟩
        · have := k2 h0; omega
        · have := k3 (by omega); omega
      have := nt_small (a := nnu F q) (by have := nnu_le F q; omega)
      show 1 + _ ≤ 7; omega
    · rw [etx_2 h0 h3, List.length_append, List.length_append, List.length_append, List.length_append]
      have a1 := (ot_len w (G.2.2.2.2 b).2.1).2 h2
      have g1 := k2 h0
      have g2 := k3 (by omega)
      have := nt_small (a := nnu F (G.2.2.2.2 b).2.2.1) (by have := nnu_le F (G.2.2.2.2 b).2.2.1; omega)
      have := nt_small (a := nnu F (G.2.2.2.2 b).2.2.2) (by have := nnu_le F (G.2.2.2.2 b).2.2.2; omega)
      show _ + (1 + (_ + (1 + _))) ≤ 7; omega
theorem ptx_len {G : mG} (hG : gG G) (F : mF) : ∀ k, k ≤ G.1 → (ptx G F k).length ≤ 16 * G.2.2.1 k + 7 * k
  | 0, _ => Nat.zero_le _
  | k + 1, hk => by
    have h1 := ptx_len hG F k (by omega)
    have h2 := hG.2.2.2.2.2.1 k (by omega)
    unfold ptx
    rw [List.length_append]
    cases F k with
    | none => show _ + 0 ≤ _; omega
    | some v =>
      show _ + (btx G F k v).length ≤ _
      unfold btx bln
      rw [List.length_append]
      have := btr_len G.2.2.2.1 (G.2.2.1 k) v (G.2.2.1 (k + 1) - G.2.2.1 k)
      have := etx_len hG F (b := k) (by omega) (mfb G k v)
      omega
theorem ptx_mono (G : mG) (F : mF) : ∀ m k, (ptx G F k).length ≤ (ptx G F (k + m)).length
  | 0, _ => Nat.le_refl _
  | m + 1, k => by
    have := ptx_mono G F m k
    show _ ≤ (ptx G F (k + m) ++ _).length
    rw [List.length_append]; omega
theorem ptx_all {G : mG} (hG : gG G) (F : mF) {k : Nat} (hk : k ≤ G.1) : (ptx G F k).length ≤ 1448 := by
  have h1 := ptx_len hG F G.1 (Nat.le_refl _)
  have h2 := ptx_mono G F (G.1 - k) k
  rw [show k + (G.1 - k) = G.1 by omega] at h2
  have := hG.f_le (b := G.1) (Nat.le_refl _)
  have := hG.2.1
  omega
/-! The class writes. -/
theorem pC.two {f f' : zf} {p : Nat} {G : mG} (hp : zp_ p) (h : pC f p G) (a : fr2 f f' 3 4) : pC f' p G := h.same (fun i hi => by
  unfold zp_ at hp
  exact a _ (by omega) (by omega))
theorem len_app {a b : List Nat} {n : Nat} (h : (a ++ b).length ≤ n) : a.length ≤ n := by rw [List.length_append] at h; omega
theorem len_1 {a b : List Nat} {c n : Nat} (h : (a ++ ([c] ++ b)).length ≤ n) : a.length < n := by
  rw [List.length_append, List.length_append] at h
  have h : a.length + (1 + b.length) ≤ n := h
  omega
theorem len_0 {a : List Nat} {c n : Nat} (h : (a ++ [c]).length ≤ n) : a.length < n := by
  rw [List.length_append] at h
  exact h
theorem s_rwOp {f : zf} {ρ : zo} (hC : zC ρ) {p s : Nat} {v : mV} {o : mO} {L : List Nat} {Q : zS → Prop} (hp : zp_ p) (hK : sK f p) (hs : s < 184) (hv : hV f 15 v) (ho : oC (f (p + 4)) (f (p + 5)) s o) (hT' : hT f L) (hl : (L ++ ot v o).length ≤ 1448) (h : ∀ f', fr2 f f' 3 4 → hT f' (L ++ ot v o) → Q (f', ρ)) : P_F_rewriteOperand 201 7 p (nn s) 3 (f, ρ) Q := by
  have hvw : zv_ 15 := Or.inr (Or.inl rfl)
  unfold P_F_rewriteOperand P_F_rewriteOperand_41
  simp (disch := (first | assumption | omega)) only [true_and, and_true, zr_u, zi_u, zI_u, Option.some.injEq, exists_eq_left', nn_tn, nn_add, nn_s, nn_2, nn_5, nn_7, nn_8, na0, na2, na3, na4, na5, na6, uf_ne, uf_eq, ur_eq, ur_ne, true_or, or_true, not_true_eq_false, not_false_eq_true, true_implies, false_implies, implies_true, e10, e01, reduceIte, Option.isSome_none, Option.isSome_some, Bool.false_eq_true, bi_t, bi_f, ko_7, rc_7_5 hC, ko_15]
  refine s_knows hC hvw hp hs hv ho ?_
  unfold ot at hl h
  cases hm : mop v o with
  | none =>
    rw [hm] at hl h
    simp (disch := (first | assumption | omega)) only [true_and, and_true, zr_u, zi_u, zI_u, Option.some.injEq, exists_eq_left', nn_tn, nn_add, nn_s, nn_2, nn_5, nn_7, nn_8, na0, na2, na3, na4, na5, na6, uf_ne, uf_eq, ur_eq, ur_ne, true_or, or_true, not_true_eq_false, not_false_eq_true, true_implies, false_implies, implies_true, e10, e01, reduceIte, Option.isSome_none, Option.isSome_some, Bool.false_eq_true, bi_t, bi_f, ko_p, rc_p6 hC, ka_p5, ko_3]
    cases o with
    | inl x =>
      refine s_app hC (c := 97 + x) (by rw [ho.2.1, show (97 : Int32) = nn 97 from rfl, nn_add]) (by have := ho.2.2; omega) hT' (len_0 hl) h
    | inr c => cases hm
  | some c =>
    rw [hm] at hl h
    simp (disch := (first | assumption | omega)) only [true_and, and_true, zr_u, zi_u, zI_u, Option.some.injEq, exists_eq_left', nn_tn, nn_add, nn_s, nn_2, nn_5, nn_7, nn_8, na0, na2, na3, na4, na5, na6, uf_ne, uf_eq, ur_eq, ur_ne, true_or, or_true, not_true_eq_false, not_false_eq_true, true_implies, false_implies, implies_true, e10, e01, reduceIte, Option.isSome_none, Option.isSome_some, Bool.false_eq_true, bi_t, bi_f, rc_7_5 hC, ko_15, ko_3]
    refine s_numberOf hC hvw hp hs hv hK (fun x hx => ?_)
    have e := hx _ _ ho hm
    subst e
    try simp (disch := (first | assumption | omega)) only [true_and, and_true, zr_u, zi_u, zI_u, Option.some.injEq, exists_eq_left', nn_tn, nn_add, nn_s, nn_2, nn_5, nn_7, nn_8, na0, na2, na3, na4, na5, na6, uf_ne, uf_eq, ur_eq, ur_ne, true_or, or_true, not_true_eq_false, not_false_eq_true, true_implies, false_implies, implies_true, e10, e01, reduceIte, Option.isSome_none, Option.isSome_some, Bool.false_eq_true, bi_t, bi_f, ko_3]
    exact s_appNum hC hT' hl h
theorem s_rwValue {f : zf} {ρ : zo} (hC : zC ρ) {p s : Nat} {v : mV} {t : mT} {L : List Nat} {Q : zS → Prop} (hp : zp_ p) (hK : sK f p) (ht : tC f p s t) (hv : hV f 15 v) (hT' : hT f L) (hl : (L ++ vt v t).length ≤ 1448) (h : ∀ f', fr2 f f' 3 4 → hT f' (L ++ vt v t) → Q (f', ρ)) : P_F_rewriteValue 201 7 p (nn s) 3 (f, ρ) Q := by
  have hvw : zv_ 15 := Or.inr (Or.inl rfl)
  have hp' := hp
  unfold zp_ at hp'
  have ht' := ht
  obtain ⟨h1, h2, h3, h4, h5, h6, h7⟩ := ht
  unfold P_F_rewriteValue P_F_rewriteValue_82
  simp (disch := (first | assumption | omega)) only [true_and, and_true, zr_u, zi_u, zI_u, Option.some.injEq, exists_eq_left', nn_tn, nn_add, nn_s, nn_2, nn_5, nn_7, nn_8, na0, na2, na3, na4, na5, na6, uf_ne, uf_eq, ur_eq, ur_ne, true_or, or_true, not_true_eq_false, not_false_eq_true, true_implies, false_implies, implies_true, e10, e01, reduceIte, Option.isSome_none, Option.isSome_some, Bool.false_eq_true, bi_t, bi_f, ko_p, rc_p4 hC, ka_p3, ko_7, rc_7_5 hC, ko_15, h4, nn_e0, nn_e1]
  refine s_settles hC hvw hp hK ht' hv ?_
  unfold vt at hl h
  cases hm : mev t v with
  | some r =>
    rw [hm] at hl h
    simp (disch := (first | assumption | omega)) only [true_and, and_true, zr_u, zi_u, zI_u, Option.some.injEq, exists_eq_left', nn_tn, nn_add, nn_s, nn_2, nn_5, nn_7, nn_8, na0, na2, na3, na4, na5, na6, uf_ne, uf_eq, ur_eq, ur_ne, true_or, or_true, not_true_eq_false, not_false_eq_true, true_implies, false_implies, implies_true, e10, e01, reduceIte, Option.isSome_none, Option.isSome_some, Bool.false_eq_true, bi_t, bi_f, rc_7_5 hC, ko_15]
    refine s_settled hC hvw hp hK ht' hv hm ?_
    try simp (disch := (first | assumption | omega)) only [true_and, and_true, zr_u, zi_u, zI_u, Option.some.injEq, exists_eq_left', nn_tn, nn_add, nn_s, nn_2, nn_5, nn_7, nn_8, na0, na2, na3, na4, na5, na6, uf_ne, uf_eq, ur_eq, ur_ne, true_or, or_true, not_true_eq_false, not_false_eq_true, true_implies, false_implies, implies_true, e10, e01, reduceIte, Option.isSome_none, Option.isSome_some, Bool.false_eq_true, bi_t, bi_f, ko_3]
    exact s_appNum hC hT' hl h
  | none =>
    rw [hm] at hl h
    simp only at hl h
    unfold P_G_left P_G_right
    try simp (disch := (first | assumption | omega)) only [true_and, and_true, zr_u, zi_u, zI_u, Option.some.injEq, exists_eq_left', nn_tn, nn_add, nn_s, nn_2, nn_5, nn_7, nn_8, na0, na2, na3, na4, na5, na6, uf_ne, uf_eq, ur_eq, ur_ne, true_or, or_true, not_true_eq_false, not_false_eq_true, true_implies, false_implies, implies_true, e10, e01, reduceIte, Option.isSome_none, Option.isSome_some, Bool.false_eq_true, bi_t, bi_f, ko_3]
    refine ⟨fun q0 => ?_, fun q0 => ?_⟩
    · rw [if_neg q0] at hl h
      by_cases q1 : t.2.1 = 1
      · rw [if_pos q1] at hl h
        refine s_rwOp hC hp hK (by omega) hv (h6 q0) hT' hl (fun f' r1 r2 => ⟨fun _ => h f' r1 r2, fun z => absurd q1 z⟩)
      · rw [if_neg q1, ← List.append_assoc] at hl h
        refine s_rwOp hC hp hK (by omega) hv (h6 q0) hT' (len_app hl) (fun f' r1 r2 => ⟨fun z => absurd z q1, fun _ => ?_⟩)
        refine s_app hC rfl (by omega) r2 (len_1 hl) (fun f2 a1 a2 => ?_)
        have fr := r1.trans a1
        try simp (disch := (first | assumption | omega)) only [true_and, and_true, zr_u, zi_u, zI_u, Option.some.injEq, exists_eq_left', nn_tn, nn_add, nn_s, nn_2, nn_5, nn_7, nn_8, na0, na2, na3, na4, na5, na6, uf_ne, uf_eq, ur_eq, ur_ne, true_or, or_true, not_true_eq_false, not_false_eq_true, true_implies, false_implies, implies_true, e10, e01, reduceIte, Option.isSome_none, Option.isSome_some, Bool.false_eq_true, bi_t, bi_f]
        rw [← List.append_assoc] at hl h
        have e4 : f2 (p + 4) = f (p + 4) := fr _ (by omega) (by omega)
        have e5 : f2 (p + 5) = f (p + 5) := fr _ (by omega) (by omega)
        refine s_rwOp hC hp ?_ (by omega) (hv.same (fr _ (by decide) (by decide)) (fr _ (by decide) (by decide))) (o := t.2.2.2) ?_ a2 hl (fun f3 b1 b2 => h f3 (fr.trans b1) b2)
        · unfold sK; rw [e4, e5]; exact hK
        · rw [e4, e5]; exact h7 q0 q1
    · rw [if_pos q0] at hl h
      exact s_app hC (c := 63) rfl (by decide) hT' (len_0 hl) h
/-- rows that writing may change -/
def frX (f f' : zf) : Prop := ∀ a, a ≠ 3 → a ≠ 4 → a ≠ 16 → a ≠ 17 → a ≠ 18 → f' a = f a
theorem frX.rfl' (f : zf) : frX f f := fun _ _ _ _ _ _ => rfl
theorem frX.trans {f g h : zf} (a : frX f g) (b : frX g h) : frX f h := fun k h1 h2 h3 h4 h5 => by rw [b k h1 h2 h3 h4 h5, a k h1 h2 h3 h4 h5]
theorem frX.of {f g : zf} (a : fr2 f g 3 4) : frX f g := fun k h1 h2 _ _ _ => a k h1 h2
theorem frX.ofV {f g : zf} (a : fr2 f g 16 17) : frX f g := fun k _ _ h3 h4 _ => a k h3 h4
theorem pC.X {f f' : zf} {p : Nat} {G : mG} (hp : zp_ p) (h : pC f p G) (a : frX f f') : pC f' p G := h.same (fun i hi => by
  unfold zp_ at hp
  exact a _ (by omega) (by omega) (by omega) (by omega) (by omega))
theorem kC.X {f f' : zf} {G : mG} {F : mF} (hG : gG G) (h : kC f G F) (a : frX f f') : kC f' G F := by
  have hn := hG.2.1
  obtain ⟨h1, h2, h3, h4⟩ := h
  refine ⟨h1.same (a _ (by decide) (by decide) (by decide) (by decide) (by decide)) (fun b hb => ⟨a _ (by omega) (by omega) (by omega) (by omega) (by omega), a _ (by omega) (by omega) (by omega) (by omega) (by omega)⟩), h2, fun b v hv => ?_, h4.same (a _ (by decide) (by decide) (by decide) (by decide) (by decide)) (a _ (by decide) (by decide) (by decide) (by decide) (by decide))⟩
  obtain ⟨q1, q2⟩ := h3 b v hv
  exact ⟨q1, q2.same (a _ (by omega) (by omega) (by omega) (by omega) (by omega)) (a _ (by omega) (by omega) (by omega) (by omega) (by omega))⟩
/-- the new numbers stand in row 18 -/
def hN (f : zf) (G : mG) (F : mF) : Prop := ∀ b, b < G.1 → f 18 b = nn (nnu F b)
theorem s_rwEnd {f : zf} {ρ : zo} (hC : zC ρ) {p b : Nat} {G : mG} {F : mF} {v : mV} {L : List Nat} {Q : zS → Prop} (hp : zp_ p) (hG : gG G) (hb : b < G.1) (hP : pC f p G) (hK : kC f G F) (hN' : hN f G F) (hF : F b = some v) (hv : hV f 15 (mfb G b v)) (hT' : hT f L) (hl : (L ++ etx G F b (mfb G b v)).length ≤ 1448) (h : ∀ f', fr2 f f' 3 4 → hT f' (L ++ etx G F b (mfb G b v)) → Q (f', ρ)) : P_F_rewriteEnd 201 7 p (nn b) 3 (f, ρ) Q := by
  have hn := hG.2.1
  have hb24 : b < 24 := by omega
  have hp' := hp
  unfold zp_ at hp'
  have he := hP.2.2.2.2.1 b hb
  have he' := he
  obtain ⟨g1, g2, g3, g4, g5⟩ := he
  obtain ⟨k1, k2, k3⟩ := hG.2.2.2.2.2.2 b hb
  have hw := (hK.2.2.1 b v hF).2
  unfold P_F_rewriteEnd P_F_rewriteEnd_103
  simp (disch := (first | assumption | omega)) only [true_and, and_true, zr_u, zi_u, zI_u, Option.some.injEq, exists_eq_left', nn_tn, nn_add, nn_s, nn_2, nn_5, nn_7, nn_8, na0, na2, na3, na4, na5, na6, uf_ne, uf_eq, ur_eq, ur_ne, true_or, or_true, not_true_eq_false, not_false_eq_true, true_implies, false_implies, implies_true, e10, e01, reduceIte, Option.isSome_none, Option.isSome_some, Bool.false_eq_true, bi_t, bi_f, ko_p, rc_p7 hC, ka_p6, g1, nn_e0, ko_7, ko_3]
  refine ⟨fun q0 => ?_, fun q0 => ?_⟩
  · refine s_forks hC hp hb24 he' hw (fun r hr => ?_)
    rcases hr with ⟨hr, hr2⟩ | ⟨hr, hr2, hr3⟩
    · subst hr
      simp (disch := (first | assumption | omega)) only [true_and, and_true, zr_u, zi_u, zI_u, Option.some.injEq, exists_eq_left', nn_tn, nn_add, nn_s, nn_2, nn_5, nn_7, nn_8, na0, na2, na3, na4, na5, na6, uf_ne, uf_eq, ur_eq, ur_ne, true_or, or_true, not_true_eq_false, not_false_eq_true, true_implies, false_implies, implies_true, e10, e01, reduceIte, Option.isSome_none, Option.isSome_some, Bool.false_eq_true, bi_t, bi_f]
      have hq : ∃ q, msu (G.2.2.2.2 b) (mfb G b v) = [q] := by
        rcases msu_two (w := mfb G b v) q0 with ⟨q, hq, -⟩ | ⟨z1, z2, z3⟩
        · exact ⟨q, hq⟩
        · obtain ⟨c, hc⟩ := hr2 (by omega)
          rw [z2] at hc; cases hc
      obtain ⟨q, hq⟩ := hq
      rw [etx_1 q0 hq, ← List.append_assoc] at hl h
      refine s_app hC (c := 62) rfl (by decide) hT' (len_0 (len_app hl)) (fun f1 a1 a2 => ?_)
      simp (disch := (first | assumption | omega)) only [true_and, and_true, zr_u, zi_u, zI_u, Option.some.injEq, exists_eq_left', nn_tn, nn_add, nn_s, nn_2, nn_5, nn_7, nn_8, na0, na2, na3, na4, na5, na6, uf_ne, uf_eq, ur_eq, ur_ne, true_or, or_true, not_true_eq_false, not_false_eq_true, true_implies, false_implies, implies_true, e10, e01, reduceIte, Option.isSome_none, Option.isSome_some, Bool.false_eq_true, bi_t, bi_f, rc_7_6 hC]
      have hP1 := hP.two hp a1
      refine s_onlyGoal hC hp hP1.2.2.2.2.2 hb24 (hP1.2.2.2.2.1 b hb) (hw.same (a1 _ (by omega) (by omega)) (a1 _ (by omega) (by omega))) q0 hr2 (fun q' hq' hq2 => ?_)
      have eq' : q' = q := by rw [hq] at hq'; cases hq'; rfl
      subst eq'
      have lq : q' < G.1 := by
        rcases hq2 with e | ⟨e, e'⟩
        · have := k2 q0; omega
        · have := k3 e; omega
      simp (disch := (first | assumption | omega)) only [true_and, and_true, zr_u, zi_u, zI_u, Option.some.injEq, exists_eq_left', nn_tn, nn_add, nn_s, nn_2, nn_5, nn_7, nn_8, na0, na2, na3, na4, na5, na6, uf_ne, uf_eq, ur_eq, ur_ne, true_or, or_true, not_true_eq_false, not_false_eq_true, true_implies, false_implies, implies_true, e10, e01, reduceIte, Option.isSome_none, Option.isSome_some, Bool.false_eq_true, bi_t, bi_f, ka_18]
      rw [a1 18 (by decide) (by decide), hN' q' lq]
      exact s_appNum hC a2 hl (fun f2 b1 b2 => h f2 (a1.trans b1) b2)
    · subst hr
      unfold P_G_ofEnd
      simp (disch := (first | assumption | omega)) only [true_and, and_true, zr_u, zi_u, zI_u, Option.some.injEq, exists_eq_left', nn_tn, nn_add, nn_s, nn_2, nn_5, nn_7, nn_8, na0, na2, na3, na4, na5, na6, uf_ne, uf_eq, ur_eq, ur_ne, true_or, or_true, not_true_eq_false, not_false_eq_true, true_implies, false_implies, implies_true, e10, e01, reduceIte, Option.isSome_none, Option.isSome_some, Bool.false_eq_true, bi_t, bi_f, show (160 : Int32) = nn 160 from rfl]
      have hm : msu (G.2.2.2.2 b) (mfb G b v) = [(G.2.2.2.2 b).2.2.1, (G.2.2.2.2 b).2.2.2] := by
        unfold msu; rw [if_neg q0, if_neg (by omega), hr3]
      have t1 := k2 q0
      have t2 := k3 hr2
      rw [etx_2 q0 hm, ← List.append_assoc] at hl h
      refine s_rwOp hC hp hP.2.2.2.2.2 (by omega) hv (g3 hr2) hT' (len_app hl) (fun f1 a1 a2 => ?_)
      try simp (disch := (first | assumption | omega)) only [true_and, and_true, zr_u, zi_u, zI_u, Option.some.injEq, exists_eq_left', nn_tn, nn_add, nn_s, nn_2, nn_5, nn_7, nn_8, na0, na2, na3, na4, na5, na6, uf_ne, uf_eq, ur_eq, ur_ne, true_or, or_true, not_true_eq_false, not_false_eq_true, true_implies, false_implies, implies_true, e10, e01, reduceIte, Option.isSome_none, Option.isSome_some, Bool.false_eq_true, bi_t, bi_f, ko_3]
      refine s_app hC (c := 63) rfl (by decide) a2 (len_1 hl) (fun f2 b1 b2 => ?_)
      have fr2' := a1.trans b1
      rw [← List.append_assoc] at hl h
      simp (disch := (first | assumption | omega)) only [true_and, and_true, zr_u, zi_u, zI_u, Option.some.injEq, exists_eq_left', nn_tn, nn_add, nn_s, nn_2, nn_5, nn_7, nn_8, na0, na2, na3, na4, na5, na6, uf_ne, uf_eq, ur_eq, ur_ne, true_or, or_true, not_true_eq_false, not_false_eq_true, true_implies, false_implies, implies_true, e10, e01, reduceIte, Option.isSome_none, Option.isSome_some, Bool.false_eq_true, bi_t, bi_f, rc_7_6 hC]
      refine s_goal (k := 0) hC hp hb24 (by decide) ?_
      rw [show f2 (p + 7) (2 * b + 0) = nn (G.2.2.2.2 b).2.2.1 from by rw [fr2' (p + 7) (by omega) (by omega)]; exact g4 q0]
      simp (disch := (first | assumption | omega)) only [true_and, and_true, zr_u, zi_u, zI_u, Option.some.injEq, exists_eq_left', nn_tn, nn_add, nn_s, nn_2, nn_5, nn_7, nn_8, na0, na2, na3, na4, na5, na6, uf_ne, uf_eq, ur_eq, ur_ne, true_or, or_true, not_true_eq_false, not_false_eq_true, true_implies, false_implies, implies_true, e10, e01, reduceIte, Option.isSome_none, Option.isSome_some, Bool.false_eq_true, bi_t, bi_f, ka_18]
      rw [fr2' 18 (by decide) (by decide), hN' _ t1]
      rw [← List.append_assoc] at hl h
      refine s_appNum hC b2 (len_app hl) (fun f3 c1 c2 => ?_)
      have fr3 := fr2'.trans c1
      refine s_app hC (c := 58) rfl (by decide) c2 (len_1 hl) (fun f4 d1 d2 => ?_)
      have fr4 := fr3.trans d1
      rw [← List.append_assoc] at hl h
      simp (disch := (first | assumption | omega)) only [true_and, and_true, zr_u, zi_u, zI_u, Option.some.injEq, exists_eq_left', nn_tn, nn_add, nn_s, nn_2, nn_5, nn_7, nn_8, na0, na2, na3, na4, na5, na6, uf_ne, uf_eq, ur_eq, ur_ne, true_or, or_true, not_true_eq_false, not_false_eq_true, true_implies, false_implies, implies_true, e10, e01, reduceIte, Option.isSome_none, Option.isSome_some, Bool.false_eq_true, bi_t, bi_f, rc_7_6 hC]
      refine s_goal (k := 1) hC hp hb24 (by decide) ?_
      rw [show f4 (p + 7) (2 * b + 1) = nn (G.2.2.2.2 b).2.2.2 from by rw [fr4 (p + 7) (by omega) (by omega)]; exact g5 hr2]
      simp (disch := (first | assumption | omega)) only [true_and, and_true, zr_u, zi_u, zI_u, Option.some.injEq, exists_eq_left', nn_tn, nn_add, nn_s, nn_2, nn_5, nn_7, nn_8, na0, na2, na3, na4, na5, na6, uf_ne, uf_eq, ur_eq, ur_ne, true_or, or_true, not_true_eq_false, not_false_eq_true, true_implies, false_implies, implies_true, e10, e01, reduceIte, Option.isSome_none, Option.isSome_some, Bool.false_eq_true, bi_t, bi_f, ka_18]
      rw [fr4 18 (by decide) (by decide), hN' _ t2]
      exact s_appNum hC d2 hl (fun f5 e1 e2 => h f5 (fr4.trans e1) e2)
  · unfold etx at hl h
    rw [if_pos q0] at hl h
    exact s_app hC (c := 46) rfl (by decide) hT' (len_0 hl) h
theorem s_rwBlock {f : zf} {ρ : zo} (hC : zC ρ) {p b : Nat} {G : mG} {F : mF} {v : mV} {L : List Nat} {Q : zS → Prop} (hp : zp_ p) (hG : gG G) (hb : b < G.1) (hP : pC f p G) (hK : kC f G F) (hN' : hN f G F) (hF : F b = some v) (hT' : hT f L) (hl : (L ++ btx G F b v).length ≤ 1448) (h : ∀ f', frX f f' → f' 18 = f 18 → hT f' (L ++ btx G F b v) → Q (f', ρ)) : P_F_rewriteBlock 201 7 p (nn b) 3 (f, ρ) Q := by
  have hn := hG.2.1
  have hb24 : b < 24 := by omega
  have hvb := zv_b hb24
  have hvw : zv_ 15 := Or.inr (Or.inl rfl)
  have hl80 := hG.f_le (b := b + 1) (by omega)
  have hmono := hG.2.2.2.2.2.1 b hb
  have hBb := hK.1.1 b hb24
  rw [hF] at hBb
  have mono : ∀ m k, (btr G.2.2.2.1 (G.2.2.1 b) k v).length ≤ (btr G.2.2.2.1 (G.2.2.1 b) (k + m) v).length := by
    intro m
    induction m with
    | zero => intro k; exact Nat.le_refl _
    | succ m ih =>
      intro k
      have := ih k
      show _ ≤ (btr G.2.2.2.1 (G.2.2.1 b) (k + m) v ++ _).length
      rw [List.length_append]; omega
  have key : ∀ (m k : Nat) (f' : zf), G.2.2.1 b + k + m = G.2.2.1 (b + 1) → frX f f' → f' 18 = f 18 → hV f' 15 (mfr G.2.2.2.1 (G.2.2.1 b) k v) → hT f' (L ++ btr G.2.2.2.1 (G.2.2.1 b) k v) → P_F_rewriteBlock_21 201 Q (m + 1) 7 p (nn b) 3 (nn (G.2.2.1 b + k)) (f', ρ) := by
    intro m
    induction m with
    | zero =>
      intro k f' hk h1 h18 h2 h3
      have hP' := hP.X hp h1
      have ek : k = bln G b := by unfold bln; omega
      subst ek
      unfold P_F_rewriteBlock_21
      simp (disch := (first | assumption | omega)) only [true_and, and_true, zr_u, zi_u, zI_u, Option.some.injEq, exists_eq_left', nn_tn, nn_add, nn_s, nn_2, nn_5, nn_7, nn_8, na0, na2, na3, na4, na5, na6, uf_ne, uf_eq, ur_eq, ur_ne, true_or, or_true, not_true_eq_false, not_false_eq_true, true_implies, false_implies, implies_true, e10, e01, reduceIte, Option.isSome_none, Option.isSome_some, Bool.false_eq_true, bi_t, bi_f, ko_p, rc_p2 hC, ka_p1, hP'.2.2.1 (b + 1) (by omega), ko_7]
      simp (disch := omega) only [nn_le]
      refine ⟨fun _ => ?_, fun z => absurd (by omega) z⟩
      unfold btx at hl h
      rw [← List.append_assoc] at hl h
      exact s_rwEnd hC hp hG hb hP' (hK.X hG h1) (fun j hj => by rw [h18]; exact hN' j hj) hF h2 h3 hl (fun f2 a1 a2 => h f2 (h1.trans (frX.of a1)) (by rw [a1 18 (by decide) (by decide), h18]) a2)
    | succ m ih =>
      intro k f' hk h1 h18 h2 h3
      have hP' := hP.X hp h1
      have hs := hP'.2.2.2.1 _ (hG.s_lt hb (s := G.2.2.1 b + k) (by omega))
      have hs' := hs
      obtain ⟨c1, c2, c3, c4, c5, c6, c7⟩ := hs
      unfold P_F_rewriteBlock_21
      simp (disch := (first | assumption | omega)) only [true_and, and_true, zr_u, zi_u, zI_u, Option.some.injEq, exists_eq_left', nn_tn, nn_add, nn_s, nn_2, nn_5, nn_7, nn_8, na0, na2, na3, na4, na5, na6, uf_ne, uf_eq, ur_eq, ur_ne, true_or, or_true, not_true_eq_false, not_false_eq_true, true_implies, false_implies, implies_true, e10, e01, reduceIte, Option.isSome_none, Option.isSome_some, Bool.false_eq_true, bi_t, bi_f, ko_p, rc_p2 hC, ka_p1, hP'.2.2.1 (b + 1) (by omega), ko_7, rc_p3 hC, ka_p2, ko_3, c2]
      simp (disch := omega) only [nn_le]
      refine ⟨fun z => absurd z (by omega), fun _ => ?_⟩
      have tl : (L ++ btr G.2.2.2.1 (G.2.2.1 b) (k + 1) v).length ≤ 1448 := by
        have q1 := mono (bln G b - (k + 1)) (k + 1)
        rw [show k + 1 + (bln G b - (k + 1)) = bln G b by unfold bln; omega] at q1
        unfold btx at hl
        rw [List.length_append, List.length_append] at hl
        rw [List.length_append]; omega
      have eb : L ++ btr G.2.2.2.1 (G.2.2.1 b) (k + 1) v = L ++ btr G.2.2.2.1 (G.2.2.1 b) k v ++ [97 + (G.2.2.2.1 (G.2.2.1 b + k)).1] ++ [61] ++ vt (mfr G.2.2.2.1 (G.2.2.1 b) k v) (G.2.2.2.1 (G.2.2.1 b + k)) ++ [59] := by
        show L ++ (btr G.2.2.2.1 (G.2.2.1 b) k v ++ ([97 + (G.2.2.2.1 (G.2.2.1 b + k)).1] ++ ([61] ++ (vt (mfr G.2.2.2.1 (G.2.2.1 b) k v) (G.2.2.2.1 (G.2.2.1 b + k)) ++ [59])))) = _
        simp only [List.append_assoc]
      rw [eb] at tl
      refine s_app hC (c := 97 + (G.2.2.2.1 (G.2.2.1 b + k)).1) (by rw [show (97 : Int32) = nn 97 from rfl, nn_add]) (by omega) h3 (len_0 (len_app (len_app (len_app tl)))) (fun f1 a1 a2 => ?_)
      refine s_app hC (c := 61) rfl (by decide) a2 (len_0 (len_app (len_app tl))) (fun f2 b1 b2 => ?_)
      have fr2' := a1.trans b1
      have hP2 := hP'.two hp fr2'
      have hv2 : hV f2 15 (mfr G.2.2.2.1 (G.2.2.1 b) k v) := h2.same (fr2' _ (by decide) (by decide)) (fr2' _ (by decide) (by decide))
      try simp (disch := (first | assumption | omega)) only [true_and, and_true, zr_u, zi_u, zI_u, Option.some.injEq, exists_eq_left', nn_tn, nn_add, nn_s, nn_2, nn_5, nn_7, nn_8, na0, na2, na3, na4, na5, na6, uf_ne, uf_eq, ur_eq, ur_ne, true_or, or_true, not_true_eq_false, not_false_eq_true, true_implies, false_implies, implies_true, e10, e01, reduceIte, Option.isSome_none, Option.isSome_some, Bool.false_eq_true, bi_t, bi_f, ko_7]
      refine s_rwValue hC hp hP2.2.2.2.2.2 (hP2.2.2.2.1 _ (hG.s_lt hb (s := G.2.2.1 b + k) (by omega))) hv2 b2 (len_app tl) (fun f3 d1 d2 => ?_)
      refine s_app hC (c := 59) rfl (by decide) d2 (len_0 tl) (fun f4 e1 e2 => ?_)
      have fr4 := (fr2'.trans d1).trans e1
      have hP4 := hP'.two hp fr4
      have hv4 : hV f4 15 (mfr G.2.2.2.1 (G.2.2.1 b) k v) := h2.same (fr4 _ (by decide) (by decide)) (fr4 _ (by decide) (by decide))
      simp (disch := (first | assumption | omega)) only [true_and, and_true, zr_u, zi_u, zI_u, Option.some.injEq, exists_eq_left', nn_tn, nn_add, nn_s, nn_2, nn_5, nn_7, nn_8, na0, na2, na3, na4, na5, na6, uf_ne, uf_eq, ur_eq, ur_ne, true_or, or_true, not_true_eq_false, not_false_eq_true, true_implies, false_implies, implies_true, e10, e01, reduceIte, Option.isSome_none, Option.isSome_some, Bool.false_eq_true, bi_t, bi_f, rc_7_5 hC, ko_15]
      refine s_assign hC hvw hp hP4.2.2.2.2.2 (hP4.2.2.2.1 _ (hG.s_lt hb (s := G.2.2.1 b + k) (by omega))) hv4 (fun f5 y1 y2 => ?_)
      refine ih (k + 1) f5 (by omega) ((h1.trans (frX.of fr4)).trans (frX.ofV y1)) ?_ y2 ⟨?_, ?_⟩
      · rw [y1 18 (by decide) (by decide), fr4 18 (by decide) (by decide), h18]
      · rw [y1 3 (by decide) (by decide), eb]; exact e2.1
      · rw [y1 4 (by decide) (by decide), eb]; exact e2.2
  unfold P_F_rewriteBlock
  simp (disch := (first | assumption | omega)) only [true_and, and_true, zr_u, zi_u, zI_u, Option.some.injEq, exists_eq_left', nn_tn, nn_add, nn_s, nn_2, nn_5, nn_7, nn_8, na0, na2, na3, na4, na5, na6, uf_ne, uf_eq, ur_eq, ur_ne, true_or, or_true, not_true_eq_false, not_false_eq_true, true_implies, false_implies, implies_true, e10, e01, reduceIte, Option.isSome_none, Option.isSome_some, Bool.false_eq_true, bi_t, bi_f, ko_7, rc_7_5 hC, rc_7_2 hC, ka_10, rc_b hC, ko_15]
  refine s_become hC hvw hvb (by omega) hBb.2 (fun f1 r1 r2 => ?_)
  have hP1 := hP.X hp (frX.ofV r1)
  simp (disch := (first | assumption | omega)) only [true_and, and_true, zr_u, zi_u, zI_u, Option.some.injEq, exists_eq_left', nn_tn, nn_add, nn_s, nn_2, nn_5, nn_7, nn_8, na0, na2, na3, na4, na5, na6, uf_ne, uf_eq, ur_eq, ur_ne, true_or, or_true, not_true_eq_false, not_false_eq_true, true_implies, false_implies, implies_true, e10, e01, reduceIte, Option.isSome_none, Option.isSome_some, Bool.false_eq_true, bi_t, bi_f, ko_p, rc_p2 hC, ka_p1, hP1.2.2.1 b (by omega)]
  refine ⟨_, key (G.2.2.1 (b + 1) - G.2.2.1 b) 0 f1 (by omega) (frX.ofV r1) (r1 18 (by decide) (by decide)) r2 ?_⟩
  show hT f1 (L ++ [])
  rw [List.append_nil]
  exact ⟨by rw [r1 3 (by decide) (by decide)]; exact hT'.1, by rw [r1 4 (by decide) (by decide)]; exact hT'.2⟩
theorem s_rewrite {f : zf} {ρ : zo} (hC : zC ρ) {p : Nat} {G : mG} {F : mF} {Q : zS → Prop} (hp : zp_ p) (hG : gG G) (hP : pC f p G) (hK : kC f G F) (h : ∀ f', frX f f' → hT f' (ptx G F G.1) → Q (f', ρ)) : P_F_rewrite 201 7 p 3 (f, ρ) Q := by
  have hn := hG.2.1
  have k49 : ∀ (m k : Nat) (f' : zf), k + m = G.1 → frX f f' → hN f' G F → hT f' (ptx G F k) → P_F_rewrite_49 201 Q (m + 1) 7 p 3 (nn k) (f', ρ) := by
    intro m
    induction m with
    | zero =>
      intro k f' hk h1 h2 h3
      have e : k = G.1 := by omega
      subst e
      have hP' := hP.X hp h1
      unfold P_F_rewrite_49
      simp (disch := (first | assumption | omega)) only [true_and, and_true, zr_u, zi_u, zI_u, Option.some.injEq, exists_eq_left', nn_tn, nn_add, nn_s, nn_2, nn_5, nn_7, nn_8, na0, na2, na3, na4, na5, na6, uf_ne, uf_eq, ur_eq, ur_ne, true_or, or_true, not_true_eq_false, not_false_eq_true, true_implies, false_implies, implies_true, e10, e01, reduceIte, Option.isSome_none, Option.isSome_some, Bool.false_eq_true, bi_t, bi_f, ko_p, hP'.1]
      simp (disch := omega) only [nn_le]
      exact ⟨fun _ => h f' h1 h3, fun z => absurd (Nat.le_refl _) z⟩
    | succ m ih =>
      intro k f' hk h1 h2 h3
      have hP' := hP.X hp h1
      have hK' := hK.X hG h1
      have hB := hK'.1.1 k (by omega)
      unfold P_F_rewrite_49 P_F_rewrite_76
      simp (disch := (first | assumption | omega)) only [true_and, and_true, zr_u, zi_u, zI_u, Option.some.injEq, exists_eq_left', nn_tn, nn_add, nn_s, nn_2, nn_5, nn_7, nn_8, na0, na2, na3, na4, na5, na6, uf_ne, uf_eq, ur_eq, ur_ne, true_or, or_true, not_true_eq_false, not_false_eq_true, true_implies, false_implies, implies_true, e10, e01, reduceIte, Option.isSome_none, Option.isSome_some, Bool.false_eq_true, bi_t, bi_f, ko_p, hP'.1, ko_7, rc_7_0 hC, ka_8]
      simp (disch := omega) only [nn_le]
      refine ⟨fun z => absurd z (by omega), fun _ => ?_⟩
      have pe : ptx G F (k + 1) = ptx G F k ++ (match F k with | none => [] | some v => btx G F k v) := rfl
      cases hv : F k with
      | none =>
        rw [hv] at hB pe
        refine ⟨fun _ => ih (k + 1) f' (by omega) h1 h2 ?_, fun z => absurd hB z⟩
        rw [pe]; show hT f' (ptx G F k ++ []); rw [List.append_nil]; exact h3
      | some v =>
        rw [hv] at hB pe
        refine ⟨fun z => absurd (hB.1.symm.trans z) (by decide), fun _ => ?_⟩
        refine s_rwBlock hC hp hG (by omega) hP' hK' h2 hv h3 ?_ (fun f2 a1 a2 a3 => ?_)
        · have := ptx_all hG F (k := k + 1) (by omega)
          rw [pe] at this; exact this
        · refine ih (k + 1) f2 (by omega) (h1.trans a1) (fun j hj => by rw [a2]; exact h2 j hj) ?_
          rw [pe]; exact a3
  have k10 : ∀ (m k : Nat) (f' : zf), k + m = G.1 → frX f f' → (∀ j, j < k → f' 18 j = nn (nnu F j)) → hT f' [] → P_F_rewrite_10 201 Q (m + 1) 7 p 3 (nn (nnu F k)) (nn k) (f', ρ) := by
    intro m
    induction m with
    | zero =>
      intro k f' hk h1 h2 h3
      have e : k = G.1 := by omega
      subst e
      have hP' := hP.X hp h1
      unfold P_F_rewrite_10
      simp (disch := (first | assumption | omega)) only [true_and, and_true, zr_u, zi_u, zI_u, Option.some.injEq, exists_eq_left', nn_tn, nn_add, nn_s, nn_2, nn_5, nn_7, nn_8, na0, na2, na3, na4, na5, na6, uf_ne, uf_eq, ur_eq, ur_ne, true_or, or_true, not_true_eq_false, not_false_eq_true, true_implies, false_implies, implies_true, e10, e01, reduceIte, Option.isSome_none, Option.isSome_some, Bool.false_eq_true, bi_t, bi_f, ko_p, hP'.1]
      simp (disch := omega) only [nn_le]
      exact ⟨fun _ => ⟨_, k49 G.1 0 f' (by omega) h1 h2 h3⟩, fun z => absurd (Nat.le_refl _) z⟩
    | succ m ih =>
      intro k f' hk h1 h2 h3
      have hP' := hP.X hp h1
      have hB := (hK.X hG h1).1.1 k (by omega)
      unfold P_F_rewrite_10 P_F_rewrite_40
      simp (disch := (first | assumption | omega)) only [true_and, and_true, zr_u, zi_u, zI_u, Option.some.injEq, exists_eq_left', nn_tn, nn_add, nn_s, nn_2, nn_5, nn_7, nn_8, na0, na2, na3, na4, na5, na6, uf_ne, uf_eq, ur_eq, ur_ne, true_or, or_true, not_true_eq_false, not_false_eq_true, true_implies, false_implies, implies_true, e10, e01, reduceIte, Option.isSome_none, Option.isSome_some, Bool.false_eq_true, bi_t, bi_f, ko_p, hP'.1, ko_7, rc_7_6 hC, ka_18, rc_7_0 hC, ka_8]
      simp (disch := omega) only [nn_le]
      refine ⟨fun z => absurd z (by omega), fun _ => ?_⟩
      have nx : P_F_rewrite_10 201 Q (m + 1) 7 p 3 (nn (nnu F (k + 1))) (nn (k + 1)) (uf f' 18 k (nn (nnu F k)), ρ) := by
        refine ih (k + 1) _ (by omega) (fun a z1 z2 z3 z4 z5 => ?_) (fun j hj => ?_) ⟨?_, ?_⟩
        · simp (disch := (first | assumption | omega)) only [true_and, and_true, zr_u, zi_u, zI_u, Option.some.injEq, exists_eq_left', nn_tn, nn_add, nn_s, nn_2, nn_5, nn_7, nn_8, na0, na2, na3, na4, na5, na6, uf_ne, uf_eq, ur_eq, ur_ne, true_or, or_true, not_true_eq_false, not_false_eq_true, true_implies, false_implies, implies_true, e10, e01, reduceIte, Option.isSome_none, Option.isSome_some, Bool.false_eq_true, bi_t, bi_f]
          exact h1 a z1 z2 z3 z4 z5
        · by_cases e : j = k
          · subst e; simp (disch := (first | assumption | omega)) only [true_and, and_true, zr_u, zi_u, zI_u, Option.some.injEq, exists_eq_left', nn_tn, nn_add, nn_s, nn_2, nn_5, nn_7, nn_8, na0, na2, na3, na4, na5, na6, uf_ne, uf_eq, ur_eq, ur_ne, true_or, or_true, not_true_eq_false, not_false_eq_true, true_implies, false_implies, implies_true, e10, e01, reduceIte, Option.isSome_none, Option.isSome_some, Bool.false_eq_true, bi_t, bi_f]
          · simp (disch := (first | assumption | omega)) only [true_and, and_true, zr_u, zi_u, zI_u, Option.some.injEq, exists_eq_left', nn_tn, nn_add, nn_s, nn_2, nn_5, nn_7, nn_8, na0, na2, na3, na4, na5, na6, uf_ne, uf_eq, ur_eq, ur_ne, true_or, or_true, not_true_eq_false, not_false_eq_true, true_implies, false_implies, implies_true, e10, e01, reduceIte, Option.isSome_none, Option.isSome_some, Bool.false_eq_true, bi_t, bi_f]
            exact h2 j (by omega)
        · simp (disch := (first | assumption | omega)) only [true_and, and_true, zr_u, zi_u, zI_u, Option.some.injEq, exists_eq_left', nn_tn, nn_add, nn_s, nn_2, nn_5, nn_7, nn_8, na0, na2, na3, na4, na5, na6, uf_ne, uf_eq, ur_eq, ur_ne, true_or, or_true, not_true_eq_false, not_false_eq_true, true_implies, false_implies, implies_true, e10, e01, reduceIte, Option.isSome_none, Option.isSome_some, Bool.false_eq_true, bi_t, bi_f]
          exact h3.1
        · simp (disch := (first | assumption | omega)) only [true_and, and_true, zr_u, zi_u, zI_u, Option.some.injEq, exists_eq_left', nn_tn, nn_add, nn_s, nn_2, nn_5, nn_7, nn_8, na0, na2, na3, na4, na5, na6, uf_ne, uf_eq, ur_eq, ur_ne, true_or, or_true, not_true_eq_false, not_false_eq_true, true_implies, false_implies, implies_true, e10, e01, reduceIte, Option.isSome_none, Option.isSome_some, Bool.false_eq_true, bi_t, bi_f]
          exact h3.2
      have ne : nnu F (k + 1) = nnu F k + (if (F k).isSome then 1 else 0) := rfl
      cases hv : F k with
      | none =>
        rw [hv] at hB ne
        rw [ne] at nx
        exact ⟨fun _ => nx, fun z => absurd hB z⟩
      | some v =>
        rw [hv] at hB ne
        rw [ne] at nx
        exact ⟨fun z => absurd (hB.1.symm.trans z) (by decide), fun _ => nx⟩
  unfold P_F_rewrite
  try simp (disch := (first | assumption | omega)) only [true_and, and_true, zr_u, zi_u, zI_u, Option.some.injEq, exists_eq_left', nn_tn, nn_add, nn_s, nn_2, nn_5, nn_7, nn_8, na0, na2, na3, na4, na5, na6, uf_ne, uf_eq, ur_eq, ur_ne, true_or, or_true, not_true_eq_false, not_false_eq_true, true_implies, false_implies, implies_true, e10, e01, reduceIte, Option.isSome_none, Option.isSome_some, Bool.false_eq_true, bi_t, bi_f, ko_3]
  refine ⟨_, k10 G.1 0 _ (by omega) (fun a z1 z2 z3 z4 z5 => ?_) (fun j hj => absurd hj (by omega)) ⟨?_, fun i hi => absurd hi (by show ¬ i < 0; omega)⟩⟩
  · simp (disch := (first | assumption | omega)) only [true_and, and_true, zr_u, zi_u, zI_u, Option.some.injEq, exists_eq_left', nn_tn, nn_add, nn_s, nn_2, nn_5, nn_7, nn_8, na0, na2, na3, na4, na5, na6, uf_ne, uf_eq, ur_eq, ur_ne, true_or, or_true, not_true_eq_false, not_false_eq_true, true_implies, false_implies, implies_true, e10, e01, reduceIte, Option.isSome_none, Option.isSome_some, Bool.false_eq_true, bi_t, bi_f]
  · simp (disch := (first | assumption | omega)) only [true_and, and_true, zr_u, zi_u, zI_u, Option.some.injEq, exists_eq_left', nn_tn, nn_add, nn_s, nn_2, nn_5, nn_7, nn_8, na0, na2, na3, na4, na5, na6, uf_ne, uf_eq, ur_eq, ur_ne, true_or, or_true, not_true_eq_false, not_false_eq_true, true_implies, false_implies, implies_true, e10, e01, reduceIte, Option.isSome_none, Option.isSome_some, Bool.false_eq_true, bi_t, bi_f]
    rfl
