/-! The rows about find and count over the first 183 cells (printed by mk183.py). -/
def zCi (ρ : zo) : Prop := ∀ k j v, k < 183 → zrf k j = some v → ρ.1 k j = some v
def zfix (ρ : zo) : zo := (fun a b => if a < 183 then ρ.1 a b else zrf a b, ρ.2)
theorem zfix_lt (ρ : zo) {a b : Nat} (h : a < 183) : (zfix ρ).1 a b = ρ.1 a b := if_pos h
theorem zCi.fix {ρ : zo} (h : zCi ρ) : zC (zfix ρ) := by
  intro k j v hv
  by_cases e : k < 183
  · rw [zfix_lt ρ e]; exact h k j v e hv
  · exact (if_neg e).trans hv
theorem za_of_i {c tag len i : Nat} (hk : zkd c = (tag, len)) (hc : c < 183) (hi : i < len) (hl : len < 2147483648) : za 183 c tag (nn i) := by
  refine ⟨hc, by rw [hk], ?_⟩
  rw [hk]; exact nn_vp hi hl
theorem zk_of_i {c tag len : Nat} (hk : zkd c = (tag, len)) (hc : c < 183) : zk 183 c tag := ⟨hc, by rw [hk]⟩
theorem rc_7_0_i {ρ : zo} (h : zCi ρ) : ρ.1 7 0 = some 8 := by
  have q := rc_7_0 (zCi.fix h) 
  rw [zfix_lt ρ (by decide)] at q
  exact q
theorem rc_7_1_i {ρ : zo} (h : zCi ρ) : ρ.1 7 1 = some 9 := by
  have q := rc_7_1 (zCi.fix h) 
  rw [zfix_lt ρ (by decide)] at q
  exact q
theorem rc_7_2_i {ρ : zo} (h : zCi ρ) : ρ.1 7 2 = some 10 := by
  have q := rc_7_2 (zCi.fix h) 
  rw [zfix_lt ρ (by decide)] at q
  exact q
theorem rc_7_3_i {ρ : zo} (h : zCi ρ) : ρ.1 7 3 = some 11 := by
  have q := rc_7_3 (zCi.fix h) 
  rw [zfix_lt ρ (by decide)] at q
  exact q
theorem rc_7_4_i {ρ : zo} (h : zCi ρ) : ρ.1 7 4 = some 12 := by
  have q := rc_7_4 (zCi.fix h) 
  rw [zfix_lt ρ (by decide)] at q
  exact q
theorem rc_7_5_i {ρ : zo} (h : zCi ρ) : ρ.1 7 5 = some 15 := by
  have q := rc_7_5 (zCi.fix h) 
  rw [zfix_lt ρ (by decide)] at q
  exact q
theorem rc_7_7_i {ρ : zo} (h : zCi ρ) : ρ.1 7 7 = some 19 := by
  have q := rc_7_7 (zCi.fix h) 
  rw [zfix_lt ρ (by decide)] at q
  exact q
theorem rc_v0_i {ρ : zo} (h : zCi ρ) {c : Nat} (hv : zv_ c) : ρ.1 c 0 = some (c + 1) := by
  have q := rc_v0 (zCi.fix h) hv
  rw [zfix_lt ρ (by have := zv_lt hv; omega)] at q
  exact q
theorem rc_v1_i {ρ : zo} (h : zCi ρ) {c : Nat} (hv : zv_ c) : ρ.1 c 1 = some (c + 2) := by
  have q := rc_v1 (zCi.fix h) hv
  rw [zfix_lt ρ (by have := zv_lt hv; omega)] at q
  exact q
theorem rc_b_i {ρ : zo} (h : zCi ρ) {i : Nat} (hi : i < 24) : ρ.1 10 i = some (20 + 6 * i) := by
  have q := rc_b (zCi.fix h) hi
  rw [zfix_lt ρ (by decide)] at q
  exact q
theorem rc_e_i {ρ : zo} (h : zCi ρ) {i : Nat} (hi : i < 24) : ρ.1 11 i = some (23 + 6 * i) := by
  have q := rc_e (zCi.fix h) hi
  rw [zfix_lt ρ (by decide)] at q
  exact q
theorem rc_p2_i {ρ : zo} (h : zCi ρ) {c : Nat} (hp : zp_ c) : ρ.1 c 2 = some (c + 1) := by
  have q := rc_p2 (zCi.fix h) hp
  rw [zfix_lt ρ (by have := hp; unfold zp_ at this; omega)] at q
  exact q
theorem rc_p3_i {ρ : zo} (h : zCi ρ) {c : Nat} (hp : zp_ c) : ρ.1 c 3 = some (c + 2) := by
  have q := rc_p3 (zCi.fix h) hp
  rw [zfix_lt ρ (by have := hp; unfold zp_ at this; omega)] at q
  exact q
theorem rc_p4_i {ρ : zo} (h : zCi ρ) {c : Nat} (hp : zp_ c) : ρ.1 c 4 = some (c + 3) := by
  have q := rc_p4 (zCi.fix h) hp
  rw [zfix_lt ρ (by have := hp; unfold zp_ at this; omega)] at q
  exact q
theorem rc_p5_i {ρ : zo} (h : zCi ρ) {c : Nat} (hp : zp_ c) : ρ.1 c 5 = some (c + 4) := by
  have q := rc_p5 (zCi.fix h) hp
  rw [zfix_lt ρ (by have := hp; unfold zp_ at this; omega)] at q
  exact q
theorem rc_p6_i {ρ : zo} (h : zCi ρ) {c : Nat} (hp : zp_ c) : ρ.1 c 6 = some (c + 5) := by
  have q := rc_p6 (zCi.fix h) hp
  rw [zfix_lt ρ (by have := hp; unfold zp_ at this; omega)] at q
  exact q
theorem rc_p7_i {ρ : zo} (h : zCi ρ) {c : Nat} (hp : zp_ c) : ρ.1 c 7 = some (c + 6) := by
  have q := rc_p7 (zCi.fix h) hp
  rw [zfix_lt ρ (by have := hp; unfold zp_ at this; omega)] at q
  exact q
theorem rc_p8_i {ρ : zo} (h : zCi ρ) {c : Nat} (hp : zp_ c) : ρ.1 c 8 = some (c + 7) := by
  have q := rc_p8 (zCi.fix h) hp
  rw [zfix_lt ρ (by have := hp; unfold zp_ at this; omega)] at q
  exact q
theorem ko_7_i : zk 183 7 3 = True := eq_true (zk_of_i (len := 0) rfl (by decide))
theorem ka_8_i {i : Nat} (h : i < 24) : za 183 8 11 (nn i) = True := eq_true (za_of_i (len := 24) rfl (by decide) h (by decide))
theorem ka_9_i {i : Nat} (h : i < 24) : za 183 9 11 (nn i) = True := eq_true (za_of_i (len := 24) rfl (by decide) h (by decide))
theorem ka_10_i {i : Nat} (h : i < 24) : za 183 10 13 (nn i) = True := eq_true (za_of_i (len := 24) rfl (by decide) h (by decide))
theorem ka_11_i {i : Nat} (h : i < 24) : za 183 11 13 (nn i) = True := eq_true (za_of_i (len := 24) rfl (by decide) h (by decide))
theorem ko_15_i : zk 183 15 4 = True := eq_true (zk_of_i (len := 0) rfl (by decide))
theorem ka_19_i {i : Nat} (h : i < 7) : za 183 19 10 (nn i) = True := eq_true (za_of_i (len := 7) rfl (by decide) h (by decide))
theorem ko_v_i {c : Nat} (h : zv_ c) : zk 183 c 4 = True := eq_true (zk_of_i (zv_0 h) (by have := zv_lt h; omega))
theorem ka_v1_i {c i : Nat} (h : zv_ c) (hi : i < 8) : za 183 (c + 1) 11 (nn i) = True := eq_true (za_of_i (zv_1 h) (by have := zv_lt h; omega) hi (by decide))
theorem ka_v2_i {c i : Nat} (h : zv_ c) (hi : i < 8) : za 183 (c + 2) 10 (nn i) = True := eq_true (za_of_i (zv_2 h) (by have := zv_lt h; omega) hi (by decide))
theorem ko_p_i {c : Nat} (h : zp_ c) : zk 183 c 6 = True := eq_true (zk_of_i (zp_k h).1 (by have := h; unfold zp_ at this; omega))
theorem ka_p1_i {c i : Nat} (h : zp_ c) (hi : i < 25) : za 183 (c + 1) 10 (nn i) = True := eq_true (za_of_i (zp_k h).2.1 (by have := h; unfold zp_ at this; omega) hi (by decide))
theorem ka_p2_i {c i : Nat} (h : zp_ c) (hi : i < 80) : za 183 (c + 2) 10 (nn i) = True := eq_true (za_of_i (zp_k h).2.2.1 (by have := h; unfold zp_ at this; omega) hi (by decide))
theorem ka_p3_i {c i : Nat} (h : zp_ c) (hi : i < 80) : za 183 (c + 3) 10 (nn i) = True := eq_true (za_of_i (zp_k h).2.2.2.1 (by have := h; unfold zp_ at this; omega) hi (by decide))
theorem ka_p4_i {c i : Nat} (h : zp_ c) (hi : i < 184) : za 183 (c + 4) 11 (nn i) = True := eq_true (za_of_i (zp_k h).2.2.2.2.1 (by have := h; unfold zp_ at this; omega) hi (by decide))
theorem ka_p5_i {c i : Nat} (h : zp_ c) (hi : i < 184) : za 183 (c + 5) 10 (nn i) = True := eq_true (za_of_i (zp_k h).2.2.2.2.2.1 (by have := h; unfold zp_ at this; omega) hi (by decide))
theorem ka_p6_i {c i : Nat} (h : zp_ c) (hi : i < 24) : za 183 (c + 6) 10 (nn i) = True := eq_true (za_of_i (zp_k h).2.2.2.2.2.2.1 (by have := h; unfold zp_ at this; omega) hi (by decide))
theorem ka_p7_i {c i : Nat} (h : zp_ c) (hi : i < 48) : za 183 (c + 7) 10 (nn i) = True := eq_true (za_of_i (zp_k h).2.2.2.2.2.2.2 (by have := h; unfold zp_ at this; omega) hi (by decide))
theorem s_become_i {f : zf} {ρ : zo} (hC : zCi ρ) {c d : Nat} {v : mV} {Q : zS → Prop} (hc : zv_ c) (hd : zv_ d) (hcd : c ≠ d) (hv : hV f d v) (h : ∀ f', fr2 f f' (c + 1) (c + 2) → hV f' c v → Q (f', ρ)) : P_V_become 183 c d (f, ρ) Q := by
  have hc' := hc
  have hd' := hd
  unfold zv_ at hc' hd'
  have key : ∀ (m k : Nat) (f' : zf), k + m = 8 → fr2 f f' (c + 1) (c + 2) → (∀ i, i < k → f' (c + 1) i = f (d + 1) i ∧ f' (c + 2) i = f (d + 2) i) → P_V_become_2 183 Q (m + 1) c d (nn k) (f', ρ) := by
    intro m
    induction m with
    | zero =>
      intro k f' hk h1 h2
      unfold P_V_become_2
      rw [show (8 : Int32) = nn 8 from rfl, nn_le (by omega) (by omega)]
      refine ⟨fun _ => h f' h1 ⟨fun i hi => ?_, ?_⟩, fun h' => absurd (show 8 ≤ k by omega) h'⟩
      · rw [(h2 i (by omega)).1]; exact hv.1 i hi
      · rw [← hv.2]; exact av_congr fun i hi => h2 i (by omega)
    | succ m ih =>
      intro k f' hk h1 h2
      unfold P_V_become_2
      rw [show (8 : Int32) = nn 8 from rfl, nn_le (by omega) (by omega)]
      refine ⟨fun h' => absurd h' (by omega), fun _ => ?_⟩
      have e1 : f' (d + 1) = f (d + 1) := h1 _ (by omega) (by omega)
      have e2 : f' (d + 2) = f (d + 2) := h1 _ (by omega) (by omega)
      simp (disch := (first | assumption | omega)) only [true_and, and_true, zr_u, zi_u, zI_u, Option.some.injEq, exists_eq_left', nn_tn, nn_add, nn_s, nn_2, nn_5, nn_7, nn_8, na0, na2, na3, na4, na5, na6, uf_ne, uf_eq, ur_eq, ur_ne, true_or, or_true, not_true_eq_false, not_false_eq_true, true_implies, false_implies, implies_true, e10, e01, reduceIte, Option.isSome_none, Option.isSome_some, Bool.false_eq_true, bi_t, bi_f, ko_v_i, rc_v0_i hC, rc_v1_i hC, ka_v1_i, ka_v2_i, nar_bb (hv.1 k (by omega)), e1, e2]
      refine ih (k + 1) _ (by omega) (fun a ha hb => ?_) (fun i hi => ?_)
      · simp (disch := (first | assumption | omega)) only [true_and, and_true, zr_u, zi_u, zI_u, Option.some.injEq, exists_eq_left', nn_tn, nn_add, nn_s, nn_2, nn_5, nn_7, nn_8, na0, na2, na3, na4, na5, na6, uf_ne, uf_eq, ur_eq, ur_ne, true_or, or_true, not_true_eq_false, not_false_eq_true, true_implies, false_implies, implies_true, e10, e01, reduceIte, Option.isSome_none, Option.isSome_some, Bool.false_eq_true, bi_t, bi_f]
        exact h1 a ha hb
      · by_cases e : i = k
        · subst e
          simp (disch := (first | assumption | omega)) only [true_and, and_true, zr_u, zi_u, zI_u, Option.some.injEq, exists_eq_left', nn_tn, nn_add, nn_s, nn_2, nn_5, nn_7, nn_8, na0, na2, na3, na4, na5, na6, uf_ne, uf_eq, ur_eq, ur_ne, true_or, or_true, not_true_eq_false, not_false_eq_true, true_implies, false_implies, implies_true, e10, e01, reduceIte, Option.isSome_none, Option.isSome_some, Bool.false_eq_true, bi_t, bi_f]
        · simp (disch := (first | assumption | omega)) only [true_and, and_true, zr_u, zi_u, zI_u, Option.some.injEq, exists_eq_left', nn_tn, nn_add, nn_s, nn_2, nn_5, nn_7, nn_8, na0, na2, na3, na4, na5, na6, uf_ne, uf_eq, ur_eq, ur_ne, true_or, or_true, not_true_eq_false, not_false_eq_true, true_implies, false_implies, implies_true, e10, e01, reduceIte, Option.isSome_none, Option.isSome_some, Bool.false_eq_true, bi_t, bi_f]
          exact h2 i (by omega)
  exact ⟨9, key 8 0 f rfl (fun _ _ _ => rfl) (fun _ hi => absurd hi (by omega))⟩
theorem s_join_i {f : zf} {ρ : zo} (hC : zCi ρ) {c d : Nat} {v w : mV} {Q : Int32 → zS → Prop} (hc : zv_ c) (hd : zv_ d) (hcd : c ≠ d) (hv : hV f c v) (hw : hV f d w) (h : ∀ f' r, fr2 f f' (c + 1) (c + 1) → hV f' c (mjn v w) → (r = 0 ∧ mjn v w = v ∨ r = 1 ∧ ∃ x, x < 8 ∧ mjn v w x ≠ v x) → Q r (f', ρ)) : P_V_join 183 c d (f, ρ) Q := by
  have hc' := hc
  have hd' := hd
  unfold zv_ at hc' hd'
  have key : ∀ (m k : Nat) (f' : zf) (r : Int32), k + m = 8 → fr2 f f' (c + 1) (c + 1) → bo (f' (c + 1)) 8 → (∀ i, i < k → (if f' (c + 1) i = 0 then some (f (c + 2) i) else none) = mjn v w i) → (∀ i, k ≤ i → f' (c + 1) i = f (c + 1) i) → (r = 0 ∧ (∀ i, i < k → mjn v w i = v i) ∨ r = 1 ∧ ∃ x, x < 8 ∧ mjn v w x ≠ v x) → P_V_join_4 183 Q (m + 1) c d r (nn k) (f', ρ) := by
    intro m
    induction m with
    | zero =>
      intro k f' r hk h1 hb h2 h3 h4
      unfold P_V_join_4
      rw [show (8 : Int32) = nn 8 from rfl, nn_le (by omega) (by omega)]
      have h8 : ∀ x, 8 ≤ x → mjn v w x = some 0 ∧ v x = some 0 := fun x hx => by
        have q1 : v x = some 0 := by rw [← hv.2]; exact if_neg (by omega)
        have q2 : w x = some 0 := by rw [← hw.2]; exact if_neg (by omega)
        unfold mjn; rw [q1, q2]; exact ⟨rfl, rfl⟩
      refine ⟨fun _ => ⟨?_, h f' r h1 ⟨hb, ?_⟩ ?_⟩, fun h' => absurd (show 8 ≤ k by omega) h'⟩
      · rcases h4 with h4 | h4
        · exact Or.inl h4.1
        · exact Or.inr h4.1
      · funext x
        unfold av
        by_cases hx : x < 8
        · rw [if_pos hx, h1 (c + 2) (by omega) (by omega)]; exact h2 x (by omega)
        · rw [if_neg hx, (h8 x (by omega)).1]
      · rcases h4 with h4 | h4
        · refine Or.inl ⟨h4.1, funext fun x => ?_⟩
          by_cases hx : x < 8
          · exact h4.2 x (by omega)
          · rw [(h8 x (by omega)).1, (h8 x (by omega)).2]
        · exact Or.inr h4
    | succ m ih =>
      intro k f' r hk h1 hb h2 h3 h4
      unfold P_V_join_4
      rw [show (8 : Int32) = nn 8 from rfl, nn_le (by omega) (by omega)]
      refine ⟨fun h' => absurd h' (by omega), fun _ => ?_⟩
      have e1 : f' (d + 1) = f (d + 1) := h1 _ (by omega) (by omega)
      have e2 : f' (d + 2) = f (d + 2) := h1 _ (by omega) (by omega)
      have e3 : f' (c + 2) = f (c + 2) := h1 _ (by omega) (by omega)
      have e4 : f' (c + 1) k = f (c + 1) k := h3 k (Nat.le_refl k)
      unfold P_V_join_52 P_V_join_43
      simp (disch := (first | assumption | omega)) only [true_and, and_true, zr_u, zi_u, zI_u, Option.some.injEq, exists_eq_left', nn_tn, nn_add, nn_s, nn_2, nn_5, nn_7, nn_8, na0, na2, na3, na4, na5, na6, uf_ne, uf_eq, ur_eq, ur_ne, true_or, or_true, not_true_eq_false, not_false_eq_true, true_implies, false_implies, implies_true, e10, e01, reduceIte, Option.isSome_none, Option.isSome_some, Bool.false_eq_true, bi_t, bi_f, ko_v_i, rc_v0_i hC, rc_v1_i hC, ka_v1_i, ka_v2_i, e1, e2, e3, e4, P_V_join_52, nar_b1]
      have hk8 : k < 8 := by omega
      have hvk := hv.k hk8
      have hwk := hw.k hk8
      have stay : mjn v w k = v k → P_V_join_4 183 Q (m + 1) c d r (nn (k + 1)) (f', ρ) := by
        intro hj
        refine ih (k + 1) f' r (by omega) h1 hb (fun i hi => ?_) (fun i hi => h3 i (by omega)) ?_
        · by_cases e : i = k
          · subst e; rw [hj, hvk, e4]
          · exact h2 i (by omega)
        · rcases h4 with h4 | h4
          · refine Or.inl ⟨h4.1, fun i hi => ?_⟩
            by_cases e : i = k
            · subst e; exact hj
            · exact h4.2 i (by omega)
          · exact Or.inr h4
      have move : f (c + 1) k = 0 → mjn v w k = none → P_V_join_4 183 Q (m + 1) c d 1 (nn (k + 1)) (uf f' (c + 1) k 1, ρ) := by
        intro ha hj
        refine ih (k + 1) _ 1 (by omega) (fun a q1 q2 => ?_) (fun i hi => ?_) (fun i hi => ?_) (fun i hi => ?_) (Or.inr ⟨rfl, k, hk8, ?_⟩)
        · simp (disch := (first | assumption | omega)) only [true_and, and_true, zr_u, zi_u, zI_u, Option.some.injEq, exists_eq_left', nn_tn, nn_add, nn_s, nn_2, nn_5, nn_7, nn_8, na0, na2, na3, na4, na5, na6, uf_ne, uf_eq, ur_eq, ur_ne, true_or, or_true, not_true_eq_false, not_false_eq_true, true_implies, false_implies, implies_true, e10, e01, reduceIte, Option.isSome_none, Option.isSome_some, Bool.false_eq_true, bi_t, bi_f]
          exact h1 a q1 q2
        · by_cases e : i = k
          · subst e; simp (disch := (first | assumption | omega)) only [true_and, and_true, zr_u, zi_u, zI_u, Option.some.injEq, exists_eq_left', nn_tn, nn_add, nn_s, nn_2, nn_5, nn_7, nn_8, na0, na2, na3, na4, na5, na6, uf_ne, uf_eq, ur_eq, ur_ne, true_or, or_true, not_true_eq_false, not_false_eq_true, true_implies, false_implies, implies_true, e10, e01, reduceIte, Option.isSome_none, Option.isSome_some, Bool.false_eq_true, bi_t, bi_f]
          · simp (disch := (first | assumption | omega)) only [true_and, and_true, zr_u, zi_u, zI_u, Option.some.injEq, exists_eq_left', nn_tn, nn_add, nn_s, nn_2, nn_5, nn_7, nn_8, na0, na2, na3, na4, na5, na6, uf_ne, uf_eq, ur_eq, ur_ne, true_or, or_true, not_true_eq_false, not_false_eq_true, true_implies, false_implies, implies_true, e10, e01, reduceIte, Option.isSome_none, Option.isSome_some, Bool.false_eq_true, bi_t, bi_f]
            exact hb i hi
        · by_cases e : i = k
          · subst e; simp (disch := (first | assumption | omega)) only [true_and, and_true, zr_u, zi_u, zI_u, Option.some.injEq, exists_eq_left', nn_tn, nn_add, nn_s, nn_2, nn_5, nn_7, nn_8, na0, na2, na3, na4, na5, na6, uf_ne, uf_eq, ur_eq, ur_ne, true_or, or_true, not_true_eq_false, not_false_eq_true, true_implies, false_implies, implies_true, e10, e01, reduceIte, Option.isSome_none, Option.isSome_some, Bool.false_eq_true, bi_t, bi_f, hj]
          · simp (disch := (first | assumption | omega)) only [true_and, and_true, zr_u, zi_u, zI_u, Option.some.injEq, exists_eq_left', nn_tn, nn_add, nn_s, nn_2, nn_5, nn_7, nn_8, na0, na2, na3, na4, na5, na6, uf_ne, uf_eq, ur_eq, ur_ne, true_or, or_true, not_true_eq_false, not_false_eq_true, true_implies, false_implies, implies_true, e10, e01, reduceIte, Option.isSome_none, Option.isSome_some, Bool.false_eq_true, bi_t, bi_f]
            exact h2 i (by omega)
        · simp (disch := (first | assumption | omega)) only [true_and, and_true, zr_u, zi_u, zI_u, Option.some.injEq, exists_eq_left', nn_tn, nn_add, nn_s, nn_2, nn_5, nn_7, nn_8, na0, na2, na3, na4, na5, na6, uf_ne, uf_eq, ur_eq, ur_ne, true_or, or_true, not_true_eq_false, not_false_eq_true, true_implies, false_implies, implies_true, e10, e01, reduceIte, Option.isSome_none, Option.isSome_some, Bool.false_eq_true, bi_t, bi_f]
          exact h3 i (by omega)
        · rw [hj, hvk, if_pos ha]; exact fun h => by cases h
      refine ⟨fun ha => stay ?_, fun ha => ⟨fun hb' => move ha ?_, fun hb' => ⟨fun hq => stay ?_, fun hq => move ha ?_⟩⟩⟩
      · rw [if_neg ha] at hvk
        unfold mjn; rw [hvk]; split <;> rfl
      · rw [if_pos ha] at hvk; rw [if_neg hb'] at hwk
        unfold mjn; rw [hvk, hwk]; rfl
      · rw [if_pos ha] at hvk; rw [if_pos hb'] at hwk
        unfold mjn; rw [hvk, hwk, hq, if_pos rfl]
      · rw [if_pos ha] at hvk; rw [if_pos hb'] at hwk
        unfold mjn; rw [hvk, hwk, if_neg (fun h => hq (Option.some.inj h))]
  exact ⟨9, key 8 0 f 0 rfl (fun _ _ _ => rfl) hv.1 (fun _ hi => absurd hi (by omega)) (fun _ _ => rfl) (Or.inl ⟨rfl, fun _ hi => absurd hi (by omega)⟩)⟩
theorem s_knows_i {f : zf} {ρ : zo} (hC : zCi ρ) {c p s : Nat} {v : mV} {o : mO} {Q : Int32 → zS → Prop} (hc : zv_ c) (hp : zp_ p) (hs : s < 184) (hv : hV f c v) (ho : oC (f (p + 4)) (f (p + 5)) s o) (h : Q (bi (mop v o).isSome) (f, ρ)) : P_V_knows 183 c p (nn s) (f, ρ) Q := by
  unfold P_V_knows P_V_knows_23 P_V_knows_28
  simp (disch := (first | assumption | omega)) only [true_and, and_true, zr_u, zi_u, zI_u, Option.some.injEq, exists_eq_left', nn_tn, nn_add, nn_s, nn_2, nn_5, nn_7, nn_8, na0, na2, na3, na4, na5, na6, uf_ne, uf_eq, ur_eq, ur_ne, true_or, or_true, not_true_eq_false, not_false_eq_true, true_implies, false_implies, implies_true, e10, e01, reduceIte, Option.isSome_none, Option.isSome_some, Bool.false_eq_true, bi_t, bi_f, ko_v_i, ko_p_i, rc_v0_i hC, rc_p5_i hC, rc_p6_i hC, ka_p4_i, ka_p5_i]
  cases o with
  | inl x =>
    obtain ⟨h1, h2, h3⟩ := ho
    simp (disch := (first | assumption | omega)) only [true_and, and_true, zr_u, zi_u, zI_u, Option.some.injEq, exists_eq_left', nn_tn, nn_add, nn_s, nn_2, nn_5, nn_7, nn_8, na0, na2, na3, na4, na5, na6, uf_ne, uf_eq, ur_eq, ur_ne, true_or, or_true, not_true_eq_false, not_false_eq_true, true_implies, false_implies, implies_true, e10, e01, reduceIte, Option.isSome_none, Option.isSome_some, Bool.false_eq_true, bi_t, bi_f, h1, h2, ka_v1_i]
    have hk := hv.k h3
    refine ⟨fun q => ?_, fun q => ?_⟩
    · rw [if_neg q] at hk
      have e : mop v (.inl x) = none := hk
      rw [e] at h; exact h
    · rw [if_pos q] at hk
      have e : mop v (.inl x) = some (f (c + 2) x) := hk
      rw [e] at h; exact h
  | inr y =>
    obtain ⟨h1, h2⟩ := ho
    simp (disch := (first | assumption | omega)) only [true_and, and_true, zr_u, zi_u, zI_u, Option.some.injEq, exists_eq_left', nn_tn, nn_add, nn_s, nn_2, nn_5, nn_7, nn_8, na0, na2, na3, na4, na5, na6, uf_ne, uf_eq, ur_eq, ur_ne, true_or, or_true, not_true_eq_false, not_false_eq_true, true_implies, false_implies, implies_true, e10, e01, reduceIte, Option.isSome_none, Option.isSome_some, Bool.false_eq_true, bi_t, bi_f, h1]
    exact h
theorem s_numberOf_i {f : zf} {ρ : zo} (hC : zCi ρ) {c p s : Nat} {v : mV} {Q : Int32 → zS → Prop} (hc : zv_ c) (hp : zp_ p) (hs : s < 184) (hv : hV f c v) (hK : sK f p) (h : ∀ x, (∀ o y, oC (f (p + 4)) (f (p + 5)) s o → mop v o = some y → x = y) → Q x (f, ρ)) : P_V_numberOf 183 c p (nn s) (f, ρ) Q := by
  unfold P_V_numberOf P_V_numberOf_26
  simp (disch := (first | assumption | omega)) only [true_and, and_true, zr_u, zi_u, zI_u, Option.some.injEq, exists_eq_left', nn_tn, nn_add, nn_s, nn_2, nn_5, nn_7, nn_8, na0, na2, na3, na4, na5, na6, uf_ne, uf_eq, ur_eq, ur_ne, true_or, or_true, not_true_eq_false, not_false_eq_true, true_implies, false_implies, implies_true, e10, e01, reduceIte, Option.isSome_none, Option.isSome_some, Bool.false_eq_true, bi_t, bi_f, ko_v_i, ko_p_i, rc_v1_i hC, rc_p5_i hC, rc_p6_i hC, ka_p4_i, ka_p5_i]
  refine ⟨fun q => h _ (fun o y ho hy => ?_), fun q => ?_⟩
  · cases o with
    | inl x => rw [ho.1] at q; exact absurd q (by decide)
    | inr z => rw [ho.2]; cases hy; rfl
  · rcases hK s hs with h0 | ⟨-, x, hx, h1⟩
    · exact absurd h0 q
    · simp (disch := (first | assumption | omega)) only [true_and, and_true, zr_u, zi_u, zI_u, Option.some.injEq, exists_eq_left', nn_tn, nn_add, nn_s, nn_2, nn_5, nn_7, nn_8, na0, na2, na3, na4, na5, na6, uf_ne, uf_eq, ur_eq, ur_ne, true_or, or_true, not_true_eq_false, not_false_eq_true, true_implies, false_implies, implies_true, e10, e01, reduceIte, Option.isSome_none, Option.isSome_some, Bool.false_eq_true, bi_t, bi_f, h1, ka_v2_i]
      refine h _ (fun o y ho hy => ?_)
      cases o with
      | inl z =>
        have e : x = z := by
          have := ho.2.1
          rw [h1, nn_eq (by omega) (by have := ho.2.2; omega)] at this; exact this
        subst e
        have hk := hv.k hx
        have hy' : v x = some y := hy
        rw [hk] at hy'
        split at hy'
        · exact Option.some.inj hy'
        · cases hy'
      | inr z => exact absurd ho.1 q
theorem s_reckon_i {σ : zS} {how : Nat} {x y : Int32} {Q : Int32 → zS → Prop} (hh : how < 128) (h : Q (mrk how x y) σ) : P_C_reckon 183 (nn how) x y σ Q := by
  unfold P_C_reckon P_C_reckon_115 P_C_reckon_127 P_C_reckon_150 P_C_reckon_161
  simp only [show (37 : Int32) = nn 37 from rfl, show (38 : Int32) = nn 38 from rfl, show (42 : Int32) = nn 42 from rfl, show (43 : Int32) = nn 43 from rfl, show (45 : Int32) = nn 45 from rfl, show (47 : Int32) = nn 47 from rfl, show (60 : Int32) = nn 60 from rfl, show (61 : Int32) = nn 61 from rfl, show (94 : Int32) = nn 94 from rfl, show (124 : Int32) = nn 124 from rfl]
  simp (disch := omega) only [nn_eq]
  unfold mrk at h
  refine ⟨?_, ?_, ?_, ?_, ?_, ?_, ?_, ?_, ?_, ?_, ?_⟩
  · intro e; subst e; simp only [reduceIte, Nat.reduceEqDiff] at h
    exact ⟨fun q => ⟨q, by rw [if_neg q] at h; exact h⟩, fun q => by rw [if_pos q] at h; exact h⟩
  · intro e; subst e; simpa using h
  · intro e; subst e; simpa using h
  · intro e; subst e; simpa using h
  · intro e; subst e; simpa using h
  · intro e; subst e; simp only [reduceIte, Nat.reduceEqDiff] at h
    exact ⟨fun q => ⟨q, by rw [if_neg q] at h; exact h⟩, fun q => by rw [if_pos q] at h; exact h⟩
  · intro e; subst e; simp only [reduceIte, Nat.reduceEqDiff] at h
    exact ⟨fun q => by rw [if_neg (Int32.not_lt.mpr q)] at h; exact h, fun q => by rw [if_pos (Int32.not_le.mp q)] at h; exact h⟩
  · intro e; subst e; simp only [reduceIte, Nat.reduceEqDiff] at h
    exact ⟨fun q => by rw [if_neg q] at h; exact h, fun q => by rw [if_pos q] at h; exact h⟩
  · intro e; subst e; simpa using h
  · intro e; subst e; simpa using h
  · intro a b c d e g i j k l
    simp only [a, b, c, d, e, g, i, j, k, l, if_false] at h
    exact h
theorem s_settles_i {f : zf} {ρ : zo} (hC : zCi ρ) {c p s : Nat} {v : mV} {t : mT} {Q : Int32 → zS → Prop} (hc : zv_ c) (hp : zp_ p) (hK : sK f p) (ht : tC f p s t) (hv : hV f c v) (h : Q (bi (mev t v).isSome) (f, ρ)) : P_V_settles 183 c p (nn s) (f, ρ) Q := by
  obtain ⟨h1, h2, h3, h4, h5, h6, h7⟩ := ht
  unfold P_V_settles P_G_left P_G_right
  simp (disch := (first | assumption | omega)) only [true_and, and_true, zr_u, zi_u, zI_u, Option.some.injEq, exists_eq_left', nn_tn, nn_add, nn_s, nn_2, nn_5, nn_7, nn_8, na0, na2, na3, na4, na5, na6, uf_ne, uf_eq, ur_eq, ur_ne, true_or, or_true, not_true_eq_false, not_false_eq_true, true_implies, false_implies, implies_true, e10, e01, reduceIte, Option.isSome_none, Option.isSome_some, Bool.false_eq_true, bi_t, bi_f, ko_v_i, ko_p_i, rc_p4_i hC, ka_p3_i, h4, nn_e0, nn_e1]
  refine ⟨fun q0 => ?_, fun q0 => ?_⟩
  · refine s_knows_i hC hc hp (by omega) hv (h6 q0) ?_
    refine ⟨fun q1 => ?_, fun q1 => ?_⟩
    · refine s_knows_i hC hc hp (by omega) hv (h7 q0 q1) ?_
      unfold mev at h
      simp only [q0, q1, if_false] at h
      simp only [show (42 : Int32) = nn 42 from rfl, show (38 : Int32) = nn 38 from rfl]
      simp (disch := omega) only [nn_eq]
      unfold P_V_settles_70 P_V_settles_86 P_V_settles_84 P_V_settles_85
      cases hl : mop v t.2.2.1 with
      | none =>
        cases hr : mop v t.2.2.2 with
        | none =>
          rw [hl, hr] at h
          simp (disch := (first | assumption | omega)) only [true_and, and_true, zr_u, zi_u, zI_u, Option.some.injEq, exists_eq_left', nn_tn, nn_add, nn_s, nn_2, nn_5, nn_7, nn_8, na0, na2, na3, na4, na5, na6, uf_ne, uf_eq, ur_eq, ur_ne, true_or, or_true, not_true_eq_false, not_false_eq_true, true_implies, false_implies, implies_true, e10, e01, reduceIte, Option.isSome_none, Option.isSome_some, Bool.false_eq_true, bi_t, bi_f] at h ⊢
          exact h
        | some y =>
          rw [hl, hr] at h
          simp (disch := (first | assumption | omega)) only [true_and, and_true, zr_u, zi_u, zI_u, Option.some.injEq, exists_eq_left', nn_tn, nn_add, nn_s, nn_2, nn_5, nn_7, nn_8, na0, na2, na3, na4, na5, na6, uf_ne, uf_eq, ur_eq, ur_ne, true_or, or_true, not_true_eq_false, not_false_eq_true, true_implies, false_implies, implies_true, e10, e01, reduceIte, Option.isSome_none, Option.isSome_some, Bool.false_eq_true, bi_t, bi_f] at h ⊢
          have go : (t.2.1 = 42 ∨ t.2.1 = 38) → P_V_settles_100 183 Q c p (nn (2 * s + 1)) (f, ρ) := by
            intro hm
            unfold P_V_settles_100 P_V_settles_111
            refine ⟨by rw [ko_v_i hc]; trivial, ?_⟩
            refine s_numberOf_i hC hc hp (by omega) hv hK (fun x hx => ?_)
            have e := hx _ _ (h7 q0 q1) hr
            subst e
            simp (disch := (first | assumption | omega)) only [true_and, and_true, zr_u, zi_u, zI_u, Option.some.injEq, exists_eq_left', nn_tn, nn_add, nn_s, nn_2, nn_5, nn_7, nn_8, na0, na2, na3, na4, na5, na6, uf_ne, uf_eq, ur_eq, ur_ne, true_or, or_true, not_true_eq_false, not_false_eq_true, true_implies, false_implies, implies_true, e10, e01, reduceIte, Option.isSome_none, Option.isSome_some, Bool.false_eq_true, bi_t, bi_f]
            refine ⟨fun q => ?_, fun q => ?_⟩
            · rw [show (if x = 0 ∧ (t.2.1 = 42 ∨ t.2.1 = 38) then some (0 : Int32) else none) = none from if_neg (fun hq => q hq.1)] at h; exact h
            · rw [show (if x = 0 ∧ (t.2.1 = 42 ∨ t.2.1 = 38) then some (0 : Int32) else none) = some 0 from if_pos ⟨q, hm⟩] at h; exact h
          refine ⟨fun hm => go (Or.inl hm), fun hm => ⟨fun hm' => go (Or.inr hm'), fun hm' => ?_⟩⟩
          rw [show (if y = 0 ∧ (t.2.1 = 42 ∨ t.2.1 = 38) then some (0 : Int32) else none) = none from if_neg (fun hq => hq.2.elim hm hm')] at h; exact h
      | some x =>
        cases hr : mop v t.2.2.2 with
        | none =>
          rw [hl, hr] at h
          simp (disch := (first | assumption | omega)) only [true_and, and_true, zr_u, zi_u, zI_u, Option.some.injEq, exists_eq_left', nn_tn, nn_add, nn_s, nn_2, nn_5, nn_7, nn_8, na0, na2, na3, na4, na5, na6, uf_ne, uf_eq, ur_eq, ur_ne, true_or, or_true, not_true_eq_false, not_false_eq_true, true_implies, false_implies, implies_true, e10, e01, reduceIte, Option.isSome_none, Option.isSome_some, Bool.false_eq_true, bi_t, bi_f] at h ⊢
          have go : (t.2.1 = 42 ∨ t.2.1 = 38) → P_V_settles_100 183 Q c p (nn (2 * s)) (f, ρ) := by
            intro hm
            unfold P_V_settles_100 P_V_settles_111
            refine ⟨by rw [ko_v_i hc]; trivial, ?_⟩
            refine s_numberOf_i hC hc hp (by omega) hv hK (fun x hx => ?_)
            have e := hx _ _ (h6 q0) hl
            subst e
            simp (disch := (first | assumption | omega)) only [true_and, and_true, zr_u, zi_u, zI_u, Option.some.injEq, exists_eq_left', nn_tn, nn_add, nn_s, nn_2, nn_5, nn_7, nn_8, na0, na2, na3, na4, na5, na6, uf_ne, uf_eq, ur_eq, ur_ne, true_or, or_true, not_true_eq_false, not_false_eq_true, true_implies, false_implies, implies_true, e10, e01, reduceIte, Option.isSome_none, Option.isSome_some, Bool.false_eq_true, bi_t, bi_f]
            refine ⟨fun q => ?_, fun q => ?_⟩
            · rw [show (if x = 0 ∧ (t.2.1 = 42 ∨ t.2.1 = 38) then some (0 : Int32) else none) = none from if_neg (fun hq => q hq.1)] at h; exact h
            · rw [show (if x = 0 ∧ (t.2.1 = 42 ∨ t.2.1 = 38) then some (0 : Int32) else none) = some 0 from if_pos ⟨q, hm⟩] at h; exact h
          refine ⟨fun hm => go (Or.inl hm), fun hm => ⟨fun hm' => go (Or.inr hm'), fun hm' => ?_⟩⟩
          rw [show (if x = 0 ∧ (t.2.1 = 42 ∨ t.2.1 = 38) then some (0 : Int32) else none) = none from if_neg (fun hq => hq.2.elim hm hm')] at h; exact h
        | some y =>
          rw [hl, hr] at h
          simp (disch := (first | assumption | omega)) only [true_and, and_true, zr_u, zi_u, zI_u, Option.some.injEq, exists_eq_left', nn_tn, nn_add, nn_s, nn_2, nn_5, nn_7, nn_8, na0, na2, na3, na4, na5, na6, uf_ne, uf_eq, ur_eq, ur_ne, true_or, or_true, not_true_eq_false, not_false_eq_true, true_implies, false_implies, implies_true, e10, e01, reduceIte, Option.isSome_none, Option.isSome_some, Bool.false_eq_true, bi_t, bi_f] at h ⊢
          exact h
    · unfold mev at h
      simp only [q1, if_true] at h
      simp only [show ¬ (1 = 0) by decide, if_false] at h
      refine ⟨?_, h⟩
      cases (mop v t.2.2.1).isSome
      · exact Or.inl rfl
      · exact Or.inr rfl
  · unfold mev at h
    rw [if_pos q0] at h; exact h
theorem s_settled_i {f : zf} {ρ : zo} (hC : zCi ρ) {c p s : Nat} {v : mV} {t : mT} {r : Int32} {Q : Int32 → zS → Prop} (hc : zv_ c) (hp : zp_ p) (hK : sK f p) (ht : tC f p s t) (hv : hV f c v) (he : mev t v = some r) (h : Q r (f, ρ)) : P_V_settled 183 c p (nn s) (f, ρ) Q := by
  obtain ⟨h1, h2, h3, h4, h5, h6, h7⟩ := ht
  unfold P_V_settled P_G_left P_G_right
  simp (disch := (first | assumption | omega)) only [true_and, and_true, zr_u, zi_u, zI_u, Option.some.injEq, exists_eq_left', nn_tn, nn_add, nn_s, nn_2, nn_5, nn_7, nn_8, na0, na2, na3, na4, na5, na6, uf_ne, uf_eq, ur_eq, ur_ne, true_or, or_true, not_true_eq_false, not_false_eq_true, true_implies, false_implies, implies_true, e10, e01, reduceIte, Option.isSome_none, Option.isSome_some, Bool.false_eq_true, bi_t, bi_f, ko_v_i]
  refine s_numberOf_i hC hc hp (by omega) hv hK (fun x hx => ?_)
  refine s_numberOf_i hC hc hp (by omega) hv hK (fun y hy => ?_)
  simp (disch := (first | assumption | omega)) only [true_and, and_true, zr_u, zi_u, zI_u, Option.some.injEq, exists_eq_left', nn_tn, nn_add, nn_s, nn_2, nn_5, nn_7, nn_8, na0, na2, na3, na4, na5, na6, uf_ne, uf_eq, ur_eq, ur_ne, true_or, or_true, not_true_eq_false, not_false_eq_true, true_implies, false_implies, implies_true, e10, e01, reduceIte, Option.isSome_none, Option.isSome_some, Bool.false_eq_true, bi_t, bi_f, ko_p_i, rc_p4_i hC, ka_p3_i, h4]
  refine s_reckon_i (by omega) ?_
  unfold mev at he
  by_cases q0 : t.2.1 = 0
  · rw [if_pos q0] at he; cases he
  rw [if_neg q0] at he
  by_cases q1 : t.2.1 = 1
  · rw [if_pos q1] at he
    rw [q1]
    have e := hx _ _ (h6 q0) he
    subst e
    exact h
  rw [if_neg q1] at he
  cases hl : mop v t.2.2.1 with
  | none =>
    cases hr : mop v t.2.2.2 with
    | none => rw [hl, hr] at he; cases he
    | some b =>
      rw [hl, hr] at he
      simp only at he
      split at he
      · next hq =>
        cases he
        have e := hy _ _ (h7 q0 q1) hr
        rw [e, hq.1, mrk_z2 x hq.2]; exact h
      · cases he
  | some a =>
    have ea := hx _ _ (h6 q0) hl
    cases hr : mop v t.2.2.2 with
    | none =>
      rw [hl, hr] at he
      simp only at he
      split at he
      · next hq =>
        cases he
        rw [ea, hq.1, mrk_z1 y hq.2]; exact h
      · cases he
    | some b =>
      rw [hl, hr] at he
      have eb := hy _ _ (h7 q0 q1) hr
      simp only [Option.some.injEq] at he
      rw [ea, eb, he]; exact h
theorem s_assign_i {f : zf} {ρ : zo} (hC : zCi ρ) {c p s : Nat} {v : mV} {t : mT} {Q : zS → Prop} (hc : zv_ c) (hp : zp_ p) (hK : sK f p) (ht : tC f p s t) (hv : hV f c v) (h : ∀ f', fr2 f f' (c + 1) (c + 2) → hV f' c (mst v t) → Q (f', ρ)) : P_V_assign 183 c p (nn s) (f, ρ) Q := by
  have hc' := hc
  unfold zv_ at hc'
  have ht' := ht
  obtain ⟨h1, h2, h3, h4, h5, h6, h7⟩ := ht
  unfold P_V_assign P_V_assign_32 P_V_assign_47
  simp (disch := (first | assumption | omega)) only [true_and, and_true, zr_u, zi_u, zI_u, Option.some.injEq, exists_eq_left', nn_tn, nn_add, nn_s, nn_2, nn_5, nn_7, nn_8, na0, na2, na3, na4, na5, na6, uf_ne, uf_eq, ur_eq, ur_ne, true_or, or_true, not_true_eq_false, not_false_eq_true, true_implies, false_implies, implies_true, e10, e01, reduceIte, Option.isSome_none, Option.isSome_some, Bool.false_eq_true, bi_t, bi_f, ko_v_i, ko_p_i, rc_p3_i hC, ka_p2_i, h2]
  refine s_settles_i hC hc hp hK ht' hv ?_
  have fin : ∀ f', fr2 f f' (c + 1) (c + 2) → (∀ x, x < 8 → (f' (c + 1) x = 0 ∨ f' (c + 1) x = 1)) → (∀ x, x < 8 → x ≠ t.1 → f' (c + 1) x = f (c + 1) x ∧ f' (c + 2) x = f (c + 2) x) → ((if f' (c + 1) t.1 = 0 then some (f' (c + 2) t.1) else none) = mev t v) → Q (f', ρ) := by
    intro f' q1 q2 q3 q4
    refine h f' q1 ⟨q2, funext fun x => ?_⟩
    unfold av mst mas
    by_cases hx : x < 8
    · rw [if_pos hx]
      by_cases e : x = t.1
      · subst e; rw [if_pos rfl]; exact q4
      · rw [if_neg e, (q3 x hx e).1, (q3 x hx e).2, hv.k hx]
    · rw [if_neg hx, if_neg (by omega), ← hv.2]; exact (if_neg hx).symm
  cases he : mev t v with
  | none =>
    simp (disch := (first | assumption | omega)) only [true_and, and_true, zr_u, zi_u, zI_u, Option.some.injEq, exists_eq_left', nn_tn, nn_add, nn_s, nn_2, nn_5, nn_7, nn_8, na0, na2, na3, na4, na5, na6, uf_ne, uf_eq, ur_eq, ur_ne, true_or, or_true, not_true_eq_false, not_false_eq_true, true_implies, false_implies, implies_true, e10, e01, reduceIte, Option.isSome_none, Option.isSome_some, Bool.false_eq_true, bi_t, bi_f, rc_v0_i hC, ka_v1_i, nar_b1]
    refine fin _ (fun a qa qb => ?_) (fun x hx => ?_) (fun x hx hne => ?_) ?_
    · simp (disch := (first | assumption | omega)) only [true_and, and_true, zr_u, zi_u, zI_u, Option.some.injEq, exists_eq_left', nn_tn, nn_add, nn_s, nn_2, nn_5, nn_7, nn_8, na0, na2, na3, na4, na5, na6, uf_ne, uf_eq, ur_eq, ur_ne, true_or, or_true, not_true_eq_false, not_false_eq_true, true_implies, false_implies, implies_true, e10, e01, reduceIte, Option.isSome_none, Option.isSome_some, Bool.false_eq_true, bi_t, bi_f]
    · by_cases e : x = t.1
      · subst e; simp (disch := (first | assumption | omega)) only [true_and, and_true, zr_u, zi_u, zI_u, Option.some.injEq, exists_eq_left', nn_tn, nn_add, nn_s, nn_2, nn_5, nn_7, nn_8, na0, na2, na3, na4, na5, na6, uf_ne, uf_eq, ur_eq, ur_ne, true_or, or_true, not_true_eq_false, not_false_eq_true, true_implies, false_implies, implies_true, e10, e01, reduceIte, Option.isSome_none, Option.isSome_some, Bool.false_eq_true, bi_t, bi_f]
      · simp (disch := (first | assumption | omega)) only [true_and, and_true, zr_u, zi_u, zI_u, Option.some.injEq, exists_eq_left', nn_tn, nn_add, nn_s, nn_2, nn_5, nn_7, nn_8, na0, na2, na3, na4, na5, na6, uf_ne, uf_eq, ur_eq, ur_ne, true_or, or_true, not_true_eq_false, not_false_eq_true, true_implies, false_implies, implies_true, e10, e01, reduceIte, Option.isSome_none, Option.isSome_some, Bool.false_eq_true, bi_t, bi_f]
        exact hv.1 x hx
    · simp (disch := (first | assumption | omega)) only [true_and, and_true, zr_u, zi_u, zI_u, Option.some.injEq, exists_eq_left', nn_tn, nn_add, nn_s, nn_2, nn_5, nn_7, nn_8, na0, na2, na3, na4, na5, na6, uf_ne, uf_eq, ur_eq, ur_ne, true_or, or_true, not_true_eq_false, not_false_eq_true, true_implies, false_implies, implies_true, e10, e01, reduceIte, Option.isSome_none, Option.isSome_some, Bool.false_eq_true, bi_t, bi_f]
    · simp (disch := (first | assumption | omega)) only [true_and, and_true, zr_u, zi_u, zI_u, Option.some.injEq, exists_eq_left', nn_tn, nn_add, nn_s, nn_2, nn_5, nn_7, nn_8, na0, na2, na3, na4, na5, na6, uf_ne, uf_eq, ur_eq, ur_ne, true_or, or_true, not_true_eq_false, not_false_eq_true, true_implies, false_implies, implies_true, e10, e01, reduceIte, Option.isSome_none, Option.isSome_some, Bool.false_eq_true, bi_t, bi_f, he]
  | some r =>
    simp (disch := (first | assumption | omega)) only [true_and, and_true, zr_u, zi_u, zI_u, Option.some.injEq, exists_eq_left', nn_tn, nn_add, nn_s, nn_2, nn_5, nn_7, nn_8, na0, na2, na3, na4, na5, na6, uf_ne, uf_eq, ur_eq, ur_ne, true_or, or_true, not_true_eq_false, not_false_eq_true, true_implies, false_implies, implies_true, e10, e01, reduceIte, Option.isSome_none, Option.isSome_some, Bool.false_eq_true, bi_t, bi_f, rc_v1_i hC]
    refine s_settled_i hC hc hp hK ht' hv he ?_
    simp (disch := (first | assumption | omega)) only [true_and, and_true, zr_u, zi_u, zI_u, Option.some.injEq, exists_eq_left', nn_tn, nn_add, nn_s, nn_2, nn_5, nn_7, nn_8, na0, na2, na3, na4, na5, na6, uf_ne, uf_eq, ur_eq, ur_ne, true_or, or_true, not_true_eq_false, not_false_eq_true, true_implies, false_implies, implies_true, e10, e01, reduceIte, Option.isSome_none, Option.isSome_some, Bool.false_eq_true, bi_t, bi_f, rc_v0_i hC, ka_v1_i, ka_v2_i, nar_b0]
    refine fin _ (fun a qa qb => ?_) (fun x hx => ?_) (fun x hx hne => ?_) ?_
    · simp (disch := (first | assumption | omega)) only [true_and, and_true, zr_u, zi_u, zI_u, Option.some.injEq, exists_eq_left', nn_tn, nn_add, nn_s, nn_2, nn_5, nn_7, nn_8, na0, na2, na3, na4, na5, na6, uf_ne, uf_eq, ur_eq, ur_ne, true_or, or_true, not_true_eq_false, not_false_eq_true, true_implies, false_implies, implies_true, e10, e01, reduceIte, Option.isSome_none, Option.isSome_some, Bool.false_eq_true, bi_t, bi_f]
    · by_cases e : x = t.1
      · subst e; simp (disch := (first | assumption | omega)) only [true_and, and_true, zr_u, zi_u, zI_u, Option.some.injEq, exists_eq_left', nn_tn, nn_add, nn_s, nn_2, nn_5, nn_7, nn_8, na0, na2, na3, na4, na5, na6, uf_ne, uf_eq, ur_eq, ur_ne, true_or, or_true, not_true_eq_false, not_false_eq_true, true_implies, false_implies, implies_true, e10, e01, reduceIte, Option.isSome_none, Option.isSome_some, Bool.false_eq_true, bi_t, bi_f]
      · simp (disch := (first | assumption | omega)) only [true_and, and_true, zr_u, zi_u, zI_u, Option.some.injEq, exists_eq_left', nn_tn, nn_add, nn_s, nn_2, nn_5, nn_7, nn_8, na0, na2, na3, na4, na5, na6, uf_ne, uf_eq, ur_eq, ur_ne, true_or, or_true, not_true_eq_false, not_false_eq_true, true_implies, false_implies, implies_true, e10, e01, reduceIte, Option.isSome_none, Option.isSome_some, Bool.false_eq_true, bi_t, bi_f]
        exact hv.1 x hx
    · simp (disch := (first | assumption | omega)) only [true_and, and_true, zr_u, zi_u, zI_u, Option.some.injEq, exists_eq_left', nn_tn, nn_add, nn_s, nn_2, nn_5, nn_7, nn_8, na0, na2, na3, na4, na5, na6, uf_ne, uf_eq, ur_eq, ur_ne, true_or, or_true, not_true_eq_false, not_false_eq_true, true_implies, false_implies, implies_true, e10, e01, reduceIte, Option.isSome_none, Option.isSome_some, Bool.false_eq_true, bi_t, bi_f]
    · simp (disch := (first | assumption | omega)) only [true_and, and_true, zr_u, zi_u, zI_u, Option.some.injEq, exists_eq_left', nn_tn, nn_add, nn_s, nn_2, nn_5, nn_7, nn_8, na0, na2, na3, na4, na5, na6, uf_ne, uf_eq, ur_eq, ur_ne, true_or, or_true, not_true_eq_false, not_false_eq_true, true_implies, false_implies, implies_true, e10, e01, reduceIte, Option.isSome_none, Option.isSome_some, Bool.false_eq_true, bi_t, bi_f, he]
theorem s_comeTo_i {f : zf} {ρ : zo} (hC : zCi ρ) {c q : Nat} {F : mF} {w : mV} {Q : zS → Prop} (hq : q < 24) (hc : zv_ c) (hcq : c ≠ 20 + 6 * q) (hF : rC f F) (hw : hV f c w) (h : ∀ f', (∀ a, a ≠ 8 → a ≠ 9 → a ≠ 20 + 6 * q + 1 → a ≠ 20 + 6 * q + 2 → f' a = f a) → rC f' (mpu F q (mjo (F q) w)) → (mpu F q (mjo (F q) w) = F ∧ f' 9 = f 9 ∨ f' 9 = ur (f 9) q 1 ∧ mph F 24 < mph (mpu F q (mjo (F q) w)) 24) → Q (f', ρ)) : P_F_comeTo 183 7 (nn q) c (f, ρ) Q := by
  have hv := zv_b hq
  have hc' := hc
  unfold zv_ at hc'
  have hB := hF.1 q hq
  unfold P_F_comeTo P_F_comeTo_56
  simp (disch := (first | assumption | omega)) only [true_and, and_true, zr_u, zi_u, zI_u, Option.some.injEq, exists_eq_left', nn_tn, nn_add, nn_s, nn_2, nn_5, nn_7, nn_8, na0, na2, na3, na4, na5, na6, uf_ne, uf_eq, ur_eq, ur_ne, true_or, or_true, not_true_eq_false, not_false_eq_true, true_implies, false_implies, implies_true, e10, e01, reduceIte, Option.isSome_none, Option.isSome_some, Bool.false_eq_true, bi_t, bi_f, ko_7_i, rc_7_0_i hC, rc_7_1_i hC, rc_7_2_i hC, ka_8_i, ka_9_i, ka_10_i, rc_b_i hC, ko_v_i, nar_b1]
  have put : ∀ (f' : zf) (z : mV), (∀ a, a ≠ 8 → a ≠ 9 → a ≠ 20 + 6 * q + 1 → a ≠ 20 + 6 * q + 2 → f' a = f a) → (∀ j, j ≠ q → f' 8 j = f 8 j) → f' 8 q = 1 → hV f' (20 + 6 * q) z → rC f' (mpu F q z) := by
    intro f' z q1 q2 q3 q4
    refine ⟨fun b hb => ?_, fun b hb => ?_⟩
    · unfold mpu
      by_cases e : b = q
      · subst e; rw [if_pos rfl]; exact ⟨q3, q4⟩
      · rw [if_neg e]
        exact (hF.1 b hb).same (q2 b e) (q1 _ (by omega) (by omega) (by omega) (by omega)) (q1 _ (by omega) (by omega) (by omega) (by omega))
    · unfold mpu; rw [if_neg (by omega)]; exact hF.2 b hb
  cases ho : F q with
  | none =>
    rw [ho] at hB
    have hB : f 8 q = 0 := hB
    rw [ho] at h
    refine ⟨fun z => absurd hB z, fun _ => ?_⟩
    refine s_become_i hC hv hc (fun e => hcq e.symm) (hw.same (by simp (disch := (first | assumption | omega)) only [true_and, and_true, zr_u, zi_u, zI_u, Option.some.injEq, exists_eq_left', nn_tn, nn_add, nn_s, nn_2, nn_5, nn_7, nn_8, na0, na2, na3, na4, na5, na6, uf_ne, uf_eq, ur_eq, ur_ne, true_or, or_true, not_true_eq_false, not_false_eq_true, true_implies, false_implies, implies_true, e10, e01, reduceIte, Option.isSome_none, Option.isSome_some, Bool.false_eq_true, bi_t, bi_f]) (by simp (disch := (first | assumption | omega)) only [true_and, and_true, zr_u, zi_u, zI_u, Option.some.injEq, exists_eq_left', nn_tn, nn_add, nn_s, nn_2, nn_5, nn_7, nn_8, na0, na2, na3, na4, na5, na6, uf_ne, uf_eq, ur_eq, ur_ne, true_or, or_true, not_true_eq_false, not_false_eq_true, true_implies, false_implies, implies_true, e10, e01, reduceIte, Option.isSome_none, Option.isSome_some, Bool.false_eq_true, bi_t, bi_f])) (fun f' r1 r2 => ?_)
    have fr : ∀ a, a ≠ 8 → a ≠ 9 → a ≠ 20 + 6 * q + 1 → a ≠ 20 + 6 * q + 2 → f' a = f a := fun a z1 z2 z3 z4 => by
      rw [r1 a z3 z4]; simp (disch := (first | assumption | omega)) only [true_and, and_true, zr_u, zi_u, zI_u, Option.some.injEq, exists_eq_left', nn_tn, nn_add, nn_s, nn_2, nn_5, nn_7, nn_8, na0, na2, na3, na4, na5, na6, uf_ne, uf_eq, ur_eq, ur_ne, true_or, or_true, not_true_eq_false, not_false_eq_true, true_implies, false_implies, implies_true, e10, e01, reduceIte, Option.isSome_none, Option.isSome_some, Bool.false_eq_true, bi_t, bi_f]
    have e8 : f' 8 = ur (f 8) q 1 := by rw [r1 8 (by omega) (by omega)]; simp (disch := (first | assumption | omega)) only [true_and, and_true, zr_u, zi_u, zI_u, Option.some.injEq, exists_eq_left', nn_tn, nn_add, nn_s, nn_2, nn_5, nn_7, nn_8, na0, na2, na3, na4, na5, na6, uf_ne, uf_eq, ur_eq, ur_ne, true_or, or_true, not_true_eq_false, not_false_eq_true, true_implies, false_implies, implies_true, e10, e01, reduceIte, Option.isSome_none, Option.isSome_some, Bool.false_eq_true, bi_t, bi_f]
    have e9 : f' 9 = ur (f 9) q 1 := by rw [r1 9 (by omega) (by omega)]; simp (disch := (first | assumption | omega)) only [true_and, and_true, zr_u, zi_u, zI_u, Option.some.injEq, exists_eq_left', nn_tn, nn_add, nn_s, nn_2, nn_5, nn_7, nn_8, na0, na2, na3, na4, na5, na6, uf_ne, uf_eq, ur_eq, ur_ne, true_or, or_true, not_true_eq_false, not_false_eq_true, true_implies, false_implies, implies_true, e10, e01, reduceIte, Option.isSome_none, Option.isSome_some, Bool.false_eq_true, bi_t, bi_f]
    refine h f' fr (put f' w fr (fun j hj => by rw [e8, ur_ne _ hj]) (by rw [e8, ur_eq]) r2) (Or.inr ⟨e9, ?_⟩)
    have := mpu_ph_lt (F := F) (q := q) (w := w) hq (Or.inl ho)
    rw [ho] at this; exact this
  | some v =>
    rw [ho] at hB h
    refine ⟨fun _ => ?_, fun z => absurd (hB.1.symm.trans z) (by decide)⟩
    refine s_join_i hC hv hc (fun e => hcq e.symm) hB.2 hw (fun f' r r1 r2 r3 => ?_)
    have fr : ∀ a, a ≠ 8 → a ≠ 9 → a ≠ 20 + 6 * q + 1 → a ≠ 20 + 6 * q + 2 → f' a = f a := fun a z1 z2 z3 z4 => r1 a z3 z3
    have e8 : f' 8 = f 8 := r1 8 (by omega) (by omega)
    have e9 : f' 9 = f 9 := r1 9 (by omega) (by omega)
    simp (disch := (first | assumption | omega)) only [true_and, and_true, zr_u, zi_u, zI_u, Option.some.injEq, exists_eq_left', nn_tn, nn_add, nn_s, nn_2, nn_5, nn_7, nn_8, na0, na2, na3, na4, na5, na6, uf_ne, uf_eq, ur_eq, ur_ne, true_or, or_true, not_true_eq_false, not_false_eq_true, true_implies, false_implies, implies_true, e10, e01, reduceIte, Option.isSome_none, Option.isSome_some, Bool.false_eq_true, bi_t, bi_f, rc_7_1_i hC, ka_9_i, nar_b1]
    refine ⟨fun z => ?_, fun z => ?_⟩
    · rcases r3 with ⟨r3, r4⟩ | ⟨r3, -⟩
      · refine h f' fr (put f' _ fr (fun j hj => by rw [e8]) (by rw [e8]; exact hB.1) r2) (Or.inl ⟨?_, e9⟩)
        show mpu F q (mjn v w) = F
        rw [r4]; exact mpu_self ho
      · rw [r3] at z; exact absurd z (by decide)
    · rcases r3 with ⟨r3, r4⟩ | ⟨r3, x, hx, hne⟩
      · exact absurd r3 z
      · have fr2' : ∀ a, a ≠ 8 → a ≠ 9 → a ≠ 20 + 6 * q + 1 → a ≠ 20 + 6 * q + 2 → uf f' 9 q 1 a = f a := fun a z1 z2 z3 z4 => by rw [uf_ne _ z2]; exact fr a z1 z2 z3 z4
        refine h _ fr2' (put _ _ fr2' (fun j hj => by simp (disch := (first | assumption | omega)) only [true_and, and_true, zr_u, zi_u, zI_u, Option.some.injEq, exists_eq_left', nn_tn, nn_add, nn_s, nn_2, nn_5, nn_7, nn_8, na0, na2, na3, na4, na5, na6, uf_ne, uf_eq, ur_eq, ur_ne, true_or, or_true, not_true_eq_false, not_false_eq_true, true_implies, false_implies, implies_true, e10, e01, reduceIte, Option.isSome_none, Option.isSome_some, Bool.false_eq_true, bi_t, bi_f, e8]) (by simp (disch := (first | assumption | omega)) only [true_and, and_true, zr_u, zi_u, zI_u, Option.some.injEq, exists_eq_left', nn_tn, nn_add, nn_s, nn_2, nn_5, nn_7, nn_8, na0, na2, na3, na4, na5, na6, uf_ne, uf_eq, ur_eq, ur_ne, true_or, or_true, not_true_eq_false, not_false_eq_true, true_implies, false_implies, implies_true, e10, e01, reduceIte, Option.isSome_none, Option.isSome_some, Bool.false_eq_true, bi_t, bi_f, e8]; exact hB.1) (r2.same (by simp (disch := (first | assumption | omega)) only [true_and, and_true, zr_u, zi_u, zI_u, Option.some.injEq, exists_eq_left', nn_tn, nn_add, nn_s, nn_2, nn_5, nn_7, nn_8, na0, na2, na3, na4, na5, na6, uf_ne, uf_eq, ur_eq, ur_ne, true_or, or_true, not_true_eq_false, not_false_eq_true, true_implies, false_implies, implies_true, e10, e01, reduceIte, Option.isSome_none, Option.isSome_some, Bool.false_eq_true, bi_t, bi_f]) (by simp (disch := (first | assumption | omega)) only [true_and, and_true, zr_u, zi_u, zI_u, Option.some.injEq, exists_eq_left', nn_tn, nn_add, nn_s, nn_2, nn_5, nn_7, nn_8, na0, na2, na3, na4, na5, na6, uf_ne, uf_eq, ur_eq, ur_ne, true_or, or_true, not_true_eq_false, not_false_eq_true, true_implies, false_implies, implies_true, e10, e01, reduceIte, Option.isSome_none, Option.isSome_some, Bool.false_eq_true, bi_t, bi_f]))) (Or.inr ⟨by simp (disch := (first | assumption | omega)) only [true_and, and_true, zr_u, zi_u, zI_u, Option.some.injEq, exists_eq_left', nn_tn, nn_add, nn_s, nn_2, nn_5, nn_7, nn_8, na0, na2, na3, na4, na5, na6, uf_ne, uf_eq, ur_eq, ur_ne, true_or, or_true, not_true_eq_false, not_false_eq_true, true_implies, false_implies, implies_true, e10, e01, reduceIte, Option.isSome_none, Option.isSome_some, Bool.false_eq_true, bi_t, bi_f, e9], ?_⟩)
        have := mpu_ph_lt (F := F) (q := q) (w := w) hq (Or.inr ⟨v, x, ho, hx, hne⟩)
        rw [ho] at this; exact this
theorem s_forks_i {f : zf} {ρ : zo} (hC : zCi ρ) {p b : Nat} {e : mE} {w : mV} {Q : Int32 → zS → Prop} (hp : zp_ p) (hb : b < 24) (he : eC f p b e) (hw : hV f (23 + 6 * b) w) (h : ∀ r, (r = 0 ∧ (e.1 = 2 → ∃ c, mop w e.2.1 = some c) ∨ r = 1 ∧ e.1 = 2 ∧ mop w e.2.1 = none) → Q r (f, ρ)) : P_F_forks 183 7 p (nn b) (f, ρ) Q := by
  obtain ⟨g1, g2, g3, g4, g5⟩ := he
  have hv := zv_e hb
  unfold P_F_forks P_F_forks_31 P_F_forks_32 P_G_ofEnd
  simp (disch := (first | assumption | omega)) only [true_and, and_true, zr_u, zi_u, zI_u, Option.some.injEq, exists_eq_left', nn_tn, nn_add, nn_s, nn_2, nn_5, nn_7, nn_8, na0, na2, na3, na4, na5, na6, uf_ne, uf_eq, ur_eq, ur_ne, true_or, or_true, not_true_eq_false, not_false_eq_true, true_implies, false_implies, implies_true, e10, e01, reduceIte, Option.isSome_none, Option.isSome_some, Bool.false_eq_true, bi_t, bi_f, ko_p_i, rc_p7_i hC, ka_p6_i, g1, nn_e2, ko_7_i, rc_7_3_i hC, ka_11_i, rc_e_i hC, ko_v_i, show (160 : Int32) = nn 160 from rfl]
  refine ⟨fun q => h 0 (Or.inl ⟨rfl, fun z => absurd z q⟩), fun q => ?_⟩
  refine s_knows_i hC hv hp (by omega) hw (g3 q) ?_
  cases ho : mop w e.2.1 with
  | none => simp (disch := (first | assumption | omega)) only [true_and, and_true, zr_u, zi_u, zI_u, Option.some.injEq, exists_eq_left', nn_tn, nn_add, nn_s, nn_2, nn_5, nn_7, nn_8, na0, na2, na3, na4, na5, na6, uf_ne, uf_eq, ur_eq, ur_ne, true_or, or_true, not_true_eq_false, not_false_eq_true, true_implies, false_implies, implies_true, e10, e01, reduceIte, Option.isSome_none, Option.isSome_some, Bool.false_eq_true, bi_t, bi_f]
            exact h 1 (Or.inr ⟨rfl, q, ho⟩)
  | some c => simp (disch := (first | assumption | omega)) only [true_and, and_true, zr_u, zi_u, zI_u, Option.some.injEq, exists_eq_left', nn_tn, nn_add, nn_s, nn_2, nn_5, nn_7, nn_8, na0, na2, na3, na4, na5, na6, uf_ne, uf_eq, ur_eq, ur_ne, true_or, or_true, not_true_eq_false, not_false_eq_true, true_implies, false_implies, implies_true, e10, e01, reduceIte, Option.isSome_none, Option.isSome_some, Bool.false_eq_true, bi_t, bi_f]
              exact h 0 (Or.inl ⟨rfl, fun _ => ⟨c, ho⟩⟩)
theorem s_goal_i {f : zf} {ρ : zo} (hC : zCi ρ) {p b k : Nat} {Q : Int32 → zS → Prop} (hp : zp_ p) (hb : b < 24) (hk : k < 2) (h : Q (f (p + 7) (2 * b + k)) (f, ρ)) : P_G_goal 183 p (nn b) (nn k) (f, ρ) Q := by
  unfold P_G_goal P_G_goalSlot
  simp (disch := (first | assumption | omega)) only [true_and, and_true, zr_u, zi_u, zI_u, Option.some.injEq, exists_eq_left', nn_tn, nn_add, nn_s, nn_2, nn_5, nn_7, nn_8, na0, na2, na3, na4, na5, na6, uf_ne, uf_eq, ur_eq, ur_ne, true_or, or_true, not_true_eq_false, not_false_eq_true, true_implies, false_implies, implies_true, e10, e01, reduceIte, Option.isSome_none, Option.isSome_some, Bool.false_eq_true, bi_t, bi_f, ko_p_i, rc_p8_i hC, ka_p7_i]
  exact h
theorem s_goalFor_i {f : zf} {ρ : zo} (hC : zCi ρ) {p b : Nat} {e : mE} {x : Int32} {Q : Int32 → zS → Prop} (hp : zp_ p) (hb : b < 24) (he : eC f p b e) (h0 : e.1 ≠ 0) (h : Q (nn (if e.1 = 2 ∧ x = 0 then e.2.2.2 else e.2.2.1)) (f, ρ)) : P_G_goalFor 183 p (nn b) x (f, ρ) Q := by
  obtain ⟨g1, g2, g3, g4, g5⟩ := he
  unfold P_G_goalFor P_G_goalFor_18 P_G_goalFor_19 P_G_goalFor_31
  simp (disch := (first | assumption | omega)) only [true_and, and_true, zr_u, zi_u, zI_u, Option.some.injEq, exists_eq_left', nn_tn, nn_add, nn_s, nn_2, nn_5, nn_7, nn_8, na0, na2, na3, na4, na5, na6, uf_ne, uf_eq, ur_eq, ur_ne, true_or, or_true, not_true_eq_false, not_false_eq_true, true_implies, false_implies, implies_true, e10, e01, reduceIte, Option.isSome_none, Option.isSome_some, Bool.false_eq_true, bi_t, bi_f, ko_p_i, rc_p7_i hC, ka_p6_i, g1, nn_e2]
  have one : ¬ (e.1 = 2 ∧ x = 0) → P_G_goal 183 p (nn b) 0 (f, ρ) Q := fun q => by
    refine s_goal_i (k := 0) hC hp hb (by decide) ?_
    rw [if_neg q] at h
    show Q (f (p + 7) (2 * b)) (f, ρ)
    rw [g4 h0]; exact h
  refine ⟨fun q => one (fun z => q z.1), fun q => ⟨fun q' => one (fun z => q' z.2), fun q' => ?_⟩⟩
  refine s_goal_i (k := 1) hC hp hb (by decide) ?_
  rw [if_pos ⟨q, q'⟩] at h
  rw [g5 q]; exact h
theorem s_onlyGoal_i {f : zf} {ρ : zo} (hC : zCi ρ) {p b : Nat} {e : mE} {w : mV} {Q : Int32 → zS → Prop} (hp : zp_ p) (hK : sK f p) (hb : b < 24) (he : eC f p b e) (hw : hV f (23 + 6 * b) w) (h0 : e.1 ≠ 0) (h2 : e.1 = 2 → ∃ c, mop w e.2.1 = some c) (h : ∀ q, msu e w = [q] → (q = e.2.2.1 ∨ e.1 = 2 ∧ q = e.2.2.2) → Q (nn q) (f, ρ)) : P_F_onlyGoal 183 7 p (nn b) (f, ρ) Q := by
  have hv := zv_e hb
  have he' := he
  obtain ⟨g1, g2, g3, g4, g5⟩ := he
  unfold P_F_onlyGoal P_G_ofEnd
  simp (disch := (first | assumption | omega)) only [true_and, and_true, zr_u, zi_u, zI_u, Option.some.injEq, exists_eq_left', nn_tn, nn_add, nn_s, nn_2, nn_5, nn_7, nn_8, na0, na2, na3, na4, na5, na6, uf_ne, uf_eq, ur_eq, ur_ne, true_or, or_true, not_true_eq_false, not_false_eq_true, true_implies, false_implies, implies_true, e10, e01, reduceIte, Option.isSome_none, Option.isSome_some, Bool.false_eq_true, bi_t, bi_f, ko_7_i, rc_7_3_i hC, ka_11_i, rc_e_i hC, ko_v_i, show (160 : Int32) = nn 160 from rfl]
  refine s_numberOf_i hC hv hp (by omega) hw hK (fun x hx => ?_)
  simp (disch := (first | assumption | omega)) only [true_and, and_true, zr_u, zi_u, zI_u, Option.some.injEq, exists_eq_left', nn_tn, nn_add, nn_s, nn_2, nn_5, nn_7, nn_8, na0, na2, na3, na4, na5, na6, uf_ne, uf_eq, ur_eq, ur_ne, true_or, or_true, not_true_eq_false, not_false_eq_true, true_implies, false_implies, implies_true, e10, e01, reduceIte, Option.isSome_none, Option.isSome_some, Bool.false_eq_true, bi_t, bi_f, ko_p_i]
  refine s_goalFor_i hC hp hb he' h0 ?_
  by_cases e2 : e.1 = 2
  · obtain ⟨c, hc⟩ := h2 e2
    have ex := hx _ _ (g3 e2) hc
    subst ex
    refine h _ ?_ ?_
    · unfold msu
      rw [if_neg h0, if_neg (by omega), hc]
      simp only [e2, true_and]
      split <;> rfl
    · by_cases z : x = 0
      · rw [if_pos ⟨e2, z⟩]; exact Or.inr ⟨e2, rfl⟩
      · rw [if_neg (fun y => z y.2)]; exact Or.inl rfl
  · rw [if_neg (fun z => e2 z.1)]
    refine h _ ?_ (Or.inl rfl)
    unfold msu
    rw [if_neg h0, if_pos (by omega)]
theorem s_flowThrough_i {f : zf} {ρ : zo} (hC : zCi ρ) {p b : Nat} {G : mG} {F : mF} {v : mV} {Q : zS → Prop} (hp : zp_ p) (hG : gG G) (hb : b < G.1) (hP : pC f p G) (hF : rC f F) (hv : F b = some v) (h : ∀ f', frF f f' → (∀ j, j < 24 → j ≠ b → f' (23 + 6 * j + 1) = f (23 + 6 * j + 1) ∧ f' (23 + 6 * j + 2) = f (23 + 6 * j + 2)) → rC f' (mstp G F b) → hV f' (23 + 6 * b) (mfb G b v) → stl f f' F (mstp G F b) → Q (f', ρ)) : P_F_flowThrough 183 7 p (nn b) (f, ρ) Q := by
  have hn := hG.2.1
  have hb24 : b < 24 := by omega
  have hvb := zv_b hb24
  have hve := zv_e hb24
  have hp' := hp
  unfold zp_ at hp'
  have hl := hG.f_le (b := b + 1) (by omega)
  have hmono := hG.2.2.2.2.2.1 b hb
  obtain ⟨k1, k2, k3⟩ := hG.2.2.2.2.2.2 b hb
  have hBb := hF.1 b hb24
  rw [hv] at hBb
  have key : ∀ (m k : Nat) (f' : zf), G.2.2.1 b + k + m = G.2.2.1 (b + 1) → fr2 f f' (23 + 6 * b + 1) (23 + 6 * b + 2) → hV f' (23 + 6 * b) (mfr G.2.2.2.1 (G.2.2.1 b) k v) → P_F_flowThrough_25 183 Q (m + 1) 7 p (nn b) (23 + 6 * b) (nn (G.2.2.1 b + k)) (f', ρ) := by
    intro m
    induction m with
    | zero =>
      intro k f' hk h1 h2
      have hP' : pC f' p G := hP.same (fun i hi => h1 _ (by omega) (by omega))
      have hF' : rC f' F := hF.same (h1 _ (by omega) (by omega)) (fun j hj => ⟨h1 _ (by omega) (by omega), h1 _ (by omega) (by omega)⟩)
      have he := hP'.2.2.2.2.1 b hb
      have he' := he
      obtain ⟨g1, g2, g3, g4, g5⟩ := he
      have ew : mfr G.2.2.2.1 (G.2.2.1 b) k v = mfb G b v := by
        unfold mfb; rw [show G.2.2.1 (b + 1) - G.2.2.1 b = k by omega]
      rw [ew] at h2
      have es : mstp G F b = mjs F (mfb G b v) (msu (G.2.2.2.2 b) (mfb G b v)) := by unfold mstp; rw [hv]
      unfold P_F_flowThrough_25 P_F_flowThrough_106
      simp (disch := (first | assumption | omega)) only [true_and, and_true, zr_u, zi_u, zI_u, Option.some.injEq, exists_eq_left', nn_tn, nn_add, nn_s, nn_2, nn_5, nn_7, nn_8, na0, na2, na3, na4, na5, na6, uf_ne, uf_eq, ur_eq, ur_ne, true_or, or_true, not_true_eq_false, not_false_eq_true, true_implies, false_implies, implies_true, e10, e01, reduceIte, Option.isSome_none, Option.isSome_some, Bool.false_eq_true, bi_t, bi_f, ko_p_i, rc_p2_i hC, ka_p1_i, hP'.2.2.1 (b + 1) (by omega), rc_p7_i hC, ka_p6_i, g1, nn_e0, ko_7_i]
      simp (disch := omega) only [nn_le]
      refine ⟨fun _ => ⟨fun q0 => ?_, fun q0 => ?_⟩, fun q => absurd (by omega) q⟩
      · have g41 := k2 q0
        refine s_forks_i hC hp hb24 he' h2 (fun r hr => ?_)
        have fin : ∀ (f1 : zf) (q1 : Nat) (q2 : Nat), q1 < 24 → q2 < 24 → (∀ a, a ≠ 8 → a ≠ 9 → a ≠ 20 + 6 * q1 + 1 → a ≠ 20 + 6 * q1 + 2 → a ≠ 20 + 6 * q2 + 1 → a ≠ 20 + 6 * q2 + 2 → f1 a = f' a) → rC f1 (mstp G F b) → stl f' f1 F (mstp G F b) → Q (f1, ρ) := by
          intro f1 q1 q2 l1 l2 z1 z2 z3
          refine h f1 (fun a y1 y2 y3 => ?_) (fun j hj hne => ⟨?_, ?_⟩) z2 (h2.same ?_ ?_) ?_
          · rw [z1 a y1 y2 (by omega) (by omega) (by omega) (by omega), h1 a (by omega) (by omega)]
          · rw [z1 _ (by omega) (by omega) (by omega) (by omega) (by omega) (by omega), h1 _ (by omega) (by omega)]
          · rw [z1 _ (by omega) (by omega) (by omega) (by omega) (by omega) (by omega), h1 _ (by omega) (by omega)]
          · exact z1 _ (by omega) (by omega) (by omega) (by omega) (by omega) (by omega)
          · exact z1 _ (by omega) (by omega) (by omega) (by omega) (by omega) (by omega)
          · have e9 : f' 9 = f 9 := h1 _ (by omega) (by omega)
            unfold stl at z3 ⊢
            rw [e9] at z3; exact z3
        rcases hr with ⟨hr, hr2⟩ | ⟨hr, hr2, hr3⟩
        · subst hr
          simp (disch := (first | assumption | omega)) only [true_and, and_true, zr_u, zi_u, zI_u, Option.some.injEq, exists_eq_left', nn_tn, nn_add, nn_s, nn_2, nn_5, nn_7, nn_8, na0, na2, na3, na4, na5, na6, uf_ne, uf_eq, ur_eq, ur_ne, true_or, or_true, not_true_eq_false, not_false_eq_true, true_implies, false_implies, implies_true, e10, e01, reduceIte, Option.isSome_none, Option.isSome_some, Bool.false_eq_true, bi_t, bi_f]
          refine s_onlyGoal_i hC hp hP'.2.2.2.2.2 hb24 he' h2 q0 hr2 (fun q hq hq2 => ?_)
          have lq : q < 24 := by
            rcases hq2 with e | ⟨e, e'⟩
            · omega
            · have := k3 e; omega
          have e1 : mstp G F b = mpu F q (mjo (F q) (mfb G b v)) := by rw [es, hq]; rfl
          refine s_comeTo_i hC lq hve (by omega) hF' h2 (fun f1 a1 a2 a3 => ?_)
          refine fin f1 q q lq lq (fun a y1 y2 y3 y4 _ _ => a1 a y1 y2 y3 y4) ?_ ?_
          · rw [e1]; exact a2
          · rw [e1]; exact stl.one a3
        · subst hr
          simp (disch := (first | assumption | omega)) only [true_and, and_true, zr_u, zi_u, zI_u, Option.some.injEq, exists_eq_left', nn_tn, nn_add, nn_s, nn_2, nn_5, nn_7, nn_8, na0, na2, na3, na4, na5, na6, uf_ne, uf_eq, ur_eq, ur_ne, true_or, or_true, not_true_eq_false, not_false_eq_true, true_implies, false_implies, implies_true, e10, e01, reduceIte, Option.isSome_none, Option.isSome_some, Bool.false_eq_true, bi_t, bi_f]
          have g42 := k3 hr2
          refine s_goal_i (k := 0) hC hp hb24 (by decide) ?_
          rw [show f' (p + 7) (2 * b + 0) = nn (G.2.2.2.2 b).2.2.1 from g4 q0]
          have e1 : mstp G F b = mpu (mpu F (G.2.2.2.2 b).2.2.1 (mjo (F (G.2.2.2.2 b).2.2.1) (mfb G b v))) (G.2.2.2.2 b).2.2.2 (mjo (mpu F (G.2.2.2.2 b).2.2.1 (mjo (F (G.2.2.2.2 b).2.2.1) (mfb G b v)) (G.2.2.2.2 b).2.2.2) (mfb G b v)) := by
            rw [es]; unfold msu; rw [if_neg q0, if_neg (by omega), hr3]; rfl
          refine s_comeTo_i hC (by omega) hve (by omega) hF' h2 (fun f1 a1 a2 a3 => ?_)
          refine s_goal_i (k := 1) hC hp hb24 (by decide) ?_
          have e7 : f1 (p + 7) = f' (p + 7) := a1 _ (by omega) (by omega) (by omega) (by omega)
          rw [e7, g5 hr2]
          have h2' : hV f1 (23 + 6 * b) (mfb G b v) := h2.same (a1 _ (by omega) (by omega) (by omega) (by omega)) (a1 _ (by omega) (by omega) (by omega) (by omega))
          refine s_comeTo_i hC (by omega) hve (by omega) a2 h2' (fun f2 b1 b2 b3 => ?_)
          refine fin f2 (G.2.2.2.2 b).2.2.1 (G.2.2.2.2 b).2.2.2 (by omega) (by omega) (fun a y1 y2 y3 y4 y5 y6 => by rw [b1 a y1 y2 y5 y6, a1 a y1 y2 y3 y4]) ?_ ?_
          · rw [e1]; exact b2
          · rw [e1]
            refine (stl.one a3).trans (stl.one b3) (mpu_grow _ _ _) (mpu_ph (by omega)) (mpu_ph (by omega)) (fun j hj => ⟨?_, ?_⟩)
            · unfold mpu; rw [if_neg (by omega)]
            · show mpu (mpu F _ _) _ _ j = F j
              unfold mpu; rw [if_neg (by omega), if_neg (by omega)]
      · have hm : mstp G F b = F := by rw [es]; unfold msu; rw [if_pos q0]; rfl
        refine h f' (fun a y1 y2 y3 => h1 a (by omega) (by omega)) (fun j hj hne => ⟨h1 _ (by omega) (by omega), h1 _ (by omega) (by omega)⟩) ?_ h2 ?_
        · rw [hm]; exact hF'
        · have e9 : f' 9 = f 9 := h1 _ (by omega) (by omega)
          rw [hm]; unfold stl; rw [e9]; exact stl.rfl' f F
    | succ m ih =>
      intro k f' hk h1 h2
      have hP' : pC f' p G := hP.same (fun i hi => h1 _ (by omega) (by omega))
      unfold P_F_flowThrough_25
      simp (disch := (first | assumption | omega)) only [true_and, and_true, zr_u, zi_u, zI_u, Option.some.injEq, exists_eq_left', nn_tn, nn_add, nn_s, nn_2, nn_5, nn_7, nn_8, na0, na2, na3, na4, na5, na6, uf_ne, uf_eq, ur_eq, ur_ne, true_or, or_true, not_true_eq_false, not_false_eq_true, true_implies, false_implies, implies_true, e10, e01, reduceIte, Option.isSome_none, Option.isSome_some, Bool.false_eq_true, bi_t, bi_f, ko_p_i, rc_p2_i hC, ka_p1_i, hP'.2.2.1 (b + 1) (by omega), ko_v_i]
      simp (disch := omega) only [nn_le]
      refine ⟨fun q => absurd q (by omega), fun _ => ?_⟩
      have hns : G.2.2.1 b + k < G.2.1 := by
        have q1 : ∀ j c, c + j = G.1 → G.2.2.1 c ≤ G.2.2.1 G.1 := by
          intro j
          induction j with
          | zero => intro c e; rw [Nat.add_zero] at e; rw [e]; exact Nat.le_refl _
          | succ j ij =>
            intro c e
            have := hG.2.2.2.2.2.1 c (by omega)
            have := ij (c + 1) (by omega)
            omega
        have := q1 (G.1 - (b + 1)) (b + 1) (by omega)
        have := hG.2.2.2.2.1
        omega
      refine s_assign_i hC hve hp hP'.2.2.2.2.2 (hP'.2.2.2.1 _ hns) h2 (fun f'' r1 r2 => ?_)
      exact ih (k + 1) f'' (by omega) (fun a z1 z2 => by rw [r1 a z1 z2, h1 a z1 z2]) r2
  unfold P_F_flowThrough
  simp (disch := (first | assumption | omega)) only [true_and, and_true, zr_u, zi_u, zI_u, Option.some.injEq, exists_eq_left', nn_tn, nn_add, nn_s, nn_2, nn_5, nn_7, nn_8, na0, na2, na3, na4, na5, na6, uf_ne, uf_eq, ur_eq, ur_ne, true_or, or_true, not_true_eq_false, not_false_eq_true, true_implies, false_implies, implies_true, e10, e01, reduceIte, Option.isSome_none, Option.isSome_some, Bool.false_eq_true, bi_t, bi_f, ko_7_i, rc_7_3_i hC, rc_7_2_i hC, ka_10_i, ka_11_i, rc_b_i hC, rc_e_i hC, ko_v_i]
  refine s_become_i hC hve hvb (by omega) hBb.2 (fun f' r1 r2 => ?_)
  have hP' : pC f' p G := hP.same (fun i hi => r1 _ (by omega) (by omega))
  simp (disch := (first | assumption | omega)) only [true_and, and_true, zr_u, zi_u, zI_u, Option.some.injEq, exists_eq_left', nn_tn, nn_add, nn_s, nn_2, nn_5, nn_7, nn_8, na0, na2, na3, na4, na5, na6, uf_ne, uf_eq, ur_eq, ur_ne, true_or, or_true, not_true_eq_false, not_false_eq_true, true_implies, false_implies, implies_true, e10, e01, reduceIte, Option.isSome_none, Option.isSome_some, Bool.false_eq_true, bi_t, bi_f, ko_p_i, rc_p2_i hC, ka_p1_i, hP'.2.2.1 b (by omega)]
  exact ⟨_, key (G.2.2.1 (b + 1) - G.2.2.1 b) 0 f' (by omega) r1 r2⟩
theorem s_flowOnce_i {f : zf} {ρ : zo} (hC : zCi ρ) {p i : Nat} {G : mG} {F : mF} {Q : Int32 → zS → Prop} (hp : zp_ p) (hG : gG G) (hP : pC f p G) (hI : iF f G F) (hi : nost f ∨ i + 1 ≤ mph F 24) (h : ∀ f' F' r, frF f f' → iF f' G F' → (r = 0 ∧ nost f' ∨ r = 1 ∧ (nost f' ∨ i + 2 ≤ mph F' 24)) → Q r (f', ρ)) : P_F_flowOnce 183 7 p (f, ρ) Q := by
  have hn := hG.2.1
  have key : ∀ (m k : Nat) (f' : zf) (F' : mF) (r : Int32), k + m = G.1 → frF f f' → iF f' G F' → (r = 0 ∨ r = 1) → (r = 0 → ∀ j, j < k → f' 9 j = 0) → (nost f' ∨ i + 1 ≤ mph F' 24 ∧ ∀ j, j < k → f' 9 j = 1 → i + 2 ≤ mph F' 24) → P_F_flowOnce_4 183 Q (m + 1) 7 p r (nn k) (f', ρ) := by
    intro m
    induction m with
    | zero =>
      intro k f' F' r hk h1 h2 h3 h4 h5
      have hP' := hP.F hp h1
      unfold P_F_flowOnce_4
      simp (disch := (first | assumption | omega)) only [true_and, and_true, zr_u, zi_u, zI_u, Option.some.injEq, exists_eq_left', nn_tn, nn_add, nn_s, nn_2, nn_5, nn_7, nn_8, na0, na2, na3, na4, na5, na6, uf_ne, uf_eq, ur_eq, ur_ne, true_or, or_true, not_true_eq_false, not_false_eq_true, true_implies, false_implies, implies_true, e10, e01, reduceIte, Option.isSome_none, Option.isSome_some, Bool.false_eq_true, bi_t, bi_f, ko_p_i, hP'.1]
      simp (disch := omega) only [nn_le]
      refine ⟨fun _ => ⟨h3, h f' F' r h1 h2 ?_⟩, fun q => absurd (by omega) q⟩
      have big : ∀ j, j < 24 → G.1 ≤ j → f' 9 j = 0 := fun j hj hj2 => by
        rcases h2.2.2.2.1 j hj with q | q
        · exact q
        · have := h2.2.2.2.2.1 j q.2; omega
      rcases h3 with h3 | h3
      · refine Or.inl ⟨h3, fun j hj => ?_⟩
        by_cases e : j < k
        · exact h4 h3 j e
        · exact big j hj (by omega)
      · refine Or.inr ⟨h3, ?_⟩
        rcases h5 with h5 | ⟨-, h5⟩
        · exact Or.inl h5
        · by_cases z : i + 2 ≤ mph F' 24
          · exact Or.inr z
          · refine Or.inl (fun j hj => ?_)
            rcases h2.2.2.2.1 j hj with q | q
            · exact q
            · exact absurd (h5 j (by have := h2.2.2.2.2.1 j q.2; omega) q.1) z
    | succ m ih =>
      intro k f' F' r hk h1 h2 h3 h4 h5
      have hP' := hP.F hp h1
      unfold P_F_flowOnce_4 P_F_flowOnce_36
      simp (disch := (first | assumption | omega)) only [true_and, and_true, zr_u, zi_u, zI_u, Option.some.injEq, exists_eq_left', nn_tn, nn_add, nn_s, nn_2, nn_5, nn_7, nn_8, na0, na2, na3, na4, na5, na6, uf_ne, uf_eq, ur_eq, ur_ne, true_or, or_true, not_true_eq_false, not_false_eq_true, true_implies, false_implies, implies_true, e10, e01, reduceIte, Option.isSome_none, Option.isSome_some, Bool.false_eq_true, bi_t, bi_f, ko_p_i, hP'.1, ko_7_i, rc_7_1_i hC, ka_9_i, nar_b0]
      simp (disch := omega) only [nn_le]
      refine ⟨fun q => absurd q (by omega), fun _ => ⟨fun q => ?_, fun q => ?_⟩⟩
      · refine ih (k + 1) f' F' r (by omega) h1 h2 h3 (fun z j hj => ?_) ?_
        · by_cases e : j = k
          · rw [e]; exact q
          · exact h4 z j (by omega)
        · rcases h5 with h5 | ⟨h5, h6⟩
          · exact Or.inl h5
          · refine Or.inr ⟨h5, fun j hj hj1 => ?_⟩
            by_cases e : j = k
            · rw [e, q] at hj1; exact absurd hj1 (by decide)
            · exact h6 j (by omega) hj1
      · obtain ⟨c1, c2, c3, c4, c5, c6⟩ := h2
        have hk1 : f' 9 k = 1 ∧ F' k ≠ none := by
          rcases c4 k (by omega) with z | z
          · exact absurd z q
          · exact z
        have h6 : i + 1 ≤ mph F' 24 ∧ ∀ j, j < k → f' 9 j = 1 → i + 2 ≤ mph F' 24 := by
          rcases h5 with h5 | h5
          · exact absurd (h5 k (by omega)) q
          · exact h5
        cases hv : F' k with
        | none => exact absurd hv hk1.2
        | some v =>
          have g1 : frF f (uf f' 9 k 0) := h1.trans (fun a _ z _ => uf_ne _ z)
          have g2 : rC (uf f' 9 k 0) F' := c1.same (uf_ne _ (by decide)) (fun b hb => ⟨uf_ne _ (by omega), uf_ne _ (by omega)⟩)
          refine s_flowThrough_i hC hp hG (by omega) (hP.F hp g1) g2 hv (fun f2 r1 r2 r3 r4 r5 => ?_)
          have ph := mstp_ph hG F' (b := k) (by omega)
          refine ih (k + 1) f2 (mstp G F' k) 1 (by omega) (g1.trans r1) ⟨r3, fun H hH => mstp_below hH (c2 H hH) (by omega), ?_, fun j hj => ?_, mstp_dom hG c5 (by omega), fun b w hb h9 => ?_⟩ (Or.inr rfl) (fun z => absurd z (by decide)) (Or.inr ⟨by omega, fun j hj hj1 => ?_⟩)
          · obtain ⟨w, hw, l⟩ := c3
            obtain ⟨u, hu, l2⟩ := mstp_grow G F' k 0 w hw
            exact ⟨u, hu, mle_trans l l2⟩
          · rcases r5.1 j hj with z | z
            · rw [z, uf_eq]
              by_cases e : j = k
              · left; rw [e, ur_eq]
              · rw [ur_ne _ e]
                rcases c4 j hj with y | y
                · exact Or.inl y
                · refine Or.inr ⟨y.1, ?_⟩
                  cases hw : F' j with
                  | none => exact absurd hw y.2
                  | some w =>
                    obtain ⟨u, hu, -⟩ := mstp_grow G F' k j w hw
                    rw [hu]; exact fun z => by cases z
            · exact Or.inr z
          · have e1 : mstp G F' k b = F' b := by
              by_cases e : mstp G F' k b = F' b
              · exact e
              · exact absurd ((r5.2.1 b e).symm.trans h9) (by decide)
            rw [e1] at hb
            by_cases e : b = k
            · subst e
              rw [hv] at hb; cases hb
              exact ⟨r4, fun q hq => mstp_has hv hq⟩
            · have hb24 : b < 24 := by have := c5 b (by rw [hb]; exact fun z => by cases z); omega
              have h90 : f' 9 b = 0 := by
                rcases r5.1 b hb24 with z | z
                · rw [z, uf_eq, ur_ne _ e] at h9; exact h9
                · exact absurd (z.1.symm.trans h9) (by decide)
              obtain ⟨d1, d2⟩ := c6 b w hb h90
              refine ⟨d1.same ?_ ?_, fun q hq => ?_⟩
              · rw [(r2 b hb24 e).1, uf_ne _ (by omega)]
              · rw [(r2 b hb24 e).2, uf_ne _ (by omega)]
              · obtain ⟨u, hu, l⟩ := d2 q hq
                obtain ⟨u2, hu2, l2⟩ := mstp_grow G F' k q u hu
                exact ⟨u2, hu2, mle_trans l l2⟩
          · rcases r5.2.2 with z | ⟨z1, z2⟩
            · omega
            · rw [z1]
              rw [z2, uf_eq] at hj1
              by_cases e : j = k
              · rw [e, ur_eq] at hj1; exact absurd hj1 (by decide)
              · rw [ur_ne _ e] at hj1; exact h6.2 j (by omega) hj1
  refine ⟨_, key G.1 0 f F 0 (by omega) (frF.rfl' f) hI (Or.inl rfl) (fun _ j hj => absurd hj (by omega)) ?_⟩
  rcases hi with hi | hi
  · exact Or.inl hi
  · exact Or.inr ⟨hi, fun j hj => absurd hj (by omega)⟩
theorem s_find_i {f : zf} {ρ : zo} (hC : zCi ρ) {p : Nat} {G : mG} {Q : zS → Prop} (hp : zp_ p) (hG : gG G) (hP : pC f p G) (hz : hV f 12 mz) (h : ∀ f' F, frF f f' → kC f' G F → P_F_count 183 7 p (f', ρ) Q) : P_F_find 183 7 p (f, ρ) Q := by
  have hn := hG.2.1
  have fin : ∀ (f' : zf) (F : mF), frF f f' → iF f' G F → nost f' → P_F_find_64 183 Q 7 p (f', ρ) := by
    intro f' F h1 h2 h3
    unfold P_F_find_64
    simp (disch := (first | assumption | omega)) only [true_and, and_true, zr_u, zi_u, zI_u, Option.some.injEq, exists_eq_left', nn_tn, nn_add, nn_s, nn_2, nn_5, nn_7, nn_8, na0, na2, na3, na4, na5, na6, uf_ne, uf_eq, ur_eq, ur_ne, true_or, or_true, not_true_eq_false, not_false_eq_true, true_implies, false_implies, implies_true, e10, e01, reduceIte, Option.isSome_none, Option.isSome_some, Bool.false_eq_true, bi_t, bi_f, ko_7_i]
    obtain ⟨q1, q2⟩ := nost_least h2 h3 hG
    exact h f' F h1 ⟨h2.1, q1, fun b v hv => ⟨h2.2.2.2.2.1 b (by rw [hv]; exact fun z => by cases z), q2 b v hv⟩, hz.same (h1 _ (by decide) (by decide) (by decide)) (h1 _ (by decide) (by decide) (by decide))⟩
  have k41 : ∀ (m i : Nat) (f' : zf) (F : mF) (r : Int32), i + m = 217 → frF f f' → iF f' G F → (r = 0 ∧ nost f' ∨ r = 1 ∧ (nost f' ∨ i + 1 ≤ mph F 24)) → P_F_find_41 183 Q (m + 1) 7 p r (nn i) (f', ρ) := by
    intro m
    induction m with
    | zero =>
      intro i f' F r hi h1 h2 h3
      unfold P_F_find_41
      rw [show (217 : Int32) ≤ nn i ↔ nn 217 ≤ nn i from Iff.rfl, nn_le (by omega) (by omega)]
      have h4 : nost f' := by
        rcases h3 with ⟨-, h3⟩ | ⟨-, h3 | h3⟩
        · exact h3
        · exact h3
        · have := mph_le F 24; omega
      exact ⟨fun _ => fin f' F h1 h2 h4, fun _ => ⟨fun _ => fin f' F h1 h2 h4, fun q => absurd (by omega) q⟩⟩
    | succ m ih =>
      intro i f' F r hi h1 h2 h3
      unfold P_F_find_41
      rw [show (217 : Int32) ≤ nn i ↔ nn 217 ≤ nn i from Iff.rfl, nn_le (by omega) (by omega)]
      simp (disch := (first | assumption | omega)) only [true_and, and_true, zr_u, zi_u, zI_u, Option.some.injEq, exists_eq_left', nn_tn, nn_add, nn_s, nn_2, nn_5, nn_7, nn_8, na0, na2, na3, na4, na5, na6, uf_ne, uf_eq, ur_eq, ur_ne, true_or, or_true, not_true_eq_false, not_false_eq_true, true_implies, false_implies, implies_true, e10, e01, reduceIte, Option.isSome_none, Option.isSome_some, Bool.false_eq_true, bi_t, bi_f, ko_7_i]
      refine ⟨fun q => ?_, fun q => ⟨fun z => absurd z (by omega), fun _ => ?_⟩⟩
      · rcases h3 with ⟨-, h3⟩ | ⟨h3, -⟩
        · exact fin f' F h1 h2 h3
        · rw [h3] at q; exact absurd q (by decide)
      · have h4 : nost f' ∨ i + 1 ≤ mph F 24 := by
          rcases h3 with ⟨h3, -⟩ | ⟨-, h3⟩
          · exact absurd h3 q
          · exact h3
        refine s_flowOnce_i (i := i) hC hp hG (hP.F hp h1) h2 h4 (fun f2 F2 r2 a1 a2 a3 => ?_)
        exact ih (i + 1) f2 F2 r2 (by omega) (h1.trans a1) a2 a3
  have k2 : ∀ (m k : Nat) (f' : zf), k + m = 24 → frF f f' → (∀ j, j < k → f' 8 j = 0 ∧ f' 9 j = 0) → P_F_find_2 183 Q (m + 1) 7 p (nn k) (f', ρ) := by
    intro m
    induction m with
    | zero =>
      intro k f' hk h1 h2
      have k24 : k = 24 := by omega
      subst k24
      unfold P_F_find_2
      rw [show (24 : Int32) ≤ nn 24 ↔ nn 24 ≤ nn 24 from Iff.rfl, nn_le (by omega) (by omega)]
      refine ⟨fun _ => ?_, fun q => absurd (by omega) q⟩
      simp (disch := (first | assumption | omega)) only [true_and, and_true, zr_u, zi_u, zI_u, Option.some.injEq, exists_eq_left', nn_tn, nn_add, nn_s, nn_2, nn_5, nn_7, nn_8, na0, na2, na3, na4, na5, na6, uf_ne, uf_eq, ur_eq, ur_ne, true_or, or_true, not_true_eq_false, not_false_eq_true, true_implies, false_implies, implies_true, e10, e01, reduceIte, Option.isSome_none, Option.isSome_some, Bool.false_eq_true, bi_t, bi_f, ko_7_i, rc_7_4_i hC]
      rw [show (0 : Int32) = nn 0 from rfl]
      have hv12 : zv_ 12 := Or.inl rfl
      refine s_comeTo_i (F := fun _ => none) (w := mz) hC (by decide) hv12 (by decide) ⟨fun b hb => (h2 b hb).1, fun _ _ => rfl⟩ (hz.same (h1 _ (by decide) (by decide) (by decide)) (h1 _ (by decide) (by decide) (by decide))) (fun f2 a1 a2 a3 => ?_)
      have e0 : mpu (fun _ => none) 0 (mjo none mz) = mF0 := rfl
      have a2 : rC f2 mF0 := a2
      have e9 : f2 9 = ur (f' 9) 0 1 := by
        rcases a3 with ⟨a3, -⟩ | ⟨a3, -⟩
        · have := congrFun a3 0
          cases this
        · exact a3
      have nz : ∀ b v, mF0 b = some v → b = 0 := fun b v hv => by
        unfold mF0 at hv
        by_cases e : b = 0
        · exact e
        · rw [if_neg e] at hv; cases hv
      refine ⟨_, k41 217 0 f2 mF0 1 rfl (h1.trans (fun a z1 z2 z3 => a1 a z1 z2 (by omega) (by omega))) ⟨a2, fun H hH b v hv => ?_, ⟨mz, rfl, mle_rfl _⟩, fun j hj => ?_, fun j hj => ?_, fun b v hv h9 => ?_⟩ (Or.inr ⟨rfl, Or.inr ?_⟩)⟩
      · have e := nz b v hv
        subst e
        cases hv; exact hH.1
      · rw [e9]
        by_cases e : j = 0
        · subst e; right; exact ⟨ur_eq _, fun z => by cases z⟩
        · left; rw [ur_ne _ e]; exact (h2 j hj).2
      · cases hv : mF0 j with
        | none => exact absurd hv hj
        | some v => have := nz j v hv; have := hG.1; omega
      · have e := nz b v hv
        subst e
        rw [e9, ur_eq] at h9; exact absurd h9 (by decide)
      · have := (mph_put (fun _ => none) 0 mz 24).1 (by decide)
        have e3 : mpu (fun _ => none) 0 mz = mF0 := rfl
        rw [e3] at this
        have e4 : mwt (none : Option mV) = 0 := rfl
        have e5 : mwt (some mz) = 1 + mca mz 8 := rfl
        omega
    | succ m ih =>
      intro k f' hk h1 h2
      unfold P_F_find_2
      rw [show (24 : Int32) ≤ nn k ↔ nn 24 ≤ nn k from Iff.rfl, nn_le (by omega) (by omega)]
      refine ⟨fun q => absurd q (by omega), fun _ => ?_⟩
      simp (disch := (first | assumption | omega)) only [true_and, and_true, zr_u, zi_u, zI_u, Option.some.injEq, exists_eq_left', nn_tn, nn_add, nn_s, nn_2, nn_5, nn_7, nn_8, na0, na2, na3, na4, na5, na6, uf_ne, uf_eq, ur_eq, ur_ne, true_or, or_true, not_true_eq_false, not_false_eq_true, true_implies, false_implies, implies_true, e10, e01, reduceIte, Option.isSome_none, Option.isSome_some, Bool.false_eq_true, bi_t, bi_f, ko_7_i, rc_7_0_i hC, rc_7_1_i hC, ka_8_i, ka_9_i, nar_b0]
      refine ih (k + 1) _ (by omega) (fun a z1 z2 z3 => ?_) (fun j hj => ?_)
      · simp (disch := (first | assumption | omega)) only [true_and, and_true, zr_u, zi_u, zI_u, Option.some.injEq, exists_eq_left', nn_tn, nn_add, nn_s, nn_2, nn_5, nn_7, nn_8, na0, na2, na3, na4, na5, na6, uf_ne, uf_eq, ur_eq, ur_ne, true_or, or_true, not_true_eq_false, not_false_eq_true, true_implies, false_implies, implies_true, e10, e01, reduceIte, Option.isSome_none, Option.isSome_some, Bool.false_eq_true, bi_t, bi_f]
        exact h1 a z1 z2 z3
      · by_cases e : j = k
        · subst e; simp (disch := (first | assumption | omega)) only [true_and, and_true, zr_u, zi_u, zI_u, Option.some.injEq, exists_eq_left', nn_tn, nn_add, nn_s, nn_2, nn_5, nn_7, nn_8, na0, na2, na3, na4, na5, na6, uf_ne, uf_eq, ur_eq, ur_ne, true_or, or_true, not_true_eq_false, not_false_eq_true, true_implies, false_implies, implies_true, e10, e01, reduceIte, Option.isSome_none, Option.isSome_some, Bool.false_eq_true, bi_t, bi_f]
        · simp (disch := (first | assumption | omega)) only [true_and, and_true, zr_u, zi_u, zI_u, Option.some.injEq, exists_eq_left', nn_tn, nn_add, nn_s, nn_2, nn_5, nn_7, nn_8, na0, na2, na3, na4, na5, na6, uf_ne, uf_eq, ur_eq, ur_ne, true_or, or_true, not_true_eq_false, not_false_eq_true, true_implies, false_implies, implies_true, e10, e01, reduceIte, Option.isSome_none, Option.isSome_some, Bool.false_eq_true, bi_t, bi_f]
          exact h2 j (by omega)
  exact ⟨_, k2 24 0 f rfl (frF.rfl' f) (fun j hj => absurd hj (by omega))⟩
theorem za1_i : za 183 19 10 1 = True := ka_19_i (i := 1) (by decide)
theorem za2_i : za 183 19 10 2 = True := ka_19_i (i := 2) (by decide)
theorem za3_i : za 183 19 10 3 = True := ka_19_i (i := 3) (by decide)
theorem za4_i : za 183 19 10 4 = True := ka_19_i (i := 4) (by decide)
theorem za5_i : za 183 19 10 5 = True := ka_19_i (i := 5) (by decide)
theorem za6_i : za 183 19 10 6 = True := ka_19_i (i := 6) (by decide)
theorem za0_i : za 183 19 10 0 = True := ka_19_i (i := 0) (by decide)
theorem s_countBlock_i {f : zf} {ρ : zo} (hC : zCi ρ) {p b : Nat} {G : mG} {F : mF} {v : mV} {t : Nat → Nat} {Q : zS → Prop} (hp : zp_ p) (hG : gG G) (hb : b < G.1) (hP : pC f p G) (hK : kC f G F) (hv : F b = some v) (ht : ∀ q, q < 7 → f 19 q = nn (t q)) (h : ∀ f', frT f f' → (∀ q, q < 7 → f' 19 q = nn (t q + wq G b v q)) → Q (f', ρ)) : P_F_countBlock 183 7 p (nn b) (f, ρ) Q := by
  have hn := hG.2.1
  have hb24 : b < 24 := by omega
  have hvb := zv_b hb24
  have hve := zv_e hb24
  have hvw : zv_ 15 := Or.inr (Or.inl rfl)
  have hp' := hp
  unfold zp_ at hp'
  have hl := hG.f_le (b := b + 1) (by omega)
  have hmono := hG.2.2.2.2.2.1 b hb
  obtain ⟨k1, k2, k3⟩ := hG.2.2.2.2.2.2 b hb
  have hBb := hK.1.1 b hb24
  rw [hv] at hBb
  have key : ∀ (m k : Nat) (f' : zf), G.2.2.1 b + k + m = G.2.2.1 (b + 1) → frT f f' → hV f' 15 (mfr G.2.2.2.1 (G.2.2.1 b) k v) → (∀ q, q < 7 → f' 19 q = nn (t q + wq0 G b v q k)) → P_F_countBlock_30 183 Q (m + 1) 7 p (nn b) (nn (G.2.2.1 b + k)) (f', ρ) := by
    intro m
    induction m with
    | zero =>
      intro k f' hk h1 h2 h3
      have hP' := hP.T hp h1
      have hK' := hK.T hG h1
      have he := hP'.2.2.2.2.1 b hb
      have he' := he
      obtain ⟨g1, g2, g3, g4, g5⟩ := he
      have ek : k = bln G b := by unfold bln; omega
      subst ek
      unfold P_F_countBlock_30 P_F_countBlock_129
      simp (disch := (first | assumption | omega)) only [true_and, and_true, zr_u, zi_u, zI_u, Option.some.injEq, exists_eq_left', nn_tn, nn_add, nn_s, nn_2, nn_5, nn_7, nn_8, na0, na2, na3, na4, na5, na6, uf_ne, uf_eq, ur_eq, ur_ne, true_or, or_true, not_true_eq_false, not_false_eq_true, true_implies, false_implies, implies_true, e10, e01, reduceIte, Option.isSome_none, Option.isSome_some, Bool.false_eq_true, bi_t, bi_f, ko_p_i, rc_p2_i hC, ka_p1_i, hP'.2.2.1 (b + 1) (by omega), rc_p7_i hC, ka_p6_i, g1, nn_e2, ko_7_i, rc_7_7_i hC, za5_i, za6_i, tn5, tn6]
      simp (disch := omega) only [nn_le]
      refine ⟨fun _ => ⟨fun q2 => ?_, fun q2 => ?_⟩, fun q => absurd (by omega) q⟩
      · refine h f' h1 (fun q hq => ?_)
        rw [h3 q hq, wq_n q2]
      · have hw := (hK'.2.2.1 b v hv).2
        have fr5 : frT f' (uf f' 19 5 (f' 19 5 + 1)) := fun a _ _ z => uf_ne _ z
        have hP2 := hP'.T hp fr5
        refine s_forks_i hC hp hb24 (hP2.2.2.2.2.1 b hb) (hw.same (fr5 _ (by omega) (by omega) (by omega)) (fr5 _ (by omega) (by omega) (by omega))) (fun r hr => ?_)
        rcases hr with ⟨hr, hr2⟩ | ⟨hr, hr2, hr3⟩
        · subst hr
          obtain ⟨c, hc⟩ := hr2 q2
          simp (disch := (first | assumption | omega)) only [true_and, and_true, zr_u, zi_u, zI_u, Option.some.injEq, exists_eq_left', nn_tn, nn_add, nn_s, nn_2, nn_5, nn_7, nn_8, na0, na2, na3, na4, na5, na6, uf_ne, uf_eq, ur_eq, ur_ne, true_or, or_true, not_true_eq_false, not_false_eq_true, true_implies, false_implies, implies_true, e10, e01, reduceIte, Option.isSome_none, Option.isSome_some, Bool.false_eq_true, bi_t, bi_f, rc_7_7_i hC, za6_i, tn6]
          refine h _ (fun a z1 z2 z3 => ?_) (fun q hq => ?_)
          · simp (disch := (first | assumption | omega)) only [true_and, and_true, zr_u, zi_u, zI_u, Option.some.injEq, exists_eq_left', nn_tn, nn_add, nn_s, nn_2, nn_5, nn_7, nn_8, na0, na2, na3, na4, na5, na6, uf_ne, uf_eq, ur_eq, ur_ne, true_or, or_true, not_true_eq_false, not_false_eq_true, true_implies, false_implies, implies_true, e10, e01, reduceIte, Option.isSome_none, Option.isSome_some, Bool.false_eq_true, bi_t, bi_f]
            exact h1 a z1 z2 z3
          · rw [wq_s q2 (by rw [hc]; rfl)]
            by_cases e6 : q = 6
            · subst e6; simp (disch := (first | assumption | omega)) only [true_and, and_true, zr_u, zi_u, zI_u, Option.some.injEq, exists_eq_left', nn_tn, nn_add, nn_s, nn_2, nn_5, nn_7, nn_8, na0, na2, na3, na4, na5, na6, uf_ne, uf_eq, ur_eq, ur_ne, true_or, or_true, not_true_eq_false, not_false_eq_true, true_implies, false_implies, implies_true, e10, e01, reduceIte, Option.isSome_none, Option.isSome_some, Bool.false_eq_true, bi_t, bi_f, h3 6 (by decide)]
              rfl
            · by_cases e5 : q = 5
              · subst e5; simp (disch := (first | assumption | omega)) only [true_and, and_true, zr_u, zi_u, zI_u, Option.some.injEq, exists_eq_left', nn_tn, nn_add, nn_s, nn_2, nn_5, nn_7, nn_8, na0, na2, na3, na4, na5, na6, uf_ne, uf_eq, ur_eq, ur_ne, true_or, or_true, not_true_eq_false, not_false_eq_true, true_implies, false_implies, implies_true, e10, e01, reduceIte, Option.isSome_none, Option.isSome_some, Bool.false_eq_true, bi_t, bi_f, h3 5 (by decide)]
                rfl
              · simp (disch := (first | assumption | omega)) only [true_and, and_true, zr_u, zi_u, zI_u, Option.some.injEq, exists_eq_left', nn_tn, nn_add, nn_s, nn_2, nn_5, nn_7, nn_8, na0, na2, na3, na4, na5, na6, uf_ne, uf_eq, ur_eq, ur_ne, true_or, or_true, not_true_eq_false, not_false_eq_true, true_implies, false_implies, implies_true, e10, e01, reduceIte, Option.isSome_none, Option.isSome_some, Bool.false_eq_true, bi_t, bi_f, h3 q hq, if_neg e5, if_neg e6]
                rfl
        · subst hr
          simp (disch := (first | assumption | omega)) only [true_and, and_true, zr_u, zi_u, zI_u, Option.some.injEq, exists_eq_left', nn_tn, nn_add, nn_s, nn_2, nn_5, nn_7, nn_8, na0, na2, na3, na4, na5, na6, uf_ne, uf_eq, ur_eq, ur_ne, true_or, or_true, not_true_eq_false, not_false_eq_true, true_implies, false_implies, implies_true, e10, e01, reduceIte, Option.isSome_none, Option.isSome_some, Bool.false_eq_true, bi_t, bi_f]
          refine h _ (fun a z1 z2 z3 => ?_) (fun q hq => ?_)
          · simp (disch := (first | assumption | omega)) only [true_and, and_true, zr_u, zi_u, zI_u, Option.some.injEq, exists_eq_left', nn_tn, nn_add, nn_s, nn_2, nn_5, nn_7, nn_8, na0, na2, na3, na4, na5, na6, uf_ne, uf_eq, ur_eq, ur_ne, true_or, or_true, not_true_eq_false, not_false_eq_true, true_implies, false_implies, implies_true, e10, e01, reduceIte, Option.isSome_none, Option.isSome_some, Bool.false_eq_true, bi_t, bi_f]
            exact h1 a z1 z2 z3
          · rw [wq_f q2 hr3]
            by_cases e5 : q = 5
            · subst e5; simp (disch := (first | assumption | omega)) only [true_and, and_true, zr_u, zi_u, zI_u, Option.some.injEq, exists_eq_left', nn_tn, nn_add, nn_s, nn_2, nn_5, nn_7, nn_8, na0, na2, na3, na4, na5, na6, uf_ne, uf_eq, ur_eq, ur_ne, true_or, or_true, not_true_eq_false, not_false_eq_true, true_implies, false_implies, implies_true, e10, e01, reduceIte, Option.isSome_none, Option.isSome_some, Bool.false_eq_true, bi_t, bi_f, h3 5 (by decide)]
              rfl
            · simp (disch := (first | assumption | omega)) only [true_and, and_true, zr_u, zi_u, zI_u, Option.some.injEq, exists_eq_left', nn_tn, nn_add, nn_s, nn_2, nn_5, nn_7, nn_8, na0, na2, na3, na4, na5, na6, uf_ne, uf_eq, ur_eq, ur_ne, true_or, or_true, not_true_eq_false, not_false_eq_true, true_implies, false_implies, implies_true, e10, e01, reduceIte, Option.isSome_none, Option.isSome_some, Bool.false_eq_true, bi_t, bi_f, h3 q hq, if_neg e5]
              rfl
    | succ m ih =>
      intro k f' hk h1 h2 h3
      have hP' := hP.T hp h1
      have hs := hP'.2.2.2.1 _ (hG.s_lt hb (s := G.2.2.1 b + k) (by omega))
      unfold P_F_countBlock_30 P_F_countBlock_74
      simp (disch := (first | assumption | omega)) only [true_and, and_true, zr_u, zi_u, zI_u, Option.some.injEq, exists_eq_left', nn_tn, nn_add, nn_s, nn_2, nn_5, nn_7, nn_8, na0, na2, na3, na4, na5, na6, uf_ne, uf_eq, ur_eq, ur_ne, true_or, or_true, not_true_eq_false, not_false_eq_true, true_implies, false_implies, implies_true, e10, e01, reduceIte, Option.isSome_none, Option.isSome_some, Bool.false_eq_true, bi_t, bi_f, ko_p_i, rc_p2_i hC, ka_p1_i, hP'.2.2.1 (b + 1) (by omega), ko_7_i, rc_7_7_i hC, rc_7_5_i hC, za3_i, za4_i, tn3, tn4, ko_15_i]
      simp (disch := omega) only [nn_le]
      refine ⟨fun q => absurd q (by omega), fun _ => ?_⟩
      have fr3 : frT f' (uf f' 19 3 (f' 19 3 + 1)) := fun a _ _ z => uf_ne _ z
      have hP3 := hP'.T hp fr3
      have hs3 := hP3.2.2.2.1 _ (hG.s_lt hb (s := G.2.2.1 b + k) (by omega))
      have hv3 : hV (uf f' 19 3 (f' 19 3 + 1)) 15 (mfr G.2.2.2.1 (G.2.2.1 b) k v) := h2.same (uf_ne _ (by decide)) (uf_ne _ (by decide))
      refine s_settles_i hC hvw hp hP3.2.2.2.2.2 hs3 hv3 ?_
      have go : ∀ (g : zf), frT f' g → hV g 15 (mfr G.2.2.2.1 (G.2.2.1 b) k v) → (∀ q, q < 7 → g 19 q = nn (t q + wq0 G b v q (k + 1))) → P_V_assign 183 15 p (nn (G.2.2.1 b + k)) (g, ρ) (fun σ5 => P_F_countBlock_30 183 Q (m + 1) 7 p (nn b) (nn (G.2.2.1 b + k + 1)) σ5) := by
        intro g z1 z2 z3
        have hPg := hP'.T hp z1
        refine s_assign_i hC hvw hp hPg.2.2.2.2.2 (hPg.2.2.2.1 _ (hG.s_lt hb (s := G.2.2.1 b + k) (by omega))) z2 (fun f'' r1 r2 => ?_)
        refine ih (k + 1) f'' (by omega) ((h1.trans z1).trans (fun a y1 y2 y3 => r1 a y1 y2)) r2 (fun q hq => ?_)
        rw [r1 19 (by decide) (by decide)]; exact z3 q hq
      cases he : (mev (G.2.2.2.1 (G.2.2.1 b + k)) (mfr G.2.2.2.1 (G.2.2.1 b) k v)).isSome with
      | false =>
        have e4 : csr G.2.2.2.1 (G.2.2.1 b) (k + 1) v = csr G.2.2.2.1 (G.2.2.1 b) k v := by
          show csr G.2.2.2.1 (G.2.2.1 b) k v + (if (mev (G.2.2.2.1 (G.2.2.1 b + k)) (mfr G.2.2.2.1 (G.2.2.1 b) k v)).isSome then 1 else 0) = _
          rw [he]; rfl
        simp (disch := (first | assumption | omega)) only [true_and, and_true, zr_u, zi_u, zI_u, Option.some.injEq, exists_eq_left', nn_tn, nn_add, nn_s, nn_2, nn_5, nn_7, nn_8, na0, na2, na3, na4, na5, na6, uf_ne, uf_eq, ur_eq, ur_ne, true_or, or_true, not_true_eq_false, not_false_eq_true, true_implies, false_implies, implies_true, e10, e01, reduceIte, Option.isSome_none, Option.isSome_some, Bool.false_eq_true, bi_t, bi_f, ko_7_i, rc_7_5_i hC, ko_15_i]
        refine go _ fr3 hv3 (fun q hq => ?_)
        unfold wq0
        rw [e4]
        have h3q := h3 q hq
        unfold wq0 at h3q
        by_cases e3 : q = 3
        · subst e3; simp (disch := (first | assumption | omega)) only [true_and, and_true, zr_u, zi_u, zI_u, Option.some.injEq, exists_eq_left', nn_tn, nn_add, nn_s, nn_2, nn_5, nn_7, nn_8, na0, na2, na3, na4, na5, na6, uf_ne, uf_eq, ur_eq, ur_ne, true_or, or_true, not_true_eq_false, not_false_eq_true, true_implies, false_implies, implies_true, e10, e01, reduceIte, Option.isSome_none, Option.isSome_some, Bool.false_eq_true, bi_t, bi_f, h3q]
          rfl
        · simp (disch := (first | assumption | omega)) only [true_and, and_true, zr_u, zi_u, zI_u, Option.some.injEq, exists_eq_left', nn_tn, nn_add, nn_s, nn_2, nn_5, nn_7, nn_8, na0, na2, na3, na4, na5, na6, uf_ne, uf_eq, ur_eq, ur_ne, true_or, or_true, not_true_eq_false, not_false_eq_true, true_implies, false_implies, implies_true, e10, e01, reduceIte, Option.isSome_none, Option.isSome_some, Bool.false_eq_true, bi_t, bi_f, h3q, if_neg e3]
      | true =>
        have e4 : csr G.2.2.2.1 (G.2.2.1 b) (k + 1) v = csr G.2.2.2.1 (G.2.2.1 b) k v + 1 := by
          show csr G.2.2.2.1 (G.2.2.1 b) k v + (if (mev (G.2.2.2.1 (G.2.2.1 b + k)) (mfr G.2.2.2.1 (G.2.2.1 b) k v)).isSome then 1 else 0) = _
          rw [he]; rfl
        simp (disch := (first | assumption | omega)) only [true_and, and_true, zr_u, zi_u, zI_u, Option.some.injEq, exists_eq_left', nn_tn, nn_add, nn_s, nn_2, nn_5, nn_7, nn_8, na0, na2, na3, na4, na5, na6, uf_ne, uf_eq, ur_eq, ur_ne, true_or, or_true, not_true_eq_false, not_false_eq_true, true_implies, false_implies, implies_true, e10, e01, reduceIte, Option.isSome_none, Option.isSome_some, Bool.false_eq_true, bi_t, bi_f, ko_7_i, rc_7_5_i hC, ko_15_i, rc_7_7_i hC, za4_i, tn4]
        refine go _ (fun a _ _ z => ?_) (h2.same ?_ ?_) (fun q hq => ?_)
        · simp (disch := (first | assumption | omega)) only [true_and, and_true, zr_u, zi_u, zI_u, Option.some.injEq, exists_eq_left', nn_tn, nn_add, nn_s, nn_2, nn_5, nn_7, nn_8, na0, na2, na3, na4, na5, na6, uf_ne, uf_eq, ur_eq, ur_ne, true_or, or_true, not_true_eq_false, not_false_eq_true, true_implies, false_implies, implies_true, e10, e01, reduceIte, Option.isSome_none, Option.isSome_some, Bool.false_eq_true, bi_t, bi_f]
        · simp (disch := (first | assumption | omega)) only [true_and, and_true, zr_u, zi_u, zI_u, Option.some.injEq, exists_eq_left', nn_tn, nn_add, nn_s, nn_2, nn_5, nn_7, nn_8, na0, na2, na3, na4, na5, na6, uf_ne, uf_eq, ur_eq, ur_ne, true_or, or_true, not_true_eq_false, not_false_eq_true, true_implies, false_implies, implies_true, e10, e01, reduceIte, Option.isSome_none, Option.isSome_some, Bool.false_eq_true, bi_t, bi_f]
        · simp (disch := (first | assumption | omega)) only [true_and, and_true, zr_u, zi_u, zI_u, Option.some.injEq, exists_eq_left', nn_tn, nn_add, nn_s, nn_2, nn_5, nn_7, nn_8, na0, na2, na3, na4, na5, na6, uf_ne, uf_eq, ur_eq, ur_ne, true_or, or_true, not_true_eq_false, not_false_eq_true, true_implies, false_implies, implies_true, e10, e01, reduceIte, Option.isSome_none, Option.isSome_some, Bool.false_eq_true, bi_t, bi_f]
        · unfold wq0
          rw [e4]
          have h3q := h3 q hq
          unfold wq0 at h3q
          by_cases e3 : q = 3
          · subst e3; simp (disch := (first | assumption | omega)) only [true_and, and_true, zr_u, zi_u, zI_u, Option.some.injEq, exists_eq_left', nn_tn, nn_add, nn_s, nn_2, nn_5, nn_7, nn_8, na0, na2, na3, na4, na5, na6, uf_ne, uf_eq, ur_eq, ur_ne, true_or, or_true, not_true_eq_false, not_false_eq_true, true_implies, false_implies, implies_true, e10, e01, reduceIte, Option.isSome_none, Option.isSome_some, Bool.false_eq_true, bi_t, bi_f, h3q]
            rfl
          · by_cases e4 : q = 4
            · subst e4; simp (disch := (first | assumption | omega)) only [true_and, and_true, zr_u, zi_u, zI_u, Option.some.injEq, exists_eq_left', nn_tn, nn_add, nn_s, nn_2, nn_5, nn_7, nn_8, na0, na2, na3, na4, na5, na6, uf_ne, uf_eq, ur_eq, ur_ne, true_or, or_true, not_true_eq_false, not_false_eq_true, true_implies, false_implies, implies_true, e10, e01, reduceIte, Option.isSome_none, Option.isSome_some, Bool.false_eq_true, bi_t, bi_f, h3q]
              rfl
            · simp (disch := (first | assumption | omega)) only [true_and, and_true, zr_u, zi_u, zI_u, Option.some.injEq, exists_eq_left', nn_tn, nn_add, nn_s, nn_2, nn_5, nn_7, nn_8, na0, na2, na3, na4, na5, na6, uf_ne, uf_eq, ur_eq, ur_ne, true_or, or_true, not_true_eq_false, not_false_eq_true, true_implies, false_implies, implies_true, e10, e01, reduceIte, Option.isSome_none, Option.isSome_some, Bool.false_eq_true, bi_t, bi_f, h3q, if_neg e3, if_neg e4]
  unfold P_F_countBlock
  simp (disch := (first | assumption | omega)) only [true_and, and_true, zr_u, zi_u, zI_u, Option.some.injEq, exists_eq_left', nn_tn, nn_add, nn_s, nn_2, nn_5, nn_7, nn_8, na0, na2, na3, na4, na5, na6, uf_ne, uf_eq, ur_eq, ur_ne, true_or, or_true, not_true_eq_false, not_false_eq_true, true_implies, false_implies, implies_true, e10, e01, reduceIte, Option.isSome_none, Option.isSome_some, Bool.false_eq_true, bi_t, bi_f, ko_7_i, rc_7_7_i hC, rc_7_5_i hC, rc_7_2_i hC, ka_10_i, rc_b_i hC, ko_15_i, za1_i, tn1]
  have fr1 : frT f (uf f 19 1 (f 19 1 + 1)) := fun a _ _ z => uf_ne _ z
  refine s_become_i hC hvw hvb (by omega) (hBb.2.same (fr1 _ (by omega) (by omega) (by omega)) (fr1 _ (by omega) (by omega) (by omega))) (fun f' r1 r2 => ?_)
  have fr' : frT f f' := fun a z1 z2 z3 => by rw [r1 a z1 z2]; exact fr1 a z1 z2 z3
  have hP' := hP.T hp fr'
  simp (disch := (first | assumption | omega)) only [true_and, and_true, zr_u, zi_u, zI_u, Option.some.injEq, exists_eq_left', nn_tn, nn_add, nn_s, nn_2, nn_5, nn_7, nn_8, na0, na2, na3, na4, na5, na6, uf_ne, uf_eq, ur_eq, ur_ne, true_or, or_true, not_true_eq_false, not_false_eq_true, true_implies, false_implies, implies_true, e10, e01, reduceIte, Option.isSome_none, Option.isSome_some, Bool.false_eq_true, bi_t, bi_f, ko_p_i, rc_p2_i hC, ka_p1_i, hP'.2.2.1 b (by omega)]
  refine ⟨_, key (G.2.2.1 (b + 1) - G.2.2.1 b) 0 f' (by omega) fr' r2 (fun q hq => ?_)⟩
  rw [r1 19 (by decide) (by decide)]
  unfold wq0
  have hz : csr G.2.2.2.1 (G.2.2.1 b) 0 v = 0 := rfl
  by_cases e : q = 1
  · subst e; simp (disch := (first | assumption | omega)) only [true_and, and_true, zr_u, zi_u, zI_u, Option.some.injEq, exists_eq_left', nn_tn, nn_add, nn_s, nn_2, nn_5, nn_7, nn_8, na0, na2, na3, na4, na5, na6, uf_ne, uf_eq, ur_eq, ur_ne, true_or, or_true, not_true_eq_false, not_false_eq_true, true_implies, false_implies, implies_true, e10, e01, reduceIte, Option.isSome_none, Option.isSome_some, Bool.false_eq_true, bi_t, bi_f, ht 1 (by decide)]
  · simp (disch := (first | assumption | omega)) only [true_and, and_true, zr_u, zi_u, zI_u, Option.some.injEq, exists_eq_left', nn_tn, nn_add, nn_s, nn_2, nn_5, nn_7, nn_8, na0, na2, na3, na4, na5, na6, uf_ne, uf_eq, ur_eq, ur_ne, true_or, or_true, not_true_eq_false, not_false_eq_true, true_implies, false_implies, implies_true, e10, e01, reduceIte, Option.isSome_none, Option.isSome_some, Bool.false_eq_true, bi_t, bi_f, ht q hq, if_neg e, hz, ite_self]
    rfl
theorem s_count_i {f : zf} {ρ : zo} (hC : zCi ρ) {p : Nat} {G : mG} {F : mF} {Q : zS → Prop} (hp : zp_ p) (hG : gG G) (hP : pC f p G) (hK : kC f G F) (h : ∀ f', frT f f' → (∀ q, q < 7 → f' 19 q = nn (mtl G F q)) → Q (f', ρ)) : P_F_count 183 7 p (f, ρ) Q := by
  have hn := hG.2.1
  have hp' := hp
  unfold zp_ at hp'
  have k43 : ∀ (m k : Nat) (f' : zf), k + m = G.1 → frT f f' → (∀ q, q < 7 → f' 19 q = nn (if q = 0 then G.1 else if q = 2 then G.2.1 else tq G F q k)) → P_F_count_43 183 Q (m + 1) 7 p (nn k) (f', ρ) := by
    intro m
    induction m with
    | zero =>
      intro k f' hk h1 h2
      have e : k = G.1 := by omega
      subst e
      have hP' := hP.T hp h1
      unfold P_F_count_43
      simp (disch := (first | assumption | omega)) only [true_and, and_true, zr_u, zi_u, zI_u, Option.some.injEq, exists_eq_left', nn_tn, nn_add, nn_s, nn_2, nn_5, nn_7, nn_8, na0, na2, na3, na4, na5, na6, uf_ne, uf_eq, ur_eq, ur_ne, true_or, or_true, not_true_eq_false, not_false_eq_true, true_implies, false_implies, implies_true, e10, e01, reduceIte, Option.isSome_none, Option.isSome_some, Bool.false_eq_true, bi_t, bi_f, ko_p_i, hP'.1]
      simp (disch := omega) only [nn_le]
      exact ⟨fun _ => h f' h1 h2, fun q => absurd (Nat.le_refl _) q⟩
    | succ m ih =>
      intro k f' hk h1 h2
      have hP' := hP.T hp h1
      have hK' := hK.T hG h1
      unfold P_F_count_43 P_F_count_66
      simp (disch := (first | assumption | omega)) only [true_and, and_true, zr_u, zi_u, zI_u, Option.some.injEq, exists_eq_left', nn_tn, nn_add, nn_s, nn_2, nn_5, nn_7, nn_8, na0, na2, na3, na4, na5, na6, uf_ne, uf_eq, ur_eq, ur_ne, true_or, or_true, not_true_eq_false, not_false_eq_true, true_implies, false_implies, implies_true, e10, e01, reduceIte, Option.isSome_none, Option.isSome_some, Bool.false_eq_true, bi_t, bi_f, ko_p_i, hP'.1, ko_7_i, rc_7_0_i hC, ka_8_i]
      simp (disch := omega) only [nn_le]
      refine ⟨fun q => absurd q (by omega), fun _ => ?_⟩
      have hB := hK'.1.1 k (by omega)
      cases hv : F k with
      | none =>
        rw [hv] at hB
        refine ⟨fun _ => ?_, fun z => absurd hB z⟩
        refine ih (k + 1) f' (by omega) h1 (fun q hq => ?_)
        rw [h2 q hq]
        show _ = nn (if q = 0 then G.1 else if q = 2 then G.2.1 else tq G F q k + (match F k with | none => 0 | some v => wq G k v q))
        rw [hv]; rfl
      | some v =>
        rw [hv] at hB
        refine ⟨fun z => absurd (hB.1.symm.trans z) (by decide), fun _ => ?_⟩
        refine s_countBlock_i hC hp hG (by omega) hP' hK' hv h2 (fun f2 r1 r2 => ?_)
        refine ih (k + 1) f2 (by omega) (h1.trans r1) (fun q hq => ?_)
        rw [r2 q hq]
        congr 1
        show _ = (if q = 0 then G.1 else if q = 2 then G.2.1 else tq G F q k + (match F k with | none => 0 | some v => wq G k v q))
        rw [hv]
        by_cases e0 : q = 0
        · subst e0; rfl
        · rw [if_neg e0, if_neg e0]
          by_cases e2 : q = 2
          · subst e2; rfl
          · rw [if_neg e2, if_neg e2]
  have k2 : ∀ (m k : Nat) (f' : zf), k + m = 7 → frT f f' → (∀ q, q < k → f' 19 q = 0) → P_F_count_2 183 Q (m + 1) 7 p (nn k) (f', ρ) := by
    intro m
    induction m with
    | zero =>
      intro k f' hk h1 h2
      have hP' := hP.T hp h1
      unfold P_F_count_2
      rw [show (7 : Int32) ≤ nn k ↔ nn 7 ≤ nn k from Iff.rfl, nn_le (by omega) (by omega)]
      refine ⟨fun _ => ?_, fun q => absurd (by omega) q⟩
      simp (disch := (first | assumption | omega)) only [true_and, and_true, zr_u, zi_u, zI_u, Option.some.injEq, exists_eq_left', nn_tn, nn_add, nn_s, nn_2, nn_5, nn_7, nn_8, na0, na2, na3, na4, na5, na6, uf_ne, uf_eq, ur_eq, ur_ne, true_or, or_true, not_true_eq_false, not_false_eq_true, true_implies, false_implies, implies_true, e10, e01, reduceIte, Option.isSome_none, Option.isSome_some, Bool.false_eq_true, bi_t, bi_f, ko_7_i, rc_7_7_i hC, ko_p_i, za0_i, za2_i, tn0, tn2, hP'.1, hP'.2.1]
      refine ⟨_, k43 G.1 0 _ (by omega) (fun a z1 z2 z3 => ?_) (fun q hq => ?_)⟩
      · simp (disch := (first | assumption | omega)) only [true_and, and_true, zr_u, zi_u, zI_u, Option.some.injEq, exists_eq_left', nn_tn, nn_add, nn_s, nn_2, nn_5, nn_7, nn_8, na0, na2, na3, na4, na5, na6, uf_ne, uf_eq, ur_eq, ur_ne, true_or, or_true, not_true_eq_false, not_false_eq_true, true_implies, false_implies, implies_true, e10, e01, reduceIte, Option.isSome_none, Option.isSome_some, Bool.false_eq_true, bi_t, bi_f]
        exact h1 a z1 z2 z3
      · by_cases e0 : q = 0
        · subst e0; simp (disch := (first | assumption | omega)) only [true_and, and_true, zr_u, zi_u, zI_u, Option.some.injEq, exists_eq_left', nn_tn, nn_add, nn_s, nn_2, nn_5, nn_7, nn_8, na0, na2, na3, na4, na5, na6, uf_ne, uf_eq, ur_eq, ur_ne, true_or, or_true, not_true_eq_false, not_false_eq_true, true_implies, false_implies, implies_true, e10, e01, reduceIte, Option.isSome_none, Option.isSome_some, Bool.false_eq_true, bi_t, bi_f]
        · by_cases e2 : q = 2
          · subst e2; simp (disch := (first | assumption | omega)) only [true_and, and_true, zr_u, zi_u, zI_u, Option.some.injEq, exists_eq_left', nn_tn, nn_add, nn_s, nn_2, nn_5, nn_7, nn_8, na0, na2, na3, na4, na5, na6, uf_ne, uf_eq, ur_eq, ur_ne, true_or, or_true, not_true_eq_false, not_false_eq_true, true_implies, false_implies, implies_true, e10, e01, reduceIte, Option.isSome_none, Option.isSome_some, Bool.false_eq_true, bi_t, bi_f]
            rfl
          · simp (disch := (first | assumption | omega)) only [true_and, and_true, zr_u, zi_u, zI_u, Option.some.injEq, exists_eq_left', nn_tn, nn_add, nn_s, nn_2, nn_5, nn_7, nn_8, na0, na2, na3, na4, na5, na6, uf_ne, uf_eq, ur_eq, ur_ne, true_or, or_true, not_true_eq_false, not_false_eq_true, true_implies, false_implies, implies_true, e10, e01, reduceIte, Option.isSome_none, Option.isSome_some, Bool.false_eq_true, bi_t, bi_f]
            rw [if_neg e0, if_neg e2, h2 q (by omega)]; rfl
    | succ m ih =>
      intro k f' hk h1 h2
      unfold P_F_count_2
      rw [show (7 : Int32) ≤ nn k ↔ nn 7 ≤ nn k from Iff.rfl, nn_le (by omega) (by omega)]
      refine ⟨fun q => absurd q (by omega), fun _ => ?_⟩
      simp (disch := (first | assumption | omega)) only [true_and, and_true, zr_u, zi_u, zI_u, Option.some.injEq, exists_eq_left', nn_tn, nn_add, nn_s, nn_2, nn_5, nn_7, nn_8, na0, na2, na3, na4, na5, na6, uf_ne, uf_eq, ur_eq, ur_ne, true_or, or_true, not_true_eq_false, not_false_eq_true, true_implies, false_implies, implies_true, e10, e01, reduceIte, Option.isSome_none, Option.isSome_some, Bool.false_eq_true, bi_t, bi_f, ko_7_i, rc_7_7_i hC, ka_19_i]
      refine ih (k + 1) _ (by omega) (fun a z1 z2 z3 => ?_) (fun q hq => ?_)
      · simp (disch := (first | assumption | omega)) only [true_and, and_true, zr_u, zi_u, zI_u, Option.some.injEq, exists_eq_left', nn_tn, nn_add, nn_s, nn_2, nn_5, nn_7, nn_8, na0, na2, na3, na4, na5, na6, uf_ne, uf_eq, ur_eq, ur_ne, true_or, or_true, not_true_eq_false, not_false_eq_true, true_implies, false_implies, implies_true, e10, e01, reduceIte, Option.isSome_none, Option.isSome_some, Bool.false_eq_true, bi_t, bi_f]
        exact h1 a z1 z2 z3
      · by_cases e : q = k
        · subst e; simp (disch := (first | assumption | omega)) only [true_and, and_true, zr_u, zi_u, zI_u, Option.some.injEq, exists_eq_left', nn_tn, nn_add, nn_s, nn_2, nn_5, nn_7, nn_8, na0, na2, na3, na4, na5, na6, uf_ne, uf_eq, ur_eq, ur_ne, true_or, or_true, not_true_eq_false, not_false_eq_true, true_implies, false_implies, implies_true, e10, e01, reduceIte, Option.isSome_none, Option.isSome_some, Bool.false_eq_true, bi_t, bi_f]
        · simp (disch := (first | assumption | omega)) only [true_and, and_true, zr_u, zi_u, zI_u, Option.some.injEq, exists_eq_left', nn_tn, nn_add, nn_s, nn_2, nn_5, nn_7, nn_8, na0, na2, na3, na4, na5, na6, uf_ne, uf_eq, ur_eq, ur_ne, true_or, or_true, not_true_eq_false, not_false_eq_true, true_implies, false_implies, implies_true, e10, e01, reduceIte, Option.isSome_none, Option.isSome_some, Bool.false_eq_true, bi_t, bi_f]
          exact h2 q (by omega)
  exact ⟨_, k2 7 0 f rfl (frT.rfl' f) (fun q hq => absurd hq (by omega))⟩
