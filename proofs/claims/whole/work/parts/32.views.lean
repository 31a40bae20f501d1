/-! Bytes of texts; views and expressions of the class. -/
theorem nn_s (a : Nat) : nn a + 1 = nn (a + 1) := nn_add a 1
theorem nn_2 (a : Nat) : 2 * nn a = nn (2 * a) := nn_mul 2 a
theorem nn_5 (a : Nat) : 5 * nn a = nn (5 * a) := nn_mul 5 a
theorem nn_7 (a : Nat) : 7 * nn a = nn (7 * a) := nn_mul 7 a
theorem nn_8 (a : Nat) : 8 * nn a = nn (8 * a) := nn_mul 8 a
theorem na0 (a : Nat) : nn a + 0 = nn a := nn_add a 0
theorem na2 (a : Nat) : nn a + 2 = nn (a + 2) := nn_add a 2
theorem na3 (a : Nat) : nn a + 3 = nn (a + 3) := nn_add a 3
theorem na4 (a : Nat) : nn a + 4 = nn (a + 4) := nn_add a 4
theorem na5 (a : Nat) : nn a + 5 = nn (a + 5) := nn_add a 5
theorem na6 (a : Nat) : nn a + 6 = nn (a + 6) := nn_add a 6
theorem nn_e0 {a : Nat} (h : a < 2147483648) : (nn a = 0) = (a = 0) := nn_eq (b := 0) h (by decide)
theorem nn_e1 {a : Nat} (h : a < 2147483648) : (nn a = 1) = (a = 1) := nn_eq (b := 1) h (by decide)
theorem nn_e2 {a : Nat} (h : a < 2147483648) : (nn a = 2) = (a = 2) := nn_eq (b := 2) h (by decide)
theorem e10 : ((1 : Int32) = 0) = False := eq_false (by decide)
theorem e01 : ((0 : Int32) = 1) = False := eq_false (by decide)
def bi (b : Bool) : Int32 := match b with
  | true => 1
  | false => 0
theorem bi_t : bi true = 1 := rfl
theorem bi_f : bi false = 0 := rfl
theorem i64_32 {x : Int64} {k : Nat} (h : x.toInt = k) (hk : k < 2147483648) : Int64.toInt32 x = nn k := by
  apply Int32.toInt_inj.mp
  rw [Int64.toInt_toInt32, h, nn_int hk]
  exact Int.bmod_eq_of_le (by omega) (by omega)
def rb (g : Nat → Int32) (len i : Nat) : Int32 := if i < len then g i &&& 255 else -1
theorem s_byteL {f : zf} {ρ : zo} (hC : zC ρ) {t L : Nat} {x : Int64} {Q : Int32 → zS → Prop} (ht : t = 1 ∧ L ≤ 700 ∨ t = 3 ∧ L ≤ 1448) (hl : f t 1 = nn L) (h1 : ∀ k : Nat, x.toInt = k → k < L → Q (f (t + 1) k &&& 255) (f, ρ)) (h2 : (x.toInt < 0 ∨ L ≤ x.toInt) → Q (-1) (f, ρ)) : P_T_byteAt 201 t x (f, ρ) Q := by
  have hL : L ≤ 1448 := by omega
  unfold P_T_byteAt P_T_byteAt_30 P_T_byteAt_31
  simp only [lg_lt0, lg_ge0, zi_u, hl, nn_64 (show L < 2147483648 by omega)]
  have h0 : (0 : Int64).toInt = 0 := by decide
  rw [h0]
  refine ⟨fun h => h2 (Or.inl h), fun h => ⟨?_, fun h' => h2 (Or.inr h'), fun h' => ?_⟩⟩
  · rcases ht with ⟨rfl, _⟩ | ⟨rfl, _⟩
    · simp only [ko_1]
    · simp only [ko_3]
  · obtain ⟨k, hk⟩ := Int.eq_ofNat_of_zero_le (show 0 ≤ x.toInt by omega)
    have hk' : x.toInt = (k : Int) := hk
    rw [i64_32 hk' (by omega), nn_tn (by omega)]
    rcases ht with ⟨rfl, hm⟩ | ⟨rfl, hm⟩
    · exact ⟨2, rc_1_0 hC, by rw [ka_2 (by omega)]; trivial, h1 k hk' (by omega)⟩
    · exact ⟨4, rc_3_0 hC, by rw [ka_4 (by omega)]; trivial, h1 k hk' (by omega)⟩
theorem s_byteAt {f : zf} {ρ : zo} (hC : zC ρ) {t L i : Nat} {Q : Int32 → zS → Prop} (ht : t = 1 ∧ L ≤ 700 ∨ t = 3 ∧ L ≤ 1448) (hl : f t 1 = nn L) (hi : i < 2147483648) (h : Q (rb (f (t + 1)) L i) (f, ρ)) : P_T_byteAt 201 t (Int32.toInt64 (nn i)) (f, ρ) Q := by
  refine s_byteL hC ht hl (fun k e hk => ?_) (fun h' => ?_)
  · rw [nn_64 hi] at e
    have : i = k := by omega
    subst this
    unfold rb at h; rw [if_pos hk] at h; exact h
  · rw [nn_64 hi] at h'
    unfold rb at h; rw [if_neg (by omega)] at h; exact h
def by_ (x : Int32) : Int32 := vp_nar .byte (Int8.toInt32 (Int32.toInt8 x))
theorem s_append {f : zf} {ρ : zo} (hC : zC ρ) {t L : Nat} {x : Int32} {Q : zS → Prop} (ht : t = 1 ∧ L < 700 ∨ t = 3 ∧ L < 1448) (hl : f t 1 = nn L) (h : Q (uf (uf f (t + 1) L (by_ x)) t 1 (nn (L + 1)), ρ)) : P_T_append 201 t x (f, ρ) Q := by
  unfold P_T_append P_T_append_33
  unfold by_ at h
  rcases ht with ⟨rfl, hL⟩ | ⟨rfl, hL⟩
  · simp (disch := (first | assumption | omega)) only [true_and, and_true, zr_u, zi_u, zI_u, Option.some.injEq, exists_eq_left', nn_tn, nn_add, nn_s, nn_2, nn_5, nn_7, nn_8, na0, na2, na3, na4, na5, na6, uf_ne, uf_eq, ur_eq, ur_ne, true_or, or_true, not_true_eq_false, not_false_eq_true, true_implies, false_implies, implies_true, e10, e01, reduceIte, Option.isSome_none, Option.isSome_some, Bool.false_eq_true, bi_t, bi_f, ko_1, rc_1_0 hC, hl, ka_2]
    refine ⟨by decide, fun h' => absurd h' ?_, fun _ => h⟩
    show ¬ nn 700 ≤ nn L
    rw [nn_le (by omega) (by omega)]; omega
  · simp (disch := (first | assumption | omega)) only [true_and, and_true, zr_u, zi_u, zI_u, Option.some.injEq, exists_eq_left', nn_tn, nn_add, nn_s, nn_2, nn_5, nn_7, nn_8, na0, na2, na3, na4, na5, na6, uf_ne, uf_eq, ur_eq, ur_ne, true_or, or_true, not_true_eq_false, not_false_eq_true, true_implies, false_implies, implies_true, e10, e01, reduceIte, Option.isSome_none, Option.isSome_some, Bool.false_eq_true, bi_t, bi_f, ko_3, rc_3_0 hC, hl, ka_4]
    refine ⟨by decide, fun h' => absurd h' ?_, fun _ => h⟩
    show ¬ nn 1448 ≤ nn L
    rw [nn_le (by omega) (by omega)]; omega
/-- only the rows a and b differ -/
def fr2 (f f' : zf) (a b : Nat) : Prop := ∀ k, k ≠ a → k ≠ b → f' k = f k
def bo (g : Nat → Int32) (n : Nat) : Prop := ∀ i, i < n → g i = 0 ∨ g i = 1
def av (a b : Nat → Int32) : mV := fun x => if x < 8 then (if a x = 0 then some (b x) else none) else some 0
/-- the view at cell c -/
def hV (f : zf) (c : Nat) (v : mV) : Prop := bo (f (c + 1)) 8 ∧ av (f (c + 1)) (f (c + 2)) = v
theorem hV.k {f : zf} {c : Nat} {v : mV} (h : hV f c v) {x : Nat} (hx : x < 8) : v x = if f (c + 1) x = 0 then some (f (c + 2) x) else none := by
  rw [← h.2]; unfold av; rw [if_pos hx]
theorem hV.same {f f' : zf} {c : Nat} {v : mV} (h : hV f c v) (h1 : f' (c + 1) = f (c + 1)) (h2 : f' (c + 2) = f (c + 2)) : hV f' c v := by
  unfold hV; rw [h1, h2]; exact h
theorem av_congr {a b a' b' : Nat → Int32} (h : ∀ i, i < 8 → a' i = a i ∧ b' i = b i) : av a' b' = av a b := by
  funext x; unfold av
  by_cases hx : x < 8
  · rw [if_pos hx, if_pos hx, (h x hx).1, (h x hx).2]
  · rw [if_neg hx, if_neg hx]
theorem s_become {f : zf} {ρ : zo} (hC : zC ρ) {c d : Nat} {v : mV} {Q : zS → Prop} (hc : zv_ c) (hd : zv_ d) (hcd : c ≠ d) (hv : hV f d v) (h : ∀ f', fr2 f f' (c + 1) (c + 2) → hV f' c v → Q (f', ρ)) : P_V_become 201 c d (f, ρ) Q := by
  have hc' := hc
  have hd' := hd
  unfold zv_ at hc' hd'
  have key : ∀ (m k : Nat) (f' : zf), k + m = 8 → fr2 f f' (c + 1) (c + 2) → (∀ i, i < k → f' (c + 1) i = f (d + 1) i ∧ f' (c + 2) i = f (d + 2) i) → P_V_become_2 201 Q (m + 1) c d (nn k) (f', ρ) := by
    intro m
    induction m with
    | zero =>
      intro k f' hk h1 h2
      unfold P_V_become_2
      rw [show (8 : Int32) = nn 8 from rfl, nn_le (by omega) (by omega)]
      refine ⟨fun _ => h f' h1 ⟨fun i hi => ?_, ?_⟩, fun h' => absurd (show 8 ≤ k by omega) h'⟩
      · rw [(h2 i (by omega)).1]; exact hv.1 i hi
      · rw [← hv.2]; exact av_congr fun i hi => h2 i (by omega)
    | succ m ih =>
      intro k f' hk h1 h2
      unfold P_V_become_2
      rw [show (8 : Int32) = nn 8 from rfl, nn_le (by omega) (by omega)]
      refine ⟨fun h' => absurd h' (by omega), fun _ => ?_⟩
      have e1 : f' (d + 1) = f (d + 1) := h1 _ (by omega) (by omega)
      have e2 : f' (d + 2) = f (d + 2) := h1 _ (by omega) (by omega)
      simp (disch := (first | assumption | omega)) only [true_and, and_true, zr_u, zi_u, zI_u, Option.some.injEq, exists_eq_left', nn_tn, nn_add, nn_s, nn_2, nn_5, nn_7, nn_8, na0, na2, na3, na4, na5, na6, uf_ne, uf_eq, ur_eq, ur_ne, true_or, or_true, not_true_eq_false, not_false_eq_true, true_implies, false_implies, implies_true, e10, e01, reduceIte, Option.isSome_none, Option.isSome_some, Bool.false_eq_true, bi_t, bi_f, ko_v, rc_v0 hC, rc_v1 hC, ka_v1, ka_v2, nar_bb (hv.1 k (by omega)), e1, e2]
      refine ih (k + 1) _ (by omega) (fun a ha hb => ?_) (fun i hi => ?_)
      · simp (disch := (first | assumption | omega)) only [true_and, and_true, zr_u, zi_u, zI_u, Option.some.injEq, exists_eq_left', nn_tn, nn_add, nn_s, nn_2, nn_5, nn_7, nn_8, na0, na2, na3, na4, na5, na6, uf_ne, uf_eq, ur_eq, ur_ne, true_or, or_true, not_true_eq_false, not_false_eq_true, true_implies, false_implies, implies_true, e10, e01, reduceIte, Option.isSome_none, Option.isSome_some, Bool.false_eq_true, bi_t, bi_f]
        exact h1 a ha hb
      · by_cases e : i = k
        · subst e
          simp (disch := (first | assumption | omega)) only [true_and, and_true, zr_u, zi_u, zI_u, Option.some.injEq, exists_eq_left', nn_tn, nn_add, nn_s, nn_2, nn_5, nn_7, nn_8, na0, na2, na3, na4, na5, na6, uf_ne, uf_eq, ur_eq, ur_ne, true_or, or_true, not_true_eq_false, not_false_eq_true, true_implies, false_implies, implies_true, e10, e01, reduceIte, Option.isSome_none, Option.isSome_some, Bool.false_eq_true, bi_t, bi_f]
        · simp (disch := (first | assumption | omega)) only [true_and, and_true, zr_u, zi_u, zI_u, Option.some.injEq, exists_eq_left', nn_tn, nn_add, nn_s, nn_2, nn_5, nn_7, nn_8, na0, na2, na3, na4, na5, na6, uf_ne, uf_eq, ur_eq, ur_ne, true_or, or_true, not_true_eq_false, not_false_eq_true, true_implies, false_implies, implies_true, e10, e01, reduceIte, Option.isSome_none, Option.isSome_some, Bool.false_eq_true, bi_t, bi_f]
          exact h2 i (by omega)
  exact ⟨9, key 8 0 f rfl (fun _ _ _ => rfl) (fun _ hi => absurd hi (by omega))⟩
theorem s_join {f : zf} {ρ : zo} (hC : zC ρ) {c d : Nat} {v w : mV} {Q : Int32 → zS → Prop} (hc : zv_ c) (hd : zv_ d) (hcd : c ≠ d) (hv : hV f c v) (hw : hV f d w) (h : ∀ f' r, fr2 f f' (c + 1) (c + 1) → hV f' c (mjn v w) → (r = 0 ∧ mjn v w = v ∨ r = 1 ∧ ∃ x, x < 8 ∧ mjn v w x ≠ v x) → Q r (f', ρ)) : P_V_join 201 c d (f, ρ) Q := by
  have hc' := hc
  have hd' := hd
  unfold zv_ at hc' hd'
  have key : ∀ (m k : Nat) (f' : zf) (r : Int32), k + m = 8 → fr2 f f' (c + 1) (c + 1) → bo (f' (c + 1)) 8 → (∀ i, i < k → (if f' (c + 1) i = 0 then some (f (c + 2) i) else none) = mjn v w i) → (∀ i, k ≤ i → f' (c + 1) i = f (c + 1) i) → (r = 0 ∧ (∀ i, i < k → mjn v w i = v i) ∨ r = 1 ∧ ∃ x, x < 8 ∧ mjn v w x ≠ v x) → P_V_join_4 201 Q (m + 1) c d r (nn k) (f', ρ) := by
    intro m
    induction m with
    | zero =>
      intro k f' r hk h1 hb h2 h3 h4
      unfold P_V_join_4
      rw [show (8 : Int32) = nn 8 from rfl, nn_le (by omega) (by omega)]
      have h8 : ∀ x, 8 ≤ x → mjn v w x = some 0 ∧ v x = some 0 := fun x hx => by
        have q1 : v x = some 0 := by rw [← hv.2]; exact if_neg (by omega)
        have q2 : w x = some 0 := by rw [← hw.2]; exact if_neg (by omega)
        unfold mjn; rw [q1, q2]; exact ⟨rfl, rfl⟩
      refine ⟨fun _ => ⟨?_, h f' r h1 ⟨hb, ?_⟩ ?_⟩, fun h' => absurd (show 8 ≤ k by omega) h'⟩
      · rcases h4 with h4 | h4
        · exact Or.inl h4.1
        · exact Or.inr h4.1
      · funext x
        unfold av
        by_cases hx : x < 8
        · rw [if_pos hx, h1 (c + 2) (by omega) (by omega)]; exact h2 x (by omega)
        · rw [if_neg hx, (h8 x (by omega)).1]
      · rcases h4 with h4 | h4
        · refine Or.inl ⟨h4.1, funext fun x => ?_⟩
          by_cases hx : x < 8
          · exact h4.2 x (by omega)
          · rw [(h8 x (by omega)).1, (h8 x (by omega)).2]
        · exact Or.inr h4
    | succ m ih =>
      intro k f' r hk h1 hb h2 h3 h4
      unfold P_V_join_4
      rw [show (8 : Int32) = nn 8 from rfl, nn_le (by omega) (by omega)]
      refine ⟨fun h' => absurd h' (by omega), fun _ => ?_⟩
      have e1 : f' (d + 1) = f (d + 1) := h1 _ (by omega) (by omega)
      have e2 : f' (d + 2) = f (d + 2) := h1 _ (by omega) (by omega)
      have e3 : f' (c + 2) = f (c + 2) := h1 _ (by omega) (by omega)
      have e4 : f' (c + 1) k = f (c + 1) k := h3 k (Nat.le_refl k)
      unfold P_V_join_52 P_V_join_43
      simp (disch := (first | assumption | omega)) only [true_and, and_true, zr_u, zi_u, zI_u, Option.some.injEq, exists_eq_left', nn_tn, nn_add, nn_s, nn_2, nn_5, nn_7, nn_8, na0, na2, na3, na4, na5, na6, uf_ne, uf_eq, ur_eq, ur_ne, true_or, or_true, not_true_eq_false, not_false_eq_true, true_implies, false_implies, implies_true, e10, e01, reduceIte, Option.isSome_none, Option.isSome_some, Bool.false_eq_true, bi_t, bi_f, ko_v, rc_v0 hC, rc_v1 hC, ka_v1, ka_v2, e1, e2, e3, e4, P_V_join_52, nar_b1]
      have hk8 : k < 8 := by omega
      have hvk := hv.k hk8
      have hwk := hw.k hk8
      have stay : mjn v w k = v k → P_V_join_4 201 Q (m + 1) c d r (nn (k + 1)) (f', ρ) := by
        intro hj
        refine ih (k + 1) f' r (by omega) h1 hb (fun i hi => ?_) (fun i hi => h3 i (by omega)) ?_
        · by_cases e : i = k
          · subst e; rw [hj, hvk, e4]
          · exact h2 i (by omega)
        · rcases h4 with h4 | h4
          · refine Or.inl ⟨h4.1, fun i hi => ?_⟩
            by_cases e : i = k
            · subst e; exact hj
            · exact h4.2 i (by omega)
          · exact Or.inr h4
      have move : f (c + 1) k = 0 → mjn v w k = none → P_V_join_4 201 Q (m + 1) c d 1 (nn (k + 1)) (uf f' (c + 1) k 1, ρ) := by
        intro ha hj
        refine ih (k + 1) _ 1 (by omega) (fun a q1 q2 => ?_) (fun i hi => ?_) (fun i hi => ?_) (fun i hi => ?_) (Or.inr ⟨rfl, k, hk8, ?_⟩)
        · simp (disch := (first | assumption | omega)) only [true_and, and_true, zr_u, zi_u, zI_u, Option.some.injEq, exists_eq_left', nn_tn, nn_add, nn_s, nn_2, nn_5, nn_7, nn_8, na0, na2, na3, na4, na5, na6, uf_ne, uf_eq, ur_eq, ur_ne, true_or, or_true, not_true_eq_false, not_false_eq_true, true_implies, false_implies, implies_true, e10, e01, reduceIte, Option.isSome_none, Option.isSome_some, Bool.false_eq_true, bi_t, bi_f]
          exact h1 a q1 q2
        · by_cases e : i = k
          · subst e; simp (disch := (first | assumption | omega)) only [true_and, and_true, zr_u, zi_u, zI_u, Option.some.injEq, exists_eq_left', nn_tn, nn_add, nn_s, nn_2, nn_5, nn_7, nn_8, na0, na2, na3, na4, na5, na6, uf_ne, uf_eq, ur_eq, ur_ne, true_or, or_true, not_true_eq_false, not_false_eq_true, true_implies, false_implies, implies_true, e10, e01, reduceIte, Option.isSome_none, Option.isSome_some, Bool.false_eq_true, bi_t, bi_f]
          · simp (disch := (first | assumption | omega)) only [true_and, and_true, zr_u, zi_u, zI_u, Option.some.injEq, exists_eq_left', nn_tn, nn_add, nn_s, nn_2, nn_5, nn_7, nn_8, na0, na2, na3, na4, na5, na6, uf_ne, uf_eq, ur_eq, ur_ne, true_or, or_true, not_true_eq_false, not_false_eq_true, true_implies, false_implies, implies_true, e10, e01, reduceIte, Option.isSome_none, Option.isSome_some, Bool.false_eq_true, bi_t, bi_f]
            exact hb i hi
        · by_cases e : i = k
          · subst e; simp (disch := (first | assumption | omega)) only [true_and, and_true, zr_u, zi_u, zI_u, Option.some.injEq, exists_eq_left', nn_tn, nn_add, nn_s, nn_2, nn_5, nn_7, nn_8, na0, na2, na3, na4, na5, na6, uf_ne, uf_eq, ur_eq, ur_ne, true_or, or_true, not_true_eq_false, not_false_eq_true, true_implies, false_implies, implies_true, e10, e01, reduceIte, Option.isSome_none, Option.isSome_some, Bool.false_eq_true, bi_t, bi_f, hj]
          · simp (disch := (first | assumption | omega)) only [true_and, and_true, zr_u, zi_u, zI_u, Option.some.injEq, exists_eq_left', nn_tn, nn_add, nn_s, nn_2, nn_5, nn_7, nn_8, na0, na2, na3, na4, na5, na6, uf_ne, uf_eq, ur_eq, ur_ne, true_or, or_true, not_true_eq_false, not_false_eq_true, true_implies, false_implies, implies_true, e10, e01, reduceIte, Option.isSome_none, Option.isSome_some, Bool.false_eq_true, bi_t, bi_f]
            exact h2 i (by omega)
        · simp (disch := (first | assumption | omega)) only [true_and, and_true, zr_u, zi_u, zI_u, Option.some.injEq, exists_eq_left', nn_tn, nn_add, nn_s, nn_2, nn_5, nn_7, nn_8, na0, na2, na3, na4, na5, na6, uf_ne, uf_eq, ur_eq, ur_ne, true_or, or_true, not_true_eq_false, not_false_eq_true, true_implies, false_implies, implies_true, e10, e01, reduceIte, Option.isSome_none, Option.isSome_some, Bool.false_eq_true, bi_t, bi_f]
          exact h3 i (by omega)
        · rw [hj, hvk, if_pos ha]; exact fun h => by cases h
      refine ⟨fun ha => stay ?_, fun ha => ⟨fun hb' => move ha ?_, fun hb' => ⟨fun hq => stay ?_, fun hq => move ha ?_⟩⟩⟩
      · rw [if_neg ha] at hvk
        unfold mjn; rw [hvk]; split <;> rfl
      · rw [if_pos ha] at hvk; rw [if_neg hb'] at hwk
        unfold mjn; rw [hvk, hwk]; rfl
      · rw [if_pos ha] at hvk; rw [if_pos hb'] at hwk
        unfold mjn; rw [hvk, hwk, hq, if_pos rfl]
      · rw [if_pos ha] at hvk; rw [if_pos hb'] at hwk
        unfold mjn; rw [hvk, hwk, if_neg (fun h => hq (Option.some.inj h))]
  exact ⟨9, key 8 0 f 0 rfl (fun _ _ _ => rfl) hv.1 (fun _ hi => absurd hi (by omega)) (fun _ _ => rfl) (Or.inl ⟨rfl, fun _ hi => absurd hi (by omega)⟩)⟩
