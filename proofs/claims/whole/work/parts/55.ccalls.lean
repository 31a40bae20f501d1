/-! The class's calls that throw, and reading. -/
def ul (ρ : zo) (k j : Nat) (x : Int64) : zo := (ρ.1, fun a b => if a = k ∧ b = j then x else ρ.2 a b)
theorem zL_u (f : zf) (ρ : zo) (k j : Nat) (x : Int64) : zL (f, ρ) k j x = (f, ul ρ k j x) := rfl
theorem ul_eq (ρ : zo) (k j : Nat) (x : Int64) : (ul ρ k j x).2 k j = x := if_pos ⟨rfl, rfl⟩
theorem oR.ul {ρ : zo} {p : Nat} (h : oR ρ p) (k j : Nat) (x : Int64) : oR (ul ρ k j x) p := h
theorem za200 : za 201 200 14 0 = True := ka_200 (i := 0) (by decide)
theorem tn00 : (0 : Int32).toNatClampNeg = 0 := by decide
def bl (b : Bool) : Int64 := match b with
  | true => 1
  | false => 0
theorem i32_18 {x : Int32} (h : ¬ x < 1) (h' : x ≤ 8) : ∃ m, 1 ≤ m ∧ m ≤ 8 ∧ x = nn m := by
  rw [Int32.lt_iff_toInt_lt] at h
  rw [Int32.le_iff_toInt_le] at h'
  have h2 : (1 : Int32).toInt = 1 := by decide
  have h3 : (8 : Int32).toInt = 8 := by decide
  refine ⟨x.toInt.toNat, by omega, by omega, ?_⟩
  apply Int32.toInt_inj.mp
  rw [nn_int (by omega)]
  omega
theorem i32_le {x : Int32} {k : Nat} (hk : k < 2147483647) (h0 : ¬ x < 0) (h1 : x ≤ nn k) : ∃ q, q ≤ k ∧ x = nn q := by
  obtain ⟨q, a, b⟩ := i32_range (k := k + 1) (by omega) h0 (by
    rw [Int32.lt_iff_toInt_lt, nn_int (by omega)]
    rw [Int32.le_iff_toInt_le, nn_int (by omega)] at h1
    omega)
  exact ⟨q, by omega, b⟩
theorem L_feed {f : zf} {ρ : zo} {p : Nat} {t : Nat → Nat} {n : Nat} {x5 x6 : Int32} {G : mG} {F : mF} {L : List Nat} {c : Nat} {I V : Nat → Int32} {s : Int32} {a : Int32} {b : Int64} {Q : Int32 → zS → Prop} (ho : oR ρ p) (h : cR f p t n x5 x6 G F L c I V s) (h1 : (a < 1 ∨ ¬ a ≤ 8) → Q 1 (f, ρ)) (h2 : ∀ m, a = nn m → 1 ≤ m → m ≤ 8 → ¬ n + m ≤ 700 → Q 0 (f, ul ρ 200 0 (Int32.toInt64 (-1)))) (h3 : ∀ m f', a = nn m → 1 ≤ m → m ≤ 8 → n + m ≤ 700 → cR f' p (ftp t n b) (n + m) x5 x6 G F L c I V s → lo f f' → Q 0 (f', ul ρ 200 0 (Int32.toInt64 (nn (n + m))))) : P_L_feed 201 0 a b 200 (f, ρ) Q := by
  have hC := ho.1
  have h' := h
  obtain ⟨g1, g2, g3, g4, g5, g6, g8, g9, g10, g11, g12⟩ := h
  have hn := g2.2.1
  unfold P_L_feed
  simp (disch := (first | assumption | omega)) only [true_and, and_true, zr_u, zi_u, zI_u, Option.some.injEq, exists_eq_left', nn_tn, nn_add, nn_s, nn_2, nn_5, nn_7, nn_8, na0, na2, na3, na4, na5, na6, uf_ne, uf_eq, ur_eq, ur_ne, true_or, or_true, not_true_eq_false, not_false_eq_true, true_implies, false_implies, implies_true, e10, e01, reduceIte, Option.isSome_none, Option.isSome_some, Bool.false_eq_true, bi_t, bi_f, ko_0]
  by_cases z1 : a < 1
  · right
    unfold PT_C_feed
    exact ⟨fun _ => ⟨rfl, fun _ => h1 (Or.inl z1)⟩, fun z => absurd z1 z⟩
  by_cases z8 : a ≤ 8
  · left
    obtain ⟨m, m1, m8, em⟩ := i32_18 z1 z8
    subst em
    unfold P_C_feed
    refine ⟨fun z => absurd z z1, fun _ => ⟨fun _ => ?_, fun z => absurd z8 z⟩⟩
    simp (disch := (first | assumption | omega)) only [true_and, and_true, zr_u, zi_u, zI_u, Option.some.injEq, exists_eq_left', nn_tn, nn_add, nn_s, nn_2, nn_5, nn_7, nn_8, na0, na2, na3, na4, na5, na6, uf_ne, uf_eq, ur_eq, ur_ne, true_or, or_true, not_true_eq_false, not_false_eq_true, true_implies, false_implies, implies_true, e10, e01, reduceIte, Option.isSome_none, Option.isSome_some, Bool.false_eq_true, bi_t, bi_f, ko_0, rc_0_0 hC, ko_1, g2.1, za200, tn00, zL_u]
    rw [show (700 : Int32) = nn 700 from rfl, nn_le (by omega) (by decide)]
    refine ⟨fun z => ?_, fun z => h2 m rfl m1 m8 z⟩
    have key : ∀ (r k : Nat) (g : zf), k + r = m → (∀ a, a ≠ 1 → a ≠ 2 → g a = f a) → g 1 1 = nn (n + k) → (∀ j, j < n + k → g 2 j &&& 255 = nn (ftp t n b j)) → P_C_feed_41 201 (fun x1 σ2 => Q 0 (zL σ2 200 0 (Int32.toInt64 x1))) (r + 1) 0 (nn m) b (nn k) (g, ρ) := by
      intro r
      induction r with
      | zero =>
        intro k g hk a1 a2 a3
        unfold P_C_feed_41
        simp (disch := (first | assumption | omega)) only [true_and, and_true, zr_u, zi_u, zI_u, Option.some.injEq, exists_eq_left', nn_tn, nn_add, nn_s, nn_2, nn_5, nn_7, nn_8, na0, na2, na3, na4, na5, na6, uf_ne, uf_eq, ur_eq, ur_ne, true_or, or_true, not_true_eq_false, not_false_eq_true, true_implies, false_implies, implies_true, e10, e01, reduceIte, Option.isSome_none, Option.isSome_some, Bool.false_eq_true, bi_t, bi_f, ko_0, rc_0_0 hC, ko_1, a2, zL_u]
        simp (disch := omega) only [nn_le]
        refine ⟨fun _ => ?_, fun z' => absurd (by omega) z'⟩
        rw [show k = m by omega] at a2 a3 ⊢
        refine h3 m g rfl m1 m8 z (h'.part (fun k hk => a1 k (by omega) (by omega)) ⟨a2, z, fun j hj => ⟨a3 j hj, ?_⟩⟩ ?_ ⟨?_, g8.2⟩ ?_ ?_ ?_) (fun k hk => a1 k (by omega) (by omega))
        · unfold ftp
          by_cases e : j < n
          · rw [if_pos e]; exact (g2.2.2 j e).2
          · rw [if_neg e]; exact fby_lt _ _
        · rw [a1 5 (by decide) (by decide)]; exact g3
        · unfold hT; rw [a1 3 (by decide) (by decide), a1 4 (by decide) (by decide)]; exact g8.1
        · rw [a1 164 (by decide) (by decide), a1 165 (by decide) (by decide)]; exact g9
        · rw [a1 166 (by decide) (by decide)]; exact g10
        · rw [a1 164 (by decide) (by decide)]; exact g11
      | succ r ih =>
        intro k g hk a1 a2 a3
        unfold P_C_feed_41
        simp (disch := (first | assumption | omega)) only [true_and, and_true, zr_u, zi_u, zI_u, Option.some.injEq, exists_eq_left', nn_tn, nn_add, nn_s, nn_2, nn_5, nn_7, nn_8, na0, na2, na3, na4, na5, na6, uf_ne, uf_eq, ur_eq, ur_ne, true_or, or_true, not_true_eq_false, not_false_eq_true, true_implies, false_implies, implies_true, e10, e01, reduceIte, Option.isSome_none, Option.isSome_some, Bool.false_eq_true, bi_t, bi_f, ko_0, rc_0_0 hC, ko_1, a2]
        simp (disch := omega) only [nn_le]
        refine ⟨fun z' => absurd z' (by omega), fun _ => ?_⟩
        refine s_append (t := 1) (L := n + k) hC (Or.inl ⟨rfl, by omega⟩) a2 ?_
        refine ih (k + 1) _ (by omega) (fun a z1 z2 => by simp (disch := (first | assumption | omega)) only [true_and, and_true, zr_u, zi_u, zI_u, Option.some.injEq, exists_eq_left', nn_tn, nn_add, nn_s, nn_2, nn_5, nn_7, nn_8, na0, na2, na3, na4, na5, na6, uf_ne, uf_eq, ur_eq, ur_ne, true_or, or_true, not_true_eq_false, not_false_eq_true, true_implies, false_implies, implies_true, e10, e01, reduceIte, Option.isSome_none, Option.isSome_some, Bool.false_eq_true, bi_t, bi_f]; exact a1 a z1 z2) (by simp (disch := (first | assumption | omega)) only [true_and, and_true, zr_u, zi_u, zI_u, Option.some.injEq, exists_eq_left', nn_tn, nn_add, nn_s, nn_2, nn_5, nn_7, nn_8, na0, na2, na3, na4, na5, na6, uf_ne, uf_eq, ur_eq, ur_ne, true_or, or_true, not_true_eq_false, not_false_eq_true, true_implies, false_implies, implies_true, e10, e01, reduceIte, Option.isSome_none, Option.isSome_some, Bool.false_eq_true, bi_t, bi_f]; rfl) (fun j hj => ?_)
        show uf (uf g 2 (n + k) (by_ (fX b k))) 1 1 (nn (n + k + 1)) 2 j &&& 255 = _
        simp (disch := (first | assumption | omega)) only [true_and, and_true, zr_u, zi_u, zI_u, Option.some.injEq, exists_eq_left', nn_tn, nn_add, nn_s, nn_2, nn_5, nn_7, nn_8, na0, na2, na3, na4, na5, na6, uf_ne, uf_eq, ur_eq, ur_ne, true_or, or_true, not_true_eq_false, not_false_eq_true, true_implies, false_implies, implies_true, e10, e01, reduceIte, Option.isSome_none, Option.isSome_some, Bool.false_eq_true, bi_t, bi_f]
        by_cases e : j = n + k
        · subst e
          rw [ur_eq, fby_c]
          unfold ftp
          rw [if_neg (by omega), show n + k - n = k by omega]
        · rw [ur_ne _ e]; exact a3 j (by omega)
    refine ⟨_, key m 0 f (by omega) (fun _ _ _ => rfl) g2.1 (fun j hj => ?_)⟩
    unfold ftp
    rw [if_pos (show j < n from hj)]; exact (g2.2.2 j hj).1
  · right
    unfold PT_C_feed
    exact ⟨fun z => absurd z z1, fun _ => ⟨fun z => absurd z z8, fun _ => ⟨rfl, fun _ => h1 (Or.inr z8)⟩⟩⟩
theorem s_isBlock {f : zf} {ρ : zo} {p : Nat} {t : Nat → Nat} {n : Nat} {x5 x6 : Int32} {G : mG} {F : mF} {L : List Nat} {c : Nat} {I V : Nat → Int32} {s : Int32} {x : Int32} {Q : Int32 → zS → Prop} (ho : oR ρ p) (h : cR f p t n x5 x6 G F L c I V s) (h1 : (x < 0 ∨ nn G.1 ≤ x) → Q 0 (f, ρ)) (h2 : ∀ b, b < G.1 → x = nn b → Q 1 (f, ρ)) : P_C_isBlock 201 0 x (f, ρ) Q := by
  have hp := h.1
  unfold P_C_isBlock P_C_isBlock_19 P_C_isBlock_20
  simp (disch := (first | assumption | omega)) only [true_and, and_true, zr_u, zi_u, zI_u, Option.some.injEq, exists_eq_left', nn_tn, nn_add, nn_s, nn_2, nn_5, nn_7, nn_8, na0, na2, na3, na4, na5, na6, uf_ne, uf_eq, ur_eq, ur_ne, true_or, or_true, not_true_eq_false, not_false_eq_true, true_implies, false_implies, implies_true, e10, e01, reduceIte, Option.isSome_none, Option.isSome_some, Bool.false_eq_true, bi_t, bi_f, ko_0, ho.2.1, ko_p, h.2.2.2.2.1.1]
  refine ⟨fun z => h1 (Or.inl z), fun z => ⟨fun z' => h1 (Or.inr z'), fun z' => ?_⟩⟩
  have hn := h.2.2.2.1.2.1
  obtain ⟨b, hb, e⟩ := i32_range (by omega) z (Int32.not_le.mp z')
  exact h2 b hb e
theorem s_isVar {σ : zS} {y : Int32} {Q : Int32 → zS → Prop} (h1 : (y < 0 ∨ 8 ≤ y) → Q 0 σ) (h2 : ∀ z, z < 8 → y = nn z → Q 1 σ) : P_C_isVariable 201 y σ Q := by
  unfold P_C_isVariable P_C_isVariable_14 P_C_isVariable_15
  simp (disch := (first | assumption | omega)) only [true_and, and_true, zr_u, zi_u, zI_u, Option.some.injEq, exists_eq_left', nn_tn, nn_add, nn_s, nn_2, nn_5, nn_7, nn_8, na0, na2, na3, na4, na5, na6, uf_ne, uf_eq, ur_eq, ur_ne, true_or, or_true, not_true_eq_false, not_false_eq_true, true_implies, false_implies, implies_true, e10, e01, reduceIte, Option.isSome_none, Option.isSome_some, Bool.false_eq_true, bi_t, bi_f]
  refine ⟨fun z => h1 (Or.inl z), fun z => ⟨fun z' => h1 (Or.inr z'), fun z' => ?_⟩⟩
  obtain ⟨b, hb, e⟩ := i32_range (k := 8) (by omega) z (Int32.not_le.mp z')
  exact h2 b hb e
theorem L_comes {f : zf} {ρ : zo} {p : Nat} {t : Nat → Nat} {n : Nat} {x5 x6 : Int32} {G : mG} {F : mF} {L : List Nat} {c : Nat} {I V : Nat → Int32} {s : Int32} {x : Int32} {Q : Int32 → zS → Prop} (ho : oR ρ p) (h : cR f p t n x5 x6 G F L c I V s) (h1 : (x < 0 ∨ nn G.1 ≤ x) → Q 1 (f, ρ)) (h2 : ∀ b, b < G.1 → x = nn b → Q 0 (f, ul ρ 200 0 (bl (F b).isSome))) : P_L_comes 201 0 x 200 (f, ρ) Q := by
  have hC := ho.1
  have hn := h.2.2.2.1.2.1
  have hK := h.2.2.2.2.2.1.1
  unfold P_L_comes P_L_comes_15
  simp (disch := (first | assumption | omega)) only [true_and, and_true, zr_u, zi_u, zI_u, Option.some.injEq, exists_eq_left', nn_tn, nn_add, nn_s, nn_2, nn_5, nn_7, nn_8, na0, na2, na3, na4, na5, na6, uf_ne, uf_eq, ur_eq, ur_ne, true_or, or_true, not_true_eq_false, not_false_eq_true, true_implies, false_implies, implies_true, e10, e01, reduceIte, Option.isSome_none, Option.isSome_some, Bool.false_eq_true, bi_t, bi_f, ko_0]
  by_cases zz : x < 0 ∨ nn G.1 ≤ x
  · right
    unfold PT_C_comes
    simp (disch := (first | assumption | omega)) only [true_and, and_true, zr_u, zi_u, zI_u, Option.some.injEq, exists_eq_left', nn_tn, nn_add, nn_s, nn_2, nn_5, nn_7, nn_8, na0, na2, na3, na4, na5, na6, uf_ne, uf_eq, ur_eq, ur_ne, true_or, or_true, not_true_eq_false, not_false_eq_true, true_implies, false_implies, implies_true, e10, e01, reduceIte, Option.isSome_none, Option.isSome_some, Bool.false_eq_true, bi_t, bi_f, ko_0]
    refine s_isBlock ho h (fun _ => ?_) (fun b hb e => ?_)
    · simp (disch := (first | assumption | omega)) only [true_and, and_true, zr_u, zi_u, zI_u, Option.some.injEq, exists_eq_left', nn_tn, nn_add, nn_s, nn_2, nn_5, nn_7, nn_8, na0, na2, na3, na4, na5, na6, uf_ne, uf_eq, ur_eq, ur_ne, true_or, or_true, not_true_eq_false, not_false_eq_true, true_implies, false_implies, implies_true, e10, e01, reduceIte, Option.isSome_none, Option.isSome_some, Bool.false_eq_true, bi_t, bi_f]
      intro _; exact h1 zz
    · rw [e] at zz
      rcases zz with z | z
      · rw [nn_n0 (by omega)] at z; exact absurd z (fun y => y)
      · rw [nn_le (by omega) (by omega)] at z; exact absurd z (by omega)
  · left
    unfold P_C_comes
    simp (disch := (first | assumption | omega)) only [true_and, and_true, zr_u, zi_u, zI_u, Option.some.injEq, exists_eq_left', nn_tn, nn_add, nn_s, nn_2, nn_5, nn_7, nn_8, na0, na2, na3, na4, na5, na6, uf_ne, uf_eq, ur_eq, ur_ne, true_or, or_true, not_true_eq_false, not_false_eq_true, true_implies, false_implies, implies_true, e10, e01, reduceIte, Option.isSome_none, Option.isSome_some, Bool.false_eq_true, bi_t, bi_f, ko_0]
    refine s_isBlock ho h (fun z => absurd z zz) (fun b hb e => ?_)
    have hh := h2 b hb e
    rw [e]
    simp (disch := (first | assumption | omega)) only [true_and, and_true, zr_u, zi_u, zI_u, Option.some.injEq, exists_eq_left', nn_tn, nn_add, nn_s, nn_2, nn_5, nn_7, nn_8, na0, na2, na3, na4, na5, na6, uf_ne, uf_eq, ur_eq, ur_ne, true_or, or_true, not_true_eq_false, not_false_eq_true, true_implies, false_implies, implies_true, e10, e01, reduceIte, Option.isSome_none, Option.isSome_some, Bool.false_eq_true, bi_t, bi_f, rc_0_3 hC, ko_7, rc_7_0 hC, ka_8]
    have hB := hK.1.1 b (by omega)
    cases hv : F b with
    | none =>
      rw [hv] at hB hh
      have hB' : f 8 b = 0 := hB
      simp (disch := (first | assumption | omega)) only [true_and, and_true, zr_u, zi_u, zI_u, Option.some.injEq, exists_eq_left', nn_tn, nn_add, nn_s, nn_2, nn_5, nn_7, nn_8, na0, na2, na3, na4, na5, na6, uf_ne, uf_eq, ur_eq, ur_ne, true_or, or_true, not_true_eq_false, not_false_eq_true, true_implies, false_implies, implies_true, e10, e01, reduceIte, Option.isSome_none, Option.isSome_some, Bool.false_eq_true, bi_t, bi_f, hB', za200, tn00, zL_u]
      exact hh
    | some v =>
      rw [hv] at hB hh
      simp (disch := (first | assumption | omega)) only [true_and, and_true, zr_u, zi_u, zI_u, Option.some.injEq, exists_eq_left', nn_tn, nn_add, nn_s, nn_2, nn_5, nn_7, nn_8, na0, na2, na3, na4, na5, na6, uf_ne, uf_eq, ur_eq, ur_ne, true_or, or_true, not_true_eq_false, not_false_eq_true, true_implies, false_implies, implies_true, e10, e01, reduceIte, Option.isSome_none, Option.isSome_some, Bool.false_eq_true, bi_t, bi_f, hB.1, za200, tn00, zL_u]
      exact hh
def kw (o : Option mV) (z : Nat) : Int32 := match o with
  | none => 0
  | some v => sb (v z)
/-- a view of the class at a block -/
theorem s_view {f : zf} {ρ : zo} {p : Nat} {t : Nat → Nat} {n : Nat} {x5 x6 : Int32} {G : mG} {F : mF} {L : List Nat} {c : Nat} {I V : Nat → Int32} {s : Int32} {b : Nat} {e : Int32} {Q : Nat → zS → Prop} (ho : oR ρ p) (h : cR f p t n x5 x6 G F L c I V s) (hb : b < 24) (h1 : ∀ k, zv_ k → (∀ v, mvw G F b e = some v → hV f k v) → Q k (f, ρ)) : P_F_view 201 7 (nn b) e (f, ρ) Q := by
  have hC := ho.1
  have hK := h.2.2.2.2.2.1.1
  unfold P_F_view P_F_view_19
  simp (disch := (first | assumption | omega)) only [true_and, and_true, zr_u, zi_u, zI_u, Option.some.injEq, exists_eq_left', nn_tn, nn_add, nn_s, nn_2, nn_5, nn_7, nn_8, na0, na2, na3, na4, na5, na6, uf_ne, uf_eq, ur_eq, ur_ne, true_or, or_true, not_true_eq_false, not_false_eq_true, true_implies, false_implies, implies_true, e10, e01, reduceIte, Option.isSome_none, Option.isSome_some, Bool.false_eq_true, bi_t, bi_f, ko_7, rc_7_2 hC, rc_7_3 hC, rc_b hC, rc_e hC, ka_10, ka_11]
  refine ⟨fun z => h1 _ (zv_b hb) (fun v hv => ?_), fun z => h1 _ (zv_e hb) (fun v hv => ?_)⟩
  · unfold mvw at hv
    cases hF : F b with
    | none => rw [hF] at hv; cases hv
    | some w =>
      rw [hF] at hv
      have := hK.1.1 b hb
      rw [hF] at this
      simp only [Option.map_some, if_pos z] at hv
      cases hv
      exact this.2
  · unfold mvw at hv
    cases hF : F b with
    | none => rw [hF] at hv; cases hv
    | some w =>
      rw [hF] at hv
      simp only [Option.map_some, if_neg z] at hv
      cases hv
      exact (hK.2.2.1 b w hF).2
theorem L_known {f : zf} {ρ : zo} {p : Nat} {t : Nat → Nat} {n : Nat} {x5 x6 : Int32} {G : mG} {F : mF} {L : List Nat} {c : Nat} {I V : Nat → Int32} {s : Int32} {x y e : Int32} {Q : Int32 → zS → Prop} (ho : oR ρ p) (h : cR f p t n x5 x6 G F L c I V s) (h1 : (x < 0 ∨ nn G.1 ≤ x ∨ y < 0 ∨ 8 ≤ y) → Q 1 (f, ρ)) (h2 : ∀ b z, b < G.1 → x = nn b → z < 8 → y = nn z → Q 0 (f, ul ρ 200 0 (Int32.toInt64 (kw (mvw G F b e) z)))) : P_L_known 201 0 x y e 200 (f, ρ) Q := by
  have hC := ho.1
  have hn := h.2.2.2.1.2.1
  have hK := h.2.2.2.2.2.1.1
  unfold P_L_known
  simp (disch := (first | assumption | omega)) only [true_and, and_true, zr_u, zi_u, zI_u, Option.some.injEq, exists_eq_left', nn_tn, nn_add, nn_s, nn_2, nn_5, nn_7, nn_8, na0, na2, na3, na4, na5, na6, uf_ne, uf_eq, ur_eq, ur_ne, true_or, or_true, not_true_eq_false, not_false_eq_true, true_implies, false_implies, implies_true, e10, e01, reduceIte, Option.isSome_none, Option.isSome_some, Bool.false_eq_true, bi_t, bi_f, ko_0]
  by_cases zz : x < 0 ∨ nn G.1 ≤ x
  · right
    unfold PT_C_known
    simp (disch := (first | assumption | omega)) only [true_and, and_true, zr_u, zi_u, zI_u, Option.some.injEq, exists_eq_left', nn_tn, nn_add, nn_s, nn_2, nn_5, nn_7, nn_8, na0, na2, na3, na4, na5, na6, uf_ne, uf_eq, ur_eq, ur_ne, true_or, or_true, not_true_eq_false, not_false_eq_true, true_implies, false_implies, implies_true, e10, e01, reduceIte, Option.isSome_none, Option.isSome_some, Bool.false_eq_true, bi_t, bi_f, ko_0]
    refine s_isBlock ho h (fun _ => ?_) (fun b hb e => ?_)
    · simp (disch := (first | assumption | omega)) only [true_and, and_true, zr_u, zi_u, zI_u, Option.some.injEq, exists_eq_left', nn_tn, nn_add, nn_s, nn_2, nn_5, nn_7, nn_8, na0, na2, na3, na4, na5, na6, uf_ne, uf_eq, ur_eq, ur_ne, true_or, or_true, not_true_eq_false, not_false_eq_true, true_implies, false_implies, implies_true, e10, e01, reduceIte, Option.isSome_none, Option.isSome_some, Bool.false_eq_true, bi_t, bi_f]
      intro _; exact h1 (by rcases zz with z | z; exact Or.inl z; exact Or.inr (Or.inl z))
    · rw [e] at zz
      rcases zz with z | z
      · rw [nn_n0 (by omega)] at z; exact absurd z (fun y => y)
      · rw [nn_le (by omega) (by omega)] at z; exact absurd z (by omega)
  by_cases zy : y < 0 ∨ 8 ≤ y
  · right
    unfold PT_C_known
    simp (disch := (first | assumption | omega)) only [true_and, and_true, zr_u, zi_u, zI_u, Option.some.injEq, exists_eq_left', nn_tn, nn_add, nn_s, nn_2, nn_5, nn_7, nn_8, na0, na2, na3, na4, na5, na6, uf_ne, uf_eq, ur_eq, ur_ne, true_or, or_true, not_true_eq_false, not_false_eq_true, true_implies, false_implies, implies_true, e10, e01, reduceIte, Option.isSome_none, Option.isSome_some, Bool.false_eq_true, bi_t, bi_f, ko_0]
    refine s_isBlock ho h (fun z => absurd z zz) (fun b hb e => ?_)
    simp (disch := (first | assumption | omega)) only [true_and, and_true, zr_u, zi_u, zI_u, Option.some.injEq, exists_eq_left', nn_tn, nn_add, nn_s, nn_2, nn_5, nn_7, nn_8, na0, na2, na3, na4, na5, na6, uf_ne, uf_eq, ur_eq, ur_ne, true_or, or_true, not_true_eq_false, not_false_eq_true, true_implies, false_implies, implies_true, e10, e01, reduceIte, Option.isSome_none, Option.isSome_some, Bool.false_eq_true, bi_t, bi_f]
    refine s_isVar (fun _ => ?_) (fun z hz ez => ?_)
    · simp (disch := (first | assumption | omega)) only [true_and, and_true, zr_u, zi_u, zI_u, Option.some.injEq, exists_eq_left', nn_tn, nn_add, nn_s, nn_2, nn_5, nn_7, nn_8, na0, na2, na3, na4, na5, na6, uf_ne, uf_eq, ur_eq, ur_ne, true_or, or_true, not_true_eq_false, not_false_eq_true, true_implies, false_implies, implies_true, e10, e01, reduceIte, Option.isSome_none, Option.isSome_some, Bool.false_eq_true, bi_t, bi_f]
      intro _; exact h1 (by rcases zy with z | z; exact Or.inr (Or.inr (Or.inl z)); exact Or.inr (Or.inr (Or.inr z)))
    · rw [ez] at zy
      rcases zy with w | w
      · rw [nn_n0 (by omega)] at w; exact absurd w (fun y => y)
      · rw [show (8 : Int32) = nn 8 from rfl, nn_le (by omega) (by omega)] at w; exact absurd w (by omega)
  · left
    unfold P_C_known
    simp (disch := (first | assumption | omega)) only [true_and, and_true, zr_u, zi_u, zI_u, Option.some.injEq, exists_eq_left', nn_tn, nn_add, nn_s, nn_2, nn_5, nn_7, nn_8, na0, na2, na3, na4, na5, na6, uf_ne, uf_eq, ur_eq, ur_ne, true_or, or_true, not_true_eq_false, not_false_eq_true, true_implies, false_implies, implies_true, e10, e01, reduceIte, Option.isSome_none, Option.isSome_some, Bool.false_eq_true, bi_t, bi_f, ko_0]
    refine s_isBlock ho h (fun z => absurd z zz) (fun b hb e1 => ?_)
    simp (disch := (first | assumption | omega)) only [true_and, and_true, zr_u, zi_u, zI_u, Option.some.injEq, exists_eq_left', nn_tn, nn_add, nn_s, nn_2, nn_5, nn_7, nn_8, na0, na2, na3, na4, na5, na6, uf_ne, uf_eq, ur_eq, ur_ne, true_or, or_true, not_true_eq_false, not_false_eq_true, true_implies, false_implies, implies_true, e10, e01, reduceIte, Option.isSome_none, Option.isSome_some, Bool.false_eq_true, bi_t, bi_f]
    refine s_isVar (fun z => absurd z zy) (fun z hz ez => ?_)
    have hh := h2 b z hb e1 hz ez
    rw [e1, ez]
    simp (disch := (first | assumption | omega)) only [true_and, and_true, zr_u, zi_u, zI_u, Option.some.injEq, exists_eq_left', nn_tn, nn_add, nn_s, nn_2, nn_5, nn_7, nn_8, na0, na2, na3, na4, na5, na6, uf_ne, uf_eq, ur_eq, ur_ne, true_or, or_true, not_true_eq_false, not_false_eq_true, true_implies, false_implies, implies_true, e10, e01, reduceIte, Option.isSome_none, Option.isSome_some, Bool.false_eq_true, bi_t, bi_f, rc_0_3 hC, ko_7, rc_7_0 hC, ka_8]
    have hB := hK.1.1 b (by omega)
    cases hv : F b with
    | none =>
      rw [hv] at hB
      have hB' : f 8 b = 0 := hB
      have em : mvw G F b e = none := by unfold mvw; rw [hv]; rfl
      rw [em] at hh
      simp (disch := (first | assumption | omega)) only [true_and, and_true, zr_u, zi_u, zI_u, Option.some.injEq, exists_eq_left', nn_tn, nn_add, nn_s, nn_2, nn_5, nn_7, nn_8, na0, na2, na3, na4, na5, na6, uf_ne, uf_eq, ur_eq, ur_ne, true_or, or_true, not_true_eq_false, not_false_eq_true, true_implies, false_implies, implies_true, e10, e01, reduceIte, Option.isSome_none, Option.isSome_some, Bool.false_eq_true, bi_t, bi_f, hB', za200, tn00, zL_u]
      exact hh
    | some w =>
      rw [hv] at hB
      obtain ⟨v, em⟩ : ∃ v, mvw G F b e = some v := ⟨_, by unfold mvw; rw [hv]; rfl⟩
      rw [em] at hh
      simp (disch := (first | assumption | omega)) only [true_and, and_true, zr_u, zi_u, zI_u, Option.some.injEq, exists_eq_left', nn_tn, nn_add, nn_s, nn_2, nn_5, nn_7, nn_8, na0, na2, na3, na4, na5, na6, uf_ne, uf_eq, ur_eq, ur_ne, true_or, or_true, not_true_eq_false, not_false_eq_true, true_implies, false_implies, implies_true, e10, e01, reduceIte, Option.isSome_none, Option.isSome_some, Bool.false_eq_true, bi_t, bi_f, hB.1]
      refine s_view (e := e) ho h (by omega) (fun k hk hV' => ?_)
      unfold P_C_known_61
      simp (disch := (first | assumption | omega)) only [true_and, and_true, zr_u, zi_u, zI_u, Option.some.injEq, exists_eq_left', nn_tn, nn_add, nn_s, nn_2, nn_5, nn_7, nn_8, na0, na2, na3, na4, na5, na6, uf_ne, uf_eq, ur_eq, ur_ne, true_or, or_true, not_true_eq_false, not_false_eq_true, true_implies, false_implies, implies_true, e10, e01, reduceIte, Option.isSome_none, Option.isSome_some, Bool.false_eq_true, bi_t, bi_f, ko_v, rc_v0 hC, ka_v1, za200, tn00, zL_u]
      have hkk := (hV' v em).k hz
      have hh' : Q 0 (f, ul ρ 200 0 (Int32.toInt64 (sb (v z)))) := hh
      refine ⟨fun q => ?_, fun q => ?_⟩
      · rw [hkk, if_pos q] at hh'; exact hh'
      · rw [hkk, if_neg q] at hh'; exact hh'
theorem L_number {f : zf} {ρ : zo} {p : Nat} {t : Nat → Nat} {n : Nat} {x5 x6 : Int32} {G : mG} {F : mF} {L : List Nat} {c : Nat} {I V : Nat → Int32} {s : Int32} {x y e : Int32} {Q : Int32 → zS → Prop} (ho : oR ρ p) (h : cR f p t n x5 x6 G F L c I V s) (h1 : (x < 0 ∨ nn G.1 ≤ x ∨ y < 0 ∨ 8 ≤ y) → Q 1 (f, ρ)) (h2 : ∀ b z, b < G.1 → x = nn b → z < 8 → y = nn z → (∀ v k, mvw G F b e = some v → v z = some k → Q 0 (f, ul ρ 200 0 (Int32.toInt64 k))) ∧ ((∀ v, mvw G F b e = some v → v z = none) → Q 2 (f, ρ))) : P_L_number 201 0 x y e 200 (f, ρ) Q := by
  have hC := ho.1
  have hn := h.2.2.2.1.2.1
  have hK := h.2.2.2.2.2.1.1
  unfold P_L_number
  simp (disch := (first | assumption | omega)) only [true_and, and_true, zr_u, zi_u, zI_u, Option.some.injEq, exists_eq_left', nn_tn, nn_add, nn_s, nn_2, nn_5, nn_7, nn_8, na0, na2, na3, na4, na5, na6, uf_ne, uf_eq, ur_eq, ur_ne, true_or, or_true, not_true_eq_false, not_false_eq_true, true_implies, false_implies, implies_true, e10, e01, reduceIte, Option.isSome_none, Option.isSome_some, Bool.false_eq_true, bi_t, bi_f, ko_0]
  by_cases zz : x < 0 ∨ nn G.1 ≤ x
  · right
    unfold PT_C_number
    simp (disch := (first | assumption | omega)) only [true_and, and_true, zr_u, zi_u, zI_u, Option.some.injEq, exists_eq_left', nn_tn, nn_add, nn_s, nn_2, nn_5, nn_7, nn_8, na0, na2, na3, na4, na5, na6, uf_ne, uf_eq, ur_eq, ur_ne, true_or, or_true, not_true_eq_false, not_false_eq_true, true_implies, false_implies, implies_true, e10, e01, reduceIte, Option.isSome_none, Option.isSome_some, Bool.false_eq_true, bi_t, bi_f, ko_0]
    refine s_isBlock ho h (fun _ => ?_) (fun b hb e => ?_)
    · simp (disch := (first | assumption | omega)) only [true_and, and_true, zr_u, zi_u, zI_u, Option.some.injEq, exists_eq_left', nn_tn, nn_add, nn_s, nn_2, nn_5, nn_7, nn_8, na0, na2, na3, na4, na5, na6, uf_ne, uf_eq, ur_eq, ur_ne, true_or, or_true, not_true_eq_false, not_false_eq_true, true_implies, false_implies, implies_true, e10, e01, reduceIte, Option.isSome_none, Option.isSome_some, Bool.false_eq_true, bi_t, bi_f]
      exact Or.inl (fun _ => h1 (by rcases zz with z | z; exact Or.inl z; exact Or.inr (Or.inl z)))
    · rw [e] at zz
      rcases zz with z | z
      · rw [nn_n0 (by omega)] at z; exact absurd z (fun y => y)
      · rw [nn_le (by omega) (by omega)] at z; exact absurd z (by omega)
  by_cases zy : y < 0 ∨ 8 ≤ y
  · right
    unfold PT_C_number
    simp (disch := (first | assumption | omega)) only [true_and, and_true, zr_u, zi_u, zI_u, Option.some.injEq, exists_eq_left', nn_tn, nn_add, nn_s, nn_2, nn_5, nn_7, nn_8, na0, na2, na3, na4, na5, na6, uf_ne, uf_eq, ur_eq, ur_ne, true_or, or_true, not_true_eq_false, not_false_eq_true, true_implies, false_implies, implies_true, e10, e01, reduceIte, Option.isSome_none, Option.isSome_some, Bool.false_eq_true, bi_t, bi_f, ko_0]
    refine s_isBlock ho h (fun z => absurd z zz) (fun b hb e => ?_)
    simp (disch := (first | assumption | omega)) only [true_and, and_true, zr_u, zi_u, zI_u, Option.some.injEq, exists_eq_left', nn_tn, nn_add, nn_s, nn_2, nn_5, nn_7, nn_8, na0, na2, na3, na4, na5, na6, uf_ne, uf_eq, ur_eq, ur_ne, true_or, or_true, not_true_eq_false, not_false_eq_true, true_implies, false_implies, implies_true, e10, e01, reduceIte, Option.isSome_none, Option.isSome_some, Bool.false_eq_true, bi_t, bi_f]
    refine s_isVar (fun _ => ?_) (fun z hz ez => ?_)
    · simp (disch := (first | assumption | omega)) only [true_and, and_true, zr_u, zi_u, zI_u, Option.some.injEq, exists_eq_left', nn_tn, nn_add, nn_s, nn_2, nn_5, nn_7, nn_8, na0, na2, na3, na4, na5, na6, uf_ne, uf_eq, ur_eq, ur_ne, true_or, or_true, not_true_eq_false, not_false_eq_true, true_implies, false_implies, implies_true, e10, e01, reduceIte, Option.isSome_none, Option.isSome_some, Bool.false_eq_true, bi_t, bi_f]
      exact Or.inl (fun _ => h1 (by rcases zy with z | z; exact Or.inr (Or.inr (Or.inl z)); exact Or.inr (Or.inr (Or.inr z))))
    · rw [ez] at zy
      rcases zy with w | w
      · rw [nn_n0 (by omega)] at w; exact absurd w (fun y => y)
      · rw [show (8 : Int32) = nn 8 from rfl, nn_le (by omega) (by omega)] at w; exact absurd w (by omega)
  have hx0 : ¬ x < 0 := fun z => zz (Or.inl z)
  have hx1 : x < nn G.1 := Int32.not_le.mp (fun z => zz (Or.inr z))
  have hy0 : ¬ y < 0 := fun z => zy (Or.inl z)
  have hy1 : y < nn 8 := Int32.not_le.mp (fun z => zy (Or.inr z))
  obtain ⟨b, hb, e1⟩ := i32_range (by omega) hx0 hx1
  obtain ⟨z, hz, ez⟩ := i32_range (k := 8) (by decide) hy0 hy1
  obtain ⟨h3, h4⟩ := h2 b z hb e1 hz ez
  subst e1 ez
  have bb : ∀ {Q' : Int32 → zS → Prop}, Q' 1 (f, ρ) → P_C_isBlock 201 0 (nn b) (f, ρ) Q' := fun hQ => s_isBlock ho h (fun z => absurd z zz) (fun _ _ _ => hQ)
  have vv : ∀ {Q' : Int32 → zS → Prop}, Q' 1 (f, ρ) → P_C_isVariable 201 (nn z) (f, ρ) Q' := fun hQ => s_isVar (fun z => absurd z zy) (fun _ _ _ => hQ)
  have hB := hK.1.1 b (by omega)
  cases hv : F b with
  | none =>
    rw [hv] at hB
    have hB' : f 8 b = 0 := hB
    have em : mvw G F b e = none := by unfold mvw; rw [hv]; rfl
    have hh := h4 (fun v q => by rw [em] at q; cases q)
    right
    unfold PT_C_number
    simp (disch := (first | assumption | omega)) only [true_and, and_true, zr_u, zi_u, zI_u, Option.some.injEq, exists_eq_left', nn_tn, nn_add, nn_s, nn_2, nn_5, nn_7, nn_8, na0, na2, na3, na4, na5, na6, uf_ne, uf_eq, ur_eq, ur_ne, true_or, or_true, not_true_eq_false, not_false_eq_true, true_implies, false_implies, implies_true, e10, e01, reduceIte, Option.isSome_none, Option.isSome_some, Bool.false_eq_true, bi_t, bi_f, ko_0]
    refine bb ?_
    simp (disch := (first | assumption | omega)) only [true_and, and_true, zr_u, zi_u, zI_u, Option.some.injEq, exists_eq_left', nn_tn, nn_add, nn_s, nn_2, nn_5, nn_7, nn_8, na0, na2, na3, na4, na5, na6, uf_ne, uf_eq, ur_eq, ur_ne, true_or, or_true, not_true_eq_false, not_false_eq_true, true_implies, false_implies, implies_true, e10, e01, reduceIte, Option.isSome_none, Option.isSome_some, Bool.false_eq_true, bi_t, bi_f]
    refine vv ?_
    simp (disch := (first | assumption | omega)) only [true_and, and_true, zr_u, zi_u, zI_u, Option.some.injEq, exists_eq_left', nn_tn, nn_add, nn_s, nn_2, nn_5, nn_7, nn_8, na0, na2, na3, na4, na5, na6, uf_ne, uf_eq, ur_eq, ur_ne, true_or, or_true, not_true_eq_false, not_false_eq_true, true_implies, false_implies, implies_true, e10, e01, reduceIte, Option.isSome_none, Option.isSome_some, Bool.false_eq_true, bi_t, bi_f, rc_0_3 hC, ko_7, rc_7_0 hC, ka_8, hB']
    exact Or.inr (fun _ => hh)
  | some w =>
    rw [hv] at hB
    obtain ⟨v, em⟩ : ∃ v, mvw G F b e = some v := ⟨_, by unfold mvw; rw [hv]; rfl⟩
    cases hvz : v z with
    | none =>
      have hh := h4 (fun v' q => by rw [em] at q; cases q; exact hvz)
      right
      unfold PT_C_number
      simp (disch := (first | assumption | omega)) only [true_and, and_true, zr_u, zi_u, zI_u, Option.some.injEq, exists_eq_left', nn_tn, nn_add, nn_s, nn_2, nn_5, nn_7, nn_8, na0, na2, na3, na4, na5, na6, uf_ne, uf_eq, ur_eq, ur_ne, true_or, or_true, not_true_eq_false, not_false_eq_true, true_implies, false_implies, implies_true, e10, e01, reduceIte, Option.isSome_none, Option.isSome_some, Bool.false_eq_true, bi_t, bi_f, ko_0]
      refine bb ?_
      simp (disch := (first | assumption | omega)) only [true_and, and_true, zr_u, zi_u, zI_u, Option.some.injEq, exists_eq_left', nn_tn, nn_add, nn_s, nn_2, nn_5, nn_7, nn_8, na0, na2, na3, na4, na5, na6, uf_ne, uf_eq, ur_eq, ur_ne, true_or, or_true, not_true_eq_false, not_false_eq_true, true_implies, false_implies, implies_true, e10, e01, reduceIte, Option.isSome_none, Option.isSome_some, Bool.false_eq_true, bi_t, bi_f]
      refine vv ?_
      simp (disch := (first | assumption | omega)) only [true_and, and_true, zr_u, zi_u, zI_u, Option.some.injEq, exists_eq_left', nn_tn, nn_add, nn_s, nn_2, nn_5, nn_7, nn_8, na0, na2, na3, na4, na5, na6, uf_ne, uf_eq, ur_eq, ur_ne, true_or, or_true, not_true_eq_false, not_false_eq_true, true_implies, false_implies, implies_true, e10, e01, reduceIte, Option.isSome_none, Option.isSome_some, Bool.false_eq_true, bi_t, bi_f, rc_0_3 hC, ko_7, rc_7_0 hC, ka_8, hB.1]
      refine s_view (e := e) ho h (by omega) (fun k hk hV' => ?_)
      simp (disch := (first | assumption | omega)) only [true_and, and_true, zr_u, zi_u, zI_u, Option.some.injEq, exists_eq_left', nn_tn, nn_add, nn_s, nn_2, nn_5, nn_7, nn_8, na0, na2, na3, na4, na5, na6, uf_ne, uf_eq, ur_eq, ur_ne, true_or, or_true, not_true_eq_false, not_false_eq_true, true_implies, false_implies, implies_true, e10, e01, reduceIte, Option.isSome_none, Option.isSome_some, Bool.false_eq_true, bi_t, bi_f, ko_v, rc_v0 hC, ka_v1]
      have hkk := (hV' v em).k hz
      rw [hvz] at hkk
      refine ⟨fun q => ?_, fun q => Or.inr (fun _ => hh)⟩
      rw [if_pos q] at hkk; cases hkk
    | some k' =>
      have hh := h3 v k' em hvz
      left
      unfold P_C_number
      simp (disch := (first | assumption | omega)) only [true_and, and_true, zr_u, zi_u, zI_u, Option.some.injEq, exists_eq_left', nn_tn, nn_add, nn_s, nn_2, nn_5, nn_7, nn_8, na0, na2, na3, na4, na5, na6, uf_ne, uf_eq, ur_eq, ur_ne, true_or, or_true, not_true_eq_false, not_false_eq_true, true_implies, false_implies, implies_true, e10, e01, reduceIte, Option.isSome_none, Option.isSome_some, Bool.false_eq_true, bi_t, bi_f, ko_0]
      refine bb ?_
      simp (disch := (first | assumption | omega)) only [true_and, and_true, zr_u, zi_u, zI_u, Option.some.injEq, exists_eq_left', nn_tn, nn_add, nn_s, nn_2, nn_5, nn_7, nn_8, na0, na2, na3, na4, na5, na6, uf_ne, uf_eq, ur_eq, ur_ne, true_or, or_true, not_true_eq_false, not_false_eq_true, true_implies, false_implies, implies_true, e10, e01, reduceIte, Option.isSome_none, Option.isSome_some, Bool.false_eq_true, bi_t, bi_f]
      refine vv ?_
      simp (disch := (first | assumption | omega)) only [true_and, and_true, zr_u, zi_u, zI_u, Option.some.injEq, exists_eq_left', nn_tn, nn_add, nn_s, nn_2, nn_5, nn_7, nn_8, na0, na2, na3, na4, na5, na6, uf_ne, uf_eq, ur_eq, ur_ne, true_or, or_true, not_true_eq_false, not_false_eq_true, true_implies, false_implies, implies_true, e10, e01, reduceIte, Option.isSome_none, Option.isSome_some, Bool.false_eq_true, bi_t, bi_f, rc_0_3 hC, ko_7, rc_7_0 hC, ka_8, hB.1]
      refine s_view (e := e) ho h (by omega) (fun k hk hV' => ?_)
      simp (disch := (first | assumption | omega)) only [true_and, and_true, zr_u, zi_u, zI_u, Option.some.injEq, exists_eq_left', nn_tn, nn_add, nn_s, nn_2, nn_5, nn_7, nn_8, na0, na2, na3, na4, na5, na6, uf_ne, uf_eq, ur_eq, ur_ne, true_or, or_true, not_true_eq_false, not_false_eq_true, true_implies, false_implies, implies_true, e10, e01, reduceIte, Option.isSome_none, Option.isSome_some, Bool.false_eq_true, bi_t, bi_f, ko_v, rc_v0 hC, ka_v1]
      have hkk := (hV' v em).k hz
      rw [hvz] at hkk
      by_cases q : f (k + 1) z = 0
      · simp (disch := (first | assumption | omega)) only [true_and, and_true, zr_u, zi_u, zI_u, Option.some.injEq, exists_eq_left', nn_tn, nn_add, nn_s, nn_2, nn_5, nn_7, nn_8, na0, na2, na3, na4, na5, na6, uf_ne, uf_eq, ur_eq, ur_ne, true_or, or_true, not_true_eq_false, not_false_eq_true, true_implies, false_implies, implies_true, e10, e01, reduceIte, Option.isSome_none, Option.isSome_some, Bool.false_eq_true, bi_t, bi_f, q]
        simp (disch := (first | assumption | omega)) only [true_and, and_true, zr_u, zi_u, zI_u, Option.some.injEq, exists_eq_left', nn_tn, nn_add, nn_s, nn_2, nn_5, nn_7, nn_8, na0, na2, na3, na4, na5, na6, uf_ne, uf_eq, ur_eq, ur_ne, true_or, or_true, not_true_eq_false, not_false_eq_true, true_implies, false_implies, implies_true, e10, e01, reduceIte, Option.isSome_none, Option.isSome_some, Bool.false_eq_true, bi_t, bi_f, rc_0_3 hC, ko_7]
        refine s_view (e := e) ho h (by omega) (fun j hj hW' => ?_)
        simp (disch := (first | assumption | omega)) only [true_and, and_true, zr_u, zi_u, zI_u, Option.some.injEq, exists_eq_left', nn_tn, nn_add, nn_s, nn_2, nn_5, nn_7, nn_8, na0, na2, na3, na4, na5, na6, uf_ne, uf_eq, ur_eq, ur_ne, true_or, or_true, not_true_eq_false, not_false_eq_true, true_implies, false_implies, implies_true, e10, e01, reduceIte, Option.isSome_none, Option.isSome_some, Bool.false_eq_true, bi_t, bi_f, ko_v, rc_v1 hC, ka_v2, za200, tn00, zL_u]
        have hjj := (hW' v em).k hz
        rw [hvz] at hjj
        by_cases q' : f (j + 1) z = 0
        · rw [if_pos q'] at hjj
          cases hjj
          exact hh
        · rw [if_neg q'] at hjj; cases hjj
      · rw [if_neg q] at hkk; cases hkk
theorem L_told {f : zf} {ρ : zo} {p : Nat} {t : Nat → Nat} {n : Nat} {x5 x6 : Int32} {G : mG} {F : mF} {L : List Nat} {c : Nat} {I V : Nat → Int32} {s : Int32} {x : Int32} {Q : Int32 → zS → Prop} (ho : oR ρ p) (h : cR f p t n x5 x6 G F L c I V s) (h1 : (x < 0 ∨ 6 < x) → Q 1 (f, ρ)) (h2 : ∀ q, q < 7 → x = nn q → Q 0 (f, ul ρ 200 0 (Int32.toInt64 (nn (mtl G F q))))) : P_L_told 201 0 x 200 (f, ρ) Q := by
  have hC := ho.1
  unfold P_L_told
  simp (disch := (first | assumption | omega)) only [true_and, and_true, zr_u, zi_u, zI_u, Option.some.injEq, exists_eq_left', nn_tn, nn_add, nn_s, nn_2, nn_5, nn_7, nn_8, na0, na2, na3, na4, na5, na6, uf_ne, uf_eq, ur_eq, ur_ne, true_or, or_true, not_true_eq_false, not_false_eq_true, true_implies, false_implies, implies_true, e10, e01, reduceIte, Option.isSome_none, Option.isSome_some, Bool.false_eq_true, bi_t, bi_f, ko_0]
  by_cases z0 : x < 0
  · right
    unfold PT_C_told
    exact ⟨fun _ => ⟨rfl, fun _ => h1 (Or.inl z0)⟩, fun z => absurd z0 z⟩
  by_cases z7 : x < 7
  · left
    obtain ⟨q, hq, e⟩ := i32_range (k := 7) (by decide) z0 z7
    have hh := h2 q hq e
    unfold P_C_told
    refine ⟨fun z => absurd z z0, fun _ => ⟨fun _ => ?_, fun z => absurd z7 z⟩⟩
    rw [e]
    simp (disch := (first | assumption | omega)) only [true_and, and_true, zr_u, zi_u, zI_u, Option.some.injEq, exists_eq_left', nn_tn, nn_add, nn_s, nn_2, nn_5, nn_7, nn_8, na0, na2, na3, na4, na5, na6, uf_ne, uf_eq, ur_eq, ur_ne, true_or, or_true, not_true_eq_false, not_false_eq_true, true_implies, false_implies, implies_true, e10, e01, reduceIte, Option.isSome_none, Option.isSome_some, Bool.false_eq_true, bi_t, bi_f, ko_0, rc_0_3 hC, ko_7, rc_7_7 hC, ka_19, za200, tn00, zL_u, h.2.2.2.2.2.1.2 q hq]
    exact hh
  · right
    unfold PT_C_told
    refine ⟨fun z => absurd z z0, fun _ => ⟨fun z => absurd z z7, fun _ => ⟨rfl, fun _ => h1 (Or.inr ?_)⟩⟩⟩
    rw [Int32.lt_iff_toInt_lt] at z7 ⊢
    have a1 : (7 : Int32).toInt = 7 := by decide
    have a2 : (6 : Int32).toInt = 6 := by decide
    omega
theorem L_value {f : zf} {ρ : zo} {p : Nat} {t : Nat → Nat} {n : Nat} {x5 x6 : Int32} {G : mG} {F : mF} {L : List Nat} {c : Nat} {I V : Nat → Int32} {s : Int32} {x : Int32} {Q : Int32 → zS → Prop} (ho : oR ρ p) (h : cR f p t n x5 x6 G F L c I V s) (h1 : (x < 0 ∨ 8 ≤ x) → Q 1 (f, ρ)) (h2 : ∀ q, q < 8 → x = nn q → Q 0 (f, ul ρ 200 0 (Int32.toInt64 (V q)))) : P_L_value 201 0 x 200 (f, ρ) Q := by
  have hC := ho.1
  have hV' := h.2.2.2.2.2.2.2.2.1
  unfold P_L_value
  simp (disch := (first | assumption | omega)) only [true_and, and_true, zr_u, zi_u, zI_u, Option.some.injEq, exists_eq_left', nn_tn, nn_add, nn_s, nn_2, nn_5, nn_7, nn_8, na0, na2, na3, na4, na5, na6, uf_ne, uf_eq, ur_eq, ur_ne, true_or, or_true, not_true_eq_false, not_false_eq_true, true_implies, false_implies, implies_true, e10, e01, reduceIte, Option.isSome_none, Option.isSome_some, Bool.false_eq_true, bi_t, bi_f, ko_0]
  by_cases zz : x < 0 ∨ 8 ≤ x
  · right
    unfold PT_C_value
    refine s_isVar (fun _ => ?_) (fun z hz ez => ?_)
    · simp (disch := (first | assumption | omega)) only [true_and, and_true, zr_u, zi_u, zI_u, Option.some.injEq, exists_eq_left', nn_tn, nn_add, nn_s, nn_2, nn_5, nn_7, nn_8, na0, na2, na3, na4, na5, na6, uf_ne, uf_eq, ur_eq, ur_ne, true_or, or_true, not_true_eq_false, not_false_eq_true, true_implies, false_implies, implies_true, e10, e01, reduceIte, Option.isSome_none, Option.isSome_some, Bool.false_eq_true, bi_t, bi_f]
      intro _; exact h1 zz
    · rw [ez] at zz
      rcases zz with w | w
      · rw [nn_n0 (by omega)] at w; exact absurd w (fun y => y)
      · rw [show (8 : Int32) = nn 8 from rfl, nn_le (by omega) (by omega)] at w; exact absurd w (by omega)
  · left
    unfold P_C_value
    refine s_isVar (fun z => absurd z zz) (fun z hz ez => ?_)
    have hh := h2 z hz ez
    rw [ez]
    simp (disch := (first | assumption | omega)) only [true_and, and_true, zr_u, zi_u, zI_u, Option.some.injEq, exists_eq_left', nn_tn, nn_add, nn_s, nn_2, nn_5, nn_7, nn_8, na0, na2, na3, na4, na5, na6, uf_ne, uf_eq, ur_eq, ur_ne, true_or, or_true, not_true_eq_false, not_false_eq_true, true_implies, false_implies, implies_true, e10, e01, reduceIte, Option.isSome_none, Option.isSome_some, Bool.false_eq_true, bi_t, bi_f, ko_0, rc_0_4 hC, ko_164, rc_164_2 hC, ka_166, za200, tn00, zL_u, hV' z hz]
    exact hh
theorem L_run {f : zf} {ρ : zo} {p : Nat} {t : Nat → Nat} {n : Nat} {x5 x6 : Int32} {G : mG} {F : mF} {L : List Nat} {c : Nat} {I V : Nat → Int32} {s : Int32} {x : Int32} {Q : Int32 → zS → Prop} (ho : oR ρ p) (h : cR f p t n x5 x6 G F L c I V s) (h1 : (x < 0 ∨ ¬ x ≤ 20000) → Q 1 (f, ρ)) (h2 : ∀ N f', N ≤ 20000 → x = nn N → cR f' p t n x5 x6 G F L c I (mrn G I c N 0 0 0 (fun _ => 0) 0).2.1 (nn (mrn G I c N 0 0 0 (fun _ => 0) 0).2.2) → lo f f' → Q 0 (f', ul ρ 200 0 (Int32.toInt64 (ron (mrn G I c N 0 0 0 (fun _ => 0) 0).1)))) : P_L_run 201 0 x 200 (f, ρ) Q := by
  have hC := ho.1
  have h' := h
  obtain ⟨g1, g2, g3, g4, g5, g6, g8, g9, g10, g11, g12⟩ := h
  unfold P_L_run
  simp (disch := (first | assumption | omega)) only [true_and, and_true, zr_u, zi_u, zI_u, Option.some.injEq, exists_eq_left', nn_tn, nn_add, nn_s, nn_2, nn_5, nn_7, nn_8, na0, na2, na3, na4, na5, na6, uf_ne, uf_eq, ur_eq, ur_ne, true_or, or_true, not_true_eq_false, not_false_eq_true, true_implies, false_implies, implies_true, e10, e01, reduceIte, Option.isSome_none, Option.isSome_some, Bool.false_eq_true, bi_t, bi_f, ko_0]
  by_cases z0 : x < 0
  · right
    unfold PT_C_run
    exact ⟨fun _ => ⟨rfl, fun _ => h1 (Or.inl z0)⟩, fun z => absurd z0 z⟩
  by_cases z7 : x ≤ 20000
  · left
    obtain ⟨N, hN, e⟩ := i32_le (k := 20000) (by decide) z0 z7
    subst e
    unfold P_C_run
    refine ⟨fun z => absurd z z0, fun _ => ⟨fun _ => ?_, fun z => absurd z7 z⟩⟩
    simp (disch := (first | assumption | omega)) only [true_and, and_true, zr_u, zi_u, zI_u, Option.some.injEq, exists_eq_left', nn_tn, nn_add, nn_s, nn_2, nn_5, nn_7, nn_8, na0, na2, na3, na4, na5, na6, uf_ne, uf_eq, ur_eq, ur_ne, true_or, or_true, not_true_eq_false, not_false_eq_true, true_implies, false_implies, implies_true, e10, e01, reduceIte, Option.isSome_none, Option.isSome_some, Bool.false_eq_true, bi_t, bi_f, ko_0, rc_0_4 hC, ko_164, ho.2.1]
    refine s_exec hC g1 g4 g5 hN g9.1.1 g9.1.2 g9.2 (fun f' a b d _ => ?_)
    simp (disch := (first | assumption | omega)) only [true_and, and_true, zr_u, zi_u, zI_u, Option.some.injEq, exists_eq_left', nn_tn, nn_add, nn_s, nn_2, nn_5, nn_7, nn_8, na0, na2, na3, na4, na5, na6, uf_ne, uf_eq, ur_eq, ur_ne, true_or, or_true, not_true_eq_false, not_false_eq_true, true_implies, false_implies, implies_true, e10, e01, reduceIte, Option.isSome_none, Option.isSome_some, Bool.false_eq_true, bi_t, bi_f, za200, tn00, zL_u]
    refine h2 N f' hN rfl (h'.part (fun k hk => a.1 k (by omega) (by omega)) (g2.same (a.1 _ (by decide) (by decide)) (a.1 _ (by decide) (by decide))) ?_ ⟨?_, g8.2⟩ ?_ b d) (fun k hk => a.1 k (by omega) (by omega))
    · rw [a.1 5 (by decide) (by decide)]; exact g3
    · unfold hT; rw [a.1 3 (by decide) (by decide), a.1 4 (by decide) (by decide)]; exact g8.1
    · rw [a.2 1 (by decide), a.1 165 (by decide) (by decide)]; exact g9
  · right
    unfold PT_C_run
    exact ⟨fun z => absurd z z0, fun _ => ⟨fun z => absurd z z7, fun _ => ⟨rfl, fun _ => h1 (Or.inr z7)⟩⟩⟩
theorem C_read {f : zf} {ρ : zo} {p : Nat} {t : Nat → Nat} {n : Nat} {x5 x6 : Int32} {G : mG} {F : mF} {L : List Nat} {c : Nat} {I V : Nat → Int32} {s : Int32} {Q : Int32 → zS → Prop} (ho : oR ρ p) (h : cR f p t n x5 x6 G F L c I V s) (h1 : ∀ f' ρ' G' F', qread t n = .inr G' → oR ρ' (342 - p) → ρ'.2 = ρ.2 → cR f' (342 - p) t n 0 (-1) G' F' L c I V s → lo f f' → Q (nn G'.1) (f', ρ')) (h0 : ∀ f' ρ' e, qread t n = .inl e → oR ρ' p → ρ'.2 = ρ.2 → cR f' p t n (nn e.1) (nn e.2) G F L c I V s → lo f f' → Q (-1) (f', ρ')) : P_C_read 201 0 (f, ρ) Q := by
  have hC := ho.1
  have h' := h
  obtain ⟨g1, g2, g3, g4, g5, g6, g8, g9, g10, g11, g12, g13⟩ := h
  have hp := g1
  unfold zp_ at hp
  have hsp : zp_ (342 - p) := by unfold zp_; omega
  unfold P_C_read
  simp (disch := (first | assumption | omega)) only [true_and, and_true, zr_u, zi_u, zI_u, Option.some.injEq, exists_eq_left', nn_tn, nn_add, nn_s, nn_2, nn_5, nn_7, nn_8, na0, na2, na3, na4, na5, na6, uf_ne, uf_eq, ur_eq, ur_ne, true_or, or_true, not_true_eq_false, not_false_eq_true, true_implies, false_implies, implies_true, e10, e01, reduceIte, Option.isSome_none, Option.isSome_some, Bool.false_eq_true, bi_t, bi_f, ko_0, rc_0_2 hC, ho.2.2, ko_5]
  refine s_fill hC hsp g2 g12 g13 (fun f' G' b1 b2 b3 b4 b5 b6 b7 => ?_) (fun f' e b1 b2 b3 b4 b5 => ?_)
  · have hC1 : zC (uo ρ 5 2 (some (342 - p))) := hC.uo rfl
    have hC2 : zC (uo (uo ρ 5 2 (some (342 - p))) 0 5 (some (342 - p))) := hC1.uo rfl
    have hC3 : zC (uo (uo (uo ρ 5 2 (some (342 - p))) 0 5 (some (342 - p))) 0 6 (some p)) := hC2.uo rfl
    have e5 : (uo ρ 5 2 (some (342 - p))).1 0 5 = some p := by rw [uo_ne _ (by decide)]; exact ho.2.1
    have e6 : (uo ρ 5 2 (some (342 - p))).1 0 6 = some (342 - p) := by rw [uo_ne _ (by decide)]; exact ho.2.2
    have d5 : (uo (uo (uo ρ 5 2 (some (342 - p))) 0 5 (some (342 - p))) 0 6 (some p)).1 0 5 = some (342 - p) := by rw [uo_ne _ (by decide), uo_eq]
    have d6 : (uo (uo (uo ρ 5 2 (some (342 - p))) 0 5 (some (342 - p))) 0 6 (some p)).1 0 6 = some p := by rw [uo_eq]
    have dl : (uo (uo (uo ρ 5 2 (some (342 - p))) 0 5 (some (342 - p))) 0 6 (some p)).2 = ρ.2 := rfl
    simp (disch := (first | assumption | omega)) only [true_and, and_true, zr_u, zi_u, zI_u, Option.some.injEq, exists_eq_left', nn_tn, nn_add, nn_s, nn_2, nn_5, nn_7, nn_8, na0, na2, na3, na4, na5, na6, uf_ne, uf_eq, ur_eq, ur_ne, true_or, or_true, not_true_eq_false, not_false_eq_true, true_implies, false_implies, implies_true, e10, e01, reduceIte, Option.isSome_none, Option.isSome_some, Bool.false_eq_true, bi_t, bi_f, e5, e6, zR_u]
    generalize uo (uo (uo ρ 5 2 (some (342 - p))) 0 5 (some (342 - p))) 0 6 (some p) = ρ3 at hC3 d5 d6 dl ⊢
    simp (disch := (first | assumption | omega)) only [true_and, and_true, zr_u, zi_u, zI_u, Option.some.injEq, exists_eq_left', nn_tn, nn_add, nn_s, nn_2, nn_5, nn_7, nn_8, na0, na2, na3, na4, na5, na6, uf_ne, uf_eq, ur_eq, ur_ne, true_or, or_true, not_true_eq_false, not_false_eq_true, true_implies, false_implies, implies_true, e10, e01, reduceIte, Option.isSome_none, Option.isSome_some, Bool.false_eq_true, bi_t, bi_f, rc_0_3 hC3, d5, ko_7]
    have r12 : hV f' 12 mz := g6.1.2.2.2.same (b2 _ (by decide) (by decide) (by omega)) (b2 _ (by decide) (by decide) (by omega))
    refine s_find hC3 hsp b4 b3 r12 (fun f2 F2 c1 c2 => ?_)
    have P2 := b3.F hsp c1
    refine s_count hC3 hsp b4 P2 c2 (fun f3 c3 c4 => ?_)
    have P3 := P2.T hsp c3
    have K3 := c2.T b4 c3
    have q : ∀ a, a ≠ 5 → a ≠ 6 → a ≠ 8 → a ≠ 9 → a ≠ 16 → a ≠ 17 → a ≠ 19 → (a < 20 ∨ 164 ≤ a) → (a < 342 - p ∨ 342 - p + 8 ≤ a) → f3 a = f a := by
      intro a z1 z2 z3 z4 z5 z6 z7 z8 z9
      rw [c3 a z5 z6 z7, c1 a z3 z4 z8, b2 a z1 z2 z9]
    simp (disch := (first | assumption | omega)) only [true_and, and_true, zr_u, zi_u, zI_u, Option.some.injEq, exists_eq_left', nn_tn, nn_add, nn_s, nn_2, nn_5, nn_7, nn_8, na0, na2, na3, na4, na5, na6, uf_ne, uf_eq, ur_eq, ur_ne, true_or, or_true, not_true_eq_false, not_false_eq_true, true_implies, false_implies, implies_true, e10, e01, reduceIte, Option.isSome_none, Option.isSome_some, Bool.false_eq_true, bi_t, bi_f, d5, ko_p, P3.1]
    refine h1 f3 ρ3 G' F2 b1 ⟨hC3, d5, by rw [d6]; congr 1; omega⟩ dl ⟨hsp, ?_, ⟨?_, ?_⟩, b4, P3, ⟨K3, c4⟩, ⟨?_, g8.2⟩, ?_, ?_, ?_, ?_, ?_⟩ (fun k hk => q k (by omega) (by omega) (by omega) (by omega) (by omega) (by omega) (by omega) (by omega) (by omega))
    · exact g2.same (q _ (by decide) (by decide) (by decide) (by decide) (by decide) (by decide) (by decide) (by decide) (by omega)) (q _ (by decide) (by decide) (by decide) (by decide) (by decide) (by decide) (by decide) (by decide) (by omega))
    · rw [c3 5 (by decide) (by decide) (by decide), c1 5 (by decide) (by decide) (by decide)]; exact b5
    · rw [c3 5 (by decide) (by decide) (by decide), c1 5 (by decide) (by decide) (by decide)]; exact b6
    · unfold hT
      rw [q 3 (by decide) (by decide) (by decide) (by decide) (by decide) (by decide) (by decide) (by decide) (by omega), q 4 (by decide) (by decide) (by decide) (by decide) (by decide) (by decide) (by decide) (by decide) (by omega)]; exact g8.1
    · rw [q 164 (by decide) (by decide) (by decide) (by decide) (by decide) (by decide) (by decide) (by decide) (by omega), q 165 (by decide) (by decide) (by decide) (by decide) (by decide) (by decide) (by decide) (by decide) (by omega)]; exact g9
    · rw [q 166 (by decide) (by decide) (by decide) (by decide) (by decide) (by decide) (by decide) (by decide) (by omega)]; exact g10
    · rw [q 164 (by decide) (by decide) (by decide) (by decide) (by decide) (by decide) (by decide) (by decide) (by omega)]; exact g11
    · rw [show 342 - (342 - p) = p by omega]
      exact g5.2.2.2.2.2.same (q _ (by omega) (by omega) (by omega) (by omega) (by omega) (by omega) (by omega) (by omega) (by omega)) (q _ (by omega) (by omega) (by omega) (by omega) (by omega) (by omega) (by omega) (by omega) (by omega))
    · rw [show 342 - (342 - p) = p by omega, q (p + 1) (by omega) (by omega) (by omega) (by omega) (by omega) (by omega) (by omega) (by omega) (by omega), g5.2.2.1 0 (by omega), g4.2.2.2.1]
  · simp (disch := (first | assumption | omega)) only [true_and, and_true, zr_u, zi_u, zI_u, Option.some.injEq, exists_eq_left', nn_tn, nn_add, nn_s, nn_2, nn_5, nn_7, nn_8, na0, na2, na3, na4, na5, na6, uf_ne, uf_eq, ur_eq, ur_ne, true_or, or_true, not_true_eq_false, not_false_eq_true, true_implies, false_implies, implies_true, e10, e01, reduceIte, Option.isSome_none, Option.isSome_some, Bool.false_eq_true, bi_t, bi_f]
    have q : ∀ a, a ≠ 5 → a ≠ 6 → (a < 342 - p ∨ 342 - p + 8 ≤ a) → f' a = f a := b2
    refine h0 f' _ e b1 ⟨hC.uo rfl, ?_, ?_⟩ rfl ⟨g1, ?_, b3, g4, ?_, ⟨?_, ?_⟩, ⟨?_, g8.2⟩, ?_, ?_, ?_, b4, b5⟩ (fun k hk => q k (by omega) (by omega) (by omega))
    · rw [uo_ne _ (by decide)]; exact ho.2.1
    · rw [uo_ne _ (by decide)]; exact ho.2.2
    · exact g2.same (q _ (by decide) (by decide) (by omega)) (q _ (by decide) (by decide) (by omega))
    · exact g5.same (fun i hi => q _ (by omega) (by omega) (by omega))
    · exact g6.1.lo g4 (fun k hk => q k (by omega) (by omega) (by omega))
    · intro j hj; rw [q 19 (by decide) (by decide) (by omega)]; exact g6.2 j hj
    · unfold hT
      rw [q 3 (by decide) (by decide) (by omega), q 4 (by decide) (by decide) (by omega)]; exact g8.1
    · rw [q 164 (by decide) (by decide) (by omega), q 165 (by decide) (by decide) (by omega)]; exact g9
    · rw [q 166 (by decide) (by decide) (by omega)]; exact g10
    · rw [q 164 (by decide) (by decide) (by omega)]; exact g11
