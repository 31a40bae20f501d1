/-! The first state. -/
theorem zi_Nn {σ : zS} {k a b : Nat} (h : a ≠ k) : zi (zN σ k) a b = zi σ a b := if_neg h
theorem zi_Ne {σ : zS} {k b : Nat} : zi (zN σ k) k b = 0 := if_pos rfl
theorem zi_In {σ : zS} {k j a b : Nat} {x : Int32} (h : ¬ (a = k ∧ b = j)) : zi (zI σ k j x) a b = zi σ a b := if_neg h
theorem zi_Ie {σ : zS} {k j : Nat} {x : Int32} : zi (zI σ k j x) k j = x := if_pos ⟨rfl, rfl⟩
theorem zr_Nn {σ : zS} {k a b : Nat} (h : a ≠ k) : zr (zN σ k) a b = zr σ a b := if_neg h
theorem zr_Rn {σ : zS} {k j a b : Nat} {x : Option Nat} (h : ¬ (a = k ∧ b = j)) : zr (zR σ k j x) a b = zr σ a b := if_neg h
theorem zr_Re {σ : zS} {k j : Nat} {x : Option Nat} : zr (zR σ k j x) k j = x := if_pos ⟨rfl, rfl⟩
theorem zrf_L {k j v : Nat} (h10 : k ≠ 10) (h11 : k ≠ 11) (h4 : (zkd k).1 ≠ 4) (h6 : (zkd k).1 ≠ 6) (h : zrf k j = some v) : (k = 0 ∧ j = 0 ∧ v = 1) ∨ (k = 0 ∧ j = 1 ∧ v = 3) ∨ (k = 0 ∧ j = 2 ∧ v = 5) ∨ (k = 0 ∧ j = 3 ∧ v = 7) ∨ (k = 0 ∧ j = 4 ∧ v = 164) ∨ (k = 1 ∧ j = 0 ∧ v = 2) ∨ (k = 3 ∧ j = 0 ∧ v = 4) ∨ (k = 5 ∧ j = 0 ∧ v = 1) ∨ (k = 5 ∧ j = 1 ∧ v = 6) ∨ (k = 7 ∧ j = 0 ∧ v = 8) ∨ (k = 7 ∧ j = 1 ∧ v = 9) ∨ (k = 7 ∧ j = 2 ∧ v = 10) ∨ (k = 7 ∧ j = 3 ∧ v = 11) ∨ (k = 7 ∧ j = 4 ∧ v = 12) ∨ (k = 7 ∧ j = 5 ∧ v = 15) ∨ (k = 7 ∧ j = 6 ∧ v = 18) ∨ (k = 7 ∧ j = 7 ∧ v = 19) ∨ (k = 164 ∧ j = 0 ∧ v = 165) ∨ (k = 164 ∧ j = 2 ∧ v = 166) ∨ (k = 183 ∧ j = 1 ∧ v = 184) ∨ (k = 183 ∧ j = 8 ∧ v = 185) ∨ (k = 183 ∧ j = 9 ∧ v = 186) ∨ (k = 183 ∧ j = 10 ∧ v = 187) ∨ (k = 183 ∧ j = 13 ∧ v = 188) ∨ (k = 183 ∧ j = 14 ∧ v = 189) ∨ (k = 183 ∧ j = 15 ∧ v = 190) ∨ (k = 183 ∧ j = 16 ∧ v = 191) ∨ (k = 183 ∧ j = 20 ∧ v = 192) ∨ (k = 183 ∧ j = 21 ∧ v = 193) ∨ (k = 183 ∧ j = 22 ∧ v = 194) ∨ (k = 183 ∧ j = 23 ∧ v = 195) ∨ (k = 183 ∧ j = 24 ∧ v = 196) ∨ (k = 183 ∧ j = 27 ∧ v = 197) ∨ (k = 183 ∧ j = 29 ∧ v = 198) ∨ (k = 183 ∧ j = 31 ∧ v = 199) := by
  unfold zrf at h
  rw [if_neg h10, if_neg h11, if_neg h4, if_neg h6] at h
  obtain ⟨t, ht, e⟩ := Option.map_eq_some_iff.mp h
  have h1 := List.find?_some ht
  have h2 := List.mem_of_find?_eq_some ht
  obtain ⟨a, b, d⟩ := t
  simp only [Bool.and_eq_true, beq_iff_eq] at h1 e
  obtain ⟨rfl, rfl⟩ := h1
  subst e
  simp only [List.mem_cons, Prod.mk.injEq, List.not_mem_nil, or_false] at h2
  exact h2
theorem zrf_v {c j v : Nat} (hv : zv_ c) (h : zrf c j = some v) : (j = 0 ∧ v = c + 1) ∨ (j = 1 ∧ v = c + 2) := by
  unfold zrf at h
  have h10 : c ≠ 10 ∧ c ≠ 11 := by rcases hv with h | h | h <;> omega
  rw [if_neg h10.1, if_neg h10.2, zv_0 hv, if_pos rfl] at h
  by_cases hj : j < 2
  · rw [if_pos hj] at h
    have := Option.some.inj h
    omega
  · rw [if_neg hj] at h; cases h
theorem zrf_10 {j v : Nat} (h : zrf 10 j = some v) : j < 24 ∧ v = 20 + 6 * j := by
  unfold zrf at h
  rw [if_pos rfl] at h
  by_cases hj : j < 24
  · rw [if_pos hj] at h; exact ⟨hj, (Option.some.inj h).symm⟩
  · rw [if_neg hj] at h; cases h
theorem zrf_11 {j v : Nat} (h : zrf 11 j = some v) : j < 24 ∧ v = 23 + 6 * j := by
  unfold zrf at h
  rw [if_neg (by decide), if_pos rfl] at h
  by_cases hj : j < 24
  · rw [if_pos hj] at h; exact ⟨hj, (Option.some.inj h).symm⟩
  · rw [if_neg hj] at h; cases h
theorem zrf_p {c j v : Nat} (hp : zp_ c) (h : zrf c j = some v) : 2 ≤ j ∧ j < 9 ∧ v = c + j - 1 := by
  unfold zrf at h
  have h10 : c ≠ 10 ∧ c ≠ 11 := by rcases hp with h | h <;> omega
  rw [if_neg h10.1, if_neg h10.2, (zp_k hp).1, if_neg (by decide), if_pos rfl] at h
  by_cases hj : 2 ≤ j ∧ j < 9
  · rw [if_pos hj] at h; exact ⟨hj.1, hj.2, (Option.some.inj h).symm⟩
  · rw [if_neg hj] at h; cases h
/-- the ints of the first state -/
def fI (k j : Nat) : Int32 := if k = 5 ∧ j = 6 then -1 else if (k = 167 ∨ k = 175) ∧ j = 0 then 1 else 0
theorem fI_0 {k j : Nat} (h1 : ¬ (k = 5 ∧ j = 6)) (h2 : ¬ ((k = 167 ∨ k = 175) ∧ j = 0)) : fI k j = 0 := by
  unfold fI; rw [if_neg h1, if_neg h2]
def kI (N : Nat) (σ : zS) : Prop := (∀ k j, k < N → zi σ k j = fI k j) ∧ ∀ k j v, 0 < k → k < N → zrf k j = some v → zr σ k j = some v
theorem kI.zero {N : Nat} {σ : zS} (h : kI N σ) (j : Nat) (x : Option Nat) : kI N (zR σ 0 j x) := ⟨fun k b hk => h.1 k b hk, fun k b v h0 hk hv => by rw [zr_Rn (by omega)]; exact h.2 k b v h0 hk hv⟩
/-- stages of making -/
theorem kI_T {σ : zS} {a : Nat} (ha : a = 1 ∨ a = 3) (h : kI a σ) : kI (a + 2) (zR (zN (zN σ a) (a + 1)) a 0 (some (a + 1))) := by
  refine ⟨fun k j hk => ?_, fun k j v h0 hk hv => ?_⟩
  · by_cases h1 : k < a
    · simp (disch := omega) only [zi_R, zi_Nn, zi_Ne, zi_In, zi_Ie, zr_I, zr_Nn, zr_Rn, zr_Re]
      exact h.1 k j h1
    · rw [fI_0 (by omega) (by omega)]
      have : k = a ∨ k = a + 1 := by omega
      rcases this with e | e <;> subst e <;> simp (disch := omega) only [zi_R, zi_Nn, zi_Ne, zi_In, zi_Ie, zr_I, zr_Nn, zr_Rn, zr_Re]
  · by_cases h1 : k < a
    · simp (disch := omega) only [zi_R, zi_Nn, zi_Ne, zi_In, zi_Ie, zr_I, zr_Nn, zr_Rn, zr_Re]
      exact h.2 k j v h0 h1 hv
    · have hz : zkd k = (1, 0) ∨ zkd k = (12, 700) ∨ zkd k = (12, 1448) := by
        have : k = 1 ∨ k = 2 ∨ k = 3 ∨ k = 4 := by omega
        rcases this with e | e | e | e <;> subst e
        · exact Or.inl rfl
        · exact Or.inr (Or.inl rfl)
        · exact Or.inl rfl
        · exact Or.inr (Or.inr rfl)
      have := zrf_L (by omega) (by omega) (by rcases hz with e | e | e <;> rw [e] <;> decide) (by rcases hz with e | e | e <;> rw [e] <;> decide) hv
      have e : k = a ∧ j = 0 ∧ v = a + 1 := by omega
      obtain ⟨rfl, rfl, rfl⟩ := e
      simp (disch := omega) only [zi_R, zi_Nn, zi_Ne, zi_In, zi_Ie, zr_I, zr_Nn, zr_Rn, zr_Re]
theorem kI_R {σ : zS} (h : kI 5 σ) : kI 7 (zR (zI (zR (zN (zN σ 5) 6) 5 1 (some 6)) 5 6 (-1)) 5 0 (some 1)) := by
  refine ⟨fun k j hk => ?_, fun k j v h0 hk hv => ?_⟩
  · by_cases h1 : k < 5
    · simp (disch := omega) only [zi_R, zi_Nn, zi_Ne, zi_In, zi_Ie, zr_I, zr_Nn, zr_Rn, zr_Re]
      exact h.1 k j h1
    · have : k = 5 ∨ k = 6 := by omega
      rcases this with e | e
      · subst e
        by_cases ej : j = 6
        · subst ej; simp (disch := omega) only [zi_R, zi_Nn, zi_Ne, zi_In, zi_Ie, zr_I, zr_Nn, zr_Rn, zr_Re]; rfl
        · rw [fI_0 (by omega) (by omega)]; simp (disch := omega) only [zi_R, zi_Nn, zi_Ne, zi_In, zi_Ie, zr_I, zr_Nn, zr_Rn, zr_Re]
      · subst e
        rw [fI_0 (by omega) (by omega)]; simp (disch := omega) only [zi_R, zi_Nn, zi_Ne, zi_In, zi_Ie, zr_I, zr_Nn, zr_Rn, zr_Re]
  · by_cases h1 : k < 5
    · simp (disch := omega) only [zi_R, zi_Nn, zi_Ne, zi_In, zi_Ie, zr_I, zr_Nn, zr_Rn, zr_Re]
      exact h.2 k j v h0 h1 hv
    · have hz : zkd k = (2, 0) ∨ zkd k = (10, 48) := by
        have : k = 5 ∨ k = 6 := by omega
        rcases this with e | e <;> subst e
        · exact Or.inl rfl
        · exact Or.inr rfl
      have := zrf_L (by omega) (by omega) (by rcases hz with e | e <;> rw [e] <;> decide) (by rcases hz with e | e <;> rw [e] <;> decide) hv
      have e : (k = 5 ∧ j = 0 ∧ v = 1) ∨ (k = 5 ∧ j = 1 ∧ v = 6) := by omega
      rcases e with ⟨rfl, rfl, rfl⟩ | ⟨rfl, rfl, rfl⟩ <;> simp (disch := omega) only [zi_R, zi_Nn, zi_Ne, zi_In, zi_Ie, zr_I, zr_Nn, zr_Rn, zr_Re]
theorem kI_X {σ : zS} (h : kI 164 σ) : kI 167 (zR (zN (zR (zN (zN σ 164) 165) 164 0 (some 165)) 166) 164 2 (some 166)) := by
  refine ⟨fun k j hk => ?_, fun k j v h0 hk hv => ?_⟩
  · by_cases h1 : k < 164
    · simp (disch := omega) only [zi_R, zi_Nn, zi_Ne, zi_In, zi_Ie, zr_I, zr_Nn, zr_Rn, zr_Re]
      exact h.1 k j h1
    · rw [fI_0 (by omega) (by omega)]
      have : k = 164 ∨ k = 165 ∨ k = 166 := by omega
      rcases this with e | e | e <;> subst e <;> simp (disch := omega) only [zi_R, zi_Nn, zi_Ne, zi_In, zi_Ie, zr_I, zr_Nn, zr_Rn, zr_Re]
  · by_cases h1 : k < 164
    · simp (disch := omega) only [zi_R, zi_Nn, zi_Ne, zi_In, zi_Ie, zr_I, zr_Nn, zr_Rn, zr_Re]
      exact h.2 k j v h0 h1 hv
    · have hz : zkd k = (5, 0) ∨ zkd k = (10, 32) ∨ zkd k = (10, 8) := by
        have : k = 164 ∨ k = 165 ∨ k = 166 := by omega
        rcases this with e | e | e <;> subst e
        · exact Or.inl rfl
        · exact Or.inr (Or.inl rfl)
        · exact Or.inr (Or.inr rfl)
      have := zrf_L (by omega) (by omega) (by rcases hz with e | e | e <;> rw [e] <;> decide) (by rcases hz with e | e | e <;> rw [e] <;> decide) hv
      have e : (k = 164 ∧ j = 0 ∧ v = 165) ∨ (k = 164 ∧ j = 2 ∧ v = 166) := by omega
      rcases e with ⟨rfl, rfl, rfl⟩ | ⟨rfl, rfl, rfl⟩ <;> simp (disch := omega) only [zi_R, zi_Nn, zi_Ne, zi_In, zi_Ie, zr_I, zr_Nn, zr_Rn, zr_Re]
theorem kI_G {σ : zS} {p : Nat} (hp : zp_ p) (h : kI p σ) : kI (p + 8) (zI (zI (zR (zN (zR (zN (zR (zN (zR (zN (zR (zN (zR (zN (zR (zN (zN σ p) (p + 1)) p 2 (some (p + 1))) (p + 2)) p 3 (some (p + 2))) (p + 3)) p 4 (some (p + 3))) (p + 4)) p 5 (some (p + 4))) (p + 5)) p 6 (some (p + 5))) (p + 6)) p 7 (some (p + 6))) (p + 7)) p 8 (some (p + 7))) p 0 1) (p + 6) 0 0) := by
  have hp' := hp
  unfold zp_ at hp'
  refine ⟨fun k j hk => ?_, fun k j v h0 hk hv => ?_⟩
  · by_cases h1 : k < p
    · simp (disch := omega) only [zi_R, zi_Nn, zi_Ne, zi_In, zi_Ie, zr_I, zr_Nn, zr_Rn, zr_Re]
      exact h.1 k j h1
    · have : k = p ∨ k = p + 1 ∨ k = p + 2 ∨ k = p + 3 ∨ k = p + 4 ∨ k = p + 5 ∨ k = p + 6 ∨ k = p + 7 := by omega
      rcases this with e | e | e | e | e | e | e | e
      · subst e
        by_cases ej : j = 0
        · subst ej
          have : fI k 0 = 1 := by unfold fI; rw [if_neg (by omega), if_pos ⟨hp', rfl⟩]
          rw [this]; simp (disch := omega) only [zi_R, zi_Nn, zi_Ne, zi_In, zi_Ie, zr_I, zr_Nn, zr_Rn, zr_Re]
        · rw [fI_0 (by omega) (by omega)]; simp (disch := omega) only [zi_R, zi_Nn, zi_Ne, zi_In, zi_Ie, zr_I, zr_Nn, zr_Rn, zr_Re]
      · subst e; rw [fI_0 (by omega) (by omega)]; simp (disch := omega) only [zi_R, zi_Nn, zi_Ne, zi_In, zi_Ie, zr_I, zr_Nn, zr_Rn, zr_Re]
      · subst e; rw [fI_0 (by omega) (by omega)]; simp (disch := omega) only [zi_R, zi_Nn, zi_Ne, zi_In, zi_Ie, zr_I, zr_Nn, zr_Rn, zr_Re]
      · subst e; rw [fI_0 (by omega) (by omega)]; simp (disch := omega) only [zi_R, zi_Nn, zi_Ne, zi_In, zi_Ie, zr_I, zr_Nn, zr_Rn, zr_Re]
      · subst e; rw [fI_0 (by omega) (by omega)]; simp (disch := omega) only [zi_R, zi_Nn, zi_Ne, zi_In, zi_Ie, zr_I, zr_Nn, zr_Rn, zr_Re]
      · subst e; rw [fI_0 (by omega) (by omega)]; simp (disch := omega) only [zi_R, zi_Nn, zi_Ne, zi_In, zi_Ie, zr_I, zr_Nn, zr_Rn, zr_Re]
      · subst e; rw [fI_0 (by omega) (by omega)]
        by_cases ej : j = 0
        · subst ej; simp (disch := omega) only [zi_R, zi_Nn, zi_Ne, zi_In, zi_Ie, zr_I, zr_Nn, zr_Rn, zr_Re]
        · simp (disch := omega) only [zi_R, zi_Nn, zi_Ne, zi_In, zi_Ie, zr_I, zr_Nn, zr_Rn, zr_Re]
      · subst e; rw [fI_0 (by omega) (by omega)]; simp (disch := omega) only [zi_R, zi_Nn, zi_Ne, zi_In, zi_Ie, zr_I, zr_Nn, zr_Rn, zr_Re]
  · by_cases h1 : k < p
    · simp (disch := omega) only [zi_R, zi_Nn, zi_Ne, zi_In, zi_Ie, zr_I, zr_Nn, zr_Rn, zr_Re]
      exact h.2 k j v h0 h1 hv
    · by_cases e : k = p
      · subst e
        obtain ⟨a1, a2, a3⟩ := zrf_p hp hv
        subst a3
        have : j = 2 ∨ j = 3 ∨ j = 4 ∨ j = 5 ∨ j = 6 ∨ j = 7 ∨ j = 8 := by omega
        rcases this with e | e | e | e | e | e | e <;> subst e <;> (simp (disch := omega) only [zi_R, zi_Nn, zi_Ne, zi_In, zi_Ie, zr_I, zr_Nn, zr_Rn, zr_Re]; exact congrArg some (by omega))
      · exfalso
        have hz : zkd k = (10, 25) ∨ zkd k = (10, 80) ∨ zkd k = (11, 184) ∨ zkd k = (10, 184) ∨ zkd k = (10, 24) ∨ zkd k = (10, 48) := by
          obtain ⟨-, b1, b2, b3, b4, b5, b6, b7⟩ := zp_k hp
          have : k = p + 1 ∨ k = p + 2 ∨ k = p + 3 ∨ k = p + 4 ∨ k = p + 5 ∨ k = p + 6 ∨ k = p + 7 := by omega
          rcases this with e | e | e | e | e | e | e <;> subst e
          · exact Or.inl b1
          · exact Or.inr (Or.inl b2)
          · exact Or.inr (Or.inl b3)
          · exact Or.inr (Or.inr (Or.inl b4))
          · exact Or.inr (Or.inr (Or.inr (Or.inl b5)))
          · exact Or.inr (Or.inr (Or.inr (Or.inr (Or.inl b6))))
          · exact Or.inr (Or.inr (Or.inr (Or.inr (Or.inr b7))))
        have := zrf_L (by omega) (by omega) (by rcases hz with e | e | e | e | e | e <;> rw [e] <;> decide) (by rcases hz with e | e | e | e | e | e <;> rw [e] <;> decide) hv
        omega
/-! the facts' loop -/
def FL (i : Nat) (σ1 σ : zS) : Prop := (∀ k j, k < 20 → zi σ k j = zi σ1 k j) ∧ (∀ k j, k < 20 → k ≠ 10 → k ≠ 11 → zr σ k j = zr σ1 k j) ∧ (∀ k j, 20 ≤ k → k < 20 + 6 * i → zi σ k j = 0) ∧ (∀ j, j < i → zr σ 10 j = some (20 + 6 * j) ∧ zr σ 11 j = some (23 + 6 * j)) ∧ ∀ k, (k - 20) % 3 = 0 → 20 ≤ k → k < 20 + 6 * i → zr σ k 0 = some (k + 1) ∧ zr σ k 1 = some (k + 2)
theorem fstep {σ1 σ : zS} {K : zS → Prop} (i : Nat) (hi : i < 24) (h7 : zr σ1 7 2 = some 10 ∧ zr σ1 7 3 = some 11) (h : FL i σ1 σ) (hq : ∀ σ', FL (i + 1) σ1 σ' → K σ') : zk (20 + 6 * i) 7 3 ∧ ∃ c2, zr σ 7 2 = some c2 ∧ zkd (20 + 6 * i) = (4, 0) ∧ P_V_init (20 + 6 * i + 1) (20 + 6 * i) (zN σ (20 + 6 * i)) (fun σ6 => za (20 + 6 * i + 3) c2 13 (nn i) ∧ zk (20 + 6 * i + 3) (20 + 6 * i) 4 ∧ zk (20 + 6 * i + 3) 7 3 ∧ ∃ c10, zr (zR σ6 c2 (nn i).toNatClampNeg (some (20 + 6 * i))) 7 3 = some c10 ∧ zkd (20 + 6 * i + 3) = (4, 0) ∧ P_V_init (20 + 6 * i + 4) (20 + 6 * i + 3) (zN (zR σ6 c2 (nn i).toNatClampNeg (some (20 + 6 * i))) (20 + 6 * i + 3)) (fun σ14 => za (20 + 6 * i + 6) c10 13 (nn i) ∧ zk (20 + 6 * i + 6) (20 + 6 * i + 3) 4 ∧ K (zR σ14 c10 (nn i).toNatClampNeg (some (20 + 6 * i + 3))))) := by
  have v1 : zv_ (20 + 6 * i) := zv_b hi
  have v2 : zv_ (20 + 6 * i + 3) := Or.inr (Or.inr (by omega))
  have z10 : za (20 + 6 * i + 3) 10 13 (nn i) := ⟨by omega, rfl, nn_vp hi (by decide)⟩
  have z11 : za (20 + 6 * i + 6) 11 13 (nn i) := ⟨by omega, rfl, nn_vp hi (by decide)⟩
  have e72 : zr σ 7 2 = some 10 := by rw [h.2.1 7 2 (by decide) (by decide) (by decide)]; exact h7.1
  have e73 : zr σ 7 3 = some 11 := by rw [h.2.1 7 3 (by decide) (by decide) (by decide)]; exact h7.2
  refine ⟨⟨by omega, rfl⟩, 10, e72, zv_0 v1, zv_1 v1, ⟨by omega, by rw [zv_0 v1]⟩, zv_2 v1, ⟨by omega, by rw [zv_0 v1]⟩, z10, ⟨by omega, by rw [zv_0 v1]⟩, ⟨by omega, rfl⟩, 11, ?_, zv_0 v2, zv_1 v2, ⟨by omega, by rw [zv_0 v2]⟩, zv_2 v2, ⟨by omega, by rw [zv_0 v2]⟩, z11, ⟨by omega, by rw [zv_0 v2]⟩, hq _ ?_⟩
  · simp (disch := omega) only [zi_R, zi_Nn, zi_Ne, zi_In, zi_Ie, zr_I, zr_Nn, zr_Rn, zr_Re]; exact e73
  rw [nn_tn (by omega)]
  obtain ⟨h1, h2, h3, h4, h5⟩ := h
  refine ⟨fun k j hk => ?_, fun k j hk n1 n2 => ?_, fun k j g1 g2 => ?_, fun j hj => ?_, fun k g0 g1 g2 => ?_⟩
  · simp (disch := omega) only [zi_R, zi_Nn, zi_Ne, zi_In, zi_Ie, zr_I, zr_Nn, zr_Rn, zr_Re]; exact h1 k j hk
  · simp (disch := omega) only [zi_R, zi_Nn, zi_Ne, zi_In, zi_Ie, zr_I, zr_Nn, zr_Rn, zr_Re]; exact h2 k j hk n1 n2
  · by_cases g3 : k < 20 + 6 * i
    · simp (disch := omega) only [zi_R, zi_Nn, zi_Ne, zi_In, zi_Ie, zr_I, zr_Nn, zr_Rn, zr_Re]; exact h3 k j g1 g3
    · have : k = 20 + 6 * i ∨ k = 20 + 6 * i + 1 ∨ k = 20 + 6 * i + 2 ∨ k = 20 + 6 * i + 3 ∨ k = 20 + 6 * i + 3 + 1 ∨ k = 20 + 6 * i + 3 + 2 := by omega
      rcases this with e | e | e | e | e | e <;> subst e <;> simp (disch := omega) only [zi_R, zi_Nn, zi_Ne, zi_In, zi_Ie, zr_I, zr_Nn, zr_Rn, zr_Re]
  · by_cases e : j = i
    · subst e
      refine ⟨by simp (disch := omega) only [zi_R, zi_Nn, zi_Ne, zi_In, zi_Ie, zr_I, zr_Nn, zr_Rn, zr_Re], ?_⟩
      simp (disch := omega) only [zi_R, zi_Nn, zi_Ne, zi_In, zi_Ie, zr_I, zr_Nn, zr_Rn, zr_Re]
      congr 1; omega
    · exact ⟨by simp (disch := omega) only [zi_R, zi_Nn, zi_Ne, zi_In, zi_Ie, zr_I, zr_Nn, zr_Rn, zr_Re]; exact (h4 j (by omega)).1, by simp (disch := omega) only [zi_R, zi_Nn, zi_Ne, zi_In, zi_Ie, zr_I, zr_Nn, zr_Rn, zr_Re]; exact (h4 j (by omega)).2⟩
  · by_cases g3 : k < 20 + 6 * i
    · exact ⟨by simp (disch := omega) only [zi_R, zi_Nn, zi_Ne, zi_In, zi_Ie, zr_I, zr_Nn, zr_Rn, zr_Re]; exact (h5 k g0 g1 g3).1, by simp (disch := omega) only [zi_R, zi_Nn, zi_Ne, zi_In, zi_Ie, zr_I, zr_Nn, zr_Rn, zr_Re]; exact (h5 k g0 g1 g3).2⟩
    · have : k = 20 + 6 * i ∨ k = 20 + 6 * i + 3 := by omega
      rcases this with e | e <;> subst e
      · exact ⟨by simp (disch := omega) only [zi_R, zi_Nn, zi_Ne, zi_In, zi_Ie, zr_I, zr_Nn, zr_Rn, zr_Re], by simp (disch := omega) only [zi_R, zi_Nn, zi_Ne, zi_In, zi_Ie, zr_I, zr_Nn, zr_Rn, zr_Re]⟩
      · exact ⟨by simp (disch := omega) only [zi_R, zi_Nn, zi_Ne, zi_In, zi_Ie, zr_I, zr_Nn, zr_Rn, zr_Re], by simp (disch := omega) only [zi_R, zi_Nn, zi_Ne, zi_In, zi_Ie, zr_I, zr_Nn, zr_Rn, zr_Re]⟩
theorem fi_23 {σ1 σ : zS} {Q : zS → Prop} (h7 : zr σ1 7 2 = some 10 ∧ zr σ1 7 3 = some 11) (h : FL 23 σ1 σ) (hq : ∀ σ', FL 24 σ1 σ' → Q σ') : P_F_init_i23 8 Q 7 σ := fstep 23 (by decide) h7 h (fun σ' h' => hq σ' h')
theorem fi_22 {σ1 σ : zS} {Q : zS → Prop} (h7 : zr σ1 7 2 = some 10 ∧ zr σ1 7 3 = some 11) (h : FL 22 σ1 σ) (hq : ∀ σ', FL 24 σ1 σ' → Q σ') : P_F_init_i22 8 Q 7 σ := fstep 22 (by decide) h7 h (fun σ' h' => fi_23 h7 h' hq)
theorem fi_21 {σ1 σ : zS} {Q : zS → Prop} (h7 : zr σ1 7 2 = some 10 ∧ zr σ1 7 3 = some 11) (h : FL 21 σ1 σ) (hq : ∀ σ', FL 24 σ1 σ' → Q σ') : P_F_init_i21 8 Q 7 σ := fstep 21 (by decide) h7 h (fun σ' h' => fi_22 h7 h' hq)
theorem fi_20 {σ1 σ : zS} {Q : zS → Prop} (h7 : zr σ1 7 2 = some 10 ∧ zr σ1 7 3 = some 11) (h : FL 20 σ1 σ) (hq : ∀ σ', FL 24 σ1 σ' → Q σ') : P_F_init_i20 8 Q 7 σ := fstep 20 (by decide) h7 h (fun σ' h' => fi_21 h7 h' hq)
theorem fi_19 {σ1 σ : zS} {Q : zS → Prop} (h7 : zr σ1 7 2 = some 10 ∧ zr σ1 7 3 = some 11) (h : FL 19 σ1 σ) (hq : ∀ σ', FL 24 σ1 σ' → Q σ') : P_F_init_i19 8 Q 7 σ := fstep 19 (by decide) h7 h (fun σ' h' => fi_20 h7 h' hq)
theorem fi_18 {σ1 σ : zS} {Q : zS → Prop} (h7 : zr σ1 7 2 = some 10 ∧ zr σ1 7 3 = some 11) (h : FL 18 σ1 σ) (hq : ∀ σ', FL 24 σ1 σ' → Q σ') : P_F_init_i18 8 Q 7 σ := fstep 18 (by decide) h7 h (fun σ' h' => fi_19 h7 h' hq)
theorem fi_17 {σ1 σ : zS} {Q : zS → Prop} (h7 : zr σ1 7 2 = some 10 ∧ zr σ1 7 3 = some 11) (h : FL 17 σ1 σ) (hq : ∀ σ', FL 24 σ1 σ' → Q σ') : P_F_init_i17 8 Q 7 σ := fstep 17 (by decide) h7 h (fun σ' h' => fi_18 h7 h' hq)
theorem fi_16 {σ1 σ : zS} {Q : zS → Prop} (h7 : zr σ1 7 2 = some 10 ∧ zr σ1 7 3 = some 11) (h : FL 16 σ1 σ) (hq : ∀ σ', FL 24 σ1 σ' → Q σ') : P_F_init_i16 8 Q 7 σ := fstep 16 (by decide) h7 h (fun σ' h' => fi_17 h7 h' hq)
theorem fi_15 {σ1 σ : zS} {Q : zS → Prop} (h7 : zr σ1 7 2 = some 10 ∧ zr σ1 7 3 = some 11) (h : FL 15 σ1 σ) (hq : ∀ σ', FL 24 σ1 σ' → Q σ') : P_F_init_i15 8 Q 7 σ := fstep 15 (by decide) h7 h (fun σ' h' => fi_16 h7 h' hq)
theorem fi_14 {σ1 σ : zS} {Q : zS → Prop} (h7 : zr σ1 7 2 = some 10 ∧ zr σ1 7 3 = some 11) (h : FL 14 σ1 σ) (hq : ∀ σ', FL 24 σ1 σ' → Q σ') : P_F_init_i14 8 Q 7 σ := fstep 14 (by decide) h7 h (fun σ' h' => fi_15 h7 h' hq)
theorem fi_13 {σ1 σ : zS} {Q : zS → Prop} (h7 : zr σ1 7 2 = some 10 ∧ zr σ1 7 3 = some 11) (h : FL 13 σ1 σ) (hq : ∀ σ', FL 24 σ1 σ' → Q σ') : P_F_init_i13 8 Q 7 σ := fstep 13 (by decide) h7 h (fun σ' h' => fi_14 h7 h' hq)
theorem fi_12 {σ1 σ : zS} {Q : zS → Prop} (h7 : zr σ1 7 2 = some 10 ∧ zr σ1 7 3 = some 11) (h : FL 12 σ1 σ) (hq : ∀ σ', FL 24 σ1 σ' → Q σ') : P_F_init_i12 8 Q 7 σ := fstep 12 (by decide) h7 h (fun σ' h' => fi_13 h7 h' hq)
theorem fi_11 {σ1 σ : zS} {Q : zS → Prop} (h7 : zr σ1 7 2 = some 10 ∧ zr σ1 7 3 = some 11) (h : FL 11 σ1 σ) (hq : ∀ σ', FL 24 σ1 σ' → Q σ') : P_F_init_i11 8 Q 7 σ := fstep 11 (by decide) h7 h (fun σ' h' => fi_12 h7 h' hq)
theorem fi_10 {σ1 σ : zS} {Q : zS → Prop} (h7 : zr σ1 7 2 = some 10 ∧ zr σ1 7 3 = some 11) (h : FL 10 σ1 σ) (hq : ∀ σ', FL 24 σ1 σ' → Q σ') : P_F_init_i10 8 Q 7 σ := fstep 10 (by decide) h7 h (fun σ' h' => fi_11 h7 h' hq)
theorem fi_9 {σ1 σ : zS} {Q : zS → Prop} (h7 : zr σ1 7 2 = some 10 ∧ zr σ1 7 3 = some 11) (h : FL 9 σ1 σ) (hq : ∀ σ', FL 24 σ1 σ' → Q σ') : P_F_init_i9 8 Q 7 σ := fstep 9 (by decide) h7 h (fun σ' h' => fi_10 h7 h' hq)
theorem fi_8 {σ1 σ : zS} {Q : zS → Prop} (h7 : zr σ1 7 2 = some 10 ∧ zr σ1 7 3 = some 11) (h : FL 8 σ1 σ) (hq : ∀ σ', FL 24 σ1 σ' → Q σ') : P_F_init_i8 8 Q 7 σ := fstep 8 (by decide) h7 h (fun σ' h' => fi_9 h7 h' hq)
theorem fi_7 {σ1 σ : zS} {Q : zS → Prop} (h7 : zr σ1 7 2 = some 10 ∧ zr σ1 7 3 = some 11) (h : FL 7 σ1 σ) (hq : ∀ σ', FL 24 σ1 σ' → Q σ') : P_F_init_i7 8 Q 7 σ := fstep 7 (by decide) h7 h (fun σ' h' => fi_8 h7 h' hq)
theorem fi_6 {σ1 σ : zS} {Q : zS → Prop} (h7 : zr σ1 7 2 = some 10 ∧ zr σ1 7 3 = some 11) (h : FL 6 σ1 σ) (hq : ∀ σ', FL 24 σ1 σ' → Q σ') : P_F_init_i6 8 Q 7 σ := fstep 6 (by decide) h7 h (fun σ' h' => fi_7 h7 h' hq)
theorem fi_5 {σ1 σ : zS} {Q : zS → Prop} (h7 : zr σ1 7 2 = some 10 ∧ zr σ1 7 3 = some 11) (h : FL 5 σ1 σ) (hq : ∀ σ', FL 24 σ1 σ' → Q σ') : P_F_init_i5 8 Q 7 σ := fstep 5 (by decide) h7 h (fun σ' h' => fi_6 h7 h' hq)
theorem fi_4 {σ1 σ : zS} {Q : zS → Prop} (h7 : zr σ1 7 2 = some 10 ∧ zr σ1 7 3 = some 11) (h : FL 4 σ1 σ) (hq : ∀ σ', FL 24 σ1 σ' → Q σ') : P_F_init_i4 8 Q 7 σ := fstep 4 (by decide) h7 h (fun σ' h' => fi_5 h7 h' hq)
theorem fi_3 {σ1 σ : zS} {Q : zS → Prop} (h7 : zr σ1 7 2 = some 10 ∧ zr σ1 7 3 = some 11) (h : FL 3 σ1 σ) (hq : ∀ σ', FL 24 σ1 σ' → Q σ') : P_F_init_i3 8 Q 7 σ := fstep 3 (by decide) h7 h (fun σ' h' => fi_4 h7 h' hq)
theorem fi_2 {σ1 σ : zS} {Q : zS → Prop} (h7 : zr σ1 7 2 = some 10 ∧ zr σ1 7 3 = some 11) (h : FL 2 σ1 σ) (hq : ∀ σ', FL 24 σ1 σ' → Q σ') : P_F_init_i2 8 Q 7 σ := fstep 2 (by decide) h7 h (fun σ' h' => fi_3 h7 h' hq)
theorem fi_1 {σ1 σ : zS} {Q : zS → Prop} (h7 : zr σ1 7 2 = some 10 ∧ zr σ1 7 3 = some 11) (h : FL 1 σ1 σ) (hq : ∀ σ', FL 24 σ1 σ' → Q σ') : P_F_init_i1 8 Q 7 σ := fstep 1 (by decide) h7 h (fun σ' h' => fi_2 h7 h' hq)
theorem fi_0 {σ1 σ : zS} {Q : zS → Prop} (h7 : zr σ1 7 2 = some 10 ∧ zr σ1 7 3 = some 11) (h : FL 0 σ1 σ) (hq : ∀ σ', FL 24 σ1 σ' → Q σ') : P_F_init_i0 8 Q 7 σ := fstep 0 (by decide) h7 h (fun σ' h' => fi_1 h7 h' hq)
theorem kI_F {σ σ1 : zS} (h1 : ∀ k j, k < 20 → zi σ1 k j = fI k j) (h2 : ∀ k j v, 0 < k → k < 20 → k ≠ 10 → k ≠ 11 → zrf k j = some v → zr σ1 k j = some v) (h : FL 24 σ1 σ) : kI 164 σ := by
  obtain ⟨g1, g2, g3, g4, g5⟩ := h
  refine ⟨fun k j hk => ?_, fun k j v h0 hk hv => ?_⟩
  · by_cases e : k < 20
    · rw [g1 k j e]; exact h1 k j e
    · rw [g3 k j (by omega) (by omega), fI_0 (by omega) (by omega)]
  · by_cases e : k < 20
    · by_cases e10 : k = 10
      · subst e10
        obtain ⟨a, b⟩ := zrf_10 hv
        rw [b]; exact (g4 j a).1
      · by_cases e11 : k = 11
        · subst e11
          obtain ⟨a, b⟩ := zrf_11 hv
          rw [b]; exact (g4 j a).2
        · rw [g2 k j e e10 e11]; exact h2 k j v h0 e e10 e11 hv
    · by_cases em : (k - 20) % 3 = 0
      · have hv' := zrf_v (c := k) (Or.inr (Or.inr ⟨by omega, by omega, em⟩)) hv
        rcases hv' with ⟨rfl, rfl⟩ | ⟨rfl, rfl⟩
        · exact (g5 k em (by omega) (by omega)).1
        · exact (g5 k em (by omega) (by omega)).2
      · exfalso
        have hz := zkd_mid (k := k) (by omega) (by omega)
        have h12 : (k - 20) % 3 = 1 ∨ (k - 20) % 3 = 2 := by omega
        have hz' : zkd k = (11, 8) ∨ zkd k = (10, 8) := by
          rcases h12 with q | q <;> rw [q] at hz
          · exact Or.inl hz
          · exact Or.inr hz
        have := zrf_L (by omega) (by omega) (by rcases hz' with q | q <;> rw [q] <;> decide) (by rcases hz' with q | q <;> rw [q] <;> decide) hv
        omega
def zs0 : zS := (fun _ _ => 0, fun _ _ => none, fun _ _ => 0)
theorem s_Finit {σ : zS} {Q : zS → Prop} (h : kI 7 σ) (hq : ∀ σ', kI 164 σ' → (∀ j, zr σ' 0 j = zr σ 0 j) → Q σ') : P_F_init 8 7 (zN σ 7) Q := by
  have v12 : zv_ 12 := Or.inl rfl
  have v15 : zv_ 15 := Or.inr (Or.inl rfl)
  refine ⟨rfl, ⟨by decide, rfl⟩, rfl, ⟨by decide, rfl⟩, rfl, ⟨by decide, rfl⟩, rfl, ⟨by decide, rfl⟩, rfl, rfl, ⟨by decide, rfl⟩, rfl, ⟨by decide, rfl⟩, ⟨by decide, rfl⟩, rfl, rfl, ⟨by decide, rfl⟩, rfl, ⟨by decide, rfl⟩, ⟨by decide, rfl⟩, rfl, ⟨by decide, rfl⟩, rfl, ⟨by decide, rfl⟩, ?_⟩
  refine fi_0 (σ1 := _) ⟨?_, ?_⟩ ⟨fun _ _ _ => rfl, fun _ _ _ _ _ => rfl, fun k j a b => absurd b (by omega), fun j hj => absurd hj (by omega), fun k _ a b => absurd b (by omega)⟩ (fun σ' hσ' => hq σ' (kI_F ?_ ?_ hσ') (fun j => ?_))
  · simp (disch := omega) only [zi_R, zi_Nn, zi_Ne, zi_In, zi_Ie, zr_I, zr_Nn, zr_Rn, zr_Re]
  · simp (disch := omega) only [zi_R, zi_Nn, zi_Ne, zi_In, zi_Ie, zr_I, zr_Nn, zr_Rn, zr_Re]
  · intro k j hk
    by_cases h1 : k < 7
    · simp (disch := omega) only [zi_R, zi_Nn, zi_Ne, zi_In, zi_Ie, zr_I, zr_Nn, zr_Rn, zr_Re]; exact h.1 k j h1
    · rw [fI_0 (by omega) (by omega)]
      have : k = 7 ∨ k = 8 ∨ k = 9 ∨ k = 10 ∨ k = 11 ∨ k = 12 ∨ k = 13 ∨ k = 14 ∨ k = 15 ∨ k = 16 ∨ k = 17 ∨ k = 18 ∨ k = 19 := by omega
      rcases this with e | e | e | e | e | e | e | e | e | e | e | e | e <;> subst e <;> simp (disch := omega) only [zi_R, zi_Nn, zi_Ne, zi_In, zi_Ie, zr_I, zr_Nn, zr_Rn, zr_Re]
  · intro k j v h0 hk n10 n11 hv
    by_cases h1 : k < 7
    · simp (disch := omega) only [zi_R, zi_Nn, zi_Ne, zi_In, zi_Ie, zr_I, zr_Nn, zr_Rn, zr_Re]; exact h.2 k j v h0 h1 hv
    · by_cases e12 : k = 12
      · subst e12
        rcases zrf_v v12 hv with ⟨rfl, rfl⟩ | ⟨rfl, rfl⟩ <;> simp (disch := omega) only [zi_R, zi_Nn, zi_Ne, zi_In, zi_Ie, zr_I, zr_Nn, zr_Rn, zr_Re]
      · by_cases e15 : k = 15
        · subst e15
          rcases zrf_v v15 hv with ⟨rfl, rfl⟩ | ⟨rfl, rfl⟩ <;> simp (disch := omega) only [zi_R, zi_Nn, zi_Ne, zi_In, zi_Ie, zr_I, zr_Nn, zr_Rn, zr_Re]
        · have hz : zkd k = (3, 0) ∨ zkd k = (11, 24) ∨ zkd k = (11, 8) ∨ zkd k = (10, 8) ∨ zkd k = (10, 24) ∨ zkd k = (10, 7) := by
            have : k = 7 ∨ k = 8 ∨ k = 9 ∨ k = 13 ∨ k = 14 ∨ k = 16 ∨ k = 17 ∨ k = 18 ∨ k = 19 := by omega
            rcases this with e | e | e | e | e | e | e | e | e <;> subst e <;> decide
          rcases zrf_L n10 n11 (by rcases hz with e | e | e | e | e | e <;> rw [e] <;> decide) (by rcases hz with e | e | e | e | e | e <;> rw [e] <;> decide) hv with ⟨e1, e2, e3⟩ | ⟨e1, e2, e3⟩ | ⟨e1, e2, e3⟩ | ⟨e1, e2, e3⟩ | ⟨e1, e2, e3⟩ | ⟨e1, e2, e3⟩ | ⟨e1, e2, e3⟩ | ⟨e1, e2, e3⟩ | ⟨e1, e2, e3⟩ | ⟨e1, e2, e3⟩ | ⟨e1, e2, e3⟩ | ⟨e1, e2, e3⟩ | ⟨e1, e2, e3⟩ | ⟨e1, e2, e3⟩ | ⟨e1, e2, e3⟩ | ⟨e1, e2, e3⟩ | ⟨e1, e2, e3⟩ | ⟨e1, e2, e3⟩ | ⟨e1, e2, e3⟩ | ⟨e1, e2, e3⟩ | ⟨e1, e2, e3⟩ | ⟨e1, e2, e3⟩ | ⟨e1, e2, e3⟩ | ⟨e1, e2, e3⟩ | ⟨e1, e2, e3⟩ | ⟨e1, e2, e3⟩ | ⟨e1, e2, e3⟩ | ⟨e1, e2, e3⟩ | ⟨e1, e2, e3⟩ | ⟨e1, e2, e3⟩ | ⟨e1, e2, e3⟩ | ⟨e1, e2, e3⟩ | ⟨e1, e2, e3⟩ | ⟨e1, e2, e3⟩ | ⟨e1, e2, e3⟩ <;> first | (exfalso; omega) | (subst e1; subst e2; subst e3; simp (disch := omega) only [zi_R, zi_Nn, zi_Ne, zi_In, zi_Ie, zr_I, zr_Nn, zr_Rn, zr_Re])
  · rw [hσ'.2.1 0 j (by decide) (by decide) (by decide)]
    simp (disch := omega) only [zi_R, zi_Nn, zi_Ne, zi_In, zi_Ie, zr_I, zr_Nn, zr_Rn, zr_Re]
theorem ini_C {Q : zS → Prop} (hq : ∀ σ, kI 183 σ → zr σ 0 0 = some 1 → zr σ 0 1 = some 3 → zr σ 0 2 = some 5 → zr σ 0 3 = some 7 → zr σ 0 4 = some 164 → zr σ 0 5 = some 167 → zr σ 0 6 = some 175 → P_F_find 183 7 167 σ Q) : P_C_init 1 0 (zN zs0 0) Q := by
  have k1 : kI 1 (zN zs0 0) := by
    refine ⟨fun k j hk => ?_, fun k j v h0 hk => absurd hk (by omega)⟩
    have : k = 0 := by omega
    subst this
    rw [fI_0 (by omega) (by omega)]; simp (disch := omega) only [zi_R, zi_Nn, zi_Ne, zi_In, zi_Ie, zr_I, zr_Nn, zr_Rn, zr_Re]
  refine ⟨rfl, rfl, by decide, rfl, by decide, ⟨by decide, rfl⟩, ⟨by decide, rfl⟩, rfl, rfl, by decide, rfl, by decide, ⟨by decide, rfl⟩, ⟨by decide, rfl⟩, rfl, ⟨by decide, rfl⟩, 1, ?_, rfl, ⟨by decide, rfl⟩, ⟨by decide, rfl⟩, rfl, ?_⟩
  · simp (disch := omega) only [zi_R, zi_Nn, zi_Ne, zi_In, zi_Ie, zr_I, zr_Nn, zr_Rn, zr_Re]
  have k3 := kI_T (a := 1) (Or.inl rfl) k1
  have k3' := k3.zero 0 (some 1)
  have c00 : zr (zR (zR (zN (zN (zN zs0 0) 1) 2) 1 0 (some 2)) 0 0 (some 1)) 0 0 = some 1 := by simp (disch := omega) only [zi_R, zi_Nn, zi_Ne, zi_In, zi_Ie, zr_I, zr_Nn, zr_Rn, zr_Re]
  generalize zR (zR (zN (zN (zN zs0 0) 1) 2) 1 0 (some 2)) 0 0 (some 1) = τ3 at k3' c00 ⊢
  have k5' := (kI_T (a := 3) (Or.inr rfl) k3').zero 1 (some 3)
  have c10 : zr (zR (zR (zN (zN τ3 3) 4) 3 0 (some 4)) 0 1 (some 3)) 0 0 = some 1 := by simp (disch := omega) only [zi_R, zi_Nn, zi_Ne, zi_In, zi_Ie, zr_I, zr_Nn, zr_Rn, zr_Re]; exact c00
  have c11 : zr (zR (zR (zN (zN τ3 3) 4) 3 0 (some 4)) 0 1 (some 3)) 0 1 = some 3 := by simp (disch := omega) only [zi_R, zi_Nn, zi_Ne, zi_In, zi_Ie, zr_I, zr_Nn, zr_Rn, zr_Re]
  generalize zR (zR (zN (zN τ3 3) 4) 3 0 (some 4)) 0 1 (some 3) = τ5 at k5' c10 c11 ⊢
  have k7' := (kI_R k5').zero 2 (some 5)
  have c20 : zr (zR (zR (zI (zR (zN (zN τ5 5) 6) 5 1 (some 6)) 5 6 (-1)) 5 0 (some 1)) 0 2 (some 5)) 0 0 = some 1 := by simp (disch := omega) only [zi_R, zi_Nn, zi_Ne, zi_In, zi_Ie, zr_I, zr_Nn, zr_Rn, zr_Re]; exact c10
  have c21 : zr (zR (zR (zI (zR (zN (zN τ5 5) 6) 5 1 (some 6)) 5 6 (-1)) 5 0 (some 1)) 0 2 (some 5)) 0 1 = some 3 := by simp (disch := omega) only [zi_R, zi_Nn, zi_Ne, zi_In, zi_Ie, zr_I, zr_Nn, zr_Rn, zr_Re]; exact c11
  have c22 : zr (zR (zR (zI (zR (zN (zN τ5 5) 6) 5 1 (some 6)) 5 6 (-1)) 5 0 (some 1)) 0 2 (some 5)) 0 2 = some 5 := by simp (disch := omega) only [zi_R, zi_Nn, zi_Ne, zi_In, zi_Ie, zr_I, zr_Nn, zr_Rn, zr_Re]
  generalize zR (zR (zI (zR (zN (zN τ5 5) 6) 5 1 (some 6)) 5 6 (-1)) 5 0 (some 1)) 0 2 (some 5) = τ7 at k7' c20 c21 c22 ⊢
  refine s_Finit k7' (fun σ8 k8 e8 => ?_)
  rw [← e8] at c20 c21 c22
  have k8' := k8.zero 3 (some 7)
  have c33 : zr (zR σ8 0 3 (some 7)) 0 3 = some 7 := by simp (disch := omega) only [zi_R, zi_Nn, zi_Ne, zi_In, zi_Ie, zr_I, zr_Nn, zr_Rn, zr_Re]
  have c30 : zr (zR σ8 0 3 (some 7)) 0 0 = some 1 := by simp (disch := omega) only [zi_R, zi_Nn, zi_Ne, zi_In, zi_Ie, zr_I, zr_Nn, zr_Rn, zr_Re]; exact c20
  have c31 : zr (zR σ8 0 3 (some 7)) 0 1 = some 3 := by simp (disch := omega) only [zi_R, zi_Nn, zi_Ne, zi_In, zi_Ie, zr_I, zr_Nn, zr_Rn, zr_Re]; exact c21
  have c32 : zr (zR σ8 0 3 (some 7)) 0 2 = some 5 := by simp (disch := omega) only [zi_R, zi_Nn, zi_Ne, zi_In, zi_Ie, zr_I, zr_Nn, zr_Rn, zr_Re]; exact c22
  refine ⟨⟨by decide, rfl⟩, rfl, rfl, ⟨by decide, rfl⟩, rfl, ⟨by decide, rfl⟩, ⟨by decide, rfl⟩, rfl, ?_⟩
  generalize zR σ8 0 3 (some 7) = τ8 at k8' c30 c31 c32 c33 ⊢
  have k9' := (kI_X k8').zero 4 (some 164)
  have d0 : zr (zR (zR (zN (zR (zN (zN τ8 164) 165) 164 0 (some 165)) 166) 164 2 (some 166)) 0 4 (some 164)) 0 0 = some 1 := by simp (disch := omega) only [zi_R, zi_Nn, zi_Ne, zi_In, zi_Ie, zr_I, zr_Nn, zr_Rn, zr_Re]; exact c30
  have d1 : zr (zR (zR (zN (zR (zN (zN τ8 164) 165) 164 0 (some 165)) 166) 164 2 (some 166)) 0 4 (some 164)) 0 1 = some 3 := by simp (disch := omega) only [zi_R, zi_Nn, zi_Ne, zi_In, zi_Ie, zr_I, zr_Nn, zr_Rn, zr_Re]; exact c31
  have d2 : zr (zR (zR (zN (zR (zN (zN τ8 164) 165) 164 0 (some 165)) 166) 164 2 (some 166)) 0 4 (some 164)) 0 2 = some 5 := by simp (disch := omega) only [zi_R, zi_Nn, zi_Ne, zi_In, zi_Ie, zr_I, zr_Nn, zr_Rn, zr_Re]; exact c32
  have d3 : zr (zR (zR (zN (zR (zN (zN τ8 164) 165) 164 0 (some 165)) 166) 164 2 (some 166)) 0 4 (some 164)) 0 3 = some 7 := by simp (disch := omega) only [zi_R, zi_Nn, zi_Ne, zi_In, zi_Ie, zr_I, zr_Nn, zr_Rn, zr_Re]; exact c33
  have d4 : zr (zR (zR (zN (zR (zN (zN τ8 164) 165) 164 0 (some 165)) 166) 164 2 (some 166)) 0 4 (some 164)) 0 4 = some 164 := by simp (disch := omega) only [zi_R, zi_Nn, zi_Ne, zi_In, zi_Ie, zr_I, zr_Nn, zr_Rn, zr_Re]
  generalize zR (zR (zN (zR (zN (zN τ8 164) 165) 164 0 (some 165)) 166) 164 2 (some 166)) 0 4 (some 164) = τ9 at k9' d0 d1 d2 d3 d4 ⊢
  have g1 := (kI_G (p := 167) (Or.inl rfl) k9').zero 5 (some 167)
  refine ⟨rfl, ⟨by decide, rfl⟩, rfl, ⟨by decide, rfl⟩, rfl, ⟨by decide, rfl⟩, rfl, ⟨by decide, rfl⟩, rfl, ⟨by decide, rfl⟩, rfl, ⟨by decide, rfl⟩, rfl, ⟨by decide, rfl⟩, 173, ?_, ⟨by decide, rfl, nn_vp (a := 0) (n := 24) (by decide) (by decide)⟩, ⟨by decide, rfl⟩, rfl, ?_⟩
  · simp (disch := omega) only [zi_R, zi_Nn, zi_Ne, zi_In, zi_Ie, zr_I, zr_Nn, zr_Rn, zr_Re]
  rw [tn00]
  refine ⟨rfl, ⟨by decide, rfl⟩, rfl, ⟨by decide, rfl⟩, rfl, ⟨by decide, rfl⟩, rfl, ⟨by decide, rfl⟩, rfl, ⟨by decide, rfl⟩, rfl, ⟨by decide, rfl⟩, rfl, ⟨by decide, rfl⟩, 181, ?_, ⟨by decide, rfl, nn_vp (a := 0) (n := 24) (by decide) (by decide)⟩, ⟨by decide, rfl⟩, 7, ?_, 167, ?_, ⟨by decide, rfl⟩, hq _ ?_ ?_ ?_ ?_ ?_ ?_ ?_ ?_⟩
  · simp (disch := omega) only [zi_R, zi_Nn, zi_Ne, zi_In, zi_Ie, zr_I, zr_Nn, zr_Rn, zr_Re]
  · simp (disch := omega) only [zi_R, zi_Nn, zi_Ne, zi_In, zi_Ie, zr_I, zr_Nn, zr_Rn, zr_Re]; exact d3
  · simp (disch := omega) only [zi_R, zi_Nn, zi_Ne, zi_In, zi_Ie, zr_I, zr_Nn, zr_Rn, zr_Re]
  · exact (kI_G (p := 175) (Or.inr rfl) g1).zero 6 (some 175)
  · simp (disch := omega) only [zi_R, zi_Nn, zi_Ne, zi_In, zi_Ie, zr_I, zr_Nn, zr_Rn, zr_Re]; exact d0
  · simp (disch := omega) only [zi_R, zi_Nn, zi_Ne, zi_In, zi_Ie, zr_I, zr_Nn, zr_Rn, zr_Re]; exact d1
  · simp (disch := omega) only [zi_R, zi_Nn, zi_Ne, zi_In, zi_Ie, zr_I, zr_Nn, zr_Rn, zr_Re]; exact d2
  · simp (disch := omega) only [zi_R, zi_Nn, zi_Ne, zi_In, zi_Ie, zr_I, zr_Nn, zr_Rn, zr_Re]; exact d3
  · simp (disch := omega) only [zi_R, zi_Nn, zi_Ne, zi_In, zi_Ie, zr_I, zr_Nn, zr_Rn, zr_Re]; exact d4
  · simp (disch := omega) only [zi_R, zi_Nn, zi_Ne, zi_In, zi_Ie, zr_I, zr_Nn, zr_Rn, zr_Re]
  · simp (disch := omega) only [zi_R, zi_Nn, zi_Ne, zi_In, zi_Ie, zr_I, zr_Nn, zr_Rn, zr_Re]
