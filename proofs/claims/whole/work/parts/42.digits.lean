/-! Numbers as texts. -/
theorem bm64 {x : Int} (h1 : -9223372036854775808 ≤ x) (h2 : x < 9223372036854775808) : x.bmod (2 ^ 64) = x := Int.bmod_eq_of_le (by omega) (by omega)
theorem l_div {a b : Int64} {x y : Nat} (ha : a.toInt = x) (hb : b.toInt = y) (hx : x < 9223372036854775808) : (a / b).toInt = (x / y : Nat) := by
  rw [Int64.toInt_div, ha, hb, ← Int.ofNat_tdiv]
  have := Nat.div_le_self x y
  generalize x / y = z at this ⊢
  exact bm64 (by omega) (by omega)
theorem l_mul {a b : Int64} {x y : Nat} (ha : a.toInt = x) (hb : b.toInt = y) (hx : x * y < 9223372036854775808) : (a * b).toInt = (x * y : Nat) := by
  rw [Int64.toInt_mul, ha, hb, ← Int.natCast_mul]
  exact bm64 (by omega) (by omega)
theorem l_add {a b : Int64} {x y : Nat} (ha : a.toInt = x) (hb : b.toInt = y) (hx : x + y < 9223372036854775808) : (a + b).toInt = (x + y : Nat) := by
  rw [Int64.toInt_add, ha, hb, ← Int.natCast_add]
  exact bm64 (by omega) (by omega)
theorem l_sub {a b : Int64} {x y : Nat} (ha : a.toInt = x) (hb : b.toInt = y) (hx : x < 9223372036854775808) (hy : y ≤ x) : (a - b).toInt = (x - y : Nat) := by
  rw [Int64.toInt_sub, ha, hb, bm64 (by omega) (by omega)]
  omega
theorem l_10 : (10 : Int64).toInt = (10 : Nat) := by decide
theorem l_mod {a : Int64} {x : Nat} (ha : a.toInt = x) (hx : x < 9223372036854775808) : (a - a / 10 * 10).toInt = (x % 10 : Nat) := by
  have h1 := l_div ha l_10 hx
  have h2 := l_mul h1 l_10 (by omega)
  rw [l_sub ha h2 hx (by omega)]
  congr 1
  omega
theorem lg_le0 (x : Int64) : (lg_cmp x 0 ≤ 0) = (x.toInt ≤ 0) := by
  have h := lg_lt0 x 0
  have h2 := lg_eq0 x 0
  have h0 : (0 : Int64).toInt = 0 := by decide
  rw [h0] at h h2
  refine propext ⟨fun q => ?_, fun q => ?_⟩
  · rcases Int32.le_iff_lt_or_eq.mp q with q | q
    · have := h.mp q; omega
    · have := h2.mp q; omega
  · by_cases e : x.toInt = 0
    · exact Int32.le_iff_lt_or_eq.mpr (Or.inr (h2.mpr e))
    · exact Int32.le_iff_lt_or_eq.mpr (Or.inl (h.mpr (by omega)))
theorem lg_gt0 (x y : Int64) : (0 < lg_cmp x y) = (y.toInt < x.toInt) := by
  have h := lg_lt0 x y
  have h2 := lg_eq0 x y
  refine propext ⟨fun q => ?_, fun q => ?_⟩
  · have q1 : ¬ lg_cmp x y < 0 := Int32.lt_asymm q
    have q2 : ¬ lg_cmp x y = 0 := fun e => by rw [e] at q; exact absurd q (by decide)
    rw [h] at q1; rw [h2] at q2; omega
  · have q1 : ¬ lg_cmp x y < 0 := by rw [h]; omega
    have q2 : ¬ lg_cmp x y = 0 := by rw [h2]; omega
    rcases Int32.le_iff_lt_or_eq.mp (Int32.not_lt.mp q1) with q | q
    · exact q
    · exact absurd q.symm q2
/-- the digits for the units from 10^j on, but for leading zeros -/
def dgf : Nat → Nat → List Nat
  | 0, n => [48 + n % 10]
  | j + 1, n => (if 10 ^ (j + 1) ≤ n then [48 + n / 10 ^ (j + 1) % 10] else []) ++ dgf j n
/-- all of them -/
def dga : Nat → Nat → List Nat
  | 0, n => [48 + n % 10]
  | j + 1, n => (48 + n / 10 ^ (j + 1) % 10) :: dga j n
theorem dgf_dga : ∀ (j n : Nat), (j = 0 ∨ 10 ^ j ≤ n) → dgf j n = dga j n
  | 0, _, _ => rfl
  | j + 1, n, h => by
    have h1 : 10 ^ (j + 1) ≤ n := by
      rcases h with h | h
      · cases h
      · exact h
    have h2 : 10 ^ j ≤ n := Nat.le_trans (Nat.pow_le_pow_right (by decide) (Nat.le_succ j)) h1
    unfold dgf dga
    rw [if_pos h1, dgf_dga j n (Or.inr h2)]; rfl
theorem dgf_up {j n : Nat} (h : n < 10 ^ (j + 1)) : ∀ k, dgf (j + k) n = dgf j n
  | 0 => rfl
  | k + 1 => by
    have h1 : ¬ 10 ^ (j + k + 1) ≤ n := by
      have := Nat.pow_le_pow_right (n := 10) (by decide) (show j + 1 ≤ j + k + 1 by omega)
      omega
    show (if 10 ^ (j + k + 1) ≤ n then [48 + n / 10 ^ (j + k + 1) % 10] else []) ++ dgf (j + k) n = dgf j n
    rw [if_neg h1, dgf_up h k]; rfl
theorem dgf_len : ∀ (j n : Nat), (dgf j n).length ≤ j + 1
  | 0, _ => Nat.le_refl 1
  | j + 1, n => by
    have := dgf_len j n
    unfold dgf
    split
    · rw [List.length_append]; show 1 + _ ≤ _; omega
    · rw [List.length_append]; show 0 + _ ≤ _; omega
theorem dgf_byte : ∀ (j n x : Nat), x ∈ dgf j n → x < 58
  | 0, n, x, h => by
    rw [dgf, List.mem_singleton] at h
    omega
  | j + 1, n, x, h => by
    unfold dgf at h
    rcases List.mem_append.mp h with h | h
    · split at h
      · rw [List.mem_singleton] at h; omega
      · cases h
    · exact dgf_byte j n x h
/-- a number's text -/
def nt (x : Int32) : List Nat := (if x.toInt < 0 then [45] else []) ++ dgf 9 x.toInt.natAbs
theorem nt_len (x : Int32) : (nt x).length ≤ 11 := by
  unfold nt
  have := dgf_len 9 x.toInt.natAbs
  rw [List.length_append]
  split
  · show 1 + _ ≤ _; omega
  · show 0 + _ ≤ _; omega
theorem nt_small {a : Nat} (h : a < 100) : (nt (nn a)).length ≤ 2 := by
  unfold nt
  rw [nn_int (by omega), if_neg (by omega), List.nil_append]
  have e : (a : Int).natAbs = a := rfl
  rw [e, show (9 : Nat) = 1 + 8 from rfl, dgf_up (by omega) 8]
  exact dgf_len 1 a
/-- the text at 3 of the class -/
def hT (f : zf) (L : List Nat) : Prop := f 3 1 = nn L.length ∧ ∀ i, i < L.length → f 4 i &&& 255 = nn (L.getD i 0)
/-- the text of the reference -/
def hU (f : zf) (L : List Nat) : Prop := f 183 28 = nn L.length ∧ ∀ i, i < L.length → f 197 i = nn (L.getD i 0)
theorem getD_app1 {L : List Nat} {c i : Nat} (h : i < L.length) : (L ++ [c]).getD i 0 = L.getD i 0 := by
  rw [List.getD_eq_getElem?_getD, List.getElem?_append_left h, ← List.getD_eq_getElem?_getD]
theorem getD_app2 {L : List Nat} {c : Nat} : (L ++ [c]).getD L.length 0 = c := by
  rw [List.getD_eq_getElem?_getD, List.getElem?_append_right (Nat.le_refl _), Nat.sub_self]; rfl
theorem by_and {c : Nat} (h : c < 256) : by_ (nn c) &&& 255 = nn c := by
  have key : ∀ c : Fin 256, by_ (nn c.1) &&& 255 = nn c.1 := by decide +kernel
  exact key ⟨c, h⟩
/-- only rows 3 and 4 differ -/
theorem s_app {f : zf} {ρ : zo} (hC : zC ρ) {L : List Nat} {x : Int32} {c : Nat} {Q : zS → Prop} (hx : x = nn c) (hc : c < 256) (hT' : hT f L) (hl : L.length < 1448) (h : ∀ f', fr2 f f' 3 4 → hT f' (L ++ [c]) → Q (f', ρ)) : P_T_append 201 3 x (f, ρ) Q := by
  rw [hx]
  refine s_append hC (Or.inr ⟨rfl, hl⟩) hT'.1 (h _ (fun a h1 h2 => ?_) ⟨?_, fun i hi => ?_⟩)
  · rw [uf_ne _ h1, uf_ne _ h2]
  · rw [uf_eq, ur_eq, List.length_append]; rfl
  · rw [uf_ne _ (by decide), uf_eq]
    rw [List.length_append] at hi
    have hi : i < L.length + 1 := hi
    by_cases e : i = L.length
    · subst e
      rw [ur_eq, getD_app2]; exact by_and hc
    · rw [ur_ne _ e, getD_app1 (by omega)]; exact hT'.2 i (by omega)
theorem fr2.trans {f g h : zf} {a b : Nat} (x : fr2 f g a b) (y : fr2 g h a b) : fr2 f h a b := fun k h1 h2 => by rw [y k h1 h2, x k h1 h2]
theorem fr2.rfl' (f : zf) (a b : Nat) : fr2 f f a b := fun _ _ _ => rfl
theorem pw_lt {j : Nat} (h : j ≤ 9) : 10 ^ j ≤ 1000000000 := Nat.le_trans (Nat.pow_le_pow_right (by decide) h) (by decide)
theorem pw_pos (j : Nat) : 0 < 10 ^ j := Nat.pow_pos (by decide)
theorem dig {a u : Int64} {n j : Nat} (ha : a.toInt = n) (hu : u.toInt = (10 ^ j : Nat)) (hn : n < 9223372036854775808) : Int64.toInt32 (48 + (a / u - a / u / 10 * 10)) = nn (48 + n / 10 ^ j % 10) := by
  have h1 := l_div ha hu hn
  have h2 := l_mod h1 (by have := Nat.div_le_self n (10 ^ j); omega)
  have h3 := l_add (a := 48) (x := 48) (by decide) h2 (by omega)
  exact i64_32 h3 (by omega)
theorem s_digits {ρ : zo} (hC : zC ρ) {n : Nat} {a : Int64} {Q : zS → Prop} (ha : a.toInt = n) (hn : n < 9223372036854775808) : ∀ (j : Nat) (f : zf) (u : Int64) (L : List Nat), j ≤ 9 → u.toInt = (10 ^ j : Nat) → hT f L → (L ++ dgf j n).length ≤ 1448 → (∀ f', fr2 f f' 3 4 → hT f' (L ++ dgf j n) → Q (f', ρ)) → P_T_appendNumber_21 201 Q (j + 2) 3 a u (f, ρ) := by
  have fin : ∀ (k : Nat) (f : zf) (u : Int64), u.toInt = 0 → Q (f, ρ) → P_T_appendNumber_21 201 Q (k + 1) 3 a u (f, ρ) := by
    intro k f u hu h
    unfold P_T_appendNumber_21
    rw [lg_le0, hu]
    exact ⟨fun _ => h, fun q => absurd (by decide) q⟩
  intro j
  induction j with
  | zero =>
    intro f u L _ hu hT' hl h
    unfold P_T_appendNumber_21 P_T_appendNumber_42 P_T_appendNumber_59
    have hu1 : u.toInt = 1 := hu
    have nz : ¬ u = 0 := fun e => by rw [e] at hu1; exact absurd hu1 (by decide)
    rw [lg_le0, lg_ge0, lg_eq0, hu1, show (1 : Int64).toInt = 1 from by decide]
    have go : P_T_append 201 3 (Int64.toInt32 (48 + (a / u - a / u / 10 * 10))) (f, ρ) (fun σ4 => (¬ (10 : Int64) = 0) ∧ P_T_appendNumber_21 201 Q 1 3 a (u / 10) σ4) := by
      refine s_app hC (dig (j := 0) ha hu hn) (by omega) hT' ?_ (fun f' r1 r2 => ⟨by decide, fin 0 f' _ ?_ (h f' r1 ?_)⟩)
      · have e : dgf 0 n = [48 + n % 10] := rfl
        rw [e, List.length_append] at hl
        have hl : L.length + 1 ≤ 1448 := hl
        omega
      · exact l_div hu l_10 (by decide)
      · have e : dgf 0 n = [48 + n / 10 ^ 0 % 10] := by show [48 + n % 10] = _; rw [Nat.pow_zero, Nat.div_one]
        rw [e]; exact r2
    refine ⟨fun q => absurd q (by decide), fun _ => ⟨fun _ => ⟨nz, by decide, by rw [ko_3]; trivial, go⟩, fun _ => ⟨fun q => absurd rfl q, fun _ => ⟨nz, by decide, by rw [ko_3]; trivial, go⟩⟩⟩⟩
  | succ j ih =>
    intro f u L hj hu hT' hl h
    have pl := pw_lt hj
    have pp := pw_pos (j + 1)
    unfold P_T_appendNumber_21 P_T_appendNumber_42 P_T_appendNumber_59
    have nz : ¬ u = 0 := fun e => by
      rw [e] at hu
      have : (0 : Int64).toInt = 0 := by decide
      omega
    rw [lg_le0, lg_ge0, lg_eq0, hu, ha, show (1 : Int64).toInt = 1 from by decide]
    have hu' : (u / 10).toInt = (10 ^ j : Nat) := by
      rw [l_div hu l_10 (by omega)]
      congr 1
      rw [Nat.pow_succ, Nat.mul_div_cancel _ (by decide)]
    refine ⟨fun q => absurd q (by omega), fun _ => ⟨fun q => ⟨nz, by decide, by rw [ko_3]; trivial, ?_⟩, fun q => ⟨fun _ => ⟨by decide, ?_⟩, fun q' => ?_⟩⟩⟩
    · have e : dgf (j + 1) n = [48 + n / 10 ^ (j + 1) % 10] ++ dgf j n := by
        show (if 10 ^ (j + 1) ≤ n then [48 + n / 10 ^ (j + 1) % 10] else []) ++ dgf j n = _
        rw [if_pos (by omega)]
      rw [e, ← List.append_assoc] at hl h
      refine s_app hC (dig (j := j + 1) ha hu hn) (by omega) hT' ?_ (fun f' r1 r2 => ⟨by decide, ?_⟩)
      · rw [List.length_append, List.length_append] at hl
        have hl : L.length + 1 + (dgf j n).length ≤ 1448 := hl
        omega
      · exact ih f' (u / 10) _ (by omega) hu' r2 hl (fun f'' q1 q2 => h f'' (r1.trans q1) q2)
    · have e : dgf (j + 1) n = dgf j n := by
        show (if 10 ^ (j + 1) ≤ n then [48 + n / 10 ^ (j + 1) % 10] else []) ++ dgf j n = _
        rw [if_neg (by omega)]; rfl
      rw [e] at hl h
      exact ih f (u / 10) _ (by omega) hu' hT' hl h
    · have : 10 ≤ 10 ^ (j + 1) := by have := pw_pos j; rw [Nat.pow_succ]; omega
      exfalso; omega
theorem abs64 (x : Int32) : (if 0 < Int32.toInt64 x then Int32.toInt64 x else -Int32.toInt64 x).toInt = (x.toInt.natAbs : Nat) := by
  have h1 := Int32.toInt_lt x
  have h2 := Int32.le_toInt x
  have h3 := Int32.toInt_toInt64 x
  by_cases e : 0 < Int32.toInt64 x
  · rw [if_pos e, h3]
    rw [Int64.lt_iff_toInt_lt, h3] at e
    have : (0 : Int64).toInt = 0 := by decide
    omega
  · rw [if_neg e, Int64.toInt_neg, h3, bm64 (by omega) (by omega)]
    rw [Int64.lt_iff_toInt_lt, h3] at e
    have : (0 : Int64).toInt = 0 := by decide
    omega
theorem s_appNum {f : zf} {ρ : zo} (hC : zC ρ) {L : List Nat} {x : Int32} {Q : zS → Prop} (hT' : hT f L) (hl : (L ++ nt x).length ≤ 1448) (h : ∀ f', fr2 f f' 3 4 → hT f' (L ++ nt x) → Q (f', ρ)) : P_T_appendNumber 201 3 x (f, ρ) Q := by
  have hb : x.toInt.natAbs < 9223372036854775808 := by
    have h1 := Int32.toInt_lt x
    have h2 := Int32.le_toInt x
    omega
  have h0 : (0 : Int32).toInt = 0 := by decide
  unfold P_T_appendNumber P_T_appendNumber_16
  unfold nt at hl h
  refine ⟨fun q => ⟨11, s_digits hC (abs64 x) hb 9 f _ L (by decide) (by decide) hT' ?_ ?_⟩, fun q => ⟨by rw [ko_3]; trivial, ?_⟩⟩
  · rw [Int32.le_iff_toInt_le, h0] at q
    rw [if_neg (by omega), List.nil_append] at hl; exact hl
  · rw [Int32.le_iff_toInt_le, h0] at q
    rw [if_neg (by omega), List.nil_append] at h; exact h
  · rw [Int32.le_iff_toInt_le, h0] at q
    rw [if_pos (by omega), ← List.append_assoc] at hl h
    refine s_app hC (c := 45) rfl (by decide) hT' ?_ (fun f' r1 r2 => ⟨11, s_digits hC (abs64 x) hb 9 f' _ _ (by decide) (by decide) r2 hl (fun f'' q1 q2 => h f'' (r1.trans q1) q2)⟩)
    rw [List.length_append, List.length_append] at hl
    have hl : L.length + 1 + (dgf 9 x.toInt.natAbs).length ≤ 1448 := hl
    omega
/-- row 197, and of row 183 the place 28, may differ -/
def frU (f f' : zf) : Prop := (∀ a, a ≠ 183 → a ≠ 197 → f' a = f a) ∧ ∀ j, j ≠ 28 → f' 183 j = f 183 j
theorem frU.rfl' (f : zf) : frU f f := ⟨fun _ _ _ => rfl, fun _ _ => rfl⟩
theorem frU.trans {f g h : zf} (a : frU f g) (b : frU g h) : frU f h := ⟨fun k h1 h2 => by rw [b.1 k h1 h2, a.1 k h1 h2], fun j h1 => by rw [b.2 j h1, a.2 j h1]⟩
theorem s_put {f : zf} {ρ : zo} (hC : zC ρ) {L : List Nat} {x : Int32} {c : Nat} {Q : zS → Prop} (hx : x = nn c) (hT' : hU f L) (hl : L.length < 1700) (h : ∀ f', frU f f' → hU f' (L ++ [c]) → Q (f', ρ)) : P_M_put 201 183 x (f, ρ) Q := by
  rw [hx]
  unfold P_M_put
  simp (disch := (first | assumption | omega)) only [true_and, and_true, zr_u, zi_u, zI_u, Option.some.injEq, exists_eq_left', nn_tn, nn_add, nn_s, nn_2, nn_5, nn_7, nn_8, na0, na2, na3, na4, na5, na6, uf_ne, uf_eq, ur_eq, ur_ne, true_or, or_true, not_true_eq_false, not_false_eq_true, true_implies, false_implies, implies_true, e10, e01, reduceIte, Option.isSome_none, Option.isSome_some, Bool.false_eq_true, bi_t, bi_f, ko_183, rc_183_27 hC, hT'.1, ka_197]
  refine h _ ⟨fun a h1 h2 => ?_, fun j h1 => ?_⟩ ⟨?_, fun i hi => ?_⟩
  · simp (disch := (first | assumption | omega)) only [true_and, and_true, zr_u, zi_u, zI_u, Option.some.injEq, exists_eq_left', nn_tn, nn_add, nn_s, nn_2, nn_5, nn_7, nn_8, na0, na2, na3, na4, na5, na6, uf_ne, uf_eq, ur_eq, ur_ne, true_or, or_true, not_true_eq_false, not_false_eq_true, true_implies, false_implies, implies_true, e10, e01, reduceIte, Option.isSome_none, Option.isSome_some, Bool.false_eq_true, bi_t, bi_f]
  · simp (disch := (first | assumption | omega)) only [true_and, and_true, zr_u, zi_u, zI_u, Option.some.injEq, exists_eq_left', nn_tn, nn_add, nn_s, nn_2, nn_5, nn_7, nn_8, na0, na2, na3, na4, na5, na6, uf_ne, uf_eq, ur_eq, ur_ne, true_or, or_true, not_true_eq_false, not_false_eq_true, true_implies, false_implies, implies_true, e10, e01, reduceIte, Option.isSome_none, Option.isSome_some, Bool.false_eq_true, bi_t, bi_f]
  · simp (disch := (first | assumption | omega)) only [true_and, and_true, zr_u, zi_u, zI_u, Option.some.injEq, exists_eq_left', nn_tn, nn_add, nn_s, nn_2, nn_5, nn_7, nn_8, na0, na2, na3, na4, na5, na6, uf_ne, uf_eq, ur_eq, ur_ne, true_or, or_true, not_true_eq_false, not_false_eq_true, true_implies, false_implies, implies_true, e10, e01, reduceIte, Option.isSome_none, Option.isSome_some, Bool.false_eq_true, bi_t, bi_f]
    rw [List.length_append]; rfl
  · rw [List.length_append] at hi
    have hi : i < L.length + 1 := hi
    by_cases e : i = L.length
    · subst e; simp (disch := (first | assumption | omega)) only [true_and, and_true, zr_u, zi_u, zI_u, Option.some.injEq, exists_eq_left', nn_tn, nn_add, nn_s, nn_2, nn_5, nn_7, nn_8, na0, na2, na3, na4, na5, na6, uf_ne, uf_eq, ur_eq, ur_ne, true_or, or_true, not_true_eq_false, not_false_eq_true, true_implies, false_implies, implies_true, e10, e01, reduceIte, Option.isSome_none, Option.isSome_some, Bool.false_eq_true, bi_t, bi_f, getD_app2]
    · simp (disch := (first | assumption | omega)) only [true_and, and_true, zr_u, zi_u, zI_u, Option.some.injEq, exists_eq_left', nn_tn, nn_add, nn_s, nn_2, nn_5, nn_7, nn_8, na0, na2, na3, na4, na5, na6, uf_ne, uf_eq, ur_eq, ur_ne, true_or, or_true, not_true_eq_false, not_false_eq_true, true_implies, false_implies, implies_true, e10, e01, reduceIte, Option.isSome_none, Option.isSome_some, Bool.false_eq_true, bi_t, bi_f, getD_app1 (show i < L.length by omega)]
      exact hT'.2 i (by omega)
theorem dig2 {a u : Int64} {n j : Nat} (ha : a.toInt = n) (hu : u.toInt = (10 ^ j : Nat)) (hn : n < 9223372036854775808) : 48 + Int64.toInt32 (a / u - a / u / 10 * 10) = nn (48 + n / 10 ^ j % 10) := by
  have h1 := l_div ha hu hn
  have h2 := l_mod h1 (by have := Nat.div_le_self n (10 ^ j); omega)
  rw [i64_32 h2 (by omega), show (48 : Int32) = nn 48 from rfl, nn_add]
theorem s_putDigits {ρ : zo} (hC : zC ρ) {n : Nat} {a : Int64} {Q : zS → Prop} (ha : a.toInt = n) (hn : n < 9223372036854775808) : ∀ (j : Nat) (f : zf) (u : Int64) (L : List Nat), j ≤ 9 → u.toInt = (10 ^ j : Nat) → hU f L → (L ++ dga j n).length ≤ 1448 → (∀ f', frU f f' → hU f' (L ++ dga j n) → Q (f', ρ)) → P_M_putNumber_41 201 Q (j + 2) 183 a u (f, ρ) := by
  intro j
  induction j with
  | zero =>
    intro f u L _ hu hT' hl h
    unfold P_M_putNumber_41
    have hu1 : u.toInt = 1 := hu
    have nz : ¬ u = 0 := fun e => by rw [e] at hu1; exact absurd hu1 (by decide)
    rw [lg_le0, hu1]
    refine ⟨fun q => absurd q (by decide), fun _ => ⟨nz, by decide, by rw [ko_183]; trivial, ?_⟩⟩
    refine s_put hC (dig2 (j := 0) ha hu hn) hT' ?_ (fun f' r1 r2 => ⟨by decide, ?_⟩)
    · have e : dga 0 n = [48 + n % 10] := rfl
      rw [e, List.length_append] at hl
      have hl : L.length + 1 ≤ 1448 := hl
      omega
    · unfold P_M_putNumber_41
      have hz : (u / 10).toInt = ((1 / 10 : Nat) : Int) := l_div hu l_10 (by decide)
      rw [lg_le0, hz]
      refine ⟨fun _ => h f' r1 ?_, fun q => absurd (by decide) q⟩
      have e : dga 0 n = [48 + n / 10 ^ 0 % 10] := by show [48 + n % 10] = _; rw [Nat.pow_zero, Nat.div_one]
      rw [e]; exact r2
  | succ j ih =>
    intro f u L hj hu hT' hl h
    have pl := pw_lt hj
    have pp := pw_pos (j + 1)
    unfold P_M_putNumber_41
    have nz : ¬ u = 0 := fun e => by
      rw [e] at hu
      have : (0 : Int64).toInt = 0 := by decide
      omega
    rw [lg_le0, hu]
    have hu' : (u / 10).toInt = (10 ^ j : Nat) := by
      rw [l_div hu l_10 (by omega)]
      congr 1
      rw [Nat.pow_succ, Nat.mul_div_cancel _ (by decide)]
    refine ⟨fun q => absurd q (by omega), fun _ => ⟨nz, by decide, by rw [ko_183]; trivial, ?_⟩⟩
    have e : dga (j + 1) n = [48 + n / 10 ^ (j + 1) % 10] ++ dga j n := rfl
    rw [e, ← List.append_assoc] at hl h
    refine s_put hC (dig2 (j := j + 1) ha hu hn) hT' ?_ (fun f' r1 r2 => ⟨by decide, ?_⟩)
    · rw [List.length_append, List.length_append] at hl
      have hl : L.length + 1 + (dga j n).length ≤ 1448 := hl
      omega
    · exact ih f' (u / 10) _ (by omega) hu' r2 hl (fun f'' q1 q2 => h f'' (r1.trans q1) q2)
theorem s_putUnit {ρ : zo} (hC : zC ρ) {n : Nat} {a : Int64} {f : zf} {L : List Nat} {Q : zS → Prop} (ha : a.toInt = n) (hn : n < 10000000000) (hT' : hU f L) (hl : (L ++ dgf 9 n).length ≤ 1448) (h : ∀ f', frU f f' → hU f' (L ++ dgf 9 n) → Q (f', ρ)) : ∀ (m j : Nat) (u : Int64), j + m = 9 → u.toInt = (10 ^ j : Nat) → (j = 0 ∨ 10 ^ j ≤ n) → P_M_putNumber_19 201 Q (m + 1) 183 a u (f, ρ) := by
  have stop : ∀ (j : Nat) (u : Int64), j ≤ 9 → u.toInt = (10 ^ j : Nat) → (j = 0 ∨ 10 ^ j ≤ n) → n < 10 ^ (j + 1) → ∃ g, P_M_putNumber_41 201 Q g 183 a u (f, ρ) := by
    intro j u hj hu hd hlt
    have e : dgf 9 n = dga j n := by
      have := dgf_up hlt (9 - j)
      rw [show j + (9 - j) = 9 by omega] at this
      rw [this, dgf_dga j n hd]
    rw [e] at hl h
    exact ⟨j + 2, s_putDigits hC ha (by omega) j f u L hj hu hT' hl h⟩
  have mul : ∀ (j : Nat) (u : Int64), j ≤ 9 → u.toInt = (10 ^ j : Nat) → (u * 10).toInt = (10 ^ (j + 1) : Nat) := by
    intro j u hj hu
    have := pw_lt hj
    rw [l_mul hu l_10 (by omega), Nat.pow_succ]
  intro m
  induction m with
  | zero =>
    intro j u hj hu hd
    have e : j = 9 := by omega
    subst e
    unfold P_M_putNumber_19
    rw [lg_gt0, mul 9 u (by omega) hu, ha]
    refine ⟨fun q => stop 9 u (by omega) hu hd (by omega), fun q => ?_⟩
    exfalso
    have : (10 : Nat) ^ (9 + 1) = 10000000000 := by decide
    omega
  | succ m ih =>
    intro j u hj hu hd
    unfold P_M_putNumber_19
    rw [lg_gt0, mul j u (by omega) hu, ha]
    refine ⟨fun q => stop j u (by omega) hu hd (by omega), fun q => ?_⟩
    exact ih (j + 1) _ (by omega) (mul j u (by omega) hu) (Or.inr (by omega))
theorem s_putNum {f : zf} {ρ : zo} (hC : zC ρ) {L : List Nat} {x : Int32} {Q : zS → Prop} (hT' : hU f L) (hl : (L ++ nt x).length ≤ 1448) (h : ∀ f', frU f f' → hU f' (L ++ nt x) → Q (f', ρ)) : P_M_putNumber 201 183 x (f, ρ) Q := by
  have h1 := Int32.toInt_lt x
  have h2 := Int32.le_toInt x
  have h3 := Int32.toInt_toInt64 x
  have h0 : (0 : Int32).toInt = 0 := by decide
  unfold P_M_putNumber P_M_putNumber_16
  unfold nt at hl h
  refine ⟨fun q => ⟨10, ?_⟩, fun q => ⟨by rw [ko_183]; trivial, ?_⟩⟩
  · rw [Int32.le_iff_toInt_le, h0] at q
    rw [if_neg (by omega), List.nil_append] at hl h
    exact s_putUnit hC (n := x.toInt.natAbs) (by rw [h3]; omega) (by omega) hT' hl h 9 0 1 rfl (by decide) (Or.inl rfl)
  · rw [Int32.le_iff_toInt_le, h0] at q
    rw [if_pos (by omega), ← List.append_assoc] at hl h
    refine s_put hC (c := 45) rfl hT' ?_ (fun f' r1 r2 => ⟨10, s_putUnit hC (n := x.toInt.natAbs) ?_ (by omega) r2 hl (fun f'' q1 q2 => h f'' (r1.trans q1) q2) 9 0 1 rfl (by decide) (Or.inl rfl)⟩)
    · rw [List.length_append, List.length_append] at hl
      have hl : L.length + 1 + (dgf 9 x.toInt.natAbs).length ≤ 1448 := hl
      omega
    · rw [Int64.toInt_neg, h3, bm64 (by omega) (by omega)]
      omega
