/-! Pure work: rows of ints, small numbers, cells. -/
abbrev zf : Type := Nat → Nat → Int32
abbrev zo : Type := (Nat → Nat → Option Nat) × (Nat → Nat → Int64)
def ur (g : Nat → Int32) (j : Nat) (x : Int32) : Nat → Int32 := fun b => if b = j then x else g b
def uf (f : zf) (k j : Nat) (x : Int32) : zf := fun a => if a = k then ur (f k) j x else f a
theorem ur_ap (g : Nat → Int32) (j : Nat) (x : Int32) (b : Nat) : ur g j x b = if b = j then x else g b := rfl
theorem uf_ap (f : zf) (k j : Nat) (x : Int32) (a : Nat) : uf f k j x a = if a = k then ur (f k) j x else f a := rfl
theorem uf_ne (f : zf) {k j : Nat} {x : Int32} {a : Nat} (h : a ≠ k) : uf f k j x a = f a := if_neg h
theorem uf_eq (f : zf) {k j : Nat} {x : Int32} : uf f k j x k = ur (f k) j x := if_pos rfl
theorem ur_eq (g : Nat → Int32) {j : Nat} {x : Int32} : ur g j x j = x := if_pos rfl
theorem ur_ne (g : Nat → Int32) {j : Nat} {x : Int32} {a : Nat} (h : a ≠ j) : ur g j x a = g a := if_neg h
theorem zI_u (f : zf) (ρ : zo) (k j : Nat) (x : Int32) : zI (f, ρ) k j x = (uf f k j x, ρ) := by
  unfold zI uf ur
  congr 1
  funext a b
  by_cases ha : a = k
  · subst ha
    by_cases hb : b = j
    · simp [hb]
    · simp [hb]
  · simp [ha]
theorem zi_u (f : zf) (ρ : zo) (k j : Nat) : zi (f, ρ) k j = f k j := rfl
theorem zr_u (f : zf) (ρ : zo) (k j : Nat) : zr (f, ρ) k j = ρ.1 k j := rfl
theorem zl_u (f : zf) (ρ : zo) (k j : Nat) : zl (f, ρ) k j = ρ.2 k j := rfl
def nn (k : Nat) : Int32 := Int32.ofNat k
theorem nn_add (a b : Nat) : nn a + nn b = nn (a + b) := (Int32.ofNat_add a b).symm
theorem nn_mul (a b : Nat) : nn a * nn b = nn (a * b) := (Int32.ofNat_mul a b).symm
theorem nn_int {a : Nat} (h : a < 2147483648) : (nn a).toInt = a := by
  unfold nn
  exact Int32.toInt_ofNat_of_lt h
theorem nn_lt {a b : Nat} (ha : a < 2147483648) (hb : b < 2147483648) : (nn a < nn b) = (a < b) := by
  rw [Int32.lt_iff_toInt_lt, nn_int ha, nn_int hb]; exact propext (by omega)
theorem nn_le {a b : Nat} (ha : a < 2147483648) (hb : b < 2147483648) : (nn a ≤ nn b) = (a ≤ b) := by
  rw [Int32.le_iff_toInt_le, nn_int ha, nn_int hb]; exact propext (by omega)
theorem nn_eq {a b : Nat} (ha : a < 2147483648) (hb : b < 2147483648) : (nn a = nn b) = (a = b) := by
  refine propext ⟨fun h => ?_, fun h => by rw [h]⟩
  have := congrArg Int32.toInt h
  rw [nn_int ha, nn_int hb] at this
  omega
theorem nn_tn {a : Nat} (ha : a < 2147483648) : (nn a).toNatClampNeg = a := by
  show (nn a).toInt.toNat = a
  rw [nn_int ha]; omega
theorem nn_sub {a b : Nat} (h : b ≤ a) : nn a - nn b = nn (a - b) := by
  have : nn a = nn (a - b) + nn b := by rw [nn_add]; congr 1; omega
  rw [this, Int32.add_sub_cancel]
theorem nn_m1 {a : Nat} (ha : a < 2147483648) : (nn a = -1) = False := by
  refine propext ⟨fun h => ?_, False.elim⟩
  have := congrArg Int32.toInt h
  rw [nn_int ha] at this
  have h2 : (-1 : Int32).toInt = -1 := by decide
  omega
theorem nn_vp {a n : Nat} (ha : a < n) (hn : n < 2147483648) : vp_in (nn a) n := by
  intro h
  rcases h with h | h
  · rw [Int32.lt_iff_toInt_lt, nn_int (by omega)] at h
    have : (0 : Int32).toInt = 0 := by decide
    omega
  · rw [nn_tn (by omega)] at h; omega
theorem nn_64 {a : Nat} (h : a < 2147483648) : (Int32.toInt64 (nn a)).toInt = a := by
  rw [Int32.toInt_toInt64, nn_int h]
theorem lg_lt0 (x y : Int64) : (lg_cmp x y < 0) = (x.toInt < y.toInt) := by
  unfold lg_cmp
  refine propext ?_
  rw [← Int64.lt_iff_toInt_lt]
  by_cases h1 : x > y
  · rw [if_pos h1]
    exact ⟨fun h => absurd h (by decide), fun h => absurd h (Int64.lt_asymm h1)⟩
  · rw [if_neg h1]
    by_cases h2 : x = y
    · rw [if_pos h2]
      exact ⟨fun h => absurd h (by decide), fun h => by rw [h2] at h; exact absurd h (Int64.lt_irrefl)⟩
    · rw [if_neg h2]
      refine ⟨fun _ => ?_, fun _ => by decide⟩
      rw [Int64.lt_iff_toInt_lt]
      rw [gt_iff_lt, Int64.lt_iff_toInt_lt] at h1
      have : x.toInt ≠ y.toInt := fun h => h2 (Int64.toInt_inj.mp h)
      omega
theorem lg_ge0 (x y : Int64) : (0 ≤ lg_cmp x y) = (y.toInt ≤ x.toInt) := by
  have h := lg_lt0 x y
  refine propext ?_
  rw [← Int32.not_lt, h]
  omega
theorem lg_eq0 (x y : Int64) : (lg_cmp x y = 0) = (x.toInt = y.toInt) := by
  unfold lg_cmp
  refine propext ?_
  rw [Int64.toInt_inj]
  by_cases h1 : x > y
  · rw [if_pos h1]
    exact ⟨fun h => absurd h (by decide), fun h => by rw [h] at h1; exact absurd h1 (Int64.lt_irrefl)⟩
  · rw [if_neg h1]
    by_cases h2 : x = y
    · rw [if_pos h2]; exact ⟨fun _ => h2, fun _ => rfl⟩
    · rw [if_neg h2]; exact ⟨fun h => absurd h (by decide), fun h => absurd h h2⟩
theorem nar_b0 : vp_nar .boolean 0 = 0 := by decide
theorem nar_b1 : vp_nar .boolean 1 = 1 := by decide
theorem nar_bb {x : Int32} (h : x = 0 ∨ x = 1) : vp_nar .boolean x = x := by rcases h with h | h <;> rw [h] <;> decide
theorem za_of {c tag len i : Nat} (hk : zkd c = (tag, len)) (hc : c < 201) (hi : i < len) (hl : len < 2147483648) : za 201 c tag (nn i) := by
  refine ⟨hc, by rw [hk], ?_⟩
  rw [hk]; exact nn_vp hi hl
theorem zk_of {c tag len : Nat} (hk : zkd c = (tag, len)) (hc : c < 201) : zk 201 c tag := ⟨hc, by rw [hk]⟩
/-- a view's cell -/
def zv_ (c : Nat) : Prop := c = 12 ∨ c = 15 ∨ (20 ≤ c ∧ c < 164 ∧ (c - 20) % 3 = 0)
theorem zkd_mid {k : Nat} (h1 : 20 ≤ k) (h2 : k < 164) : zkd k = ([(4, 0), (11, 8), (10, 8)] : List (Nat × Nat)).getD ((k - 20) % 3) (99, 0) := by
  unfold zkd
  rw [if_neg (by omega), if_pos h2]
theorem zv_0 {c : Nat} (h : zv_ c) : zkd c = (4, 0) := by
  rcases h with h | h | ⟨h1, h2, h3⟩
  · subst h; rfl
  · subst h; rfl
  · rw [zkd_mid h1 h2, h3]; rfl
theorem zv_1 {c : Nat} (h : zv_ c) : zkd (c + 1) = (11, 8) := by
  rcases h with h | h | ⟨h1, h2, h3⟩
  · subst h; rfl
  · subst h; rfl
  · rw [zkd_mid (by omega) (by omega), show (c + 1 - 20) % 3 = 1 by omega]; rfl
theorem zv_2 {c : Nat} (h : zv_ c) : zkd (c + 2) = (10, 8) := by
  rcases h with h | h | ⟨h1, h2, h3⟩
  · subst h; rfl
  · subst h; rfl
  · rw [zkd_mid (by omega) (by omega), show (c + 2 - 20) % 3 = 2 by omega]; rfl
theorem zv_lt {c : Nat} (h : zv_ c) : c < 162 := by
  rcases h with h | h | ⟨h1, h2, h3⟩ <;> omega
/-- the references that never change -/
def zrf (k j : Nat) : Option Nat :=
  if k = 10 then (if j < 24 then some (20 + 6 * j) else none)
  else if k = 11 then (if j < 24 then some (23 + 6 * j) else none)
  else if (zkd k).1 = 4 then (if j < 2 then some (k + 1 + j) else none)
  else if (zkd k).1 = 6 then (if 2 ≤ j ∧ j < 9 then some (k + j - 1) else none)
  else (([(0, 0, 1), (0, 1, 3), (0, 2, 5), (0, 3, 7), (0, 4, 164), (1, 0, 2), (3, 0, 4), (5, 0, 1), (5, 1, 6), (7, 0, 8), (7, 1, 9), (7, 2, 10), (7, 3, 11), (7, 4, 12), (7, 5, 15), (7, 6, 18), (7, 7, 19), (164, 0, 165), (164, 2, 166), (183, 1, 184), (183, 8, 185), (183, 9, 186), (183, 10, 187), (183, 13, 188), (183, 14, 189), (183, 15, 190), (183, 16, 191), (183, 20, 192), (183, 21, 193), (183, 22, 194), (183, 23, 195), (183, 24, 196), (183, 27, 197), (183, 29, 198), (183, 31, 199)] : List (Nat × Nat × Nat)).find? (fun t => t.1 == k && t.2.1 == j)).map (fun t => t.2.2)
def zC (ρ : zo) : Prop := ∀ k j v, zrf k j = some v → ρ.1 k j = some v
def zp_ (c : Nat) : Prop := c = 167 ∨ c = 175
theorem rc_0_0 {ρ : zo} (h : zC ρ) : ρ.1 0 0 = some 1 := h 0 0 _ rfl
theorem rc_0_1 {ρ : zo} (h : zC ρ) : ρ.1 0 1 = some 3 := h 0 1 _ rfl
theorem rc_0_2 {ρ : zo} (h : zC ρ) : ρ.1 0 2 = some 5 := h 0 2 _ rfl
theorem rc_0_3 {ρ : zo} (h : zC ρ) : ρ.1 0 3 = some 7 := h 0 3 _ rfl
theorem rc_0_4 {ρ : zo} (h : zC ρ) : ρ.1 0 4 = some 164 := h 0 4 _ rfl
theorem rc_1_0 {ρ : zo} (h : zC ρ) : ρ.1 1 0 = some 2 := h 1 0 _ rfl
theorem rc_3_0 {ρ : zo} (h : zC ρ) : ρ.1 3 0 = some 4 := h 3 0 _ rfl
theorem rc_5_0 {ρ : zo} (h : zC ρ) : ρ.1 5 0 = some 1 := h 5 0 _ rfl
theorem rc_5_1 {ρ : zo} (h : zC ρ) : ρ.1 5 1 = some 6 := h 5 1 _ rfl
theorem rc_7_0 {ρ : zo} (h : zC ρ) : ρ.1 7 0 = some 8 := h 7 0 _ rfl
theorem rc_7_1 {ρ : zo} (h : zC ρ) : ρ.1 7 1 = some 9 := h 7 1 _ rfl
theorem rc_7_2 {ρ : zo} (h : zC ρ) : ρ.1 7 2 = some 10 := h 7 2 _ rfl
theorem rc_7_3 {ρ : zo} (h : zC ρ) : ρ.1 7 3 = some 11 := h 7 3 _ rfl
theorem rc_7_4 {ρ : zo} (h : zC ρ) : ρ.1 7 4 = some 12 := h 7 4 _ rfl
theorem rc_7_5 {ρ : zo} (h : zC ρ) : ρ.1 7 5 = some 15 := h 7 5 _ rfl
theorem rc_7_6 {ρ : zo} (h : zC ρ) : ρ.1 7 6 = some 18 := h 7 6 _ rfl
theorem rc_7_7 {ρ : zo} (h : zC ρ) : ρ.1 7 7 = some 19 := h 7 7 _ rfl
theorem rc_164_0 {ρ : zo} (h : zC ρ) : ρ.1 164 0 = some 165 := h 164 0 _ rfl
theorem rc_164_2 {ρ : zo} (h : zC ρ) : ρ.1 164 2 = some 166 := h 164 2 _ rfl
theorem rc_183_1 {ρ : zo} (h : zC ρ) : ρ.1 183 1 = some 184 := h 183 1 _ rfl
theorem rc_183_8 {ρ : zo} (h : zC ρ) : ρ.1 183 8 = some 185 := h 183 8 _ rfl
theorem rc_183_9 {ρ : zo} (h : zC ρ) : ρ.1 183 9 = some 186 := h 183 9 _ rfl
theorem rc_183_10 {ρ : zo} (h : zC ρ) : ρ.1 183 10 = some 187 := h 183 10 _ rfl
theorem rc_183_13 {ρ : zo} (h : zC ρ) : ρ.1 183 13 = some 188 := h 183 13 _ rfl
theorem rc_183_14 {ρ : zo} (h : zC ρ) : ρ.1 183 14 = some 189 := h 183 14 _ rfl
theorem rc_183_15 {ρ : zo} (h : zC ρ) : ρ.1 183 15 = some 190 := h 183 15 _ rfl
theorem rc_183_16 {ρ : zo} (h : zC ρ) : ρ.1 183 16 = some 191 := h 183 16 _ rfl
theorem rc_183_20 {ρ : zo} (h : zC ρ) : ρ.1 183 20 = some 192 := h 183 20 _ rfl
theorem rc_183_21 {ρ : zo} (h : zC ρ) : ρ.1 183 21 = some 193 := h 183 21 _ rfl
theorem rc_183_22 {ρ : zo} (h : zC ρ) : ρ.1 183 22 = some 194 := h 183 22 _ rfl
theorem rc_183_23 {ρ : zo} (h : zC ρ) : ρ.1 183 23 = some 195 := h 183 23 _ rfl
theorem rc_183_24 {ρ : zo} (h : zC ρ) : ρ.1 183 24 = some 196 := h 183 24 _ rfl
theorem rc_183_27 {ρ : zo} (h : zC ρ) : ρ.1 183 27 = some 197 := h 183 27 _ rfl
theorem rc_183_29 {ρ : zo} (h : zC ρ) : ρ.1 183 29 = some 198 := h 183 29 _ rfl
theorem rc_183_31 {ρ : zo} (h : zC ρ) : ρ.1 183 31 = some 199 := h 183 31 _ rfl
theorem rc_v0 {ρ : zo} (h : zC ρ) {c : Nat} (hv : zv_ c) : ρ.1 c 0 = some (c + 1) := h c 0 _ (by
  unfold zrf
  have h10 : c ≠ 10 ∧ c ≠ 11 := by rcases hv with h | h | h <;> omega
  rw [if_neg h10.1, if_neg h10.2, zv_0 hv]; rfl)
theorem rc_v1 {ρ : zo} (h : zC ρ) {c : Nat} (hv : zv_ c) : ρ.1 c 1 = some (c + 2) := h c 1 _ (by
  unfold zrf
  have h10 : c ≠ 10 ∧ c ≠ 11 := by rcases hv with h | h | h <;> omega
  rw [if_neg h10.1, if_neg h10.2, zv_0 hv]; rfl)
theorem rc_b {ρ : zo} (h : zC ρ) {i : Nat} (hi : i < 24) : ρ.1 10 i = some (20 + 6 * i) := h 10 i _ (by
  unfold zrf; rw [if_pos rfl, if_pos hi])
theorem rc_e {ρ : zo} (h : zC ρ) {i : Nat} (hi : i < 24) : ρ.1 11 i = some (23 + 6 * i) := h 11 i _ (by
  unfold zrf; rw [if_neg (by decide), if_pos rfl, if_pos hi])
theorem zv_b {i : Nat} (hi : i < 24) : zv_ (20 + 6 * i) := Or.inr (Or.inr (by omega))
theorem zv_e {i : Nat} (hi : i < 24) : zv_ (23 + 6 * i) := Or.inr (Or.inr (by omega))
theorem zp_k {c : Nat} (h : zp_ c) : zkd c = (6, 0) ∧ zkd (c + 1) = (10, 25) ∧ zkd (c + 2) = (10, 80) ∧ zkd (c + 3) = (10, 80) ∧ zkd (c + 4) = (11, 184) ∧ zkd (c + 5) = (10, 184) ∧ zkd (c + 6) = (10, 24) ∧ zkd (c + 7) = (10, 48) := by
  rcases h with h | h <;> subst h <;> decide
theorem zp_lt {c : Nat} (h : zp_ c) : c < 180 ∧ 160 < c := by rcases h with h | h <;> omega
theorem rc_p {ρ : zo} (h : zC ρ) {c : Nat} (hp : zp_ c) (j : Nat) (h1 : 2 ≤ j) (h2 : j < 9) : ρ.1 c j = some (c + j - 1) := h c j _ (by
  unfold zrf
  have h10 : c ≠ 10 ∧ c ≠ 11 := by rcases hp with h | h <;> omega
  rw [if_neg h10.1, if_neg h10.2, (zp_k hp).1, if_neg (by decide), if_pos rfl, if_pos ⟨h1, h2⟩])
theorem rc_p2 {ρ : zo} (h : zC ρ) {c : Nat} (hp : zp_ c) : ρ.1 c 2 = some (c + 1) := rc_p h hp 2 (by decide) (by decide)
theorem rc_p3 {ρ : zo} (h : zC ρ) {c : Nat} (hp : zp_ c) : ρ.1 c 3 = some (c + 2) := rc_p h hp 3 (by decide) (by decide)
theorem rc_p4 {ρ : zo} (h : zC ρ) {c : Nat} (hp : zp_ c) : ρ.1 c 4 = some (c + 3) := rc_p h hp 4 (by decide) (by decide)
theorem rc_p5 {ρ : zo} (h : zC ρ) {c : Nat} (hp : zp_ c) : ρ.1 c 5 = some (c + 4) := rc_p h hp 5 (by decide) (by decide)
theorem rc_p6 {ρ : zo} (h : zC ρ) {c : Nat} (hp : zp_ c) : ρ.1 c 6 = some (c + 5) := rc_p h hp 6 (by decide) (by decide)
theorem rc_p7 {ρ : zo} (h : zC ρ) {c : Nat} (hp : zp_ c) : ρ.1 c 7 = some (c + 6) := rc_p h hp 7 (by decide) (by decide)
theorem rc_p8 {ρ : zo} (h : zC ρ) {c : Nat} (hp : zp_ c) : ρ.1 c 8 = some (c + 7) := rc_p h hp 8 (by decide) (by decide)
theorem ko_0 : zk 201 0 0 = True := eq_true (zk_of (len := 0) rfl (by decide))
theorem ko_1 : zk 201 1 1 = True := eq_true (zk_of (len := 0) rfl (by decide))
theorem ka_2 {i : Nat} (h : i < 700) : za 201 2 12 (nn i) = True := eq_true (za_of (len := 700) rfl (by decide) h (by decide))
theorem ko_3 : zk 201 3 1 = True := eq_true (zk_of (len := 0) rfl (by decide))
theorem ka_4 {i : Nat} (h : i < 1448) : za 201 4 12 (nn i) = True := eq_true (za_of (len := 1448) rfl (by decide) h (by decide))
theorem ko_5 : zk 201 5 2 = True := eq_true (zk_of (len := 0) rfl (by decide))
theorem ka_6 {i : Nat} (h : i < 48) : za 201 6 10 (nn i) = True := eq_true (za_of (len := 48) rfl (by decide) h (by decide))
theorem ko_7 : zk 201 7 3 = True := eq_true (zk_of (len := 0) rfl (by decide))
theorem ka_8 {i : Nat} (h : i < 24) : za 201 8 11 (nn i) = True := eq_true (za_of (len := 24) rfl (by decide) h (by decide))
theorem ka_9 {i : Nat} (h : i < 24) : za 201 9 11 (nn i) = True := eq_true (za_of (len := 24) rfl (by decide) h (by decide))
theorem ka_10 {i : Nat} (h : i < 24) : za 201 10 13 (nn i) = True := eq_true (za_of (len := 24) rfl (by decide) h (by decide))
theorem ka_11 {i : Nat} (h : i < 24) : za 201 11 13 (nn i) = True := eq_true (za_of (len := 24) rfl (by decide) h (by decide))
theorem ko_12 : zk 201 12 4 = True := eq_true (zk_of (len := 0) rfl (by decide))
theorem ka_13 {i : Nat} (h : i < 8) : za 201 13 11 (nn i) = True := eq_true (za_of (len := 8) rfl (by decide) h (by decide))
theorem ka_14 {i : Nat} (h : i < 8) : za 201 14 10 (nn i) = True := eq_true (za_of (len := 8) rfl (by decide) h (by decide))
theorem ko_15 : zk 201 15 4 = True := eq_true (zk_of (len := 0) rfl (by decide))
theorem ka_16 {i : Nat} (h : i < 8) : za 201 16 11 (nn i) = True := eq_true (za_of (len := 8) rfl (by decide) h (by decide))
theorem ka_17 {i : Nat} (h : i < 8) : za 201 17 10 (nn i) = True := eq_true (za_of (len := 8) rfl (by decide) h (by decide))
theorem ka_18 {i : Nat} (h : i < 24) : za 201 18 10 (nn i) = True := eq_true (za_of (len := 24) rfl (by decide) h (by decide))
theorem ka_19 {i : Nat} (h : i < 7) : za 201 19 10 (nn i) = True := eq_true (za_of (len := 7) rfl (by decide) h (by decide))
theorem ko_164 : zk 201 164 5 = True := eq_true (zk_of (len := 0) rfl (by decide))
theorem ka_165 {i : Nat} (h : i < 32) : za 201 165 10 (nn i) = True := eq_true (za_of (len := 32) rfl (by decide) h (by decide))
theorem ka_166 {i : Nat} (h : i < 8) : za 201 166 10 (nn i) = True := eq_true (za_of (len := 8) rfl (by decide) h (by decide))
theorem ko_167 : zk 201 167 6 = True := eq_true (zk_of (len := 0) rfl (by decide))
theorem ka_168 {i : Nat} (h : i < 25) : za 201 168 10 (nn i) = True := eq_true (za_of (len := 25) rfl (by decide) h (by decide))
theorem ka_169 {i : Nat} (h : i < 80) : za 201 169 10 (nn i) = True := eq_true (za_of (len := 80) rfl (by decide) h (by decide))
theorem ka_170 {i : Nat} (h : i < 80) : za 201 170 10 (nn i) = True := eq_true (za_of (len := 80) rfl (by decide) h (by decide))
theorem ka_171 {i : Nat} (h : i < 184) : za 201 171 11 (nn i) = True := eq_true (za_of (len := 184) rfl (by decide) h (by decide))
theorem ka_172 {i : Nat} (h : i < 184) : za 201 172 10 (nn i) = True := eq_true (za_of (len := 184) rfl (by decide) h (by decide))
theorem ka_173 {i : Nat} (h : i < 24) : za 201 173 10 (nn i) = True := eq_true (za_of (len := 24) rfl (by decide) h (by decide))
theorem ka_174 {i : Nat} (h : i < 48) : za 201 174 10 (nn i) = True := eq_true (za_of (len := 48) rfl (by decide) h (by decide))
theorem ko_175 : zk 201 175 6 = True := eq_true (zk_of (len := 0) rfl (by decide))
theorem ka_176 {i : Nat} (h : i < 25) : za 201 176 10 (nn i) = True := eq_true (za_of (len := 25) rfl (by decide) h (by decide))
theorem ka_177 {i : Nat} (h : i < 80) : za 201 177 10 (nn i) = True := eq_true (za_of (len := 80) rfl (by decide) h (by decide))
theorem ka_178 {i : Nat} (h : i < 80) : za 201 178 10 (nn i) = True := eq_true (za_of (len := 80) rfl (by decide) h (by decide))
theorem ka_179 {i : Nat} (h : i < 184) : za 201 179 11 (nn i) = True := eq_true (za_of (len := 184) rfl (by decide) h (by decide))
theorem ka_180 {i : Nat} (h : i < 184) : za 201 180 10 (nn i) = True := eq_true (za_of (len := 184) rfl (by decide) h (by decide))
theorem ka_181 {i : Nat} (h : i < 24) : za 201 181 10 (nn i) = True := eq_true (za_of (len := 24) rfl (by decide) h (by decide))
theorem ka_182 {i : Nat} (h : i < 48) : za 201 182 10 (nn i) = True := eq_true (za_of (len := 48) rfl (by decide) h (by decide))
theorem ko_183 : zk 201 183 7 = True := eq_true (zk_of (len := 0) rfl (by decide))
theorem ka_184 {i : Nat} (h : i < 700) : za 201 184 10 (nn i) = True := eq_true (za_of (len := 700) rfl (by decide) h (by decide))
theorem ka_185 {i : Nat} (h : i < 560) : za 201 185 10 (nn i) = True := eq_true (za_of (len := 560) rfl (by decide) h (by decide))
theorem ka_186 {i : Nat} (h : i < 120) : za 201 186 10 (nn i) = True := eq_true (za_of (len := 120) rfl (by decide) h (by decide))
theorem ka_187 {i : Nat} (h : i < 25) : za 201 187 10 (nn i) = True := eq_true (za_of (len := 25) rfl (by decide) h (by decide))
theorem ka_188 {i : Nat} (h : i < 560) : za 201 188 10 (nn i) = True := eq_true (za_of (len := 560) rfl (by decide) h (by decide))
theorem ka_189 {i : Nat} (h : i < 120) : za 201 189 10 (nn i) = True := eq_true (za_of (len := 120) rfl (by decide) h (by decide))
theorem ka_190 {i : Nat} (h : i < 25) : za 201 190 10 (nn i) = True := eq_true (za_of (len := 25) rfl (by decide) h (by decide))
theorem ka_191 {i : Nat} (h : i < 48) : za 201 191 10 (nn i) = True := eq_true (za_of (len := 48) rfl (by decide) h (by decide))
theorem ka_192 {i : Nat} (h : i < 24) : za 201 192 11 (nn i) = True := eq_true (za_of (len := 24) rfl (by decide) h (by decide))
theorem ka_193 {i : Nat} (h : i < 192) : za 201 193 10 (nn i) = True := eq_true (za_of (len := 192) rfl (by decide) h (by decide))
theorem ka_194 {i : Nat} (h : i < 192) : za 201 194 10 (nn i) = True := eq_true (za_of (len := 192) rfl (by decide) h (by decide))
theorem ka_195 {i : Nat} (h : i < 8) : za 201 195 10 (nn i) = True := eq_true (za_of (len := 8) rfl (by decide) h (by decide))
theorem ka_196 {i : Nat} (h : i < 8) : za 201 196 10 (nn i) = True := eq_true (za_of (len := 8) rfl (by decide) h (by decide))
theorem ka_197 {i : Nat} (h : i < 1700) : za 201 197 10 (nn i) = True := eq_true (za_of (len := 1700) rfl (by decide) h (by decide))
theorem ka_198 {i : Nat} (h : i < 32) : za 201 198 10 (nn i) = True := eq_true (za_of (len := 32) rfl (by decide) h (by decide))
theorem ka_199 {i : Nat} (h : i < 8) : za 201 199 10 (nn i) = True := eq_true (za_of (len := 8) rfl (by decide) h (by decide))
theorem ka_200 {i : Nat} (h : i < 1) : za 201 200 14 (nn i) = True := eq_true (za_of (len := 1) rfl (by decide) h (by decide))
theorem ko_v {c : Nat} (h : zv_ c) : zk 201 c 4 = True := eq_true (zk_of (zv_0 h) (by have := zv_lt h; omega))
theorem ka_v1 {c i : Nat} (h : zv_ c) (hi : i < 8) : za 201 (c + 1) 11 (nn i) = True := eq_true (za_of (zv_1 h) (by have := zv_lt h; omega) hi (by decide))
theorem ka_v2 {c i : Nat} (h : zv_ c) (hi : i < 8) : za 201 (c + 2) 10 (nn i) = True := eq_true (za_of (zv_2 h) (by have := zv_lt h; omega) hi (by decide))
theorem ko_p {c : Nat} (h : zp_ c) : zk 201 c 6 = True := eq_true (zk_of (zp_k h).1 (by have := zp_lt h; omega))
theorem ka_p1 {c i : Nat} (h : zp_ c) (hi : i < 25) : za 201 (c + 1) 10 (nn i) = True := eq_true (za_of (zp_k h).2.1 (by have := zp_lt h; omega) hi (by decide))
theorem ka_p2 {c i : Nat} (h : zp_ c) (hi : i < 80) : za 201 (c + 2) 10 (nn i) = True := eq_true (za_of (zp_k h).2.2.1 (by have := zp_lt h; omega) hi (by decide))
theorem ka_p3 {c i : Nat} (h : zp_ c) (hi : i < 80) : za 201 (c + 3) 10 (nn i) = True := eq_true (za_of (zp_k h).2.2.2.1 (by have := zp_lt h; omega) hi (by decide))
theorem ka_p4 {c i : Nat} (h : zp_ c) (hi : i < 184) : za 201 (c + 4) 11 (nn i) = True := eq_true (za_of (zp_k h).2.2.2.2.1 (by have := zp_lt h; omega) hi (by decide))
theorem ka_p5 {c i : Nat} (h : zp_ c) (hi : i < 184) : za 201 (c + 5) 10 (nn i) = True := eq_true (za_of (zp_k h).2.2.2.2.2.1 (by have := zp_lt h; omega) hi (by decide))
theorem ka_p6 {c i : Nat} (h : zp_ c) (hi : i < 24) : za 201 (c + 6) 10 (nn i) = True := eq_true (za_of (zp_k h).2.2.2.2.2.2.1 (by have := zp_lt h; omega) hi (by decide))
theorem ka_p7 {c i : Nat} (h : zp_ c) (hi : i < 48) : za 201 (c + 7) 10 (nn i) = True := eq_true (za_of (zp_k h).2.2.2.2.2.2.2 (by have := zp_lt h; omega) hi (by decide))
