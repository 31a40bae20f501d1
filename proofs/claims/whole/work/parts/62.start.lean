/-! The law's rounds, pure. -/
theorem tl_i {K : zS → Prop} {k v : Int32} {σ : zS} (hK : K σ) (hz : k = 0 → zl σ 200 0 = Int32.toInt64 v) : ((k = k → ((¬ k = 0 → K σ) ∧ (k = 0 → za 201 200 14 (0 : Int32) ∧ (((lg_cmp (zl σ 200 (0 : Int32).toNatClampNeg) (Int32.toInt64 v)) = 0 → K σ) ∧ (¬ ((lg_cmp (zl σ 200 (0 : Int32).toNatClampNeg) (Int32.toInt64 v)) = 0) → False))))) ∧ (¬ (k = k) → False)) := by
  refine ⟨fun _ => ⟨fun _ => hK, fun e => ⟨of_eq_true za200, fun _ => hK, fun ne => ne ?_⟩⟩, fun ne => ne rfl⟩
  rw [tn00, hz e, lg_eq0]
theorem tl_b {K : zS → Prop} {k v : Int32} {σ : zS} (hK : K σ) (hz : k = 0 → ∃ bb, v = bi bb ∧ zl σ 200 0 = bl bb) : ((k = k → ((¬ k = 0 → K σ) ∧ (k = 0 → za 201 200 14 (0 : Int32) ∧ ((v = 0 → (((lg_cmp (zl σ 200 (0 : Int32).toNatClampNeg) (0 : Int64)) = 0 → K σ) ∧ (¬ ((lg_cmp (zl σ 200 (0 : Int32).toNatClampNeg) (0 : Int64)) = 0) → False))) ∧ (¬ (v = 0) → (((lg_cmp (zl σ 200 (0 : Int32).toNatClampNeg) (1 : Int64)) = 0 → K σ) ∧ (¬ ((lg_cmp (zl σ 200 (0 : Int32).toNatClampNeg) (1 : Int64)) = 0) → False))))))) ∧ (¬ (k = k) → False)) := by
  refine ⟨fun _ => ⟨fun _ => hK, fun e => ⟨of_eq_true za200, fun ev => ⟨fun _ => hK, fun ne => ne ?_⟩, fun ev => ⟨fun _ => hK, fun ne => ne ?_⟩⟩⟩, fun ne => ne rfl⟩
  · obtain ⟨bb, e1, e2⟩ := hz e
    rw [tn00, e2]
    cases bb with
    | true => rw [e1] at ev; exact absurd ev (by decide)
    | false => rw [lg_eq0]; rfl
  · obtain ⟨bb, e1, e2⟩ := hz e
    rw [tn00, e2]
    cases bb with
    | true => rw [lg_eq0]; rfl
    | false => rw [e1] at ev; exact absurd rfl ev
theorem j_wipe {L : Nat} {xs : Nat → Int32} {a4 : Int32} {K : zS → Prop} {σ : zS} (v1 : vp_in (a4 + (1 : Int32)) L) (v2 : vp_in (a4 + (2 : Int32)) L) (v3 : vp_in (a4 + (3 : Int32)) L) (h : Inv σ) (hK : ∀ σ', Inv σ' → K σ') : P_law_220 L xs a4 K σ := by
  unfold P_law_220
  simp only [eq_true v1, eq_true v2, eq_true v3, ko_0, ko_183, true_and]
  exact i_wipe h (fun x σ' h' => ⟨fun _ => hK σ' h', fun ne => ne rfl⟩)
theorem j_read {L : Nat} {xs : Nat → Int32} {a4 : Int32} {K : zS → Prop} {σ : zS} (v1 : vp_in (a4 + (1 : Int32)) L) (v2 : vp_in (a4 + (2 : Int32)) L) (v3 : vp_in (a4 + (3 : Int32)) L) (h : Inv σ) (hK : ∀ σ', Inv σ' → K σ') : P_law_233 L xs a4 K σ := by
  unfold P_law_233
  simp only [eq_true v1, eq_true v2, eq_true v3, ko_0, ko_183, true_and]
  exact i_read h (fun x σ' h' => ⟨fun _ => hK σ' h', fun ne => ne rfl⟩)
theorem j_fault {L : Nat} {xs : Nat → Int32} {a4 : Int32} {K : zS → Prop} {σ : zS} (v1 : vp_in (a4 + (1 : Int32)) L) (v2 : vp_in (a4 + (2 : Int32)) L) (v3 : vp_in (a4 + (3 : Int32)) L) (h : Inv σ) (hK : ∀ σ', Inv σ' → K σ') : P_law_246 L xs a4 K σ := by
  unfold P_law_246
  simp only [eq_true v1, eq_true v2, eq_true v3, ko_0, ko_183, true_and]
  exact i_fault h (fun x σ' h' => ⟨fun _ => hK σ' h', fun ne => ne rfl⟩)
theorem j_place {L : Nat} {xs : Nat → Int32} {a4 : Int32} {K : zS → Prop} {σ : zS} (v1 : vp_in (a4 + (1 : Int32)) L) (v2 : vp_in (a4 + (2 : Int32)) L) (v3 : vp_in (a4 + (3 : Int32)) L) (h : Inv σ) (hK : ∀ σ', Inv σ' → K σ') : P_law_259 L xs a4 K σ := by
  unfold P_law_259
  simp only [eq_true v1, eq_true v2, eq_true v3, ko_0, ko_183, true_and]
  exact i_place h (fun x σ' h' => ⟨fun _ => hK σ' h', fun ne => ne rfl⟩)
theorem j_write {L : Nat} {xs : Nat → Int32} {a4 : Int32} {K : zS → Prop} {σ : zS} (v1 : vp_in (a4 + (1 : Int32)) L) (v2 : vp_in (a4 + (2 : Int32)) L) (v3 : vp_in (a4 + (3 : Int32)) L) (h : Inv σ) (hK : ∀ σ', Inv σ' → K σ') : P_law_583 L xs a4 K σ := by
  unfold P_law_583
  simp only [eq_true v1, eq_true v2, eq_true v3, ko_0, ko_183, true_and]
  exact i_write h (fun x σ' h' => ⟨fun _ => hK σ' h', fun ne => ne rfl⟩)
theorem j_take {L : Nat} {xs : Nat → Int32} {a4 : Int32} {K : zS → Prop} {σ : zS} (v1 : vp_in (a4 + (1 : Int32)) L) (v2 : vp_in (a4 + (2 : Int32)) L) (v3 : vp_in (a4 + (3 : Int32)) L) (h : Inv σ) (hK : ∀ σ', Inv σ' → K σ') : P_law_622 L xs a4 K σ := by
  unfold P_law_622
  simp only [eq_true v1, eq_true v2, eq_true v3, ko_0, ko_183, true_and]
  exact i_take h (fun x σ' h' => ⟨fun _ => hK σ' h', fun ne => ne rfl⟩)
theorem j_input {L : Nat} {xs : Nat → Int32} {a4 : Int32} {K : zS → Prop} {σ : zS} (v1 : vp_in (a4 + (1 : Int32)) L) (v2 : vp_in (a4 + (2 : Int32)) L) (v3 : vp_in (a4 + (3 : Int32)) L) (h : Inv σ) (hK : ∀ σ', Inv σ' → K σ') : P_law_635 L xs a4 K σ := by
  unfold P_law_635
  simp only [eq_true v1, eq_true v2, eq_true v3, ko_0, ko_183, true_and]
  exact i_input h (fun x σ' h' => ⟨fun _ => hK σ' h', fun ne => ne rfl⟩)
theorem j_clear {L : Nat} {xs : Nat → Int32} {a4 : Int32} {K : zS → Prop} {σ : zS} (v1 : vp_in (a4 + (1 : Int32)) L) (v2 : vp_in (a4 + (2 : Int32)) L) (v3 : vp_in (a4 + (3 : Int32)) L) (h : Inv σ) (hK : ∀ σ', Inv σ' → K σ') : P_law_660 L xs a4 K σ := by
  unfold P_law_660
  simp only [eq_true v1, eq_true v2, eq_true v3, ko_0, ko_183, true_and]
  exact i_clear h (fun x σ' h' => ⟨fun _ => hK σ' h', fun ne => ne rfl⟩)
theorem j_asked {L : Nat} {xs : Nat → Int32} {a4 : Int32} {K : zS → Prop} {σ : zS} (v1 : vp_in (a4 + (1 : Int32)) L) (v2 : vp_in (a4 + (2 : Int32)) L) (v3 : vp_in (a4 + (3 : Int32)) L) (h : Inv σ) (hK : ∀ σ', Inv σ' → K σ') : P_law_785 L xs a4 K σ := by
  unfold P_law_785
  simp only [eq_true v1, eq_true v2, eq_true v3, ko_0, ko_183, true_and]
  exact i_asked h (fun x σ' h' => ⟨fun _ => hK σ' h', fun ne => ne rfl⟩)
theorem j_written {L : Nat} {xs : Nat → Int32} {a4 : Int32} {K : zS → Prop} {σ : zS} (v1 : vp_in (a4 + (1 : Int32)) L) (v2 : vp_in (a4 + (2 : Int32)) L) (v3 : vp_in (a4 + (3 : Int32)) L) (h : Inv σ) (hK : ∀ σ', Inv σ' → K σ') : P_law_596 L xs a4 K σ := by
  unfold P_law_596
  simp only [eq_true v1, eq_true v2, eq_true v3, ko_0, ko_183, true_and]
  exact i_written h (fun x σ' h' => ⟨fun _ => hK σ' h', fun ne => ne (by rw [lg_eq0])⟩)
theorem j_feed {L : Nat} {xs : Nat → Int32} {a4 : Int32} {K : zS → Prop} {σ : zS} (v1 : vp_in (a4 + (1 : Int32)) L) (v2 : vp_in (a4 + (2 : Int32)) L) (v3 : vp_in (a4 + (3 : Int32)) L) (h : Inv σ) (hK : ∀ σ', Inv σ' → K σ') : P_law_120 L xs a4 K σ := by
  unfold P_law_120
  simp only [eq_true v1, eq_true v2, eq_true v3, ko_0, ko_183, true_and]
  exact i_feed h (fun k v σ' h' hz => tl_i (hK σ' h') hz)
theorem j_told {L : Nat} {xs : Nat → Int32} {a4 : Int32} {K : zS → Prop} {σ : zS} (v1 : vp_in (a4 + (1 : Int32)) L) (v2 : vp_in (a4 + (2 : Int32)) L) (v3 : vp_in (a4 + (3 : Int32)) L) (h : Inv σ) (hK : ∀ σ', Inv σ' → K σ') : P_law_527 L xs a4 K σ := by
  unfold P_law_527
  simp only [eq_true v1, eq_true v2, eq_true v3, ko_0, ko_183, true_and]
  exact i_told h (fun k v σ' h' hz => tl_i (hK σ' h') hz)
theorem j_run {L : Nat} {xs : Nat → Int32} {a4 : Int32} {K : zS → Prop} {σ : zS} (v1 : vp_in (a4 + (1 : Int32)) L) (v2 : vp_in (a4 + (2 : Int32)) L) (v3 : vp_in (a4 + (3 : Int32)) L) (h : Inv σ) (hK : ∀ σ', Inv σ' → K σ') : P_law_673 L xs a4 K σ := by
  unfold P_law_673
  simp only [eq_true v1, eq_true v2, eq_true v3, ko_0, ko_183, true_and]
  exact i_run h (fun k v σ' h' hz => tl_i (hK σ' h') hz)
theorem j_value {L : Nat} {xs : Nat → Int32} {a4 : Int32} {K : zS → Prop} {σ : zS} (v1 : vp_in (a4 + (1 : Int32)) L) (v2 : vp_in (a4 + (2 : Int32)) L) (v3 : vp_in (a4 + (3 : Int32)) L) (h : Inv σ) (hK : ∀ σ', Inv σ' → K σ') : P_law_729 L xs a4 K σ := by
  unfold P_law_729
  simp only [eq_true v1, eq_true v2, eq_true v3, ko_0, ko_183, true_and]
  exact i_value h (fun k v σ' h' hz => tl_i (hK σ' h') hz)
theorem j_comes {L : Nat} {xs : Nat → Int32} {a4 : Int32} {K : zS → Prop} {σ : zS} (v1 : vp_in (a4 + (1 : Int32)) L) (v2 : vp_in (a4 + (2 : Int32)) L) (v3 : vp_in (a4 + (3 : Int32)) L) (h : Inv σ) (hK : ∀ σ', Inv σ' → K σ') : P_law_272 L xs a4 K σ := by
  unfold P_law_272
  simp only [eq_true v1, eq_true v2, eq_true v3, ko_0, ko_183, true_and]
  exact i_comes h (fun k v σ' h' hz => tl_b (hK σ' h') hz)
theorem j_known {L : Nat} {xs : Nat → Int32} {a4 : Int32} {K : zS → Prop} {σ : zS} (v1 : vp_in (a4 + (1 : Int32)) L) (v2 : vp_in (a4 + (2 : Int32)) L) (v3 : vp_in (a4 + (3 : Int32)) L) (h : Inv σ) (hK : ∀ σ', Inv σ' → K σ') : P_law_335 L xs a4 K σ := by
  unfold P_law_335
  simp only [eq_true v1, eq_true v2, eq_true v3, ko_0, ko_183, true_and]
  by_cases e : xs (a4 + (3 : Int32)).toNatClampNeg = 0
  · simp only [e, true_implies, not_true_eq_false, false_implies, and_true]
    exact i_known h (fun k v σ' h' hz => tl_i (hK σ' h') hz)
  · simp only [e, not_false_eq_true, true_implies, false_implies, true_and]
    exact i_known h (fun k v σ' h' hz => tl_i (hK σ' h') hz)
theorem j_number {L : Nat} {xs : Nat → Int32} {a4 : Int32} {K : zS → Prop} {σ : zS} (v1 : vp_in (a4 + (1 : Int32)) L) (v2 : vp_in (a4 + (2 : Int32)) L) (v3 : vp_in (a4 + (3 : Int32)) L) (h : Inv σ) (hK : ∀ σ', Inv σ' → K σ') : P_law_431 L xs a4 K σ := by
  unfold P_law_431
  simp only [eq_true v1, eq_true v2, eq_true v3, ko_0, ko_183, true_and]
  by_cases e : xs (a4 + (3 : Int32)).toNatClampNeg = 0
  · simp only [e, true_implies, not_true_eq_false, false_implies, and_true]
    exact i_number h (fun k v σ' h' hz => tl_i (hK σ' h') hz)
  · simp only [e, not_false_eq_true, true_implies, false_implies, true_and]
    exact i_number h (fun k v σ' h' hz => tl_i (hK σ' h') hz)
theorem sub4 {L k : Nat} (hL : L ≤ 2048) (hk : k ≤ 4000) : (Int32.ofNat L - 4 < nn k) = ((L : Int) - 4 < k) := by
  rw [Int32.lt_iff_toInt_lt, Int32.toInt_sub, show Int32.ofNat L = nn L from rfl, nn_int (by omega), nn_int (by omega), show (4 : Int32).toInt = 4 by decide, bm32 (by omega) (by omega)]
theorem law_loop {L : Nat} {xs : Nat → Int32} (hL : L ≤ 2048) : ∀ (f i : Nat) (σ : zS), 4 * i ≤ L → L < 4 * (i + f) → Inv σ → P_law_23 L xs f (nn (4 * i)) σ
  | 0, i, σ, h1, h2, _ => absurd h2 (by omega)
  | f + 1, i, σ, h1, h2, h => by
    unfold P_law_23
    rw [sub4 hL (by omega)]
    refine ⟨fun _ => trivial, fun z => ?_⟩
    have hi : 4 * i + 4 ≤ L := by omega
    have v0 : vp_in (nn (4 * i)) L := nn_vp (by omega) (by omega)
    have v1 : vp_in (nn (4 * i) + 1) L := by rw [nn_s]; exact nn_vp (by omega) (by omega)
    have v2 : vp_in (nn (4 * i) + 2) L := by rw [na2]; exact nn_vp (by omega) (by omega)
    have v3 : vp_in (nn (4 * i) + 3) L := by rw [na3]; exact nn_vp (by omega) (by omega)
    have hK : ∀ σ', Inv σ' → P_law_23 L xs f (nn (4 * i) + 4) σ' := by
      intro σ' h'
      rw [na4]
      exact law_loop hL f (i + 1) σ' (by omega) (by omega) h'
    exact ⟨v0, fun _ => j_feed v1 v2 v3 h hK, fun _ => j_wipe v1 v2 v3 h hK, fun _ => j_read v1 v2 v3 h hK, fun _ => j_fault v1 v2 v3 h hK, fun _ => j_place v1 v2 v3 h hK, fun _ => j_comes v1 v2 v3 h hK, fun _ => j_known v1 v2 v3 h hK, fun _ => j_number v1 v2 v3 h hK, fun _ => j_told v1 v2 v3 h hK, fun _ => j_write v1 v2 v3 h hK, fun _ => j_written v1 v2 v3 h hK, fun _ => j_take v1 v2 v3 h hK, fun _ => j_input v1 v2 v3 h hK, fun _ => j_clear v1 v2 v3 h hK, fun _ => j_run v1 v2 v3 h hK, fun _ => j_value v1 v2 v3 h hK, fun _ => j_asked v1 v2 v3 h hK, fun _ _ _ _ _ _ _ _ _ _ _ _ _ _ _ _ _ => hK σ h⟩
theorem zkd_hi {k : Nat} (h : 184 ≤ k) : (zkd k).1 ≠ 4 ∧ (zkd k).1 ≠ 6 := by
  by_cases hk : k < 201
  · have key : ∀ i : Fin 17, (zkd (184 + i.1)).1 ≠ 4 ∧ (zkd (184 + i.1)).1 ≠ 6 := by decide
    have := key ⟨k - 184, by omega⟩
    simp only [show 184 + (k - 184) = k by omega] at this
    exact this
  · refine ⟨fun e => ?_, fun e => ?_⟩
    · have := zkd_lt (k := k) (by rw [e]; decide); omega
    · have := zkd_lt (k := k) (by rw [e]; decide); omega
def G0 : mG := (1, 0, fun _ => 0, fun _ => (0, 0, .inr 0, .inr 0), fun _ => (0, .inr 0, 0, 0))
theorem gG0 : gG G0 := ⟨by decide, by decide, by decide, rfl, rfl, fun b hb => Nat.le_refl _, fun b hb => ⟨by show 0 ≤ 2; decide, fun z => absurd rfl z, fun z => absurd z (by show ¬ 0 = 2; decide)⟩⟩
theorem ini_M {f : zf} {ρ : zo} {Q : zS → Prop} (hq : ∀ g ρ', hi_ f g → (∀ k j, k < 183 → ρ'.1 k j = ρ.1 k j) → (∀ k j, 183 ≤ k → k < 200 → g k j = if k = 183 ∧ j = 4 then -1 else if k = 183 ∧ j = 6 then 1 else 0) → (∀ k j v, 183 ≤ k → zrf k j = some v → ρ'.1 k j = some v) → Q (g, ρ')) : P_M_init 184 183 (zN (f, ρ) 183) (fun σ6 => zkd 200 = (14, 1) ∧ Q (zN σ6 200)) := by
  refine ⟨rfl, ⟨by decide, rfl⟩, rfl, ⟨by decide, rfl⟩, rfl, ⟨by decide, rfl⟩, rfl, ⟨by decide, rfl⟩, rfl, ⟨by decide, rfl⟩, rfl, ⟨by decide, rfl⟩, rfl, ⟨by decide, rfl⟩, rfl, ⟨by decide, rfl⟩, rfl, ⟨by decide, rfl⟩, rfl, ⟨by decide, rfl⟩, rfl, ⟨by decide, rfl⟩, rfl, ⟨by decide, rfl⟩, rfl, ⟨by decide, rfl⟩, rfl, ⟨by decide, rfl⟩, rfl, ⟨by decide, rfl⟩, rfl, ⟨by decide, rfl⟩, rfl, ?_⟩
  refine hq _ _ (fun k hk => funext fun j => ?_) (fun k j hk => ?_) (fun k j h1 h2 => ?_) (fun k j v h1 hv => ?_)
  · show zi (zN (zR (zN (zR (zN (zR (zN (zR (zN (zR (zN (zR (zN (zR (zN (zR (zN (zR (zN (zR (zN (zR (zN (zR (zN (zR (zN (zR (zN (zR (zN (zI (zI (zR (zN (zN (f, ρ) 183) 184) 183 1 (some 184)) 183 4 (-1)) 183 6 1) 185) 183 8 (some 185)) 186) 183 9 (some 186)) 187) 183 10 (some 187)) 188) 183 13 (some 188)) 189) 183 14 (some 189)) 190) 183 15 (some 190)) 191) 183 16 (some 191)) 192) 183 20 (some 192)) 193) 183 21 (some 193)) 194) 183 22 (some 194)) 195) 183 23 (some 195)) 196) 183 24 (some 196)) 197) 183 27 (some 197)) 198) 183 29 (some 198)) 199) 183 31 (some 199)) 200) k j = f k j
    simp (disch := omega) only [zi_R, zi_Nn, zi_Ne, zi_In, zi_Ie, zr_I, zr_Nn, zr_Rn, zr_Re]
    rfl
  · show zr (zN (zR (zN (zR (zN (zR (zN (zR (zN (zR (zN (zR (zN (zR (zN (zR (zN (zR (zN (zR (zN (zR (zN (zR (zN (zR (zN (zR (zN (zR (zN (zI (zI (zR (zN (zN (f, ρ) 183) 184) 183 1 (some 184)) 183 4 (-1)) 183 6 1) 185) 183 8 (some 185)) 186) 183 9 (some 186)) 187) 183 10 (some 187)) 188) 183 13 (some 188)) 189) 183 14 (some 189)) 190) 183 15 (some 190)) 191) 183 16 (some 191)) 192) 183 20 (some 192)) 193) 183 21 (some 193)) 194) 183 22 (some 194)) 195) 183 23 (some 195)) 196) 183 24 (some 196)) 197) 183 27 (some 197)) 198) 183 29 (some 198)) 199) 183 31 (some 199)) 200) k j = ρ.1 k j
    simp (disch := omega) only [zi_R, zi_Nn, zi_Ne, zi_In, zi_Ie, zr_I, zr_Nn, zr_Rn, zr_Re]
    rfl
  · show zi (zN (zR (zN (zR (zN (zR (zN (zR (zN (zR (zN (zR (zN (zR (zN (zR (zN (zR (zN (zR (zN (zR (zN (zR (zN (zR (zN (zR (zN (zR (zN (zI (zI (zR (zN (zN (f, ρ) 183) 184) 183 1 (some 184)) 183 4 (-1)) 183 6 1) 185) 183 8 (some 185)) 186) 183 9 (some 186)) 187) 183 10 (some 187)) 188) 183 13 (some 188)) 189) 183 14 (some 189)) 190) 183 15 (some 190)) 191) 183 16 (some 191)) 192) 183 20 (some 192)) 193) 183 21 (some 193)) 194) 183 22 (some 194)) 195) 183 23 (some 195)) 196) 183 24 (some 196)) 197) 183 27 (some 197)) 198) 183 29 (some 198)) 199) 183 31 (some 199)) 200) k j = _
    have : k = 183 ∨ k = 184 ∨ k = 185 ∨ k = 186 ∨ k = 187 ∨ k = 188 ∨ k = 189 ∨ k = 190 ∨ k = 191 ∨ k = 192 ∨ k = 193 ∨ k = 194 ∨ k = 195 ∨ k = 196 ∨ k = 197 ∨ k = 198 ∨ k = 199 := by omega
    rcases this with e | e | e | e | e | e | e | e | e | e | e | e | e | e | e | e | e
    · subst e
      by_cases e4 : j = 4
      · subst e4; simp (disch := omega) only [zi_R, zi_Nn, zi_Ne, zi_In, zi_Ie, zr_I, zr_Nn, zr_Rn, zr_Re]; rfl
      · by_cases e6 : j = 6
        · subst e6; simp (disch := omega) only [zi_R, zi_Nn, zi_Ne, zi_In, zi_Ie, zr_I, zr_Nn, zr_Rn, zr_Re]; rfl
        · rw [if_neg (by omega), if_neg (by omega)]; simp (disch := omega) only [zi_R, zi_Nn, zi_Ne, zi_In, zi_Ie, zr_I, zr_Nn, zr_Rn, zr_Re]
    all_goals (subst e; rw [if_neg (by omega), if_neg (by omega)]; simp (disch := omega) only [zi_R, zi_Nn, zi_Ne, zi_In, zi_Ie, zr_I, zr_Nn, zr_Rn, zr_Re])
  · show zr (zN (zR (zN (zR (zN (zR (zN (zR (zN (zR (zN (zR (zN (zR (zN (zR (zN (zR (zN (zR (zN (zR (zN (zR (zN (zR (zN (zR (zN (zR (zN (zI (zI (zR (zN (zN (f, ρ) 183) 184) 183 1 (some 184)) 183 4 (-1)) 183 6 1) 185) 183 8 (some 185)) 186) 183 9 (some 186)) 187) 183 10 (some 187)) 188) 183 13 (some 188)) 189) 183 14 (some 189)) 190) 183 15 (some 190)) 191) 183 16 (some 191)) 192) 183 20 (some 192)) 193) 183 21 (some 193)) 194) 183 22 (some 194)) 195) 183 23 (some 195)) 196) 183 24 (some 196)) 197) 183 27 (some 197)) 198) 183 29 (some 198)) 199) 183 31 (some 199)) 200) k j = some v
    by_cases e : k = 183
    · rcases zrf_L (by omega) (by omega) (by rw [e]; decide) (by rw [e]; decide) hv with ⟨e1, e2, e3⟩ | ⟨e1, e2, e3⟩ | ⟨e1, e2, e3⟩ | ⟨e1, e2, e3⟩ | ⟨e1, e2, e3⟩ | ⟨e1, e2, e3⟩ | ⟨e1, e2, e3⟩ | ⟨e1, e2, e3⟩ | ⟨e1, e2, e3⟩ | ⟨e1, e2, e3⟩ | ⟨e1, e2, e3⟩ | ⟨e1, e2, e3⟩ | ⟨e1, e2, e3⟩ | ⟨e1, e2, e3⟩ | ⟨e1, e2, e3⟩ | ⟨e1, e2, e3⟩ | ⟨e1, e2, e3⟩ | ⟨e1, e2, e3⟩ | ⟨e1, e2, e3⟩ | ⟨e1, e2, e3⟩ | ⟨e1, e2, e3⟩ | ⟨e1, e2, e3⟩ | ⟨e1, e2, e3⟩ | ⟨e1, e2, e3⟩ | ⟨e1, e2, e3⟩ | ⟨e1, e2, e3⟩ | ⟨e1, e2, e3⟩ | ⟨e1, e2, e3⟩ | ⟨e1, e2, e3⟩ | ⟨e1, e2, e3⟩ | ⟨e1, e2, e3⟩ | ⟨e1, e2, e3⟩ | ⟨e1, e2, e3⟩ | ⟨e1, e2, e3⟩ | ⟨e1, e2, e3⟩ <;> first | (exfalso; omega) | (subst e1; subst e2; subst e3; simp (disch := omega) only [zi_R, zi_Nn, zi_Ne, zi_In, zi_Ie, zr_I, zr_Nn, zr_Rn, zr_Re])
    · exfalso
      have hk := zkd_hi (k := k) (by omega)
      rcases zrf_L (by omega) (by omega) hk.1 hk.2 hv with ⟨e1, e2, e3⟩ | ⟨e1, e2, e3⟩ | ⟨e1, e2, e3⟩ | ⟨e1, e2, e3⟩ | ⟨e1, e2, e3⟩ | ⟨e1, e2, e3⟩ | ⟨e1, e2, e3⟩ | ⟨e1, e2, e3⟩ | ⟨e1, e2, e3⟩ | ⟨e1, e2, e3⟩ | ⟨e1, e2, e3⟩ | ⟨e1, e2, e3⟩ | ⟨e1, e2, e3⟩ | ⟨e1, e2, e3⟩ | ⟨e1, e2, e3⟩ | ⟨e1, e2, e3⟩ | ⟨e1, e2, e3⟩ | ⟨e1, e2, e3⟩ | ⟨e1, e2, e3⟩ | ⟨e1, e2, e3⟩ | ⟨e1, e2, e3⟩ | ⟨e1, e2, e3⟩ | ⟨e1, e2, e3⟩ | ⟨e1, e2, e3⟩ | ⟨e1, e2, e3⟩ | ⟨e1, e2, e3⟩ | ⟨e1, e2, e3⟩ | ⟨e1, e2, e3⟩ | ⟨e1, e2, e3⟩ | ⟨e1, e2, e3⟩ | ⟨e1, e2, e3⟩ | ⟨e1, e2, e3⟩ | ⟨e1, e2, e3⟩ | ⟨e1, e2, e3⟩ | ⟨e1, e2, e3⟩ <;> omega
theorem ini_inv {Q : zS → Prop} (hq : ∀ σ, Inv σ → Q σ) : P_C_init 1 0 (zN zs0 0) (fun σ3 => zkd 183 = (7, 0) ∧ P_M_init 184 183 (zN σ3 183) (fun σ6 => zkd 200 = (14, 1) ∧ Q (zN σ6 200))) := by
  refine ini_C (fun σ hk c0 c1 c2 c3 c4 c5 c6 => ?_)
  obtain ⟨f, ρ⟩ := σ
  have hz0 : ∀ k j, k < 183 → ¬ (k = 5 ∧ j = 6) → ¬ ((k = 167 ∨ k = 175) ∧ j = 0) → f k j = 0 := fun k j h1 h2 h3 => (hk.1 k j h1).trans (fI_0 h2 h3)
  have hCi : zCi ρ := by
    intro k j v h1 hv
    by_cases e : k = 0
    · subst e
      have := zrf_L (by decide) (by decide) (by decide) (by decide) hv
      have e : (j = 0 ∧ v = 1) ∨ (j = 1 ∧ v = 3) ∨ (j = 2 ∧ v = 5) ∨ (j = 3 ∧ v = 7) ∨ (j = 4 ∧ v = 164) := by omega
      rcases e with ⟨rfl, rfl⟩ | ⟨rfl, rfl⟩ | ⟨rfl, rfl⟩ | ⟨rfl, rfl⟩ | ⟨rfl, rfl⟩
      · exact c0
      · exact c1
      · exact c2
      · exact c3
      · exact c4
    · exact hk.2 k j v (by omega) h1 hv
  have b167 : f 167 0 = nn 1 := hk.1 167 0 (by decide)
  have hsK : ∀ p, zp_ p → sK f p := by
    intro p hp s hs
    unfold zp_ at hp
    exact Or.inl (hz0 _ _ (by omega) (by omega) (by omega))
  have hP : pC f 167 G0 := ⟨b167, hz0 _ _ (by decide) (by omega) (by omega), fun b hb => hz0 _ _ (by decide) (by omega) (by omega), fun s hs => absurd hs (by show ¬ s < 0; omega), fun b hb => ⟨hz0 _ _ (by decide) (by omega) (by omega), by show 0 ≤ 2; decide, fun z => absurd z (by show ¬ 0 = 2; decide), fun z => absurd rfl z, fun z => absurd z (by show ¬ 0 = 2; decide)⟩, hsK 167 (Or.inl rfl)⟩
  have hz : hV f 12 mz := by
    refine ⟨fun i hi => Or.inl (hz0 _ _ (by decide) (by omega) (by omega)), ?_⟩
    funext x
    unfold av mz
    by_cases hx : x < 8
    · rw [if_pos hx, if_pos (hz0 _ _ (by decide) (by omega) (by omega)), hz0 _ _ (by decide) (by omega) (by omega)]
    · rw [if_neg hx]
  refine s_find_i hCi (Or.inl rfl) gG0 hP hz (fun f2 F a k => ?_)
  have P2 := hP.F (Or.inl rfl) a
  refine s_count_i hCi (Or.inl rfl) gG0 P2 k (fun f3 a3 t3 => ?_)
  have P3 := P2.T (Or.inl rfl) a3
  have K3 := k.T gG0 a3
  have q : ∀ a', a' ≠ 8 → a' ≠ 9 → a' ≠ 16 → a' ≠ 17 → a' ≠ 19 → (a' < 20 ∨ 164 ≤ a') → f3 a' = f a' := fun a' z1 z2 z3 z4 z5 z6 => by rw [a3 a' z3 z4 z5, a a' z1 z2 z6]
  refine ⟨rfl, ini_M (fun g ρ' g1 g2 g3 g4 => hq _ ?_)⟩
  have qz : ∀ k j, k ≠ 8 → k ≠ 9 → k ≠ 16 → k ≠ 17 → k ≠ 19 → (k < 20 ∨ 164 ≤ k) → k < 183 → ¬ (k = 5 ∧ j = 6) → ¬ ((k = 167 ∨ k = 175) ∧ j = 0) → f3 k j = 0 := fun k j z1 z2 z3 z4 z5 z6 z7 z8 z9 => by rw [q k z1 z2 z3 z4 z5 z6]; exact hz0 k j z7 z8 z9
  have cr : cR f3 167 (fun _ => 0) 0 0 (-1) G0 F [] 0 (fun _ => 0) (fun _ => 0) 0 := by
    refine ⟨Or.inl rfl, ⟨?_, by decide, fun i hi => absurd hi (by omega)⟩, ⟨?_, ?_⟩, gG0, P3, ⟨K3, t3⟩, ⟨⟨?_, fun i hi => absurd hi (by show ¬ i < 0; omega)⟩, by decide⟩, ⟨⟨?_, by decide⟩, fun i hi => absurd hi (by omega)⟩, fun i hi => ?_, ?_, ?_, ?_⟩
    · exact qz 1 1 (by decide) (by decide) (by decide) (by decide) (by decide) (by decide) (by decide) (by decide) (by decide)
    · exact qz 5 5 (by decide) (by decide) (by decide) (by decide) (by decide) (by decide) (by decide) (by decide) (by decide)
    · rw [q 5 (by decide) (by decide) (by decide) (by decide) (by decide) (by decide)]; exact hk.1 5 6 (by decide)
    · exact qz 3 1 (by decide) (by decide) (by decide) (by decide) (by decide) (by decide) (by decide) (by decide) (by decide)
    · exact qz 164 1 (by decide) (by decide) (by decide) (by decide) (by decide) (by decide) (by decide) (by decide) (by decide)
    · exact qz 166 i (by decide) (by decide) (by decide) (by decide) (by decide) (by decide) (by decide) (by omega) (by omega)
    · exact qz 164 3 (by decide) (by decide) (by decide) (by decide) (by decide) (by decide) (by decide) (by decide) (by decide)
    · show sK f3 175
      exact (hsK 175 (Or.inr rfl)).same (q _ (by decide) (by decide) (by decide) (by decide) (by decide) (by decide)) (q _ (by decide) (by decide) (by decide) (by decide) (by decide) (by decide))
    · show f3 176 0 = nn 0
      exact qz 176 0 (by decide) (by decide) (by decide) (by decide) (by decide) (by decide) (by decide) (by decide) (by decide)
  have m0 : ∀ k j, 183 ≤ k → k < 200 → ¬ (k = 183 ∧ j = 4) → ¬ (k = 183 ∧ j = 6) → g k j = 0 := fun k j h1 h2 h3 h4 => by rw [g3 k j h1 h2, if_neg h3, if_neg h4]
  refine ⟨167, fun _ => 0, 0, 0, -1, G0, F, [], 0, fun _ => 0, fun _ => 0, 0, ⟨?_, ?_, ?_⟩, cr.keep g1, ?_⟩
  · intro a' b v hv
    by_cases e : a' < 183
    · exact (g2 a' b e).trans (hCi a' b v e hv)
    · exact g4 a' b v (by omega) hv
  · exact (g2 0 5 (by decide)).trans c5
  · exact (g2 0 6 (by decide)).trans c6
  · refine ⟨⟨m0 183 2 (by decide) (by decide) (by decide) (by decide), by decide, fun i hi => absurd hi (by omega)⟩, ⟨m0 183 3 (by decide) (by decide) (by decide) (by decide), ?_⟩, ⟨?_, m0 183 7 (by decide) (by decide) (by decide) (by decide), fun b hb => m0 187 b (by decide) (by decide) (by omega) (by omega), fun s hs => absurd hs (by show ¬ s < 0; omega), fun b hb => ⟨m0 186 _ (by decide) (by decide) (by omega) (by omega), by show 0 ≤ 2; decide, fun z => absurd z (by show ¬ 0 = 2; decide), fun z => absurd rfl z, fun z => absurd z (by show ¬ 0 = 2; decide)⟩⟩, Or.inl (m0 183 19 (by decide) (by decide) (by decide) (by decide)), ⟨m0 183 28 (by decide) (by decide) (by decide) (by decide), fun i hi => absurd hi (by show ¬ i < 0; omega)⟩, ⟨m0 183 30 (by decide) (by decide) (by decide) (by decide), fun i hi => absurd hi (by omega)⟩, fun i hi => m0 199 i (by decide) (by decide) (by omega) (by omega), m0 183 32 (by decide) (by decide) (by decide) (by decide)⟩
    · exact g3 183 4 (by decide) (by decide)
    · exact g3 183 6 (by decide) (by decide)
theorem law_ok {L : Nat} {xs : Nat → Int32} (hL : L ≤ 2048) : P_law L xs zs0 := ⟨rfl, ini_inv (Q := fun σ => P_law_23 L xs 1000 0 σ) (fun σ h => law_loop hL 1000 0 σ (by omega) (by omega) h)⟩
