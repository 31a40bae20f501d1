/-! The relation of class and reference; bytes. -/
theorem nn_bv (x : Int32) : nn x.toBitVec.toNat = x := by
  apply Int32.toBitVec_inj.mp
  show BitVec.ofNat 32 x.toBitVec.toNat = x.toBitVec
  rw [BitVec.ofNat_toNat, BitVec.setWidth_eq]
theorem and255 (x : Int32) : x &&& 255 = nn (x.toBitVec.toNat % 256) := by
  apply Int32.toBitVec_inj.mp
  show x.toBitVec &&& 255#32 = BitVec.ofNat 32 (x.toBitVec.toNat % 256)
  apply BitVec.eq_of_toNat_eq
  have h : x.toBitVec.toNat % 256 < 256 := Nat.mod_lt _ (by decide)
  have e2 : (BitVec.ofNat 32 (x.toBitVec.toNat % 256)).toNat = x.toBitVec.toNat % 256 := by
    rw [BitVec.toNat_ofNat]; exact Nat.mod_eq_of_lt (by omega)
  rw [BitVec.toNat_and, e2]
  show x.toBitVec.toNat &&& (2 ^ 8 - 1) = _
  exact Nat.and_two_pow_sub_one_eq_mod _ _
theorem by_cong (x : Int32) : by_ x = by_ (nn (x.toBitVec.toNat % 256)) := by
  have e : Int32.toInt8 x = Int32.toInt8 (nn (x.toBitVec.toNat % 256)) := by
    apply Int8.toBitVec_inj.mp
    show x.toBitVec.signExtend 8 = (BitVec.ofNat 32 (x.toBitVec.toNat % 256)).signExtend 8
    rw [BitVec.signExtend_eq_setWidth_of_le _ (by decide), BitVec.signExtend_eq_setWidth_of_le _ (by decide)]
    apply BitVec.eq_of_toNat_eq
    rw [BitVec.toNat_setWidth, BitVec.toNat_setWidth, BitVec.toNat_ofNat]
    omega
  unfold by_
  rw [e]
theorem by_and2 (x : Int32) : by_ x &&& 255 = x &&& 255 := by
  rw [by_cong, and255 x]
  exact by_and (Nat.mod_lt _ (by decide))
theorem bvb (x : BitVec 64) (s : Nat) (hs : s + 8 ≤ 64) : (x.sshiftRight s &&& 255#64).signExtend 32 = (x >>> s).signExtend 32 &&& 255#32 := by
  apply BitVec.eq_of_getLsbD_eq
  intro i hi
  rw [BitVec.signExtend_eq_setWidth_of_le _ (by decide), BitVec.signExtend_eq_setWidth_of_le _ (by decide)]
  simp only [BitVec.getLsbD_setWidth, BitVec.getLsbD_and, BitVec.getLsbD_sshiftRight, BitVec.getLsbD_ushiftRight, BitVec.getLsbD_ofNat]
  by_cases h8 : i < 8
  · have h1 : ¬ (64 ≤ i) := by omega
    have h2 : s + i < 64 := by omega
    have h3 : i < 64 := by omega
    simp [h1, h2, h3, hi]
  · have : Nat.testBit 255 i = false := Nat.testBit_lt_two_pow (by
      have : 2 ^ 8 ≤ 2 ^ i := Nat.pow_le_pow_right (by decide) (by omega)
      omega)
    simp [this]
def fX (b : Int64) (k : Nat) : Int32 := Int64.toInt32 ((b.toUInt64 >>> ((nn (8 * k)).toInt64.toUInt64 &&& Int64.toUInt64 63)).toInt64)
theorem fbyte (b : Int64) {k : Nat} (hk : k < 8) : Int64.toInt32 ((b >>> ((nn (8 * k)).toInt64 &&& 63)) &&& 255) = fX b k &&& 255 := by
  have key : ∀ j : Fin 8, (((nn (8 * j.1)).toInt64 &&& 63).toBitVec.smod 64 = BitVec.ofNat 64 (8 * j.1)) ∧ ((UInt64.mod ((nn (8 * j.1)).toInt64.toUInt64 &&& Int64.toUInt64 63) 64).toBitVec = BitVec.ofNat 64 (8 * j.1)) := by decide +kernel
  obtain ⟨h1, h2⟩ := key ⟨k, hk⟩
  simp only at h1 h2
  apply Int32.toBitVec_inj.mp
  show (BitVec.sshiftRight' b.toBitVec (((nn (8 * k)).toInt64 &&& 63).toBitVec.smod 64) &&& 255#64).signExtend 32 = (b.toBitVec >>> (UInt64.mod ((nn (8 * k)).toInt64.toUInt64 &&& Int64.toUInt64 63) 64).toBitVec).signExtend 32 &&& 255#32
  rw [h1, h2]
  have hs : (BitVec.ofNat 64 (8 * k)).toNat = 8 * k := by
    rw [BitVec.toNat_ofNat]; exact Nat.mod_eq_of_lt (by omega)
  show (BitVec.sshiftRight b.toBitVec (BitVec.ofNat 64 (8 * k)).toNat &&& 255#64).signExtend 32 = (b.toBitVec >>> (BitVec.ofNat 64 (8 * k)).toNat).signExtend 32 &&& 255#32
  rw [hs]
  exact bvb _ _ (by omega)
def fby (b : Int64) (k : Nat) : Nat := (fX b k).toBitVec.toNat % 256
theorem fby_lt (b : Int64) (k : Nat) : fby b k < 256 := Nat.mod_lt _ (by decide)
theorem fby_c (b : Int64) (k : Nat) : by_ (fX b k) &&& 255 = nn (fby b k) := by rw [by_and2, and255]; rfl
theorem fby_m (b : Int64) {k : Nat} (hk : k < 8) : Int64.toInt32 ((b >>> ((nn (8 * k)).toInt64 &&& 63)) &&& 255) = nn (fby b k) := by rw [fbyte b hk, and255]; rfl
/-- the tape behind a feeding -/
def ftp (t : Nat → Nat) (n : Nat) (b : Int64) : Nat → Nat := fun i => if i < n then t i else fby b (i - n)
/-! what class and reference hold -/
def cR (f : zf) (p : Nat) (t : Nat → Nat) (n : Nat) (x5 x6 : Int32) (G : mG) (F : mF) (L : List Nat) (c : Nat) (I V : Nat → Int32) (s : Int32) : Prop := zp_ p ∧ hR f t n ∧ (f 5 5 = x5 ∧ f 5 6 = x6) ∧ gG G ∧ pC f p G ∧ (kC f G F ∧ ∀ q, q < 7 → f 19 q = nn (mtl G F q)) ∧ (hT f L ∧ L.length ≤ 1448) ∧ ((f 164 1 = nn c ∧ c ≤ 32) ∧ ∀ i, i < c → f 165 i = I i) ∧ (∀ i, i < 8 → f 166 i = V i) ∧ f 164 3 = s ∧ (sK f (342 - p) ∧ f (342 - p + 1) 0 = nn 0)
def oR (ρ : zo) (p : Nat) : Prop := zC ρ ∧ ρ.1 0 5 = some p ∧ ρ.1 0 6 = some (342 - p)
def mR (f : zf) (t : Nat → Nat) (n : Nat) (x5 x6 : Int32) (G : mG) (F : mF) (L : List Nat) (c : Nat) (I V : Nat → Int32) (s : Int32) : Prop := hY f t n ∧ (f 183 3 = x5 ∧ f 183 4 = x6) ∧ pM f G ∧ kM f F ∧ hU f L ∧ (f 183 30 = nn c ∧ ∀ i, i < c → f 198 i = I i) ∧ (∀ i, i < 8 → f 199 i = V i) ∧ f 183 32 = s
def lo (f f' : zf) : Prop := ∀ k, 183 ≤ k → f' k = f k
def hi_ (f f' : zf) : Prop := ∀ k, k < 183 → f' k = f k
theorem kC.lo {f f' : zf} {G : mG} {F : mF} (hG : gG G) (h : kC f G F) (a : ∀ k, (k = 8 ∨ k = 13 ∨ k = 14 ∨ 20 ≤ k ∧ k < 164) → f' k = f k) : kC f' G F := by
  have hn := hG.2.1
  obtain ⟨h1, h2, h3, h4⟩ := h
  refine ⟨h1.same (a _ (by omega)) (fun b hb => ⟨a _ (by omega), a _ (by omega)⟩), h2, fun b v hv => ?_, h4.same (a _ (by omega)) (a _ (by omega))⟩
  obtain ⟨q1, q2⟩ := h3 b v hv
  exact ⟨q1, q2.same (a _ (by omega)) (a _ (by omega))⟩
theorem cR.part {f f' : zf} {p : Nat} {t t' : Nat → Nat} {n n' : Nat} {x5 x6 x5' x6' : Int32} {G : mG} {F : mF} {L L' : List Nat} {c c' : Nat} {I V I' V' : Nat → Int32} {s s' : Int32} (h : cR f p t n x5 x6 G F L c I V s) (a : ∀ k, (k = 8 ∨ k = 13 ∨ k = 14 ∨ k = 19 ∨ 20 ≤ k ∧ k < 164 ∨ 167 ≤ k ∧ k < 183) → f' k = f k) (r : hR f' t' n') (e : f' 5 5 = x5' ∧ f' 5 6 = x6') (b : hT f' L' ∧ L'.length ≤ 1448) (i : (f' 164 1 = nn c' ∧ c' ≤ 32) ∧ ∀ j, j < c' → f' 165 j = I' j) (v : ∀ j, j < 8 → f' 166 j = V' j) (w : f' 164 3 = s') : cR f' p t' n' x5' x6' G F L' c' I' V' s' := by
  obtain ⟨h1, h2, h3, h4, h5, ⟨h6, h7⟩, h8, h9, h10, h11, h12, h13⟩ := h
  have hp := h1
  unfold zp_ at hp
  refine ⟨h1, r, e, h4, h5.same (fun j hj => a _ (by omega)), ⟨h6.lo h4 (fun k hk => a k (by omega)), fun q hq => by rw [a 19 (by omega)]; exact h7 q hq⟩, b, i, v, w, h12.same (a _ (by omega)) (a _ (by omega)), by rw [a _ (by omega)]; exact h13⟩
theorem cR.keep {f f' : zf} {p : Nat} {t : Nat → Nat} {n : Nat} {x5 x6 : Int32} {G : mG} {F : mF} {L : List Nat} {c : Nat} {I V : Nat → Int32} {s : Int32} (h : cR f p t n x5 x6 G F L c I V s) (a : hi_ f f') : cR f' p t n x5 x6 G F L c I V s := by
  have h' := h
  obtain ⟨h1, h2, h3, h4, h5, h6, h8, h9, h10, h11, h12⟩ := h
  refine h'.part (fun k hk => a k (by omega)) (h2.same (a _ (by decide)) (a _ (by decide))) (by rw [a 5 (by decide)]; exact h3) ⟨?_, h8.2⟩ ?_ ?_ ?_
  · unfold hT; rw [a 3 (by decide), a 4 (by decide)]; exact h8.1
  · rw [a 164 (by decide), a 165 (by decide)]; exact h9
  · rw [a 166 (by decide)]; exact h10
  · rw [a 164 (by decide)]; exact h11
theorem kM.same {f f' : zf} {F : mF} (h : kM f F) (h1 : f' 183 19 = f 183 19) (h2 : f' 192 = f 192) (h3 : f' 193 = f 193) (h4 : f' 194 = f 194) : kM f' F := by
  rcases h with h | h
  · exact Or.inl (by rw [h1]; exact h)
  · exact Or.inr (h.same h2 h3 h4)
theorem mR.keep {f f' : zf} {t : Nat → Nat} {n : Nat} {x5 x6 : Int32} {G : mG} {F : mF} {L : List Nat} {c : Nat} {I V : Nat → Int32} {s : Int32} (h : mR f t n x5 x6 G F L c I V s) (a : lo f f') : mR f' t n x5 x6 G F L c I V s := by
  obtain ⟨h1, h2, h3, h4, h5, h6, h7, h8⟩ := h
  refine ⟨h1.same (by rw [a 183 (by decide)]) (a _ (by decide)), by rw [a 183 (by decide)]; exact h2, h3.same (by rw [a 183 (by decide)]) (by rw [a 183 (by decide)]) (a _ (by decide)) (a _ (by decide)) (a _ (by decide)), h4.same (by rw [a 183 (by decide)]) (a _ (by decide)) (a _ (by decide)) (a _ (by decide)), ?_, ?_, ?_, ?_⟩
  · unfold hU; rw [a 183 (by decide), a 197 (by decide)]; exact h5
  · rw [a 183 (by decide), a 198 (by decide)]; exact h6
  · rw [a 199 (by decide)]; exact h7
  · rw [a 183 (by decide)]; exact h8
theorem mR.P {f f' : zf} {t : Nat → Nat} {n : Nat} {x5 x6 : Int32} {G : mG} {F : mF} {L : List Nat} {c : Nat} {I V : Nat → Int32} {s : Int32} (h : mR f t n x5 x6 G F L c I V s) (a : frP f f') (k : kM f' F) : mR f' t n x5 x6 G F L c I V s := by
  obtain ⟨h1, h2, h3, h4, h5, h6, h7, h8⟩ := h
  have q : ∀ j, j ≠ 0 → j ≠ 19 → j ≠ 25 → j ≠ 26 → f' 183 j = f 183 j := a.2
  refine ⟨h1.same (q _ (by decide) (by decide) (by decide) (by decide)) (a.1 _ (by decide) (by decide) (by decide) (by decide) (by decide) (by decide)), ?_, h3.P a, k, ?_, ?_, ?_, ?_⟩
  · rw [q 3 (by decide) (by decide) (by decide) (by decide), q 4 (by decide) (by decide) (by decide) (by decide)]; exact h2
  · unfold hU; rw [q 28 (by decide) (by decide) (by decide) (by decide), a.1 197 (by decide) (by decide) (by decide) (by decide) (by decide) (by decide)]; exact h5
  · rw [q 30 (by decide) (by decide) (by decide) (by decide), a.1 198 (by decide) (by decide) (by decide) (by decide) (by decide) (by decide)]; exact h6
  · rw [a.1 199 (by decide) (by decide) (by decide) (by decide) (by decide) (by decide)]; exact h7
  · rw [q 32 (by decide) (by decide) (by decide) (by decide)]; exact h8
theorem frP.hi {f f' : zf} (a : frP f f') : hi_ f f' := fun k hk => a.1 k (by omega) (by omega) (by omega) (by omega) (by omega) (by omega)
theorem mR.z {f : zf} {t : Nat → Nat} {n : Nat} {x5 x6 : Int32} {G : mG} {F : mF} {L : List Nat} {c : Nat} {I V : Nat → Int32} {s : Int32} (h : mR f t n x5 x6 G F L c I V s) (x : Int32) : mR (uf f 183 0 x) t n x5 x6 G F L c I V s := h.P (frP.of0 f x) (h.2.2.2.1.put x)
theorem hi0 (f : zf) (x : Int32) : hi_ f (uf f 183 0 x) := (frP.of0 f x).hi
/-! the class's calls that throw nothing, but read -/
theorem C_wipe {f : zf} {ρ : zo} {p : Nat} {t : Nat → Nat} {n : Nat} {x5 x6 : Int32} {G : mG} {F : mF} {L : List Nat} {c : Nat} {I V : Nat → Int32} {s : Int32} {Q : Int32 → zS → Prop} (ho : oR ρ p) (h : cR f p t n x5 x6 G F L c I V s) (hq : ∀ f', cR f' p t 0 x5 x6 G F L c I V s → lo f f' → Q (nn n) (f', ρ)) : P_C_wipe 201 0 (f, ρ) Q := by
  have hC := ho.1
  have h' := h
  obtain ⟨h1, h2, h3, h4, h5, h6, h8, h9, h10, h11, h12⟩ := h
  unfold P_C_wipe
  simp (disch := (first | assumption | omega)) only [true_and, and_true, zr_u, zi_u, zI_u, Option.some.injEq, exists_eq_left', nn_tn, nn_add, nn_s, nn_2, nn_5, nn_7, nn_8, na0, na2, na3, na4, na5, na6, uf_ne, uf_eq, ur_eq, ur_ne, true_or, or_true, not_true_eq_false, not_false_eq_true, true_implies, false_implies, implies_true, e10, e01, reduceIte, Option.isSome_none, Option.isSome_some, Bool.false_eq_true, bi_t, bi_f, ko_0, rc_0_0 hC, ko_1, h2.1]
  refine hq _ (h'.part (fun k hk => by simp (disch := (first | assumption | omega)) only [true_and, and_true, zr_u, zi_u, zI_u, Option.some.injEq, exists_eq_left', nn_tn, nn_add, nn_s, nn_2, nn_5, nn_7, nn_8, na0, na2, na3, na4, na5, na6, uf_ne, uf_eq, ur_eq, ur_ne, true_or, or_true, not_true_eq_false, not_false_eq_true, true_implies, false_implies, implies_true, e10, e01, reduceIte, Option.isSome_none, Option.isSome_some, Bool.false_eq_true, bi_t, bi_f]) ⟨by simp (disch := (first | assumption | omega)) only [true_and, and_true, zr_u, zi_u, zI_u, Option.some.injEq, exists_eq_left', nn_tn, nn_add, nn_s, nn_2, nn_5, nn_7, nn_8, na0, na2, na3, na4, na5, na6, uf_ne, uf_eq, ur_eq, ur_ne, true_or, or_true, not_true_eq_false, not_false_eq_true, true_implies, false_implies, implies_true, e10, e01, reduceIte, Option.isSome_none, Option.isSome_some, Bool.false_eq_true, bi_t, bi_f]; rfl, by decide, fun i hi => absurd hi (by omega)⟩ (by simp (disch := (first | assumption | omega)) only [true_and, and_true, zr_u, zi_u, zI_u, Option.some.injEq, exists_eq_left', nn_tn, nn_add, nn_s, nn_2, nn_5, nn_7, nn_8, na0, na2, na3, na4, na5, na6, uf_ne, uf_eq, ur_eq, ur_ne, true_or, or_true, not_true_eq_false, not_false_eq_true, true_implies, false_implies, implies_true, e10, e01, reduceIte, Option.isSome_none, Option.isSome_some, Bool.false_eq_true, bi_t, bi_f]; exact h3) ⟨?_, h8.2⟩ (by simp (disch := (first | assumption | omega)) only [true_and, and_true, zr_u, zi_u, zI_u, Option.some.injEq, exists_eq_left', nn_tn, nn_add, nn_s, nn_2, nn_5, nn_7, nn_8, na0, na2, na3, na4, na5, na6, uf_ne, uf_eq, ur_eq, ur_ne, true_or, or_true, not_true_eq_false, not_false_eq_true, true_implies, false_implies, implies_true, e10, e01, reduceIte, Option.isSome_none, Option.isSome_some, Bool.false_eq_true, bi_t, bi_f]; exact h9) (by simp (disch := (first | assumption | omega)) only [true_and, and_true, zr_u, zi_u, zI_u, Option.some.injEq, exists_eq_left', nn_tn, nn_add, nn_s, nn_2, nn_5, nn_7, nn_8, na0, na2, na3, na4, na5, na6, uf_ne, uf_eq, ur_eq, ur_ne, true_or, or_true, not_true_eq_false, not_false_eq_true, true_implies, false_implies, implies_true, e10, e01, reduceIte, Option.isSome_none, Option.isSome_some, Bool.false_eq_true, bi_t, bi_f]; exact h10) (by simp (disch := (first | assumption | omega)) only [true_and, and_true, zr_u, zi_u, zI_u, Option.some.injEq, exists_eq_left', nn_tn, nn_add, nn_s, nn_2, nn_5, nn_7, nn_8, na0, na2, na3, na4, na5, na6, uf_ne, uf_eq, ur_eq, ur_ne, true_or, or_true, not_true_eq_false, not_false_eq_true, true_implies, false_implies, implies_true, e10, e01, reduceIte, Option.isSome_none, Option.isSome_some, Bool.false_eq_true, bi_t, bi_f]; exact h11)) (fun k hk => by simp (disch := (first | assumption | omega)) only [true_and, and_true, zr_u, zi_u, zI_u, Option.some.injEq, exists_eq_left', nn_tn, nn_add, nn_s, nn_2, nn_5, nn_7, nn_8, na0, na2, na3, na4, na5, na6, uf_ne, uf_eq, ur_eq, ur_ne, true_or, or_true, not_true_eq_false, not_false_eq_true, true_implies, false_implies, implies_true, e10, e01, reduceIte, Option.isSome_none, Option.isSome_some, Bool.false_eq_true, bi_t, bi_f])
  unfold hT; simp (disch := (first | assumption | omega)) only [true_and, and_true, zr_u, zi_u, zI_u, Option.some.injEq, exists_eq_left', nn_tn, nn_add, nn_s, nn_2, nn_5, nn_7, nn_8, na0, na2, na3, na4, na5, na6, uf_ne, uf_eq, ur_eq, ur_ne, true_or, or_true, not_true_eq_false, not_false_eq_true, true_implies, false_implies, implies_true, e10, e01, reduceIte, Option.isSome_none, Option.isSome_some, Bool.false_eq_true, bi_t, bi_f]; exact h8.1
theorem C_fault {f : zf} {ρ : zo} {p : Nat} {t : Nat → Nat} {n : Nat} {x5 x6 : Int32} {G : mG} {F : mF} {L : List Nat} {c : Nat} {I V : Nat → Int32} {s : Int32} {Q : Int32 → zS → Prop} (ho : oR ρ p) (h : cR f p t n x5 x6 G F L c I V s) (hq : Q x5 (f, ρ)) : P_C_fault 201 0 (f, ρ) Q := by
  have hC := ho.1
  unfold P_C_fault
  simp (disch := (first | assumption | omega)) only [true_and, and_true, zr_u, zi_u, zI_u, Option.some.injEq, exists_eq_left', nn_tn, nn_add, nn_s, nn_2, nn_5, nn_7, nn_8, na0, na2, na3, na4, na5, na6, uf_ne, uf_eq, ur_eq, ur_ne, true_or, or_true, not_true_eq_false, not_false_eq_true, true_implies, false_implies, implies_true, e10, e01, reduceIte, Option.isSome_none, Option.isSome_some, Bool.false_eq_true, bi_t, bi_f, ko_0, rc_0_2 hC, ko_5, h.2.2.1.1]
  exact hq
theorem C_place {f : zf} {ρ : zo} {p : Nat} {t : Nat → Nat} {n : Nat} {x5 x6 : Int32} {G : mG} {F : mF} {L : List Nat} {c : Nat} {I V : Nat → Int32} {s : Int32} {Q : Int32 → zS → Prop} (ho : oR ρ p) (h : cR f p t n x5 x6 G F L c I V s) (hq : Q x6 (f, ρ)) : P_C_place 201 0 (f, ρ) Q := by
  have hC := ho.1
  unfold P_C_place
  simp (disch := (first | assumption | omega)) only [true_and, and_true, zr_u, zi_u, zI_u, Option.some.injEq, exists_eq_left', nn_tn, nn_add, nn_s, nn_2, nn_5, nn_7, nn_8, na0, na2, na3, na4, na5, na6, uf_ne, uf_eq, ur_eq, ur_ne, true_or, or_true, not_true_eq_false, not_false_eq_true, true_implies, false_implies, implies_true, e10, e01, reduceIte, Option.isSome_none, Option.isSome_some, Bool.false_eq_true, bi_t, bi_f, ko_0, rc_0_2 hC, ko_5, h.2.2.1.2]
  exact hq
theorem C_asked {f : zf} {ρ : zo} {p : Nat} {t : Nat → Nat} {n : Nat} {x5 x6 : Int32} {G : mG} {F : mF} {L : List Nat} {c : Nat} {I V : Nat → Int32} {s : Int32} {Q : Int32 → zS → Prop} (ho : oR ρ p) (h : cR f p t n x5 x6 G F L c I V s) (hq : Q s (f, ρ)) : P_C_asked 201 0 (f, ρ) Q := by
  have hC := ho.1
  unfold P_C_asked
  simp (disch := (first | assumption | omega)) only [true_and, and_true, zr_u, zi_u, zI_u, Option.some.injEq, exists_eq_left', nn_tn, nn_add, nn_s, nn_2, nn_5, nn_7, nn_8, na0, na2, na3, na4, na5, na6, uf_ne, uf_eq, ur_eq, ur_ne, true_or, or_true, not_true_eq_false, not_false_eq_true, true_implies, false_implies, implies_true, e10, e01, reduceIte, Option.isSome_none, Option.isSome_some, Bool.false_eq_true, bi_t, bi_f, ko_0, rc_0_4 hC, ko_164, h.2.2.2.2.2.2.2.2.2.1]
  exact hq
theorem C_clear {f : zf} {ρ : zo} {p : Nat} {t : Nat → Nat} {n : Nat} {x5 x6 : Int32} {G : mG} {F : mF} {L : List Nat} {c : Nat} {I V : Nat → Int32} {s : Int32} {Q : Int32 → zS → Prop} (ho : oR ρ p) (h : cR f p t n x5 x6 G F L c I V s) (hq : ∀ f', cR f' p t n x5 x6 G F L 0 I V s → lo f f' → Q (nn c) (f', ρ)) : P_C_clear 201 0 (f, ρ) Q := by
  have hC := ho.1
  have h' := h
  obtain ⟨h1, h2, h3, h4, h5, h6, h8, h9, h10, h11, h12⟩ := h
  unfold P_C_clear
  simp (disch := (first | assumption | omega)) only [true_and, and_true, zr_u, zi_u, zI_u, Option.some.injEq, exists_eq_left', nn_tn, nn_add, nn_s, nn_2, nn_5, nn_7, nn_8, na0, na2, na3, na4, na5, na6, uf_ne, uf_eq, ur_eq, ur_ne, true_or, or_true, not_true_eq_false, not_false_eq_true, true_implies, false_implies, implies_true, e10, e01, reduceIte, Option.isSome_none, Option.isSome_some, Bool.false_eq_true, bi_t, bi_f, ko_0, rc_0_4 hC, ko_164, h9.1.1]
  refine hq _ (h'.part (fun k hk => by simp (disch := (first | assumption | omega)) only [true_and, and_true, zr_u, zi_u, zI_u, Option.some.injEq, exists_eq_left', nn_tn, nn_add, nn_s, nn_2, nn_5, nn_7, nn_8, na0, na2, na3, na4, na5, na6, uf_ne, uf_eq, ur_eq, ur_ne, true_or, or_true, not_true_eq_false, not_false_eq_true, true_implies, false_implies, implies_true, e10, e01, reduceIte, Option.isSome_none, Option.isSome_some, Bool.false_eq_true, bi_t, bi_f]) (h2.same (by simp (disch := (first | assumption | omega)) only [true_and, and_true, zr_u, zi_u, zI_u, Option.some.injEq, exists_eq_left', nn_tn, nn_add, nn_s, nn_2, nn_5, nn_7, nn_8, na0, na2, na3, na4, na5, na6, uf_ne, uf_eq, ur_eq, ur_ne, true_or, or_true, not_true_eq_false, not_false_eq_true, true_implies, false_implies, implies_true, e10, e01, reduceIte, Option.isSome_none, Option.isSome_some, Bool.false_eq_true, bi_t, bi_f]) (by simp (disch := (first | assumption | omega)) only [true_and, and_true, zr_u, zi_u, zI_u, Option.some.injEq, exists_eq_left', nn_tn, nn_add, nn_s, nn_2, nn_5, nn_7, nn_8, na0, na2, na3, na4, na5, na6, uf_ne, uf_eq, ur_eq, ur_ne, true_or, or_true, not_true_eq_false, not_false_eq_true, true_implies, false_implies, implies_true, e10, e01, reduceIte, Option.isSome_none, Option.isSome_some, Bool.false_eq_true, bi_t, bi_f])) (by simp (disch := (first | assumption | omega)) only [true_and, and_true, zr_u, zi_u, zI_u, Option.some.injEq, exists_eq_left', nn_tn, nn_add, nn_s, nn_2, nn_5, nn_7, nn_8, na0, na2, na3, na4, na5, na6, uf_ne, uf_eq, ur_eq, ur_ne, true_or, or_true, not_true_eq_false, not_false_eq_true, true_implies, false_implies, implies_true, e10, e01, reduceIte, Option.isSome_none, Option.isSome_some, Bool.false_eq_true, bi_t, bi_f]; exact h3) ⟨?_, h8.2⟩ ⟨⟨by simp (disch := (first | assumption | omega)) only [true_and, and_true, zr_u, zi_u, zI_u, Option.some.injEq, exists_eq_left', nn_tn, nn_add, nn_s, nn_2, nn_5, nn_7, nn_8, na0, na2, na3, na4, na5, na6, uf_ne, uf_eq, ur_eq, ur_ne, true_or, or_true, not_true_eq_false, not_false_eq_true, true_implies, false_implies, implies_true, e10, e01, reduceIte, Option.isSome_none, Option.isSome_some, Bool.false_eq_true, bi_t, bi_f]; rfl, by decide⟩, fun j hj => absurd hj (by omega)⟩ (by simp (disch := (first | assumption | omega)) only [true_and, and_true, zr_u, zi_u, zI_u, Option.some.injEq, exists_eq_left', nn_tn, nn_add, nn_s, nn_2, nn_5, nn_7, nn_8, na0, na2, na3, na4, na5, na6, uf_ne, uf_eq, ur_eq, ur_ne, true_or, or_true, not_true_eq_false, not_false_eq_true, true_implies, false_implies, implies_true, e10, e01, reduceIte, Option.isSome_none, Option.isSome_some, Bool.false_eq_true, bi_t, bi_f]; exact h10) (by simp (disch := (first | assumption | omega)) only [true_and, and_true, zr_u, zi_u, zI_u, Option.some.injEq, exists_eq_left', nn_tn, nn_add, nn_s, nn_2, nn_5, nn_7, nn_8, na0, na2, na3, na4, na5, na6, uf_ne, uf_eq, ur_eq, ur_ne, true_or, or_true, not_true_eq_false, not_false_eq_true, true_implies, false_implies, implies_true, e10, e01, reduceIte, Option.isSome_none, Option.isSome_some, Bool.false_eq_true, bi_t, bi_f]; exact h11)) (fun k hk => by simp (disch := (first | assumption | omega)) only [true_and, and_true, zr_u, zi_u, zI_u, Option.some.injEq, exists_eq_left', nn_tn, nn_add, nn_s, nn_2, nn_5, nn_7, nn_8, na0, na2, na3, na4, na5, na6, uf_ne, uf_eq, ur_eq, ur_ne, true_or, or_true, not_true_eq_false, not_false_eq_true, true_implies, false_implies, implies_true, e10, e01, reduceIte, Option.isSome_none, Option.isSome_some, Bool.false_eq_true, bi_t, bi_f])
  unfold hT; simp (disch := (first | assumption | omega)) only [true_and, and_true, zr_u, zi_u, zI_u, Option.some.injEq, exists_eq_left', nn_tn, nn_add, nn_s, nn_2, nn_5, nn_7, nn_8, na0, na2, na3, na4, na5, na6, uf_ne, uf_eq, ur_eq, ur_ne, true_or, or_true, not_true_eq_false, not_false_eq_true, true_implies, false_implies, implies_true, e10, e01, reduceIte, Option.isSome_none, Option.isSome_some, Bool.false_eq_true, bi_t, bi_f]; exact h8.1
theorem C_input {f : zf} {ρ : zo} {p : Nat} {t : Nat → Nat} {n : Nat} {x5 x6 : Int32} {G : mG} {F : mF} {L : List Nat} {c : Nat} {I V : Nat → Int32} {s x : Int32} {Q : Int32 → zS → Prop} (ho : oR ρ p) (h : cR f p t n x5 x6 G F L c I V s) (hq : ∀ f', c < 32 → cR f' p t n x5 x6 G F L (c + 1) (ur I c x) V s → lo f f' → Q (nn (c + 1)) (f', ρ)) (hq' : c = 32 → Q (-1) (f, ρ)) : P_C_input 201 0 x (f, ρ) Q := by
  have hC := ho.1
  have h' := h
  obtain ⟨h1, h2, h3, h4, h5, h6, h8, ⟨⟨h9, h9'⟩, h9''⟩, h10, h11, h12⟩ := h
  unfold P_C_input
  simp (disch := (first | assumption | omega)) only [true_and, and_true, zr_u, zi_u, zI_u, Option.some.injEq, exists_eq_left', nn_tn, nn_add, nn_s, nn_2, nn_5, nn_7, nn_8, na0, na2, na3, na4, na5, na6, uf_ne, uf_eq, ur_eq, ur_ne, true_or, or_true, not_true_eq_false, not_false_eq_true, true_implies, false_implies, implies_true, e10, e01, reduceIte, Option.isSome_none, Option.isSome_some, Bool.false_eq_true, bi_t, bi_f, ko_0, rc_0_4 hC, ko_164, h9, rc_164_0 hC]
  rw [show (32 : Int32) = nn 32 from rfl, nn_lt (by omega) (by decide)]
  refine ⟨fun z => ?_, fun z => hq' (by omega)⟩
  simp (disch := (first | assumption | omega)) only [true_and, and_true, zr_u, zi_u, zI_u, Option.some.injEq, exists_eq_left', nn_tn, nn_add, nn_s, nn_2, nn_5, nn_7, nn_8, na0, na2, na3, na4, na5, na6, uf_ne, uf_eq, ur_eq, ur_ne, true_or, or_true, not_true_eq_false, not_false_eq_true, true_implies, false_implies, implies_true, e10, e01, reduceIte, Option.isSome_none, Option.isSome_some, Bool.false_eq_true, bi_t, bi_f, ka_165]
  refine hq _ z (h'.part (fun k hk => by simp (disch := (first | assumption | omega)) only [true_and, and_true, zr_u, zi_u, zI_u, Option.some.injEq, exists_eq_left', nn_tn, nn_add, nn_s, nn_2, nn_5, nn_7, nn_8, na0, na2, na3, na4, na5, na6, uf_ne, uf_eq, ur_eq, ur_ne, true_or, or_true, not_true_eq_false, not_false_eq_true, true_implies, false_implies, implies_true, e10, e01, reduceIte, Option.isSome_none, Option.isSome_some, Bool.false_eq_true, bi_t, bi_f]) (h2.same (by simp (disch := (first | assumption | omega)) only [true_and, and_true, zr_u, zi_u, zI_u, Option.some.injEq, exists_eq_left', nn_tn, nn_add, nn_s, nn_2, nn_5, nn_7, nn_8, na0, na2, na3, na4, na5, na6, uf_ne, uf_eq, ur_eq, ur_ne, true_or, or_true, not_true_eq_false, not_false_eq_true, true_implies, false_implies, implies_true, e10, e01, reduceIte, Option.isSome_none, Option.isSome_some, Bool.false_eq_true, bi_t, bi_f]) (by simp (disch := (first | assumption | omega)) only [true_and, and_true, zr_u, zi_u, zI_u, Option.some.injEq, exists_eq_left', nn_tn, nn_add, nn_s, nn_2, nn_5, nn_7, nn_8, na0, na2, na3, na4, na5, na6, uf_ne, uf_eq, ur_eq, ur_ne, true_or, or_true, not_true_eq_false, not_false_eq_true, true_implies, false_implies, implies_true, e10, e01, reduceIte, Option.isSome_none, Option.isSome_some, Bool.false_eq_true, bi_t, bi_f])) (by simp (disch := (first | assumption | omega)) only [true_and, and_true, zr_u, zi_u, zI_u, Option.some.injEq, exists_eq_left', nn_tn, nn_add, nn_s, nn_2, nn_5, nn_7, nn_8, na0, na2, na3, na4, na5, na6, uf_ne, uf_eq, ur_eq, ur_ne, true_or, or_true, not_true_eq_false, not_false_eq_true, true_implies, false_implies, implies_true, e10, e01, reduceIte, Option.isSome_none, Option.isSome_some, Bool.false_eq_true, bi_t, bi_f]; exact h3) ⟨?_, h8.2⟩ ⟨⟨by simp (disch := (first | assumption | omega)) only [true_and, and_true, zr_u, zi_u, zI_u, Option.some.injEq, exists_eq_left', nn_tn, nn_add, nn_s, nn_2, nn_5, nn_7, nn_8, na0, na2, na3, na4, na5, na6, uf_ne, uf_eq, ur_eq, ur_ne, true_or, or_true, not_true_eq_false, not_false_eq_true, true_implies, false_implies, implies_true, e10, e01, reduceIte, Option.isSome_none, Option.isSome_some, Bool.false_eq_true, bi_t, bi_f], by omega⟩, fun j hj => ?_⟩ (by simp (disch := (first | assumption | omega)) only [true_and, and_true, zr_u, zi_u, zI_u, Option.some.injEq, exists_eq_left', nn_tn, nn_add, nn_s, nn_2, nn_5, nn_7, nn_8, na0, na2, na3, na4, na5, na6, uf_ne, uf_eq, ur_eq, ur_ne, true_or, or_true, not_true_eq_false, not_false_eq_true, true_implies, false_implies, implies_true, e10, e01, reduceIte, Option.isSome_none, Option.isSome_some, Bool.false_eq_true, bi_t, bi_f]; exact h10) (by simp (disch := (first | assumption | omega)) only [true_and, and_true, zr_u, zi_u, zI_u, Option.some.injEq, exists_eq_left', nn_tn, nn_add, nn_s, nn_2, nn_5, nn_7, nn_8, na0, na2, na3, na4, na5, na6, uf_ne, uf_eq, ur_eq, ur_ne, true_or, or_true, not_true_eq_false, not_false_eq_true, true_implies, false_implies, implies_true, e10, e01, reduceIte, Option.isSome_none, Option.isSome_some, Bool.false_eq_true, bi_t, bi_f]; exact h11)) (fun k hk => by simp (disch := (first | assumption | omega)) only [true_and, and_true, zr_u, zi_u, zI_u, Option.some.injEq, exists_eq_left', nn_tn, nn_add, nn_s, nn_2, nn_5, nn_7, nn_8, na0, na2, na3, na4, na5, na6, uf_ne, uf_eq, ur_eq, ur_ne, true_or, or_true, not_true_eq_false, not_false_eq_true, true_implies, false_implies, implies_true, e10, e01, reduceIte, Option.isSome_none, Option.isSome_some, Bool.false_eq_true, bi_t, bi_f])
  · unfold hT; simp (disch := (first | assumption | omega)) only [true_and, and_true, zr_u, zi_u, zI_u, Option.some.injEq, exists_eq_left', nn_tn, nn_add, nn_s, nn_2, nn_5, nn_7, nn_8, na0, na2, na3, na4, na5, na6, uf_ne, uf_eq, ur_eq, ur_ne, true_or, or_true, not_true_eq_false, not_false_eq_true, true_implies, false_implies, implies_true, e10, e01, reduceIte, Option.isSome_none, Option.isSome_some, Bool.false_eq_true, bi_t, bi_f]; exact h8.1
  · simp (disch := (first | assumption | omega)) only [true_and, and_true, zr_u, zi_u, zI_u, Option.some.injEq, exists_eq_left', nn_tn, nn_add, nn_s, nn_2, nn_5, nn_7, nn_8, na0, na2, na3, na4, na5, na6, uf_ne, uf_eq, ur_eq, ur_ne, true_or, or_true, not_true_eq_false, not_false_eq_true, true_implies, false_implies, implies_true, e10, e01, reduceIte, Option.isSome_none, Option.isSome_some, Bool.false_eq_true, bi_t, bi_f]
    by_cases e : j = c
    · subst e; rw [ur_eq, ur_eq]
    · rw [ur_ne _ e, ur_ne _ e]; exact h9'' j (by omega)
theorem C_write {f : zf} {ρ : zo} {p : Nat} {t : Nat → Nat} {n : Nat} {x5 x6 : Int32} {G : mG} {F : mF} {L : List Nat} {c : Nat} {I V : Nat → Int32} {s : Int32} {Q : Int32 → zS → Prop} (ho : oR ρ p) (h : cR f p t n x5 x6 G F L c I V s) (hq : ∀ f', cR f' p t n x5 x6 G F (ptx G F G.1) c I V s → lo f f' → Q (nn (ptx G F G.1).length) (f', ρ)) : P_C_write 201 0 (f, ρ) Q := by
  have hC := ho.1
  have h' := h
  obtain ⟨h1, h2, h3, h4, h5, h6, h8, h9, h10, h11, h12⟩ := h
  unfold P_C_write
  simp (disch := (first | assumption | omega)) only [true_and, and_true, zr_u, zi_u, zI_u, Option.some.injEq, exists_eq_left', nn_tn, nn_add, nn_s, nn_2, nn_5, nn_7, nn_8, na0, na2, na3, na4, na5, na6, uf_ne, uf_eq, ur_eq, ur_ne, true_or, or_true, not_true_eq_false, not_false_eq_true, true_implies, false_implies, implies_true, e10, e01, reduceIte, Option.isSome_none, Option.isSome_some, Bool.false_eq_true, bi_t, bi_f, ko_0, rc_0_3 hC, rc_0_1 hC, ho.2.1, ko_7]
  refine s_rewrite hC h1 h4 h5 h6.1 (fun f' a b => ?_)
  simp (disch := (first | assumption | omega)) only [true_and, and_true, zr_u, zi_u, zI_u, Option.some.injEq, exists_eq_left', nn_tn, nn_add, nn_s, nn_2, nn_5, nn_7, nn_8, na0, na2, na3, na4, na5, na6, uf_ne, uf_eq, ur_eq, ur_ne, true_or, or_true, not_true_eq_false, not_false_eq_true, true_implies, false_implies, implies_true, e10, e01, reduceIte, Option.isSome_none, Option.isSome_some, Bool.false_eq_true, bi_t, bi_f, rc_0_1 hC, ko_3, b.1]
  have q : ∀ k, k ≠ 3 → k ≠ 4 → k ≠ 16 → k ≠ 17 → k ≠ 18 → f' k = f k := a
  refine hq f' (h'.part (fun k hk => q k (by omega) (by omega) (by omega) (by omega) (by omega)) (h2.same (q _ (by decide) (by decide) (by decide) (by decide) (by decide)) (q _ (by decide) (by decide) (by decide) (by decide) (by decide))) ?_ ⟨b, ptx_all h4 F (Nat.le_refl _)⟩ ?_ ?_ ?_) (fun k hk => q k (by omega) (by omega) (by omega) (by omega) (by omega))
  · rw [q 5 (by decide) (by decide) (by decide) (by decide) (by decide)]; exact h3
  · rw [q 164 (by decide) (by decide) (by decide) (by decide) (by decide), q 165 (by decide) (by decide) (by decide) (by decide) (by decide)]; exact h9
  · rw [q 166 (by decide) (by decide) (by decide) (by decide) (by decide)]; exact h10
  · rw [q 164 (by decide) (by decide) (by decide) (by decide) (by decide)]; exact h11
/-- what take makes of the text -/
def tkp (L : List Nat) : Nat → Nat := fun i => (nn (L.getD i 0)).toBitVec.toNat
theorem hT_tk {f : zf} {L : List Nat} (h : hT f L) {i : Nat} (hi : i < L.length) : nn (tkp L i) = nn (L.getD i 0) ∧ tkp L i < 256 := by
  refine ⟨nn_bv _, ?_⟩
  unfold tkp
  rw [← h.2 i hi, and255]
  show (BitVec.ofNat 32 ((f 4 i).toBitVec.toNat % 256)).toNat < 256
  have := Nat.mod_lt (f 4 i).toBitVec.toNat (show 0 < 256 by decide)
  rw [BitVec.toNat_ofNat, Nat.mod_eq_of_lt (by omega)]; exact this
theorem C_take {f : zf} {ρ : zo} {p : Nat} {t : Nat → Nat} {n : Nat} {x5 x6 : Int32} {G : mG} {F : mF} {L : List Nat} {c : Nat} {I V : Nat → Int32} {s : Int32} {Q : Int32 → zS → Prop} (ho : oR ρ p) (h : cR f p t n x5 x6 G F L c I V s) (hq : ∀ f', L.length ≤ 700 → (∀ i, i < L.length → nn (tkp L i) = nn (L.getD i 0) ∧ tkp L i < 256) → cR f' p (tkp L) L.length x5 x6 G F L c I V s → lo f f' → Q (nn L.length) (f', ρ)) (hq' : ¬ L.length ≤ 700 → Q (-1) (f, ρ)) : P_C_take 201 0 (f, ρ) Q := by
  have hC := ho.1
  have h' := h
  obtain ⟨h1, h2, h3, h4, h5, h6, h8, h9, h10, h11, h12⟩ := h
  have hl := h8.2
  have key : 700 ≥ L.length → ∀ (m i : Nat) (g : zf), i + m = L.length → (∀ k, k ≠ 1 → k ≠ 2 → g k = f k) → g 1 1 = nn i → (∀ j, j < i → g 2 j &&& 255 = nn (tkp L j)) → P_C_take_25 201 Q (m + 1) 0 (nn i) (g, ρ) := by
    intro h700 m
    induction m with
    | zero =>
      intro i g hi a1 a2 a3
      have e3 : g 3 1 = nn L.length := by rw [a1 3 (by decide) (by decide)]; exact h8.1.1
      unfold P_C_take_25
      simp (disch := (first | assumption | omega)) only [true_and, and_true, zr_u, zi_u, zI_u, Option.some.injEq, exists_eq_left', nn_tn, nn_add, nn_s, nn_2, nn_5, nn_7, nn_8, na0, na2, na3, na4, na5, na6, uf_ne, uf_eq, ur_eq, ur_ne, true_or, or_true, not_true_eq_false, not_false_eq_true, true_implies, false_implies, implies_true, e10, e01, reduceIte, Option.isSome_none, Option.isSome_some, Bool.false_eq_true, bi_t, bi_f, ko_0, rc_0_1 hC, rc_0_0 hC, ko_3, ko_1, e3, a2]
      simp (disch := omega) only [nn_le]
      refine ⟨fun _ => ?_, fun z => absurd (by omega) z⟩
      rw [show i = L.length by omega]
      refine hq g (by omega) (fun j hj => hT_tk h8.1 hj) (h'.part (fun k hk => a1 k (by omega) (by omega)) ⟨by rw [a2, show i = L.length by omega], by omega, fun j hj => ⟨a3 j (by omega), (hT_tk h8.1 hj).2⟩⟩ ?_ ⟨?_, hl⟩ ?_ ?_ ?_) (fun k hk => a1 k (by omega) (by omega))
      · rw [a1 5 (by decide) (by decide)]; exact h3
      · unfold hT; rw [a1 3 (by decide) (by decide), a1 4 (by decide) (by decide)]; exact h8.1
      · rw [a1 164 (by decide) (by decide), a1 165 (by decide) (by decide)]; exact h9
      · rw [a1 166 (by decide) (by decide)]; exact h10
      · rw [a1 164 (by decide) (by decide)]; exact h11
    | succ m ih =>
      intro i g hi a1 a2 a3
      have e3 : g 3 1 = nn L.length := by rw [a1 3 (by decide) (by decide)]; exact h8.1.1
      unfold P_C_take_25
      simp (disch := (first | assumption | omega)) only [true_and, and_true, zr_u, zi_u, zI_u, Option.some.injEq, exists_eq_left', nn_tn, nn_add, nn_s, nn_2, nn_5, nn_7, nn_8, na0, na2, na3, na4, na5, na6, uf_ne, uf_eq, ur_eq, ur_ne, true_or, or_true, not_true_eq_false, not_false_eq_true, true_implies, false_implies, implies_true, e10, e01, reduceIte, Option.isSome_none, Option.isSome_some, Bool.false_eq_true, bi_t, bi_f, ko_0, rc_0_1 hC, rc_0_0 hC, ko_3, ko_1, e3, a2]
      simp (disch := omega) only [nn_le]
      refine ⟨fun z => absurd z (by omega), fun _ => ?_⟩
      refine s_byteAt (t := 3) hC (Or.inr ⟨rfl, hl⟩) e3 (by omega) ?_
      have eb : rb (g 4) L.length i = nn (tkp L i) := by
        unfold rb
        rw [if_pos (by omega), a1 4 (by decide) (by decide), h8.1.2 i (by omega)]
        exact (hT_tk h8.1 (by omega)).1.symm
      rw [show (3 : Nat) + 1 = 4 from rfl, eb]
      refine s_append (t := 1) hC (Or.inl ⟨rfl, by omega⟩) a2 ?_
      refine ih (i + 1) _ (by omega) (fun k z1 z2 => by simp (disch := (first | assumption | omega)) only [true_and, and_true, zr_u, zi_u, zI_u, Option.some.injEq, exists_eq_left', nn_tn, nn_add, nn_s, nn_2, nn_5, nn_7, nn_8, na0, na2, na3, na4, na5, na6, uf_ne, uf_eq, ur_eq, ur_ne, true_or, or_true, not_true_eq_false, not_false_eq_true, true_implies, false_implies, implies_true, e10, e01, reduceIte, Option.isSome_none, Option.isSome_some, Bool.false_eq_true, bi_t, bi_f]; exact a1 k z1 z2) (by simp (disch := (first | assumption | omega)) only [true_and, and_true, zr_u, zi_u, zI_u, Option.some.injEq, exists_eq_left', nn_tn, nn_add, nn_s, nn_2, nn_5, nn_7, nn_8, na0, na2, na3, na4, na5, na6, uf_ne, uf_eq, ur_eq, ur_ne, true_or, or_true, not_true_eq_false, not_false_eq_true, true_implies, false_implies, implies_true, e10, e01, reduceIte, Option.isSome_none, Option.isSome_some, Bool.false_eq_true, bi_t, bi_f]) (fun j hj => ?_)
      show uf (uf g 2 i (by_ (nn (tkp L i)))) 1 1 (nn (i + 1)) 2 j &&& 255 = _
      simp (disch := (first | assumption | omega)) only [true_and, and_true, zr_u, zi_u, zI_u, Option.some.injEq, exists_eq_left', nn_tn, nn_add, nn_s, nn_2, nn_5, nn_7, nn_8, na0, na2, na3, na4, na5, na6, uf_ne, uf_eq, ur_eq, ur_ne, true_or, or_true, not_true_eq_false, not_false_eq_true, true_implies, false_implies, implies_true, e10, e01, reduceIte, Option.isSome_none, Option.isSome_some, Bool.false_eq_true, bi_t, bi_f]
      by_cases e : j = i
      · subst e; rw [ur_eq]; exact by_and (hT_tk h8.1 (by omega)).2
      · rw [ur_ne _ e]; exact a3 j (by omega)
  unfold P_C_take
  simp (disch := (first | assumption | omega)) only [true_and, and_true, zr_u, zi_u, zI_u, Option.some.injEq, exists_eq_left', nn_tn, nn_add, nn_s, nn_2, nn_5, nn_7, nn_8, na0, na2, na3, na4, na5, na6, uf_ne, uf_eq, ur_eq, ur_ne, true_or, or_true, not_true_eq_false, not_false_eq_true, true_implies, false_implies, implies_true, e10, e01, reduceIte, Option.isSome_none, Option.isSome_some, Bool.false_eq_true, bi_t, bi_f, ko_0, rc_0_1 hC, ko_3, h8.1.1]
  rw [show (700 : Int32) = nn 700 from rfl, nn_le (by omega) (by decide)]
  refine ⟨fun z => ?_, fun z => hq' z⟩
  simp (disch := (first | assumption | omega)) only [true_and, and_true, zr_u, zi_u, zI_u, Option.some.injEq, exists_eq_left', nn_tn, nn_add, nn_s, nn_2, nn_5, nn_7, nn_8, na0, na2, na3, na4, na5, na6, uf_ne, uf_eq, ur_eq, ur_ne, true_or, or_true, not_true_eq_false, not_false_eq_true, true_implies, false_implies, implies_true, e10, e01, reduceIte, Option.isSome_none, Option.isSome_some, Bool.false_eq_true, bi_t, bi_f, rc_0_0 hC, ko_1]
  exact ⟨_, key z L.length 0 _ (by omega) (fun k z1 z2 => by simp (disch := (first | assumption | omega)) only [true_and, and_true, zr_u, zi_u, zI_u, Option.some.injEq, exists_eq_left', nn_tn, nn_add, nn_s, nn_2, nn_5, nn_7, nn_8, na0, na2, na3, na4, na5, na6, uf_ne, uf_eq, ur_eq, ur_ne, true_or, or_true, not_true_eq_false, not_false_eq_true, true_implies, false_implies, implies_true, e10, e01, reduceIte, Option.isSome_none, Option.isSome_some, Bool.false_eq_true, bi_t, bi_f]) (by simp (disch := (first | assumption | omega)) only [true_and, and_true, zr_u, zi_u, zI_u, Option.some.injEq, exists_eq_left', nn_tn, nn_add, nn_s, nn_2, nn_5, nn_7, nn_8, na0, na2, na3, na4, na5, na6, uf_ne, uf_eq, ur_eq, ur_ne, true_or, or_true, not_true_eq_false, not_false_eq_true, true_implies, false_implies, implies_true, e10, e01, reduceIte, Option.isSome_none, Option.isSome_some, Bool.false_eq_true, bi_t, bi_f]; rfl) (fun j hj => absurd hj (by omega))⟩
/-- one byte more of a long -/
def wst (L : List Nat) (x : Int32) (a : Int64) (k : Nat) : Int64 := if 0 ≤ (Int32.toInt64 x + Int32.toInt64 (nn k)).toInt ∧ (Int32.toInt64 x + Int32.toInt64 (nn k)).toInt < L.length then a ||| ((Int32.toInt64 (nn (L.getD (Int32.toInt64 x + Int32.toInt64 (nn k)).toInt.toNat 0))) <<< ((nn (8 * k)).toInt64 &&& 63)) else a
def wl (L : List Nat) (x : Int32) : Nat → Nat → Int64 → Int64
  | 0, _, a => a
  | m + 1, k, a => wl L x m (k + 1) (wst L x a k)
theorem C_written {f : zf} {ρ : zo} {p : Nat} {t : Nat → Nat} {n : Nat} {x5 x6 : Int32} {G : mG} {F : mF} {L : List Nat} {c : Nat} {I V : Nat → Int32} {s x : Int32} {Q : Int64 → zS → Prop} (ho : oR ρ p) (h : cR f p t n x5 x6 G F L c I V s) (hq : Q (wl L x 8 0 0) (f, ρ)) : P_C_written 201 0 x (f, ρ) Q := by
  have hC := ho.1
  obtain ⟨h1, h2, h3, h4, h5, h6, h8, h9, h10, h11, h12⟩ := h
  have key : ∀ (m k : Nat) (a : Int64), k + m = 8 → wl L x m k a = wl L x 8 0 0 → P_C_written_5 201 Q (m + 1) 0 x a (nn k) (f, ρ) := by
    intro m
    induction m with
    | zero =>
      intro k a hk e
      unfold P_C_written_5
      rw [show (8 : Int32) ≤ nn k ↔ nn 8 ≤ nn k from Iff.rfl, nn_le (by decide) (by omega)]
      refine ⟨fun _ => ?_, fun z => absurd (by omega) z⟩
      rw [← e] at hq; exact hq
    | succ m ih =>
      intro k a hk e
      unfold P_C_written_5 P_C_written_45
      rw [show (8 : Int32) ≤ nn k ↔ nn 8 ≤ nn k from Iff.rfl, nn_le (by decide) (by omega)]
      refine ⟨fun z => absurd z (by omega), fun _ => ?_⟩
      simp (disch := (first | assumption | omega)) only [true_and, and_true, zr_u, zi_u, zI_u, Option.some.injEq, exists_eq_left', nn_tn, nn_add, nn_s, nn_2, nn_5, nn_7, nn_8, na0, na2, na3, na4, na5, na6, uf_ne, uf_eq, ur_eq, ur_ne, true_or, or_true, not_true_eq_false, not_false_eq_true, true_implies, false_implies, implies_true, e10, e01, reduceIte, Option.isSome_none, Option.isSome_some, Bool.false_eq_true, bi_t, bi_f, ko_0, rc_0_1 hC, ko_3]
      have st : wl L x m (k + 1) (wst L x a k) = wl L x 8 0 0 := e
      refine s_byteL (t := 3) hC (Or.inr ⟨rfl, h8.2⟩) h8.1.1 (fun j e1 e2 => ?_) (fun z => ?_)
      · have ev : f (3 + 1) j &&& 255 = nn (L.getD j 0) := h8.1.2 j e2
        have ew : wst L x a k = a ||| ((Int32.toInt64 (nn (L.getD j 0))) <<< ((nn (8 * k)).toInt64 &&& 63)) := by
          unfold wst
          rw [e1, if_pos ⟨by omega, by omega⟩]; rfl
        have tk := hT_tk h8.1 e2
        have nm : (nn (L.getD j 0) = -1) = False := by rw [← tk.1]; exact nn_m1 (by omega)
        rw [ev]
        simp (disch := (first | assumption | omega)) only [true_and, and_true, zr_u, zi_u, zI_u, Option.some.injEq, exists_eq_left', nn_tn, nn_add, nn_s, nn_2, nn_5, nn_7, nn_8, na0, na2, na3, na4, na5, na6, uf_ne, uf_eq, ur_eq, ur_ne, true_or, or_true, not_true_eq_false, not_false_eq_true, true_implies, false_implies, implies_true, e10, e01, reduceIte, Option.isSome_none, Option.isSome_some, Bool.false_eq_true, bi_t, bi_f, nm]
        rw [← ew]
        exact ih (k + 1) _ (by omega) st
      · have ew : wst L x a k = a := by
          unfold wst
          rw [if_neg (by omega)]
        rw [ew] at st
        simp (disch := (first | assumption | omega)) only [true_and, and_true, zr_u, zi_u, zI_u, Option.some.injEq, exists_eq_left', nn_tn, nn_add, nn_s, nn_2, nn_5, nn_7, nn_8, na0, na2, na3, na4, na5, na6, uf_ne, uf_eq, ur_eq, ur_ne, true_or, or_true, not_true_eq_false, not_false_eq_true, true_implies, false_implies, implies_true, e10, e01, reduceIte, Option.isSome_none, Option.isSome_some, Bool.false_eq_true, bi_t, bi_f]
        exact ih (k + 1) _ (by omega) st
  exact ⟨_, key 8 0 0 (by decide) rfl⟩
