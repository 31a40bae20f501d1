/-! The mathematics: programs, what is known of variables, least facts. -/
abbrev mO : Type := Nat ⊕ Int32
/-- a statement: the variable, how (0 asks, 1 copies, else the operator's byte), two operands -/
abbrev mT : Type := Nat × Nat × mO × mO
/-- an end: its kind (0 stops, 1 goes, 2 branches), its operand, its goals -/
abbrev mE : Type := Nat × mO × Nat × Nat
/-- a program: how many blocks, how many statements, where each block begins, statements, ends -/
abbrev mG : Type := Nat × Nat × (Nat → Nat) × (Nat → mT) × (Nat → mE)
abbrev mV : Type := Nat → Option Int32
abbrev mF : Type := Nat → Option mV
def mrk (how : Nat) (x y : Int32) : Int32 :=
  if how = 43 then x + y else if how = 45 then x - y else if how = 42 then x * y
  else if how = 47 then (if y = 0 then 0 else x / y) else if how = 37 then (if y = 0 then 0 else x - x / y * y)
  else if how = 38 then x &&& y else if how = 124 then x ||| y else if how = 94 then x ^^^ y
  else if how = 60 then (if x < y then 1 else 0) else if how = 61 then (if x = y then 1 else 0) else x
def mop (v : mV) : mO → Option Int32
  | .inl x => v x
  | .inr c => some c
/-- what a statement's value always is, if anything -/
def mev (t : mT) (v : mV) : Option Int32 :=
  if t.2.1 = 0 then none else if t.2.1 = 1 then mop v t.2.2.1 else
  match mop v t.2.2.1, mop v t.2.2.2 with
  | some x, some y => some (mrk t.2.1 x y)
  | some x, none => if x = 0 ∧ (t.2.1 = 42 ∨ t.2.1 = 38) then some 0 else none
  | none, some y => if y = 0 ∧ (t.2.1 = 42 ∨ t.2.1 = 38) then some 0 else none
  | none, none => none
def mas (v : mV) (x : Nat) (r : Option Int32) : mV := fun y => if y = x then r else v y
def mst (v : mV) (t : mT) : mV := mas v t.1 (mev t v)
/-- k statements from lo on -/
def mfr (T : Nat → mT) (lo : Nat) : Nat → mV → mV
  | 0, v => v
  | k + 1, v => mst (mfr T lo k v) (T (lo + k))
def mfb (G : mG) (b : Nat) (v : mV) : mV := mfr G.2.2.2.1 (G.2.2.1 b) (G.2.2.1 (b + 1) - G.2.2.1 b) v
/-- where an end goes, by what is known there -/
def msu (e : mE) (v : mV) : List Nat :=
  if e.1 = 0 then [] else if e.1 = 1 then [e.2.2.1] else
  match mop v e.2.1 with
  | some c => if c = 0 then [e.2.2.2] else [e.2.2.1]
  | none => [e.2.2.1, e.2.2.2]
/-- w knows no more than v -/
def mle (v w : mV) : Prop := ∀ x, w x = none ∨ w x = v x
def mlF (F G : mF) : Prop := ∀ b v, F b = some v → ∃ w, G b = some w ∧ mle v w
def mz : mV := fun _ => some 0
def mcl (G : mG) (F : mF) : Prop := (∃ w, F 0 = some w ∧ mle mz w) ∧ ∀ b v, b < G.1 → F b = some v → ∀ q, q ∈ msu (G.2.2.2.2 b) (mfb G b v) → ∃ w, F q = some w ∧ mle (mfb G b v) w
def mleast (G : mG) (F : mF) : Prop := mcl G F ∧ ∀ H, mcl G H → mlF F H
theorem mle_rfl (v : mV) : mle v v := fun _ => Or.inr rfl
theorem mle_trans {u v w : mV} (h1 : mle u v) (h2 : mle v w) : mle u w := fun x => by
  rcases h2 x with h | h
  · exact Or.inl h
  · rcases h1 x with g | g
    · exact Or.inl (h.trans g)
    · exact Or.inr (h.trans g)
theorem mle_antisymm {v w : mV} (h1 : mle v w) (h2 : mle w v) : v = w := funext fun x => by
  rcases h1 x with h | h
  · rcases h2 x with g | g
    · rw [h, g]
    · exact g
  · exact h.symm
theorem mlF_antisymm {F G : mF} (h1 : mlF F G) (h2 : mlF G F) : F = G := funext fun b => by
  cases hF : F b with
  | none =>
    cases hG : G b with
    | none => rfl
    | some w =>
      obtain ⟨v, hv, -⟩ := h2 b w hG
      rw [hF] at hv; cases hv
  | some v =>
    obtain ⟨w, hw, l1⟩ := h1 b v hF
    obtain ⟨v', hv', l2⟩ := h2 b w hw
    rw [hF] at hv'; cases hv'
    rw [hw, mle_antisymm l1 l2]
theorem mleast_eq {G : mG} {F H : mF} (h1 : mleast G F) (h2 : mleast G H) : F = H := mlF_antisymm (h1.2 H h2.1) (h2.2 F h1.1)
theorem mop_mono {v w : mV} (h : mle v w) (o : mO) : mop w o = none ∨ mop w o = mop v o := by
  cases o with
  | inl x => exact h x
  | inr c => exact Or.inr rfl
theorem mrk_z1 {how : Nat} (y : Int32) (h : how = 42 ∨ how = 38) : mrk how 0 y = 0 := by
  rcases h with rfl | rfl
  · simp [mrk]
  · simp [mrk]
theorem mrk_z2 {how : Nat} (x : Int32) (h : how = 42 ∨ how = 38) : mrk how x 0 = 0 := by
  rcases h with rfl | rfl
  · simp [mrk]
  · simp [mrk]
theorem mev_mono {v w : mV} (h : mle v w) (t : mT) : mev t w = none ∨ mev t w = mev t v := by
  unfold mev
  by_cases h0 : t.2.1 = 0
  · simp [h0]
  by_cases h1 : t.2.1 = 1
  · simp only [h1, if_true]
    simp only [show ¬ (1 = 0) by decide, if_false]
    exact mop_mono h _
  simp only [h0, h1, if_false]
  rcases mop_mono h t.2.2.1 with hl | hl <;> rcases mop_mono h t.2.2.2 with hr | hr
  · rw [hl, hr]; exact Or.inl rfl
  · rw [hl, hr]
    cases hrv : mop v t.2.2.2 with
    | none => exact Or.inl rfl
    | some y =>
      simp only
      by_cases hc : y = 0 ∧ (t.2.1 = 42 ∨ t.2.1 = 38)
      · rw [if_pos hc]
        right
        cases mop v t.2.2.1 with
        | none => simp only; rw [if_pos hc]
        | some x => simp only; rw [hc.1, mrk_z2 x hc.2]
      · rw [if_neg hc]; exact Or.inl rfl
  · rw [hl, hr]
    cases hlv : mop v t.2.2.1 with
    | none => exact Or.inl rfl
    | some x =>
      simp only
      by_cases hc : x = 0 ∧ (t.2.1 = 42 ∨ t.2.1 = 38)
      · rw [if_pos hc]
        right
        cases mop v t.2.2.2 with
        | none => simp only; rw [if_pos hc]
        | some y => simp only; rw [hc.1, mrk_z1 y hc.2]
      · rw [if_neg hc]; exact Or.inl rfl
  · rw [hl, hr]; exact Or.inr rfl
theorem mst_mono {v w : mV} (h : mle v w) (t : mT) : mle (mst v t) (mst w t) := fun x => by
  unfold mst mas
  by_cases hx : x = t.1
  · simp only [hx, if_true]
    exact mev_mono h t
  · simp only [hx, if_false]
    exact h x
theorem mfr_mono (T : Nat → mT) (lo : Nat) : ∀ (k : Nat) {v w : mV}, mle v w → mle (mfr T lo k v) (mfr T lo k w)
  | 0, _, _, h => h
  | k + 1, _, _, h => mst_mono (mfr_mono T lo k h) (T (lo + k))
theorem mfb_mono (G : mG) (b : Nat) {v w : mV} (h : mle v w) : mle (mfb G b v) (mfb G b w) := mfr_mono _ _ _ h
theorem msu_mono {v w : mV} (h : mle v w) (b : mE) : ∀ q, q ∈ msu b v → q ∈ msu b w := by
  intro q hq
  unfold msu at hq ⊢
  by_cases h0 : b.1 = 0
  · simp [h0] at hq
  by_cases h1 : b.1 = 1
  · simpa [h1] using hq
  simp only [h0, h1, if_false] at hq ⊢
  rcases mop_mono h b.2.1 with hl | hl
  · rw [hl]
    cases hv : mop v b.2.1 with
    | none => rw [hv] at hq; exact hq
    | some c =>
      rw [hv] at hq
      simp only at hq
      split at hq
      · rw [List.mem_singleton] at hq; subst hq; simp
      · rw [List.mem_singleton] at hq; subst hq; simp
  · rw [hl]; exact hq
def mjn (f g : mV) : mV := fun x => if g x = f x then f x else none
theorem mjn_le {f g u : mV} (h1 : mle f u) (h2 : mle g u) : mle (mjn f g) u := fun x => by
  unfold mjn
  rcases h1 x with h | h
  · exact Or.inl h
  · rcases h2 x with q | q
    · exact Or.inl q
    · right; rw [if_pos (q.symm.trans h)]; exact h
theorem mjn_l (f g : mV) : mle f (mjn f g) := fun x => by
  unfold mjn
  by_cases h : g x = f x
  · right; rw [if_pos h]
  · left; rw [if_neg h]
theorem mjn_r (f g : mV) : mle g (mjn f g) := fun x => by
  unfold mjn
  by_cases h : g x = f x
  · right; rw [if_pos h, h]
  · left; rw [if_neg h]
/-- one block's flow stays below every closed fact -/
theorem mcl_step {G : mG} {F H : mF} (hH : mcl G H) (hF : mlF F H) {b : Nat} {v : mV} (hb : b < G.1) (hv : F b = some v) {q : Nat} (hq : q ∈ msu (G.2.2.2.2 b) (mfb G b v)) : ∃ u, H q = some u ∧ mle (mfb G b v) u := by
  obtain ⟨w, hw, l⟩ := hF b v hv
  have l2 := mfb_mono G b l
  obtain ⟨u, hu, l3⟩ := hH.2 b w hb hw q (msu_mono l2 _ q hq)
  exact ⟨u, hu, mle_trans l2 l3⟩
theorem mlF_put {F G : mF} (hF : mlF F G) {q : Nat} {z u : mV} (hu : G q = some u) (hz : mle z u) : mlF (fun b => if b = q then some z else F b) G := fun b v hv => by
  by_cases e : b = q
  · subst e
    simp only [if_true] at hv
    cases hv
    exact ⟨u, hu, hz⟩
  · simp only [e, if_false] at hv
    exact hF b v hv

/-- a view that joins another -/
theorem mjn_some {f g : mV} (h : mjn f g = f) : mle g f := fun x => by
  have := congrFun h x
  unfold mjn at this
  by_cases e : g x = f x
  · exact Or.inr e.symm
  · rw [if_neg e] at this; exact Or.inl this.symm
/-- how many of the first n variables aren't known -/
def mca (v : mV) : Nat → Nat
  | 0 => 0
  | n + 1 => mca v n + (if v n = none then 1 else 0)
theorem mca_le (v : mV) : ∀ n, mca v n ≤ n
  | 0 => Nat.le_refl 0
  | n + 1 => by
    have := mca_le v n
    unfold mca; split <;> omega
theorem mca_jn (v w : mV) : ∀ n, mca v n ≤ mca (mjn v w) n
  | 0 => Nat.le_refl 0
  | n + 1 => by
    have := mca_jn v w n
    unfold mca
    by_cases h : v n = none
    · have h2 : mjn v w n = none := by unfold mjn; split
                                       · exact h
                                       · rfl
      rw [if_pos h, if_pos h2]; omega
    · rw [if_neg h]; omega
theorem mca_lt (v w : mV) : ∀ n x, x < n → mjn v w x ≠ v x → mca v n < mca (mjn v w) n
  | 0, _, h, _ => absurd h (Nat.not_lt_zero _)
  | n + 1, x, hx, hne => by
    have h1 := mca_jn v w n
    by_cases e : x = n
    · subst e
      have h2 : mjn v w x = none := by
        unfold mjn at hne ⊢
        by_cases q : w x = v x
        · rw [if_pos q] at hne; exact absurd rfl hne
        · rw [if_neg q]
      have h3 : v x ≠ none := fun q => hne (by rw [h2, q])
      unfold mca
      rw [if_pos h2, if_neg h3]; omega
    · have := mca_lt v w n x (by omega) hne
      unfold mca
      by_cases h : v n = none
      · have h2 : mjn v w n = none := by unfold mjn; split
                                         · exact h
                                         · rfl
        rw [if_pos h, if_pos h2]; omega
      · rw [if_neg h]; omega
/-- how much is told by F of the first n blocks -/
def mph (F : mF) : Nat → Nat
  | 0 => 0
  | n + 1 => mph F n + (match F n with | none => 0 | some v => 1 + mca v 8)
theorem mph_le (F : mF) : ∀ n, mph F n ≤ 9 * n
  | 0 => Nat.le_refl 0
  | n + 1 => by
    have := mph_le F n
    unfold mph
    cases F n with
    | none => simp only; omega
    | some v => have := mca_le v 8; simp only; omega
def mpu (F : mF) (q : Nat) (z : mV) : mF := fun b => if b = q then some z else F b
def mwt (o : Option mV) : Nat := match o with | none => 0 | some v => 1 + mca v 8
theorem mph_put (F : mF) (q : Nat) (z : mV) : ∀ n, (q < n → mph (mpu F q z) n + mwt (F q) = mph F n + mwt (some z)) ∧ (n ≤ q → mph (mpu F q z) n = mph F n)
  | 0 => ⟨fun h => absurd h (Nat.not_lt_zero _), fun _ => rfl⟩
  | n + 1 => by
    obtain ⟨h1, h2⟩ := mph_put F q z n
    refine ⟨fun h => ?_, fun h => ?_⟩
    · by_cases e : q = n
      · subst e
        have := h2 (Nat.le_refl _)
        show mph (mpu F q z) q + mwt (mpu F q z q) + mwt (F q) = mph F q + mwt (F q) + mwt (some z)
        have e2 : mpu F q z q = some z := if_pos rfl
        rw [e2]; omega
      · have := h1 (by omega)
        show mph (mpu F q z) n + mwt (mpu F q z n) + mwt (F q) = mph F n + mwt (F n) + mwt (some z)
        have e2 : mpu F q z n = F n := if_neg (fun h => e h.symm)
        rw [e2]; omega
    · show mph (mpu F q z) n + mwt (mpu F q z n) = mph F n + mwt (F n)
      have e2 : mpu F q z n = F n := if_neg (by omega)
      rw [e2, h2 (by omega)]
