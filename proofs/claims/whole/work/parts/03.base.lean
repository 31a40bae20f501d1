/-! The pure heap: cells by numbers, in the order in which they are made; ints, references (numbers of cells), longs by slots. A walk over it (zG): the machine's own W, with the heap, the locals and the stack said by the pure state. -/
abbrev zS : Type := (Nat → Nat → Int32) × (Nat → Nat → Option Nat) × (Nat → Nat → Int64)
def zi (σ : zS) (k j : Nat) : Int32 := σ.1 k j
def zr (σ : zS) (k j : Nat) : Option Nat := σ.2.1 k j
def zl (σ : zS) (k j : Nat) : Int64 := σ.2.2 k j
def zI (σ : zS) (k j : Nat) (x : Int32) : zS := (fun a b => if a = k ∧ b = j then x else σ.1 a b, σ.2)
def zR (σ : zS) (k j : Nat) (x : Option Nat) : zS := (σ.1, fun a b => if a = k ∧ b = j then x else σ.2.1 a b, σ.2.2)
def zL (σ : zS) (k j : Nat) (x : Int64) : zS := (σ.1, σ.2.1, fun a b => if a = k ∧ b = j then x else σ.2.2 a b)
/-- a cell just made -/
def zN (σ : zS) (k : Nat) : zS := (fun a b => if a = k then 0 else σ.1 a b, fun a b => if a = k then none else σ.2.1 a b, fun a b => if a = k then 0 else σ.2.2 a b)
theorem zi_I (σ : zS) (k j : Nat) (x : Int32) (a b : Nat) : zi (zI σ k j x) a b = if a = k ∧ b = j then x else zi σ a b := rfl
theorem zi_R (σ : zS) (k j : Nat) (x : Option Nat) (a b : Nat) : zi (zR σ k j x) a b = zi σ a b := rfl
theorem zi_L (σ : zS) (k j : Nat) (x : Int64) (a b : Nat) : zi (zL σ k j x) a b = zi σ a b := rfl
theorem zi_N (σ : zS) (k a b : Nat) : zi (zN σ k) a b = if a = k then 0 else zi σ a b := rfl
theorem zr_I (σ : zS) (k j : Nat) (x : Int32) (a b : Nat) : zr (zI σ k j x) a b = zr σ a b := rfl
theorem zr_R (σ : zS) (k j : Nat) (x : Option Nat) (a b : Nat) : zr (zR σ k j x) a b = if a = k ∧ b = j then x else zr σ a b := rfl
theorem zr_L (σ : zS) (k j : Nat) (x : Int64) (a b : Nat) : zr (zL σ k j x) a b = zr σ a b := rfl
theorem zr_N (σ : zS) (k a b : Nat) : zr (zN σ k) a b = if a = k then none else zr σ a b := rfl
theorem zl_I (σ : zS) (k j : Nat) (x : Int32) (a b : Nat) : zl (zI σ k j x) a b = zl σ a b := rfl
theorem zl_R (σ : zS) (k j : Nat) (x : Option Nat) (a b : Nat) : zl (zR σ k j x) a b = zl σ a b := rfl
theorem zl_L (σ : zS) (k j : Nat) (x : Int64) (a b : Nat) : zl (zL σ k j x) a b = if a = k ∧ b = j then x else zl σ a b := rfl
theorem zl_N (σ : zS) (k a b : Nat) : zl (zN σ k) a b = if a = k then 0 else zl σ a b := rfl
theorem zS_ext {σ τ : zS} (h1 : ∀ a b, zi σ a b = zi τ a b) (h2 : ∀ a b, zr σ a b = zr τ a b) (h3 : ∀ a b, zl σ a b = zl τ a b) : σ = τ := by
  obtain ⟨s1, s2, s3⟩ := σ
  obtain ⟨t1, t2, t3⟩ := τ
  have e1 : s1 = t1 := funext fun a => funext fun b => h1 a b
  have e2 : s2 = t2 := funext fun a => funext fun b => h2 a b
  have e3 : s3 = t3 := funext fun a => funext fun b => h3 a b
  subst e1; subst e2; subst e3; rfl
theorem zI_I (σ : zS) (k j : Nat) (x y : Int32) : zI (zI σ k j x) k j y = zI σ k j y := by
  refine zS_ext (fun a b => ?_) (fun _ _ => rfl) (fun _ _ => rfl)
  simp only [zi_I]; split <;> rfl
theorem zI_self (σ : zS) (k j : Nat) : zI σ k j (zi σ k j) = σ := by
  refine zS_ext (fun a b => ?_) (fun _ _ => rfl) (fun _ _ => rfl)
  simp only [zi_I]
  split
  · next h => rw [h.1, h.2]
  · rfl
theorem zI_comm (σ : zS) {k j k' j' : Nat} (x y : Int32) (h : k ≠ k' ∨ j ≠ j') : zI (zI σ k j x) k' j' y = zI (zI σ k' j' y) k j x := by
  refine zS_ext (fun a b => ?_) (fun _ _ => rfl) (fun _ _ => rfl)
  simp only [zi_I]
  by_cases h1 : a = k' ∧ b = j' <;> by_cases h2 : a = k ∧ b = j
  · exfalso; omega
  · rw [if_pos h1, if_neg h2, if_pos h1]
  · rw [if_neg h1, if_pos h2, if_pos h2]
  · rw [if_neg h1, if_neg h2, if_neg h2, if_neg h1]
/-- the value of a slot: 0 an int, 1 a reference, 2 a long -/
def zv (base : Nat) (σ : zS) (k j ty : Nat) : Value := if ty = 0 then .int (zi σ k j) else if ty = 1 then va_rf ((zr σ k j).map (base + ·)) else .long (zl σ k j)
def ztr (base : Nat) (v : Value) : Value := match v with
  | .ref k => .ref (base + k)
  | .retAddr a => .ref a
  | w => w
theorem ztr_cat (base : Nat) (v : Value) : (ztr base v).category = v.category := by cases v <;> rfl
theorem ztr_sum (base : Nat) : ∀ st : List Value, ((st.map (ztr base)).map fun v => v.category).sum = (st.map fun v => v.category).sum
  | [] => rfl
  | v :: r => by
    simp only [List.map_cons, List.sum_cons, ztr_cat]
    rw [ztr_sum base r]
def zAt (D : va_G) (cA : Nat → ClassId) (base : Nat) (σ : zS) (k : Nat) (H : Heap) : Prop :=
  if (zkd k).1 < 10 then t_OB (base + k) (D.1 (zkd k).1) (znf (zkd k).1) (D.2 (zkd k).1) H (fun j => zv base σ k j (zsty (zkd k).1 j))
  else H[base + k]? = some (arrV (cA (zkd k).1) (zkd k).2 (fun j => zv base σ k j (zsty (zkd k).1 0)))
theorem zAt.lt {D : va_G} {cA : Nat → ClassId} {base : Nat} {σ : zS} {k : Nat} {H : Heap} (h : zAt D cA base σ k H) : base + k < H.size := by
  unfold zAt at h
  split at h
  · obtain ⟨cell, h1, -⟩ := h
    exact (Array.getElem?_eq_some_iff.mp h1).1
  · exact (Array.getElem?_eq_some_iff.mp h).1
theorem zv_same {base : Nat} {σ σ' : zS} {k : Nat} (h : ∀ j, zi σ' k j = zi σ k j ∧ zr σ' k j = zr σ k j ∧ zl σ' k j = zl σ k j) (j ty : Nat) : zv base σ' k j ty = zv base σ k j ty := by
  unfold zv
  rw [(h j).1, (h j).2.1, (h j).2.2]
theorem zAt.kept {D : va_G} {cA : Nat → ClassId} {base : Nat} {σ σ' : zS} {k : Nat} {H H1 : Heap} (h : zAt D cA base σ k H) (hq : H1[base + k]? = H[base + k]?) (hs : ∀ j, zi σ' k j = zi σ k j ∧ zr σ' k j = zr σ k j ∧ zl σ' k j = zl σ k j) : zAt D cA base σ' k H1 := by
  unfold zAt at h ⊢
  simp only [zv_same hs]
  split
  · next hc =>
    rw [if_pos hc] at h
    exact h.kept hq
  · next hc =>
    rw [if_neg hc] at h
    rw [hq]; exact h
/-- the cells that are ours -/
def zA (base : Nat) : Nat → Prop := fun q => base ≤ q ∧ q < base + 201
/-- the world: n cells from base on; where ex, they are the last ones of the heap -/
def zW (D : va_G) (cA : Nat → ClassId) (base n : Nat) (ex : Bool) (σ : zS) (H : Heap) : Prop := (∀ k, k < n → zAt D cA base σ k H) ∧ (ex = true → H.size = base + n) ∧ n ≤ 201
theorem zkd_lt {k : Nat} (h : (zkd k).1 < 90) : k < 201 := by
  by_cases hk : k < 201
  · exact hk
  · exfalso
    unfold zkd at h
    rw [if_neg (show ¬ k < 20 by omega), if_neg (show ¬ k < 164 by omega), List.getD_eq_getElem?_getD, List.getElem?_eq_none (by show 37 ≤ k - 164; omega)] at h
    exact absurd h (by decide)
theorem zW.in {D : va_G} {cA : Nat → ClassId} {base n : Nat} {ex : Bool} {σ : zS} {H : Heap} (h : zW D cA base n ex σ H) {k : Nat} (hk : k < n) : zA base (base + k) := ⟨Nat.le_add_right _ _, by have := h.2.2; omega⟩
theorem zW.set {D : va_G} {cA : Nat → ClassId} {base n : Nat} {ex : Bool} {σ σ' : zS} {k : Nat} {H H1 : Heap} (h : zW D cA base n ex σ H) (hs : ∀ a, a ≠ k → ∀ j, zi σ' a j = zi σ a j ∧ zr σ' a j = zr σ a j ∧ zl σ' a j = zl σ a j) (hz : H1.size = H.size) (ho : ∀ q : Nat, q ≠ base + k → H1[q]? = H[q]?) (hn : zAt D cA base σ' k H1) : zW D cA base n ex σ' H1 := by
  refine ⟨fun a ha => ?_, fun he => by rw [hz]; exact h.2.1 he, h.2.2⟩
  by_cases e : a = k
  · subst e; exact hn
  · exact (h.1 a ha).kept (ho _ (by omega)) (hs a e)
theorem zI_off {σ : zS} {k j : Nat} {x : Int32} : ∀ a, a ≠ k → ∀ b, zi (zI σ k j x) a b = zi σ a b ∧ zr (zI σ k j x) a b = zr σ a b ∧ zl (zI σ k j x) a b = zl σ a b := by
  intro a ha b
  refine ⟨?_, rfl, rfl⟩
  rw [zi_I, if_neg (fun h => ha h.1)]
theorem zR_off {σ : zS} {k j : Nat} {x : Option Nat} : ∀ a, a ≠ k → ∀ b, zi (zR σ k j x) a b = zi σ a b ∧ zr (zR σ k j x) a b = zr σ a b ∧ zl (zR σ k j x) a b = zl σ a b := by
  intro a ha b
  refine ⟨rfl, ?_, rfl⟩
  rw [zr_R, if_neg (fun h => ha h.1)]
theorem zL_off {σ : zS} {k j : Nat} {x : Int64} : ∀ a, a ≠ k → ∀ b, zi (zL σ k j x) a b = zi σ a b ∧ zr (zL σ k j x) a b = zr σ a b ∧ zl (zL σ k j x) a b = zl σ a b := by
  intro a ha b
  refine ⟨rfl, rfl, ?_⟩
  rw [zl_L, if_neg (fun h => ha h.1)]
theorem zN_off {σ : zS} {k : Nat} : ∀ a, a ≠ k → ∀ b, zi (zN σ k) a b = zi σ a b ∧ zr (zN σ k) a b = zr σ a b ∧ zl (zN σ k) a b = zl σ a b := by
  intro a ha b
  refine ⟨?_, ?_, ?_⟩
  · rw [zi_N, if_neg ha]
  · rw [zr_N, if_neg ha]
  · rw [zl_N, if_neg ha]
/-- the locals: what is known of them, by their places -/
def zLs (base nL : Nat) (ls : List (Option Value)) (la : Array Slot) : Prop := la.size = nL ∧ lv_wf la ∧ ∀ (i : Nat) (v : Value), ls[i]? = some (some v) → la[i]? = some (.val (ztr base v))
def zlist (base : Nat) (ls : List (Option Value)) : List (Nat × Value) := (List.range ls.length).filterMap fun i => match ls[i]? with
  | some (some v) => some (i, ztr base v)
  | _ => none
theorem zlist_mem {base : Nat} {ls : List (Option Value)} {q : Nat × Value} : q ∈ zlist base ls ↔ ∃ v, ls[q.1]? = some (some v) ∧ q.2 = ztr base v := by
  unfold zlist
  rw [List.mem_filterMap]
  constructor
  · rintro ⟨i, -, h⟩
    split at h
    · next v hv =>
      cases h
      exact ⟨v, hv, rfl⟩
    · cases h
  · rintro ⟨v, h1, h2⟩
    refine ⟨q.1, List.mem_range.mpr ?_, ?_⟩
    · exact (List.getElem?_eq_some_iff.mp h1).1
    · obtain ⟨a, b⟩ := q
      simp only at h1 h2 ⊢
      rw [h1, h2]
theorem zLs.has {base nL : Nat} {ls : List (Option Value)} {la : Array Slot} (h : zLs base nL ls la) : lv_has la nL (zlist base ls) := ⟨h.1, h.2.1, fun q hq => by
  obtain ⟨v, h1, h2⟩ := zlist_mem.mp hq
  rw [h2]
  exact h.2.2 _ _ h1⟩
theorem zLs.at {base nL : Nat} {ls : List (Option Value)} {la : Array Slot} (h : zLs base nL ls la) {i : Nat} {v : Value} (hi : ls[i]? = some (some v)) : la[i]? = some (.val (ztr base v)) := h.2.2 i v hi
/-- what stands below the place i isn't a long -/
def zlow (ls : List (Option Value)) (i : Nat) : Bool := match i with
  | 0 => true
  | k + 1 => match ls[k]? with
    | some (some v) => v.category != 2
    | _ => true
theorem zLs.put1 {base nL : Nat} {ls : List (Option Value)} {la' : Array Slot} {i : Nat} {v : Value} (hlow : zlow ls i = true) (h : lv_has la' nL ((i, ztr base v) :: (zlist base ls).filter (fun q => !(q.1 == i) && !(q.1 + 1 == i && q.2.category == 2)))) : zLs base nL (ls.set i (some v)) la' := by
  refine ⟨h.1, h.2.1, fun a w hw => ?_⟩
  by_cases e : a = i
  · subst e
    have hl : a < ls.length := by
      have := (List.getElem?_eq_some_iff.mp hw).1
      simpa using this
    rw [List.getElem?_set_self hl] at hw
    cases hw
    exact h.2.2 (a, ztr base v) List.mem_cons_self
  · rw [List.getElem?_set_ne (Ne.symm e)] at hw
    refine h.2.2 (a, ztr base w) (List.mem_cons_of_mem _ (List.mem_filter.mpr ⟨zlist_mem.mpr ⟨w, hw, rfl⟩, ?_⟩))
    simp only [Bool.and_eq_true, Bool.not_eq_true', beq_eq_false_iff_ne, ne_eq, Bool.and_eq_false_iff]
    refine ⟨e, ?_⟩
    by_cases e2 : a + 1 = i
    · right
      subst e2
      simp only [zlow, hw] at hlow
      rw [ztr_cat]
      simpa using hlow
    · exact Or.inl e2
theorem zLs.put2 {base nL : Nat} {ls : List (Option Value)} {la' : Array Slot} {i : Nat} {v : Value} (hlow : zlow ls i = true) (h : lv_has la' nL ((i, ztr base v) :: (zlist base ls).filter (fun q => !(q.1 == i) && (!(q.1 == i + 1) && !(q.1 + 1 == i && q.2.category == 2))))) : zLs base nL ((ls.set i (some v)).set (i + 1) none) la' := by
  refine ⟨h.1, h.2.1, fun a w hw => ?_⟩
  by_cases e1 : a = i + 1
  · subst e1
    rw [List.getElem?_set] at hw
    simp at hw
  rw [List.getElem?_set_ne (Ne.symm e1)] at hw
  by_cases e : a = i
  · subst e
    have hl : a < ls.length := by
      have := (List.getElem?_eq_some_iff.mp hw).1
      simpa using this
    rw [List.getElem?_set_self hl] at hw
    cases hw
    exact h.2.2 (a, ztr base v) List.mem_cons_self
  · rw [List.getElem?_set_ne (Ne.symm e)] at hw
    refine h.2.2 (a, ztr base w) (List.mem_cons_of_mem _ (List.mem_filter.mpr ⟨zlist_mem.mpr ⟨w, hw, rfl⟩, ?_⟩))
    simp only [Bool.and_eq_true, Bool.not_eq_true', beq_eq_false_iff_ne, ne_eq, Bool.and_eq_false_iff]
    refine ⟨e, e1, ?_⟩
    by_cases e2 : a + 1 = i
    · right
      subst e2
      simp only [zlow, hw] at hlow
      rw [ztr_cat]
      simpa using hlow
    · exact Or.inl e2
/-- fewer known locals -/
def zle : List (Option Value) → List (Option Value) → Prop
  | [], _ => True
  | none :: r, _ :: q => zle r q
  | none :: r, [] => zle r []
  | some v :: r, w :: q => w = some v ∧ zle r q
  | some _ :: _, [] => False
theorem zle_at : ∀ {l' l : List (Option Value)}, zle l' l → ∀ (i : Nat) (v : Value), l'[i]? = some (some v) → l[i]? = some (some v)
  | [], _, _, i, v, h => by simp at h
  | none :: r, [], hl, i, v, h => by
    cases i with
    | zero => simp at h
    | succ i =>
      rw [List.getElem?_cons_succ] at h
      have := zle_at (l' := r) (l := []) hl i v h
      simp at this
  | none :: r, _ :: q, hl, i, v, h => by
    cases i with
    | zero => simp at h
    | succ i =>
      rw [List.getElem?_cons_succ] at h ⊢
      exact zle_at (l' := r) (l := q) hl i v h
  | some w :: r, [], hl, i, v, h => False.elim hl
  | some w :: r, z :: q, hl, i, v, h => by
    obtain ⟨e, hl⟩ := hl
    cases i with
    | zero =>
      rw [List.getElem?_cons_zero] at h ⊢
      rw [e]; exact h
    | succ i =>
      rw [List.getElem?_cons_succ] at h ⊢
      exact zle_at (l' := r) (l := q) hl i v h
theorem zLs.le {base nL : Nat} {ls ls' : List (Option Value)} {la : Array Slot} (h : zLs base nL ls la) (hl : zle ls' ls) : zLs base nL ls' la := ⟨h.1, h.2.1, fun i v hv => h.2.2 i v (zle_at hl i v hv)⟩
/-- the locals with which a method begins -/
def zar : List Value → List (Option Value)
  | [] => []
  | v :: vs => if v.category = 2 then some v :: none :: zar vs else some v :: zar vs
theorem zar_mem (base : Nat) : ∀ (av : List Value) (o i : Nat) (v : Value), (zar av)[i]? = some (some v) → (o + i, ztr base v) ∈ lv_args o (av.map (ztr base))
  | [], o, i, v, h => by simp [zar] at h
  | w :: vs, o, i, v, h => by
    simp only [List.map_cons, lv_args, ztr_cat]
    unfold zar at h
    by_cases hc : w.category = 2
    · rw [if_pos hc] at h
      rw [if_pos hc]
      match i, h with
      | 0, h =>
        rw [List.getElem?_cons_zero] at h
        cases h
        exact List.mem_cons_self
      | 1, h => simp at h
      | k + 2, h =>
        rw [List.getElem?_cons_succ, List.getElem?_cons_succ] at h
        have := zar_mem base vs (o + 2) k v h
        refine List.mem_cons_of_mem _ ?_
        rw [show o + (k + 2) = o + 2 + k by omega]
        exact this
    · rw [if_neg hc] at h
      rw [if_neg hc]
      match i, h with
      | 0, h =>
        rw [List.getElem?_cons_zero] at h
        cases h
        exact List.mem_cons_self
      | k + 1, h =>
        rw [List.getElem?_cons_succ] at h
        have := zar_mem base vs (o + 1) k v h
        refine List.mem_cons_of_mem _ ?_
        rw [show o + (k + 1) = o + 1 + k by omega]
        exact this
theorem zar_len (base : Nat) : ∀ av : List Value, (lg_sl (av.map (ztr base))).length = (zar av).length
  | [] => rfl
  | v :: vs => by
    have ih := zar_len base vs
    simp only [List.map_cons, lg_sl, List.flatMap_cons, ztr_cat, List.length_append] at ih ⊢
    unfold zar
    by_cases hc : v.category = 2
    · simp only [if_pos hc, List.length_cons, List.length_nil]
      rw [ih]; omega
    · simp only [if_neg hc, List.length_cons, List.length_nil]
      rw [ih]; omega
