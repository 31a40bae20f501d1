/-! The law's calls, class and reference together. -/
def Inv (σ : zS) : Prop := ∃ p t n x5 x6 G F L c I V s, oR σ.2 p ∧ cR σ.1 p t n x5 x6 G F L c I V s ∧ mR σ.1 t n x5 x6 G F L c I V s
theorem nn_inj {a b : Nat} (ha : a < 2147483648) (hb : b < 2147483648) (h : nn a = nn b) : a = b := by rwa [nn_eq ha hb] at h
theorem nf18 {m : Nat} (h1 : 1 ≤ m) (h2 : m ≤ 8) : ¬ (nn m < 1 ∨ ¬ nn m ≤ 8) := by
  rw [show (1 : Int32) = nn 1 from rfl, show (8 : Int32) = nn 8 from rfl, nn_lt (by omega) (by omega), nn_le (by omega) (by omega)]; omega
theorem nfG {b k : Nat} (h : b < k) (hk : k < 2147483648) : ¬ (nn b < 0 ∨ nn k ≤ nn b) := by
  rw [nn_n0 (by omega), nn_le (by omega) (by omega)]
  intro q
  rcases q with q | q
  · exact q
  · omega
theorem nf8 {b : Nat} (h : b < 8) : ¬ (nn b < 0 ∨ 8 ≤ nn b) := nfG h (by decide)
theorem nf6 {b : Nat} (h : b < 7) : ¬ (nn b < 0 ∨ 6 < nn b) := by
  rw [show (6 : Int32) = nn 6 from rfl, nn_n0 (by omega), nn_lt (by omega) (by omega)]
  intro q
  rcases q with q | q
  · exact q
  · omega
theorem nfN {b : Nat} (h : b ≤ 20000) : ¬ (nn b < 0 ∨ ¬ nn b ≤ 20000) := by
  rw [show (20000 : Int32) = nn 20000 from rfl, nn_n0 (by omega), nn_le (by omega) (by omega)]
  intro q
  rcases q with q | q
  · exact q
  · omega
theorem nfGV {b z k : Nat} (h : b < k) (hk : k < 2147483648) (hz : z < 8) : ¬ (nn b < 0 ∨ nn k ≤ nn b ∨ nn z < 0 ∨ 8 ≤ nn z) := by
  have h1 := nfG h hk
  have h2 := nf8 hz
  intro h3
  rcases h3 with h3 | h3 | h3 | h3
  · exact h1 (Or.inl h3)
  · exact h1 (Or.inr h3)
  · exact h2 (Or.inl h3)
  · exact h2 (Or.inr h3)
theorem i_th {f : zf} {ρ : zo} {Q : Int32 → zS → Prop} {k : Int32} (h : f 183 0 = k) (hq : Q k (f, ρ)) : P_M_thrown 201 183 (f, ρ) Q := by
  unfold P_M_thrown
  simp (disch := (first | assumption | omega)) only [true_and, and_true, zr_u, zi_u, zI_u, Option.some.injEq, exists_eq_left', nn_tn, nn_add, nn_s, nn_2, nn_5, nn_7, nn_8, na0, na2, na3, na4, na5, na6, uf_ne, uf_eq, ur_eq, ur_ne, true_or, or_true, not_true_eq_false, not_false_eq_true, true_implies, false_implies, implies_true, e10, e01, reduceIte, Option.isSome_none, Option.isSome_some, Bool.false_eq_true, bi_t, bi_f, ko_183, h]
  exact hq
theorem i_wipe {σ : zS} {R : Int32 → Int32 → zS → Prop} (h : Inv σ) (hq : ∀ x σ', Inv σ' → R x x σ') : P_C_wipe 201 0 σ (fun x σ1 => P_M_wipe 201 183 σ1 (fun y σ2 => R x y σ2)) := by
  obtain ⟨f, ρ⟩ := σ
  obtain ⟨p, t, n, x5, x6, G, F, L, c, I, V, s, ho, hc, hm⟩ := h
  refine C_wipe ho hc (fun f1 c1 l1 => ?_)
  exact Y_wipe ho.1 (hm.keep l1) (fun f2 m2 h2 => hq _ _ ⟨p, t, 0, x5, x6, G, F, L, c, I, V, s, ho, c1.keep h2, m2⟩)
theorem i_fault {σ : zS} {R : Int32 → Int32 → zS → Prop} (h : Inv σ) (hq : ∀ x σ', Inv σ' → R x x σ') : P_C_fault 201 0 σ (fun x σ1 => P_M_fault 201 183 σ1 (fun y σ2 => R x y σ2)) := by
  obtain ⟨f, ρ⟩ := σ
  obtain ⟨p, t, n, x5, x6, G, F, L, c, I, V, s, ho, hc, hm⟩ := h
  refine C_fault ho hc ?_
  exact Y_fault ho.1 hm (fun f2 m2 h2 => hq _ _ ⟨p, t, n, x5, x6, G, F, L, c, I, V, s, ho, hc.keep h2, m2⟩)
theorem i_place {σ : zS} {R : Int32 → Int32 → zS → Prop} (h : Inv σ) (hq : ∀ x σ', Inv σ' → R x x σ') : P_C_place 201 0 σ (fun x σ1 => P_M_place 201 183 σ1 (fun y σ2 => R x y σ2)) := by
  obtain ⟨f, ρ⟩ := σ
  obtain ⟨p, t, n, x5, x6, G, F, L, c, I, V, s, ho, hc, hm⟩ := h
  refine C_place ho hc ?_
  exact Y_place ho.1 hm (fun f2 m2 h2 => hq _ _ ⟨p, t, n, x5, x6, G, F, L, c, I, V, s, ho, hc.keep h2, m2⟩)
theorem i_asked {σ : zS} {R : Int32 → Int32 → zS → Prop} (h : Inv σ) (hq : ∀ x σ', Inv σ' → R x x σ') : P_C_asked 201 0 σ (fun x σ1 => P_M_asked 201 183 σ1 (fun y σ2 => R x y σ2)) := by
  obtain ⟨f, ρ⟩ := σ
  obtain ⟨p, t, n, x5, x6, G, F, L, c, I, V, s, ho, hc, hm⟩ := h
  refine C_asked ho hc ?_
  exact Y_asked ho.1 hm (fun f2 m2 h2 => hq _ _ ⟨p, t, n, x5, x6, G, F, L, c, I, V, s, ho, hc.keep h2, m2⟩)
theorem i_clear {σ : zS} {R : Int32 → Int32 → zS → Prop} (h : Inv σ) (hq : ∀ x σ', Inv σ' → R x x σ') : P_C_clear 201 0 σ (fun x σ1 => P_M_clear 201 183 σ1 (fun y σ2 => R x y σ2)) := by
  obtain ⟨f, ρ⟩ := σ
  obtain ⟨p, t, n, x5, x6, G, F, L, c, I, V, s, ho, hc, hm⟩ := h
  refine C_clear ho hc (fun f1 c1 l1 => ?_)
  exact Y_clear ho.1 (hm.keep l1) (fun f2 m2 h2 => hq _ _ ⟨p, t, n, x5, x6, G, F, L, 0, I, V, s, ho, c1.keep h2, m2⟩)
theorem i_input {σ : zS} {v : Int32} {R : Int32 → Int32 → zS → Prop} (h : Inv σ) (hq : ∀ x σ', Inv σ' → R x x σ') : P_C_input 201 0 v σ (fun x σ1 => P_M_input 201 183 v σ1 (fun y σ2 => R x y σ2)) := by
  obtain ⟨f, ρ⟩ := σ
  obtain ⟨p, t, n, x5, x6, G, F, L, c, I, V, s, ho, hc, hm⟩ := h
  have c32 := hc.2.2.2.2.2.2.2.1.1.2
  refine C_input ho hc (fun f1 lt c1 l1 => ?_) (fun e => ?_)
  · exact Y_input ho.1 (hm.keep l1) c32 (fun f2 _ m2 h2 => hq _ _ ⟨p, t, n, x5, x6, G, F, L, c + 1, ur I c v, V, s, ho, c1.keep h2, m2⟩) (fun f2 e m2 h2 => absurd e (by omega))
  · exact Y_input ho.1 hm c32 (fun f2 lt m2 h2 => absurd e (by omega)) (fun f2 _ m2 h2 => hq _ _ ⟨p, t, n, x5, x6, G, F, L, c, I, V, s, ho, hc.keep h2, m2⟩)
theorem i_write {σ : zS} {R : Int32 → Int32 → zS → Prop} (h : Inv σ) (hq : ∀ x σ', Inv σ' → R x x σ') : P_C_write 201 0 σ (fun x σ1 => P_M_write 201 183 σ1 (fun y σ2 => R x y σ2)) := by
  obtain ⟨f, ρ⟩ := σ
  obtain ⟨p, t, n, x5, x6, G, F, L, c, I, V, s, ho, hc, hm⟩ := h
  refine C_write ho hc (fun f1 c1 l1 => ?_)
  exact Y_write ho.1 (hm.keep l1) hc.2.2.2.1 hc.2.2.2.2.2.1.1.2.1 (fun f2 m2 h2 => hq _ _ ⟨p, t, n, x5, x6, G, F, ptx G F G.1, c, I, V, s, ho, c1.keep h2, m2⟩)
theorem i_take {σ : zS} {R : Int32 → Int32 → zS → Prop} (h : Inv σ) (hq : ∀ x σ', Inv σ' → R x x σ') : P_C_take 201 0 σ (fun x σ1 => P_M_take 201 183 σ1 (fun y σ2 => R x y σ2)) := by
  obtain ⟨f, ρ⟩ := σ
  obtain ⟨p, t, n, x5, x6, G, F, L, c, I, V, s, ho, hc, hm⟩ := h
  have hl := hc.2.2.2.2.2.2.1.2
  refine C_take ho hc (fun f1 le tk c1 l1 => ?_) (fun nle => ?_)
  · exact Y_take ho.1 (hm.keep l1) hl (fun f2 _ m2 h2 => hq _ _ ⟨p, tkp L, L.length, x5, x6, G, F, L, c, I, V, s, ho, c1.keep h2, m2 _ tk⟩) (fun f2 nle m2 h2 => absurd le nle)
  · exact Y_take ho.1 hm hl (fun f2 le m2 h2 => absurd le nle) (fun f2 _ m2 h2 => hq _ _ ⟨p, t, n, x5, x6, G, F, L, c, I, V, s, ho, hc.keep h2, m2⟩)
theorem i_written {σ : zS} {v : Int32} {R : Int64 → Int64 → zS → Prop} (h : Inv σ) (hq : ∀ x σ', Inv σ' → R x x σ') : P_C_written 201 0 v σ (fun x σ1 => P_M_written 201 183 v σ1 (fun y σ2 => R x y σ2)) := by
  obtain ⟨f, ρ⟩ := σ
  obtain ⟨p, t, n, x5, x6, G, F, L, c, I, V, s, ho, hc, hm⟩ := h
  have hl := hc.2.2.2.2.2.2.1.2
  refine C_written ho hc ?_
  exact Y_written ho.1 hm hl (fun f2 m2 h2 => hq _ _ ⟨p, t, n, x5, x6, G, F, L, c, I, V, s, ho, hc.keep h2, m2⟩)
theorem i_read {σ : zS} {R : Int32 → Int32 → zS → Prop} (h : Inv σ) (hq : ∀ x σ', Inv σ' → R x x σ') : P_C_read 201 0 σ (fun x σ1 => P_M_read 201 183 σ1 (fun y σ2 => R x y σ2)) := by
  obtain ⟨f, ρ⟩ := σ
  obtain ⟨p, t, n, x5, x6, G, F, L, c, I, V, s, ho, hc, hm⟩ := h
  refine C_read ho hc (fun f1 ρ1 G1 F1 e1 o1 _ c1 l1 => ?_) (fun f1 ρ1 e e1 o1 _ c1 l1 => ?_)
  · refine Y_readR o1.1 (hm.keep l1) (fun f2 G2 e2 m2 h2 => ?_) (fun f2 e e2 m2 h2 => ?_)
    · rw [e1] at e2
      cases e2
      exact hq _ _ ⟨342 - p, t, n, 0, -1, G1, F1, L, c, I, V, s, o1, c1.keep h2, m2 F1⟩
    · rw [e1] at e2; cases e2
  · refine Y_readR o1.1 (hm.keep l1) (fun f2 G2 e2 m2 h2 => ?_) (fun f2 e' e2 m2 h2 => ?_)
    · rw [e1] at e2; cases e2
    · rw [e1] at e2
      cases e2
      exact hq _ _ ⟨p, t, n, nn e.1, nn e.2, G, F, L, c, I, V, s, o1, c1.keep h2, m2⟩
theorem i_feed {σ : zS} {a : Int32} {b : Int64} {R : Int32 → Int32 → Int32 → zS → Prop} (h : Inv σ) (hq : ∀ k v σ', Inv σ' → (k = 0 → zl σ' 200 0 = Int32.toInt64 v) → R k v k σ') : P_L_feed 201 0 a b 200 σ (fun k σ1 => P_M_feed 201 183 a b σ1 (fun v σ2 => P_M_thrown 201 183 σ2 (fun th σ3 => R k v th σ3))) := by
  obtain ⟨f, ρ⟩ := σ
  obtain ⟨p, t, n, x5, x6, G, F, L, c, I, V, s, ho, hc, hm⟩ := h
  refine L_feed ho hc (fun z => ?_) (fun m em m1 m8 z => ?_) (fun m f1 em m1 m8 z c1 l1 => ?_)
  · refine Y_feed ho.1 hm (fun f2 _ m2 h2 t2 => i_th t2 ?_) (fun m' f2 em' a1 a2 => ?_) (fun m' f2 em' a1 a2 => ?_)
    · exact hq _ _ _ ⟨p, t, n, x5, x6, G, F, L, c, I, V, s, ho, hc.keep h2, m2⟩ (fun e => absurd e (by decide))
    · subst em'; exact absurd z (nf18 a1 a2)
    · subst em'; exact absurd z (nf18 a1 a2)
  · subst em
    refine Y_feed ho.1 hm (fun f2 z' => absurd z' (nf18 m1 m8)) (fun m' f2 em' a1 a2 z' m2 h2 t2 => i_th t2 ?_) (fun m' f2 em' a1 a2 z' => ?_)
    · exact hq _ _ _ ⟨p, t, n, x5, x6, G, F, L, c, I, V, s, ho.ul 200 0 _, hc.keep h2, m2⟩ (fun _ => ul_eq _ _ _ _)
    · have := nn_inj (by omega) (by omega) em'
      subst this; exact absurd z' z
  · subst em
    have hC' := ho.1
    refine Y_feed hC' (hm.keep l1) (fun f2 z' => absurd z' (nf18 m1 m8)) (fun m' f2 em' a1 a2 z' => ?_) (fun m' f2 em' a1 a2 z' m2 h2 t2 => i_th t2 ?_)
    · have := nn_inj (by omega) (by omega) em'
      subst this; exact absurd z z'
    · have := nn_inj (by omega) (by omega) em'
      subst this
      exact hq _ _ _ ⟨p, _, _, x5, x6, G, F, L, c, I, V, s, ho.ul 200 0 _, c1.keep h2, m2⟩ (fun _ => ul_eq _ _ _ _)
theorem i_comes {σ : zS} {x : Int32} {R : Int32 → Int32 → Int32 → zS → Prop} (h : Inv σ) (hq : ∀ k v σ', Inv σ' → (k = 0 → ∃ bb, v = bi bb ∧ zl σ' 200 0 = bl bb) → R k v k σ') : P_L_comes 201 0 x 200 σ (fun k σ1 => P_M_comes 201 183 x σ1 (fun v σ2 => P_M_thrown 201 183 σ2 (fun th σ3 => R k v th σ3))) := by
  obtain ⟨f, ρ⟩ := σ
  obtain ⟨p, t, n, x5, x6, G, F, L, c, I, V, s, ho, hc, hm⟩ := h
  have hG := hc.2.2.2.1
  have hn := hG.2.1
  have hL := hc.2.2.2.2.2.1.1.2.1
  have hm' := hm
  obtain ⟨m1, m2, m3, m4, m5, m6, m7, m8⟩ := hm'
  refine L_comes ho hc (fun z => ?_) (fun b hb e => ?_)
  · refine M_comes ho.1 hG m3 hL m4 (fun _ => i_th (k := 1) (by simp (disch := (first | assumption | omega)) only [true_and, and_true, zr_u, zi_u, zI_u, Option.some.injEq, exists_eq_left', nn_tn, nn_add, nn_s, nn_2, nn_5, nn_7, nn_8, na0, na2, na3, na4, na5, na6, uf_ne, uf_eq, ur_eq, ur_ne, true_or, or_true, not_true_eq_false, not_false_eq_true, true_implies, false_implies, implies_true, e10, e01, reduceIte, Option.isSome_none, Option.isSome_some, Bool.false_eq_true, bi_t, bi_f]) ?_) (fun b f2 hb e => ?_)
    · exact hq _ _ _ ⟨p, t, n, x5, x6, G, F, L, c, I, V, s, ho, hc.keep (hi0 f 1), hm.z 1⟩ (fun e => absurd e (by decide))
    · subst e; exact absurd z (nfG hb (by omega))
  · subst e
    refine M_comes (ρ := ul ρ 200 0 (bl (F b).isSome)) ho.1 hG m3 hL m4 (fun z => absurd z (nfG hb (by omega))) (fun b' f2 hb' e' a t2 k2 => i_th t2 ?_)
    have := nn_inj (by omega) (by omega) e'
    subst this
    exact hq _ _ _ ⟨p, t, n, x5, x6, G, F, L, c, I, V, s, ho.ul 200 0 _, hc.keep a.hi, hm.P a k2⟩ (fun _ => ⟨_, rfl, ul_eq _ _ _ _⟩)
theorem i_known {σ : zS} {x y e : Int32} {R : Int32 → Int32 → Int32 → zS → Prop} (h : Inv σ) (hq : ∀ k v σ', Inv σ' → (k = 0 → zl σ' 200 0 = Int32.toInt64 v) → R k v k σ') : P_L_known 201 0 x y e 200 σ (fun k σ1 => P_M_known 201 183 x y e σ1 (fun v σ2 => P_M_thrown 201 183 σ2 (fun th σ3 => R k v th σ3))) := by
  obtain ⟨f, ρ⟩ := σ
  obtain ⟨p, t, n, x5, x6, G, F, L, c, I, V, s, ho, hc, hm⟩ := h
  have hG := hc.2.2.2.1
  have hn := hG.2.1
  have hL := hc.2.2.2.2.2.1.1.2.1
  have hm' := hm
  obtain ⟨m1, m2, m3, m4, m5, m6, m7, m8⟩ := hm'
  refine L_known ho hc (fun z => ?_) (fun b w hb e1 hw e2 => ?_)
  · refine M_known ho.1 hG m3 hL m4 (fun _ => i_th (k := 1) (by simp (disch := (first | assumption | omega)) only [true_and, and_true, zr_u, zi_u, zI_u, Option.some.injEq, exists_eq_left', nn_tn, nn_add, nn_s, nn_2, nn_5, nn_7, nn_8, na0, na2, na3, na4, na5, na6, uf_ne, uf_eq, ur_eq, ur_ne, true_or, or_true, not_true_eq_false, not_false_eq_true, true_implies, false_implies, implies_true, e10, e01, reduceIte, Option.isSome_none, Option.isSome_some, Bool.false_eq_true, bi_t, bi_f]) ?_) (fun b w f2 hb e1 hw e2 => ?_)
    · exact hq _ _ _ ⟨p, t, n, x5, x6, G, F, L, c, I, V, s, ho, hc.keep (hi0 f 1), hm.z 1⟩ (fun e => absurd e (by decide))
    · subst e1 e2; exact absurd z (nfGV hb (by omega) hw)
  · subst e1 e2
    refine M_known (ρ := ul ρ 200 0 (Int32.toInt64 (kw (mvw G F b e) w))) ho.1 hG m3 hL m4 (fun z => absurd z (nfGV hb (by omega) hw)) (fun b' w' f2 hb' e1' hw' e2' a t2 k2 => i_th t2 ?_)
    have q1 := nn_inj (by omega) (by omega) e1'
    have q2 := nn_inj (by omega) (by omega) e2'
    subst q1 q2
    refine hq _ _ _ ⟨p, t, n, x5, x6, G, F, L, c, I, V, s, ho.ul 200 0 _, hc.keep a.hi, hm.P a k2⟩ (fun _ => ?_)
    refine (ul_eq _ _ _ _).trans ?_
    congr 1
theorem i_number {σ : zS} {x y e : Int32} {R : Int32 → Int32 → Int32 → zS → Prop} (h : Inv σ) (hq : ∀ k v σ', Inv σ' → (k = 0 → zl σ' 200 0 = Int32.toInt64 v) → R k v k σ') : P_L_number 201 0 x y e 200 σ (fun k σ1 => P_M_number 201 183 x y e σ1 (fun v σ2 => P_M_thrown 201 183 σ2 (fun th σ3 => R k v th σ3))) := by
  obtain ⟨f, ρ⟩ := σ
  obtain ⟨p, t, n, x5, x6, G, F, L, c, I, V, s, ho, hc, hm⟩ := h
  have hG := hc.2.2.2.1
  have hn := hG.2.1
  have hL := hc.2.2.2.2.2.1.1.2.1
  have hm' := hm
  obtain ⟨m1, m2, m3, m4, m5, m6, m7, m8⟩ := hm'
  refine L_number ho hc (fun z => ?_) (fun b w hb e1 hw e2 => ⟨fun v k ev ek => ?_, fun nv => ?_⟩)
  · refine M_number ho.1 hG m3 hL m4 (fun _ => i_th (k := 1) (by simp (disch := (first | assumption | omega)) only [true_and, and_true, zr_u, zi_u, zI_u, Option.some.injEq, exists_eq_left', nn_tn, nn_add, nn_s, nn_2, nn_5, nn_7, nn_8, na0, na2, na3, na4, na5, na6, uf_ne, uf_eq, ur_eq, ur_ne, true_or, or_true, not_true_eq_false, not_false_eq_true, true_implies, false_implies, implies_true, e10, e01, reduceIte, Option.isSome_none, Option.isSome_some, Bool.false_eq_true, bi_t, bi_f]) ?_) (fun b w f2 hb e1 hw e2 => ?_)
    · exact hq _ _ _ ⟨p, t, n, x5, x6, G, F, L, c, I, V, s, ho, hc.keep (hi0 f 1), hm.z 1⟩ (fun e => absurd e (by decide))
    · subst e1 e2; exact absurd z (nfGV hb (by omega) hw)
  · subst e1 e2
    refine M_number (ρ := ul ρ 200 0 (Int32.toInt64 k)) ho.1 hG m3 hL m4 (fun z => absurd z (nfGV hb (by omega) hw)) (fun b' w' f2 hb' e1' hw' e2' a k2 => ?_)
    have q1 := nn_inj (by omega) (by omega) e1'
    have q2 := nn_inj (by omega) (by omega) e2'
    subst q1 q2
    refine ⟨fun v' k' ev' ek' t2 => i_th t2 ?_, fun nv t2 => ?_⟩
    · rw [ev] at ev'
      cases ev'
      rw [ek] at ek'
      cases ek'
      exact hq _ _ _ ⟨p, t, n, x5, x6, G, F, L, c, I, V, s, ho.ul 200 0 _, hc.keep a.hi, hm.P a k2⟩ (fun _ => ul_eq _ _ _ _)
    · have := nv v ev
      rw [ek] at this; cases this
  · subst e1 e2
    refine M_number ho.1 hG m3 hL m4 (fun z => absurd z (nfGV hb (by omega) hw)) (fun b' w' f2 hb' e1' hw' e2' a k2 => ?_)
    have q1 := nn_inj (by omega) (by omega) e1'
    have q2 := nn_inj (by omega) (by omega) e2'
    subst q1 q2
    refine ⟨fun v' k' ev' ek' t2 => ?_, fun _ t2 => i_th t2 ?_⟩
    · have := nv v' ev'
      rw [ek'] at this; cases this
    · exact hq _ _ _ ⟨p, t, n, x5, x6, G, F, L, c, I, V, s, ho, hc.keep a.hi, hm.P a k2⟩ (fun e => absurd e (by decide))
theorem i_told {σ : zS} {x : Int32} {R : Int32 → Int32 → Int32 → zS → Prop} (h : Inv σ) (hq : ∀ k v σ', Inv σ' → (k = 0 → zl σ' 200 0 = Int32.toInt64 v) → R k v k σ') : P_L_told 201 0 x 200 σ (fun k σ1 => P_M_told 201 183 x σ1 (fun v σ2 => P_M_thrown 201 183 σ2 (fun th σ3 => R k v th σ3))) := by
  obtain ⟨f, ρ⟩ := σ
  obtain ⟨p, t, n, x5, x6, G, F, L, c, I, V, s, ho, hc, hm⟩ := h
  have hG := hc.2.2.2.1
  have hL := hc.2.2.2.2.2.1.1.2.1
  have hm' := hm
  obtain ⟨m1, m2, m3, m4, m5, m6, m7, m8⟩ := hm'
  refine L_told ho hc (fun z => ?_) (fun q hb e => ?_)
  · refine M_told ho.1 hG m3 hL m4 (fun _ => i_th (k := 1) (by simp (disch := (first | assumption | omega)) only [true_and, and_true, zr_u, zi_u, zI_u, Option.some.injEq, exists_eq_left', nn_tn, nn_add, nn_s, nn_2, nn_5, nn_7, nn_8, na0, na2, na3, na4, na5, na6, uf_ne, uf_eq, ur_eq, ur_ne, true_or, or_true, not_true_eq_false, not_false_eq_true, true_implies, false_implies, implies_true, e10, e01, reduceIte, Option.isSome_none, Option.isSome_some, Bool.false_eq_true, bi_t, bi_f]) ?_) (fun b f2 hb e => ?_)
    · exact hq _ _ _ ⟨p, t, n, x5, x6, G, F, L, c, I, V, s, ho, hc.keep (hi0 f 1), hm.z 1⟩ (fun e => absurd e (by decide))
    · subst e; exact absurd z (nf6 hb)
  · subst e
    refine M_told (ρ := ul ρ 200 0 (Int32.toInt64 (nn (mtl G F q)))) ho.1 hG m3 hL m4 (fun z => absurd z (nf6 hb)) (fun b' f2 hb' e' a t2 k2 => i_th t2 ?_)
    have := nn_inj (by omega) (by omega) e'
    subst this
    exact hq _ _ _ ⟨p, t, n, x5, x6, G, F, L, c, I, V, s, ho.ul 200 0 _, hc.keep a.hi, hm.P a k2⟩ (fun _ => ul_eq _ _ _ _)
theorem i_value {σ : zS} {x : Int32} {R : Int32 → Int32 → Int32 → zS → Prop} (h : Inv σ) (hq : ∀ k v σ', Inv σ' → (k = 0 → zl σ' 200 0 = Int32.toInt64 v) → R k v k σ') : P_L_value 201 0 x 200 σ (fun k σ1 => P_M_value 201 183 x σ1 (fun v σ2 => P_M_thrown 201 183 σ2 (fun th σ3 => R k v th σ3))) := by
  obtain ⟨f, ρ⟩ := σ
  obtain ⟨p, t, n, x5, x6, G, F, L, c, I, V, s, ho, hc, hm⟩ := h
  refine L_value ho hc (fun z => ?_) (fun q hb e => ?_)
  · refine Y_value ho.1 hm (fun f2 _ m2 h2 t2 => i_th t2 ?_) (fun b f2 hb e => ?_)
    · exact hq _ _ _ ⟨p, t, n, x5, x6, G, F, L, c, I, V, s, ho, hc.keep h2, m2⟩ (fun e => absurd e (by decide))
    · subst e; exact absurd z (nf8 hb)
  · subst e
    refine Y_value ho.1 hm (fun f2 z => absurd z (nf8 hb)) (fun b' f2 hb' e' m2 h2 t2 => i_th t2 ?_)
    have := nn_inj (by omega) (by omega) e'
    subst this
    exact hq _ _ _ ⟨p, t, n, x5, x6, G, F, L, c, I, V, s, ho.ul 200 0 _, hc.keep h2, m2⟩ (fun _ => ul_eq _ _ _ _)
theorem i_run {σ : zS} {x : Int32} {R : Int32 → Int32 → Int32 → zS → Prop} (h : Inv σ) (hq : ∀ k v σ', Inv σ' → (k = 0 → zl σ' 200 0 = Int32.toInt64 v) → R k v k σ') : P_L_run 201 0 x 200 σ (fun k σ1 => P_M_run 201 183 x σ1 (fun v σ2 => P_M_thrown 201 183 σ2 (fun th σ3 => R k v th σ3))) := by
  obtain ⟨f, ρ⟩ := σ
  obtain ⟨p, t, n, x5, x6, G, F, L, c, I, V, s, ho, hc, hm⟩ := h
  have hG := hc.2.2.2.1
  have c32 := hc.2.2.2.2.2.2.2.1.1.2
  refine L_run ho hc (fun z => ?_) (fun N f1 hN e c1 l1 => ?_)
  · refine Y_run ho.1 hm hG c32 (fun f2 _ m2 h2 t2 => i_th t2 ?_) (fun N f2 hN e => ?_)
    · exact hq _ _ _ ⟨p, t, n, x5, x6, G, F, L, c, I, V, s, ho, hc.keep h2, m2⟩ (fun e => absurd e (by decide))
    · subst e; exact absurd z (nfN hN)
  · subst e
    refine Y_run ho.1 (hm.keep l1) hG c32 (fun f2 z => absurd z (nfN hN)) (fun N' f2 hN' e' m2 h2 t2 => i_th t2 ?_)
    have := nn_inj (by omega) (by omega) e'
    subst this
    exact hq _ _ _ ⟨p, t, n, x5, x6, G, F, L, c, I, _, _, ho.ul 200 0 _, c1.keep h2, m2⟩ (fun _ => ul_eq _ _ _ _)
