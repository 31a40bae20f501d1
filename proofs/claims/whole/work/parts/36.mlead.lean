/-! Steps of facts: a block's flow joins its goals. -/
def mjs (F : mF) (w : mV) : List Nat → mF
  | [] => F
  | q :: r => mjs (mpu F q (mjo (F q) w)) w r
def mstp (G : mG) (F : mF) (b : Nat) : mF := match F b with
  | none => F
  | some v => mjs F (mfb G b v) (msu (G.2.2.2.2 b) (mfb G b v))
theorem mpu_self {F : mF} {q : Nat} {z : mV} (h : F q = some z) : mpu F q z = F := funext fun b => by
  unfold mpu
  by_cases e : b = q
  · rw [if_pos e, e, h]
  · rw [if_neg e]
theorem mjo_le {o : Option mV} {w u : mV} (h1 : ∀ v, o = some v → mle v u) (h2 : mle w u) : mle (mjo o w) u := by
  cases o with
  | none => exact h2
  | some v => exact mjn_le (h1 v rfl) h2
theorem mjo_r (o : Option mV) (w : mV) : mle w (mjo o w) := by
  cases o with
  | none => exact mle_rfl w
  | some v => exact mjn_r v w
theorem mpu_grow (F : mF) (q : Nat) (w : mV) : mlF F (mpu F q (mjo (F q) w)) := fun b v hv => by
  unfold mpu
  by_cases e : b = q
  · subst e
    rw [if_pos rfl, hv]; exact ⟨_, rfl, mjn_l v w⟩
  · rw [if_neg e, hv]; exact ⟨v, rfl, mle_rfl v⟩
theorem mlF_rfl (F : mF) : mlF F F := fun _ v h => ⟨v, h, mle_rfl v⟩
theorem mlF_trans {F G H : mF} (a : mlF F G) (b : mlF G H) : mlF F H := fun k v h => by
  obtain ⟨w, hw, l⟩ := a k v h
  obtain ⟨u, hu, l2⟩ := b k w hw
  exact ⟨u, hu, mle_trans l l2⟩
theorem mjs_grow (w : mV) : ∀ (qs : List Nat) (F : mF), mlF F (mjs F w qs)
  | [], F => mlF_rfl F
  | q :: r, F => mlF_trans (mpu_grow F q w) (mjs_grow w r _)
theorem mjs_has (w : mV) : ∀ (qs : List Nat) (F : mF) (q : Nat), q ∈ qs → ∃ u, mjs F w qs q = some u ∧ mle w u
  | [], _, _, h => by cases h
  | q :: r, F, x, h => by
    rcases List.mem_cons.mp h with e | h
    · subst e
      have h1 : mpu F x (mjo (F x) w) x = some (mjo (F x) w) := if_pos rfl
      obtain ⟨u, hu, l⟩ := mjs_grow w r (mpu F x (mjo (F x) w)) x _ h1
      exact ⟨u, hu, mle_trans (mjo_r _ _) l⟩
    · exact mjs_has w r _ x h
theorem mjs_below {H : mF} (w : mV) : ∀ (qs : List Nat) (F : mF), mlF F H → (∀ q, q ∈ qs → ∃ u, H q = some u ∧ mle w u) → mlF (mjs F w qs) H
  | [], _, h, _ => h
  | q :: r, F, h, hq => by
    refine mjs_below w r _ ?_ (fun x hx => hq x (List.mem_cons_of_mem _ hx))
    obtain ⟨u, hu, l⟩ := hq q List.mem_cons_self
    intro b v hv
    unfold mpu at hv
    by_cases e : b = q
    · subst e
      rw [if_pos rfl] at hv
      cases hv
      refine ⟨u, hu, mjo_le (fun z hz => ?_) l⟩
      obtain ⟨u', hu', l'⟩ := h b z hz
      rw [hu] at hu'; cases hu'; exact l'
    · rw [if_neg e] at hv; exact h b v hv
theorem mstp_below {G : mG} {F H : mF} (hH : mcl G H) (hF : mlF F H) {b : Nat} (hb : b < G.1) : mlF (mstp G F b) H := by
  unfold mstp
  cases hv : F b with
  | none => exact hF
  | some v => exact mjs_below _ _ _ hF (fun q hq => mcl_step hH hF hb hv hq)
theorem mstp_grow (G : mG) (F : mF) (b : Nat) : mlF F (mstp G F b) := by
  unfold mstp
  cases F b with
  | none => exact mlF_rfl F
  | some v => exact mjs_grow _ _ _
theorem mstp_has {G : mG} {F : mF} {b : Nat} {v : mV} (hv : F b = some v) {q : Nat} (hq : q ∈ msu (G.2.2.2.2 b) (mfb G b v)) : ∃ u, mstp G F b q = some u ∧ mle (mfb G b v) u := by
  unfold mstp
  rw [hv]; exact mjs_has _ _ _ q hq
/-- joining tells more, or nothing new -/
theorem mpu_ph {F : mF} {q : Nat} {w : mV} (hq : q < 24) : mph F 24 ≤ mph (mpu F q (mjo (F q) w)) 24 := by
  have := (mph_put F q (mjo (F q) w) 24).1 hq
  cases hv : F q with
  | none => rw [hv] at this; unfold mwt at this; simp only at this; omega
  | some v =>
    rw [hv] at this
    have h2 : mca v 8 ≤ mca (mjn v w) 8 := mca_jn v w 8
    have h3 : mwt (some (mjo (some v) w)) = 1 + mca (mjn v w) 8 := rfl
    have h4 : mwt (some v) = 1 + mca v 8 := rfl
    omega
theorem mpu_ph_lt {F : mF} {q : Nat} {w : mV} (hq : q < 24) (h : F q = none ∨ ∃ v x, F q = some v ∧ x < 8 ∧ mjn v w x ≠ v x) : mph F 24 < mph (mpu F q (mjo (F q) w)) 24 := by
  have := (mph_put F q (mjo (F q) w) 24).1 hq
  rcases h with hv | ⟨v, x, hv, hx, hne⟩
  · rw [hv] at this ⊢
    have h3 : mwt (some (mjo none w)) = 1 + mca w 8 := rfl
    have h4 : mwt (none : Option mV) = 0 := rfl
    omega
  · rw [hv] at this ⊢
    have h2 : mca v 8 < mca (mjn v w) 8 := mca_lt v w 8 x hx hne
    have h3 : mwt (some (mjo (some v) w)) = 1 + mca (mjn v w) 8 := rfl
    have h4 : mwt (some v) = 1 + mca v 8 := rfl
    omega
theorem mjs_ph (w : mV) : ∀ (qs : List Nat) (F : mF), (∀ q, q ∈ qs → q < 24) → mph F 24 ≤ mph (mjs F w qs) 24
  | [], _, _ => Nat.le_refl _
  | q :: r, F, h => Nat.le_trans (mpu_ph (h q List.mem_cons_self)) (mjs_ph w r _ (fun x hx => h x (List.mem_cons_of_mem _ hx)))
/-- a program in order -/
def gG (G : mG) : Prop := 1 ≤ G.1 ∧ G.1 ≤ 24 ∧ G.2.1 ≤ 80 ∧ G.2.2.1 0 = 0 ∧ G.2.2.1 G.1 = G.2.1 ∧ (∀ b, b < G.1 → G.2.2.1 b ≤ G.2.2.1 (b + 1)) ∧ ∀ b, b < G.1 → ((G.2.2.2.2 b).1 ≤ 2 ∧ ((G.2.2.2.2 b).1 ≠ 0 → (G.2.2.2.2 b).2.2.1 < G.1) ∧ ((G.2.2.2.2 b).1 = 2 → (G.2.2.2.2 b).2.2.2 < G.1))
theorem gG.f_le {G : mG} (h : gG G) {b : Nat} (hb : b ≤ G.1) : G.2.2.1 b ≤ 80 := by
  have key : ∀ k, b + k = G.1 → G.2.2.1 b ≤ G.2.2.1 G.1 := by
    intro k
    induction k generalizing b with
    | zero => intro e; rw [Nat.add_zero] at e; rw [e]; exact Nat.le_refl _
    | succ k ih =>
      intro e
      have := h.2.2.2.2.2.1 b (by omega)
      have := ih (b := b + 1) (by omega) (by omega)
      omega
  have := key (G.1 - b) (by omega)
  have := h.2.2.2.2.1
  have := h.2.2.1
  omega
theorem msu_lt {G : mG} (h : gG G) {b : Nat} (hb : b < G.1) (w : mV) : ∀ q, q ∈ msu (G.2.2.2.2 b) w → q < G.1 := by
  intro q hq
  obtain ⟨h1, h2, h3⟩ := h.2.2.2.2.2.2 b hb
  unfold msu at hq
  by_cases e0 : (G.2.2.2.2 b).1 = 0
  · rw [if_pos e0] at hq; cases hq
  rw [if_neg e0] at hq
  by_cases e1 : (G.2.2.2.2 b).1 = 1
  · rw [if_pos e1, List.mem_singleton] at hq; rw [hq]; exact h2 e0
  rw [if_neg e1] at hq
  have g1 := h2 e0
  have g2 := h3 (by omega)
  split at hq
  · split at hq <;> rw [List.mem_singleton] at hq <;> rw [hq] <;> assumption
  · rcases List.mem_cons.mp hq with hq | hq
    · rw [hq]; exact g1
    · rw [List.mem_singleton] at hq; rw [hq]; exact g2
theorem mstp_ph {G : mG} (h : gG G) (F : mF) {b : Nat} (hb : b < G.1) : mph F 24 ≤ mph (mstp G F b) 24 := by
  unfold mstp
  cases F b with
  | none => exact Nat.le_refl _
  | some v => exact mjs_ph _ _ _ (fun q hq => by have := msu_lt h hb _ q hq; have := h.2.1; omega)
/-! The reference: ends, and the program that it holds. -/
def eM (g : Nat → Int32) (b : Nat) (e : mE) : Prop := g (5 * b) = nn e.1 ∧ e.1 ≤ 2 ∧ (e.1 = 2 → oM g (5 * b + 1) e.2.1) ∧ (e.1 ≠ 0 → g (5 * b + 3) = nn e.2.2.1) ∧ (e.1 = 2 → g (5 * b + 4) = nn e.2.2.2)
def pM (f : zf) (G : mG) : Prop := f 183 6 = nn G.1 ∧ f 183 7 = nn G.2.1 ∧ (∀ b, b ≤ G.1 → f 187 b = nn (G.2.2.1 b)) ∧ (∀ s, s < G.2.1 → tM (f 185) s (G.2.2.2.1 s)) ∧ ∀ b, b < G.1 → eM (f 186) b (G.2.2.2.2 b)
theorem pM.same {f f' : zf} {G : mG} (h : pM f G) (h1 : f' 183 6 = f 183 6) (h2 : f' 183 7 = f 183 7) (h3 : f' 185 = f 185) (h4 : f' 186 = f 186) (h5 : f' 187 = f 187) : pM f' G := by
  unfold pM; rw [h1, h2, h3, h4, h5]; exact h
def rM (f : zf) (F : mF) : Prop := (∀ b, b < 24 → hB f b (F b)) ∧ ∀ b, 24 ≤ b → F b = none
theorem rM.same {f f' : zf} {F : mF} (h : rM f F) (h2 : f' 192 = f 192) (h3 : f' 193 = f 193) (h4 : f' 194 = f 194) : rM f' F := ⟨fun b hb => (h.1 b hb).same (by rw [h2]) (fun _ _ => by rw [h3]) (fun _ _ => by rw [h4]), h.2⟩
theorem s_Mgoes {f : zf} {ρ : zo} (hC : zC ρ) {b : Nat} {e : mE} {v : mV} {Q : Int32 → zS → Prop} (hb : b < 24) (he : eM (f 186) b e) (h2 : e.1 = 2) (hv : hM (f 195) (f 196) 0 v) (h : (mop v e.2.1 = none → Q (-1) (f, ρ)) ∧ ∀ c, mop v e.2.1 = some c → Q (nn (if c = 0 then e.2.2.2 else e.2.2.1)) (f, ρ)) : P_M_goes 201 183 (nn b) (f, ρ) Q := by
  obtain ⟨g1, g2, g3, g4, g5⟩ := he
  unfold P_M_goes P_M_goes_76
  simp (disch := (first | assumption | omega)) only [true_and, and_true, zr_u, zi_u, zI_u, Option.some.injEq, exists_eq_left', nn_tn, nn_add, nn_s, nn_2, nn_5, nn_7, nn_8, na0, na2, na3, na4, na5, na6, uf_ne, uf_eq, ur_eq, ur_ne, true_or, or_true, not_true_eq_false, not_false_eq_true, true_implies, false_implies, implies_true, e10, e01, reduceIte, Option.isSome_none, Option.isSome_some, Bool.false_eq_true, bi_t, bi_f, ko_183, rc_183_9 hC, ka_186]
  refine s_MsortOf (A := f 195) (B := f 196) hC rfl (g3 h2) (fun x hx => ?_)
  have hx' := hx v hv
  simp (disch := (first | assumption | omega)) only [true_and, and_true, zr_u, zi_u, zI_u, Option.some.injEq, exists_eq_left', nn_tn, nn_add, nn_s, nn_2, nn_5, nn_7, nn_8, na0, na2, na3, na4, na5, na6, uf_ne, uf_eq, ur_eq, ur_ne, true_or, or_true, not_true_eq_false, not_false_eq_true, true_implies, false_implies, implies_true, e10, e01, reduceIte, Option.isSome_none, Option.isSome_some, Bool.false_eq_true, bi_t, bi_f, ko_183, rc_183_9 hC, ka_186]
  cases ho : mop v e.2.1 with
  | none =>
    rw [ho] at hx'
    rw [hx']
    exact ⟨fun q => absurd q (by decide), fun _ => h.1 ho⟩
  | some c =>
    rw [ho] at hx'
    rw [hx']
    refine ⟨fun _ => ?_, fun q => absurd rfl q⟩
    refine s_MnumberOf (A := f 195) (B := f 196) hC rfl (g3 h2) (fun y hy => ?_)
    have hy' := hy v c hv ho
    subst hy'
    simp (disch := (first | assumption | omega)) only [true_and, and_true, zr_u, zi_u, zI_u, Option.some.injEq, exists_eq_left', nn_tn, nn_add, nn_s, nn_2, nn_5, nn_7, nn_8, na0, na2, na3, na4, na5, na6, uf_ne, uf_eq, ur_eq, ur_ne, true_or, or_true, not_true_eq_false, not_false_eq_true, true_implies, false_implies, implies_true, e10, e01, reduceIte, Option.isSome_none, Option.isSome_some, Bool.false_eq_true, bi_t, bi_f, ko_183, rc_183_9 hC, ka_186, g4 (by omega), g5 h2]
    have hh := h.2 y ho
    exact ⟨fun q => by rw [if_pos q] at hh; exact hh, fun q => by rw [if_neg q] at hh; exact hh⟩
theorem s_MjoinF {f : zf} {ρ : zo} (hC : zC ρ) {b : Nat} {F : mF} {w : mV} {Q : Int32 → zS → Prop} (hb : b < 24) (hF : rM f F) (hw : hM (f 195) (f 196) 0 w) (h : ∀ f' r, (∀ a, a ≠ 192 → a ≠ 193 → a ≠ 194 → f' a = f a) → rM f' (mpu F b (mjo (F b) w)) → (r = 0 ∧ mpu F b (mjo (F b) w) = F ∨ r = 1 ∧ mph F 24 < mph (mpu F b (mjo (F b) w)) 24) → Q r (f', ρ)) : P_M_join 201 183 (nn b) (f, ρ) Q := by
  refine s_Mjoin hC hb (hF.1 b hb) hw (fun f' r h1 h2 h3 h4 h5 => h f' r h1 ⟨fun q hq => ?_, fun q hq => ?_⟩ ?_)
  · unfold mpu
    by_cases e : q = b
    · subst e; rw [if_pos rfl]; exact h4
    · rw [if_neg e]
      exact (hF.1 q hq).same (h2 q e) (fun x hx => (h3 _ (by omega)).1) (fun x hx => (h3 _ (by omega)).2)
  · unfold mpu; rw [if_neg (by omega)]; exact hF.2 q hq
  · rcases h5 with ⟨h5, h6⟩ | ⟨h5, h6⟩
    · exact Or.inl ⟨h5, mpu_self h6⟩
    · exact Or.inr ⟨h5, mpu_ph_lt hb h6⟩
theorem nn_neg {a : Nat} (ha : a < 2147483648) : (nn a < 0) = False := by
  rw [show (0 : Int32) = nn 0 from rfl, nn_lt ha (by decide)]
  exact eq_false (by omega)
theorem s_Mlead {f : zf} {ρ : zo} (hC : zC ρ) {b : Nat} {G : mG} {F : mF} {w : mV} {Q : Int32 → zS → Prop} (hG : gG G) (hb : b < G.1) (hP : pM f G) (hF : rM f F) (hw : hM (f 195) (f 196) 0 w) (h : ∀ f' r, (∀ a, a ≠ 192 → a ≠ 193 → a ≠ 194 → f' a = f a) → rM f' (mjs F w (msu (G.2.2.2.2 b) w)) → (r = 0 ∧ mjs F w (msu (G.2.2.2.2 b) w) = F ∨ r = 1 ∧ mph F 24 < mph (mjs F w (msu (G.2.2.2.2 b) w)) 24) → Q r (f', ρ)) : P_M_lead 201 183 (nn b) (f, ρ) Q := by
  have hb24 : b < 24 := by have := hG.2.1; omega
  have he := hP.2.2.2.2 b hb
  have he' := he
  obtain ⟨g1, g2, g3, g4, g5⟩ := he
  obtain ⟨k1, k2, k3⟩ := hG.2.2.2.2.2.2 b hb
  have hn := hG.2.1
  unfold P_M_lead P_M_lead_96 P_M_lead_101
  simp (disch := (first | assumption | omega)) only [true_and, and_true, zr_u, zi_u, zI_u, Option.some.injEq, exists_eq_left', nn_tn, nn_add, nn_s, nn_2, nn_5, nn_7, nn_8, na0, na2, na3, na4, na5, na6, uf_ne, uf_eq, ur_eq, ur_ne, true_or, or_true, not_true_eq_false, not_false_eq_true, true_implies, false_implies, implies_true, e10, e01, reduceIte, Option.isSome_none, Option.isSome_some, Bool.false_eq_true, bi_t, bi_f, ko_183, rc_183_9 hC, ka_186, g1, nn_e0, nn_e1]
  have one : ∀ q, q < G.1 → msu (G.2.2.2.2 b) w = [q] → P_M_join 201 183 (nn q) (f, ρ) (fun x26 σ27 => (x26 = 0 ∨ x26 = 1) ∧ Q x26 σ27) := by
    intro q hq hm
    refine s_MjoinF hC (by omega) hF hw (fun f' r r1 r2 r3 => ⟨?_, h f' r r1 ?_ ?_⟩)
    · rcases r3 with r3 | r3
      · exact Or.inl r3.1
      · exact Or.inr r3.1
    · rw [hm]; exact r2
    · rw [hm]; exact r3
  refine ⟨fun q0 => ⟨fun q1 => ?_, fun q1 => ?_⟩, fun q0 => ?_⟩
  · have k4 := k2 q0
    have k5 := k3 (by omega)
    refine s_Mgoes hC hb24 he' (by omega) hw ⟨fun hn => ?_, fun c hc => ?_⟩
    · have hm : msu (G.2.2.2.2 b) w = [(G.2.2.2.2 b).2.2.1, (G.2.2.2.2 b).2.2.2] := by
        unfold msu; rw [if_neg q0, if_neg q1, hn]
      simp (disch := (first | assumption | omega)) only [true_and, and_true, zr_u, zi_u, zI_u, Option.some.injEq, exists_eq_left', nn_tn, nn_add, nn_s, nn_2, nn_5, nn_7, nn_8, na0, na2, na3, na4, na5, na6, uf_ne, uf_eq, ur_eq, ur_ne, true_or, or_true, not_true_eq_false, not_false_eq_true, true_implies, false_implies, implies_true, e10, e01, reduceIte, Option.isSome_none, Option.isSome_some, Bool.false_eq_true, bi_t, bi_f, rc_183_9 hC, ka_186, g4 q0, show ((-1 : Int32) < 0) = True from eq_true (by decide)]
      refine s_MjoinF hC (by omega) hF hw (fun f1 r1 a1 a2 a3 => ?_)
      have e6 : f1 186 = f 186 := a1 _ (by decide) (by decide) (by decide)
      simp (disch := (first | assumption | omega)) only [true_and, and_true, zr_u, zi_u, zI_u, Option.some.injEq, exists_eq_left', nn_tn, nn_add, nn_s, nn_2, nn_5, nn_7, nn_8, na0, na2, na3, na4, na5, na6, uf_ne, uf_eq, ur_eq, ur_ne, true_or, or_true, not_true_eq_false, not_false_eq_true, true_implies, false_implies, implies_true, e10, e01, reduceIte, Option.isSome_none, Option.isSome_some, Bool.false_eq_true, bi_t, bi_f, rc_183_9 hC, ka_186, e6, g5 (by omega)]
      have hw1 : hM (f1 195) (f1 196) 0 w := by rw [a1 195 (by decide) (by decide) (by decide), a1 196 (by decide) (by decide) (by decide)]; exact hw
      refine s_MjoinF hC (by omega) a2 hw1 (fun f2 r2 b1 b2 b3 => ?_)
      have fr : ∀ a, a ≠ 192 → a ≠ 193 → a ≠ 194 → f2 a = f a := fun a z1 z2 z3 => by rw [b1 a z1 z2 z3, a1 a z1 z2 z3]
      have hh := h f2
      rw [hm] at hh
      have p1 := mpu_ph (F := F) (q := (G.2.2.2.2 b).2.2.1) (w := w) (by omega)
      have p2 := mpu_ph (F := mpu F (G.2.2.2.2 b).2.2.1 (mjo (F (G.2.2.2.2 b).2.2.1) w)) (q := (G.2.2.2.2 b).2.2.2) (w := w) (by omega)
      rcases a3 with ⟨a3, a4⟩ | ⟨a3, a4⟩
      · rcases b3 with ⟨b3, b4⟩ | ⟨b3, b4⟩
        · subst a3; subst b3
          simp (disch := (first | assumption | omega)) only [true_and, and_true, zr_u, zi_u, zI_u, Option.some.injEq, exists_eq_left', nn_tn, nn_add, nn_s, nn_2, nn_5, nn_7, nn_8, na0, na2, na3, na4, na5, na6, uf_ne, uf_eq, ur_eq, ur_ne, true_or, or_true, not_true_eq_false, not_false_eq_true, true_implies, false_implies, implies_true, e10, e01, reduceIte, Option.isSome_none, Option.isSome_some, Bool.false_eq_true, bi_t, bi_f]
          exact hh 0 fr b2 (Or.inl ⟨rfl, by show mpu _ _ _ = F; rw [b4, a4]⟩)
        · subst a3; subst b3
          simp (disch := (first | assumption | omega)) only [true_and, and_true, zr_u, zi_u, zI_u, Option.some.injEq, exists_eq_left', nn_tn, nn_add, nn_s, nn_2, nn_5, nn_7, nn_8, na0, na2, na3, na4, na5, na6, uf_ne, uf_eq, ur_eq, ur_ne, true_or, or_true, not_true_eq_false, not_false_eq_true, true_implies, false_implies, implies_true, e10, e01, reduceIte, Option.isSome_none, Option.isSome_some, Bool.false_eq_true, bi_t, bi_f]
          refine hh 1 fr b2 (Or.inr ⟨rfl, ?_⟩)
          show mph F 24 < mph (mpu _ _ _) 24
          omega
      · subst a3
        simp (disch := (first | assumption | omega)) only [true_and, and_true, zr_u, zi_u, zI_u, Option.some.injEq, exists_eq_left', nn_tn, nn_add, nn_s, nn_2, nn_5, nn_7, nn_8, na0, na2, na3, na4, na5, na6, uf_ne, uf_eq, ur_eq, ur_ne, true_or, or_true, not_true_eq_false, not_false_eq_true, true_implies, false_implies, implies_true, e10, e01, reduceIte, Option.isSome_none, Option.isSome_some, Bool.false_eq_true, bi_t, bi_f]
        refine hh 1 fr b2 (Or.inr ⟨rfl, ?_⟩)
        show mph F 24 < mph (mpu _ _ _) 24
        omega
    · have hm : msu (G.2.2.2.2 b) w = [if c = 0 then (G.2.2.2.2 b).2.2.2 else (G.2.2.2.2 b).2.2.1] := by
        unfold msu; rw [if_neg q0, if_neg q1, hc]; simp only; split <;> rfl
      have hl : (if c = 0 then (G.2.2.2.2 b).2.2.2 else (G.2.2.2.2 b).2.2.1) < G.1 := by split <;> assumption
      rw [nn_neg (by omega)]
      exact ⟨False.elim, fun _ => one _ hl hm⟩
  · rw [g4 q0]
    exact one _ (k2 q0) (by unfold msu; rw [if_neg q0, if_pos q1])
  · have hm : msu (G.2.2.2.2 b) w = [] := by unfold msu; rw [if_pos q0]
    refine h f 0 (fun _ _ _ _ => rfl) ?_ (Or.inl ⟨rfl, ?_⟩)
    · rw [hm]; exact hF
    · rw [hm]; rfl
