section
variable {p : Program} {l : Launch} {e : Env} {s : State} {m : MethodId} {args : Array Value} {below : List Frame} {meth : Method} {c : Code} {base : Nat} {D : va_G} {cA : Nat → ClassId} {ex : Bool} {n : Nat}
def P_F_countBlock_129 (n : Nat) (Q : zS → Prop) (σ : zS) : Prop := Q σ
set_option maxHeartbeats 1000000 in
set_option maxRecDepth 10000 in
theorem w_F_countBlock_129 {Q : zS → Prop} (hr : meth.sig.returnType = none) {σ : zS} (h : P_F_countBlock_129 n Q σ) : zG p l e (zrm 4 0 0) s m args below meth c (MQ below (zQc (zA base) D cA base n ex (zqv Q)) args s 0 0 (zA base)) s.heap (zA base) base D cA 4 ex prog_2_method_10_code "ConstantFlow$Facts" n 0 0 129 [none, none, none, none] [] σ := by
  unfold P_F_countBlock_129 at h
  exact zw_vret d_F_countBlock_129 hr h
def P_F_countBlock_74 (n : Nat) (Q : zS → Prop) (K30 : Nat → Nat → Int32 → Int32 → zS → Prop) (a0 : Nat) (a1 : Nat) (a2 : Int32) (a3 : Int32) (σ : zS) : Prop := zk n a0 3 ∧ ∃ c2, zr σ a0 5 = some c2 ∧ zk n c2 4 ∧ P_V_assign n c2 a1 a3 σ (fun σ5 => K30 a0 a1 a2 (a3 + (1 : Int32)) σ5)
set_option maxHeartbeats 1000000 in
set_option maxRecDepth 10000 in
theorem w_F_countBlock_74 {Q : zS → Prop} {K30 : Nat → Nat → Int32 → Int32 → zS → Prop} (hr : meth.sig.returnType = none) (hK30 : ∀ (a0 : Nat) (a1 : Nat) (a2 : Int32) (a3 : Int32) (σ : zS), K30 a0 a1 a2 a3 σ → zG p l e (zrm 4 0 0) s m args below meth c (MQ below (zQc (zA base) D cA base n ex (zqv Q)) args s 0 0 (zA base)) s.heap (zA base) base D cA 4 ex prog_2_method_10_code "ConstantFlow$Facts" n 0 0 30 [some (.ref a0), some (.ref a1), some (.int a2), some (.int a3)] [] σ) {a0 : Nat} {a1 : Nat} {a2 : Int32} {a3 : Int32} {σ : zS} (h : P_F_countBlock_74 n Q K30 a0 a1 a2 a3 σ) : zG p l e (zrm 4 0 0) s m args below meth c (MQ below (zQc (zA base) D cA base n ex (zqv Q)) args s 0 0 (zA base)) s.heap (zA base) base D cA 4 ex prog_2_method_10_code "ConstantFlow$Facts" n 0 0 74 [some (.ref a0), some (.ref a1), some (.int a2), some (.int a3)] [] σ := by
  unfold P_F_countBlock_74 at h
  refine zw_aload_n d_F_countBlock_74 rfl rfl ?_
  obtain ⟨q1, h⟩ := h
  obtain ⟨c2, q3, h⟩ := h
  refine zw_gfr (ci := 3) (j := 5) d_F_countBlock_75 mw_1_101 q1.1 q1.2 (by decide) (by decide) rfl q3 ?_
  refine zw_aload_n d_F_countBlock_78 rfl rfl ?_
  refine zw_iload_n d_F_countBlock_79 rfl rfl ?_
  obtain ⟨q6, h⟩ := h
  refine zw_callV (ci := 4) (b := c2) (As := [.ref a1, .int a3]) (r := []) d_F_countBlock_80 (c_V_assign h) mw_1_227 mw_1_228 mw_1_229 mw_1_5 mw_1_230 (by decide) q6.1 q6.2 hyV_V_assign (Nat.le_of_ble_eq_true rfl) (Nat.le_of_ble_eq_true rfl) ⟨(Nat.le_of_ble_eq_true rfl), (Nat.le_of_ble_eq_true rfl)⟩ (Nat.le_of_ble_eq_true rfl) rfl (zk_v (fun σ5 h => ?_))
  refine zw_iinc (v := (a3 + (1 : Int32))) d_F_countBlock_83 rfl rfl (Nat.le_of_ble_eq_true rfl) rfl rfl ?_
  refine zw_goto (tgt := 30) d_F_countBlock_86 rfl ?_
  exact hK30 _ _ _ _ _ h
def P_F_countBlock_30 (n : Nat) (Q : zS → Prop) : Nat → Nat → Nat → Int32 → Int32 → zS → Prop
  | 0, _, _, _, _, _ => False
  | f + 1, a0, a1, a2, a3, σ => zk n a1 6 ∧ ∃ c2, zr σ a1 2 = some c2 ∧ za n c2 10 (a2 + (1 : Int32)) ∧ (((zi σ c2 (a2 + (1 : Int32)).toNatClampNeg) ≤ a3 → ∃ c5, zr σ a1 7 = some c5 ∧ za n c5 10 a2 ∧ ((¬ (zi σ c5 a2.toNatClampNeg) = (2 : Int32) → P_F_countBlock_129 n Q σ) ∧ ((zi σ c5 a2.toNatClampNeg) = (2 : Int32) → zk n a0 3 ∧ ∃ c9, zr σ a0 7 = some c9 ∧ za n c9 10 (5 : Int32) ∧ za n c9 10 (5 : Int32) ∧ P_F_forks n a0 a1 a2 (zI σ c9 (5 : Int32).toNatClampNeg ((zi σ c9 (5 : Int32).toNatClampNeg) + (1 : Int32))) (fun x13 σ14 => ((¬ x13 = 0 → P_F_countBlock_129 n Q σ14) ∧ (x13 = 0 → ∃ c15, zr σ14 a0 7 = some c15 ∧ za n c15 10 (6 : Int32) ∧ za n c15 10 (6 : Int32) ∧ P_F_countBlock_129 n Q (zI σ14 c15 (6 : Int32).toNatClampNeg ((zi σ14 c15 (6 : Int32).toNatClampNeg) + (1 : Int32))))))))) ∧ (¬ ((zi σ c2 (a2 + (1 : Int32)).toNatClampNeg) ≤ a3) → zk n a0 3 ∧ ∃ c20, zr σ a0 7 = some c20 ∧ za n c20 10 (3 : Int32) ∧ za n c20 10 (3 : Int32) ∧ ∃ c24, zr (zI σ c20 (3 : Int32).toNatClampNeg ((zi σ c20 (3 : Int32).toNatClampNeg) + (1 : Int32))) a0 5 = some c24 ∧ zk n c24 4 ∧ P_V_settles n c24 a1 a3 (zI σ c20 (3 : Int32).toNatClampNeg ((zi σ c20 (3 : Int32).toNatClampNeg) + (1 : Int32))) (fun x26 σ27 => ((x26 = 0 → P_F_countBlock_74 n Q (fun (a0 : Nat) (a1 : Nat) (a2 : Int32) (a3 : Int32) (σ : zS) => P_F_countBlock_30 n Q f a0 a1 a2 a3 σ) a0 a1 a2 a3 σ27) ∧ (¬ (x26 = 0) → ∃ c29, zr σ27 a0 7 = some c29 ∧ za n c29 10 (4 : Int32) ∧ za n c29 10 (4 : Int32) ∧ P_F_countBlock_74 n Q (fun (a0 : Nat) (a1 : Nat) (a2 : Int32) (a3 : Int32) (σ : zS) => P_F_countBlock_30 n Q f a0 a1 a2 a3 σ) a0 a1 a2 a3 (zI σ27 c29 (4 : Int32).toNatClampNeg ((zi σ27 c29 (4 : Int32).toNatClampNeg) + (1 : Int32))))))))
set_option maxHeartbeats 1000000 in
set_option maxRecDepth 10000 in
theorem w_F_countBlock_30 {Q : zS → Prop} (hr : meth.sig.returnType = none) : ∀ (f : Nat) (a0 : Nat) (a1 : Nat) (a2 : Int32) (a3 : Int32) (σ : zS), P_F_countBlock_30 n Q f a0 a1 a2 a3 σ → zG p l e (zrm 4 0 0) s m args below meth c (MQ below (zQc (zA base) D cA base n ex (zqv Q)) args s 0 0 (zA base)) s.heap (zA base) base D cA 4 ex prog_2_method_10_code "ConstantFlow$Facts" n 0 0 30 [some (.ref a0), some (.ref a1), some (.int a2), some (.int a3)] [] σ := by
  intro f
  induction f with
  | zero => intro a0 a1 a2 a3 σ h; exact False.elim h
  | succ f ih =>
    intro a0 a1 a2 a3 σ h
    refine zw_iload_n d_F_countBlock_30 rfl rfl ?_
    refine zw_aload_n d_F_countBlock_31 rfl rfl ?_
    obtain ⟨q1, h⟩ := h
    obtain ⟨c2, q3, h⟩ := h
    refine zw_gfrN (ci := 6) (j := 2) d_F_countBlock_32 mw_1_160 q1.1 q1.2 (by decide) (by decide) rfl q3 ?_
    refine zw_iload_n d_F_countBlock_35 rfl rfl ?_
    refine zw_iconst (v := 1) d_F_countBlock_36 rfl ?_
    refine zw_iadd d_F_countBlock_37 ?_
    obtain ⟨q4, h⟩ := h
    refine zw_iald d_F_countBlock_38 q4.1 (zkd_eta q4.2.1) q4.2.2 ?_
    obtain ⟨ht, hf⟩ := h
    refine zw_icmp_ge (tgt := 89) d_F_countBlock_39 rfl (fun hc => ?_) (fun hc => ?_)
    · have h := ht hc; clear ht hf
      refine zw_aload_n d_F_countBlock_89 rfl rfl ?_
      obtain ⟨c5, q6, h⟩ := h
      refine zw_gfrN (ci := 6) (j := 7) d_F_countBlock_90 mw_1_180 q1.1 q1.2 (by decide) (by decide) rfl q6 ?_
      refine zw_iload_n d_F_countBlock_93 rfl rfl ?_
      obtain ⟨q7, h⟩ := h
      refine zw_iald d_F_countBlock_94 q7.1 (zkd_eta q7.2.1) q7.2.2 ?_
      refine zw_iconst (v := 2) d_F_countBlock_95 rfl ?_
      obtain ⟨ht, hf⟩ := h
      refine zw_icmp_ne (tgt := 129) d_F_countBlock_96 rfl (fun hc => ?_) (fun hc => ?_)
      · have h := ht hc; clear ht hf
        refine zw_le (ls' := [none, none, none, none]) (True.intro) ?_
        exact w_F_countBlock_129 hr h
      · have h := hf hc; clear ht hf
        refine zw_aload_n d_F_countBlock_99 rfl rfl ?_
        obtain ⟨q8, h⟩ := h
        obtain ⟨c9, q10, h⟩ := h
        refine zw_gfr (ci := 3) (j := 7) d_F_countBlock_100 mw_1_103 q8.1 q8.2 (by decide) (by decide) rfl q10 ?_
        refine zw_iconst (v := 5) d_F_countBlock_103 rfl ?_
        refine zw_dup2 d_F_countBlock_104 rfl rfl ?_
        obtain ⟨q11, h⟩ := h
        refine zw_iald d_F_countBlock_105 q11.1 (zkd_eta q11.2.1) q11.2.2 ?_
        refine zw_iconst (v := 1) d_F_countBlock_106 rfl ?_
        refine zw_iadd d_F_countBlock_107 ?_
        obtain ⟨q12, h⟩ := h
        refine zw_iast d_F_countBlock_108 q12.1 (zkd_eta q12.2.1) q12.2.2 ?_
        refine zw_aload_n d_F_countBlock_109 rfl rfl ?_
        refine zw_aload_n d_F_countBlock_110 rfl rfl ?_
        refine zw_iload_n d_F_countBlock_111 rfl rfl ?_
        refine zw_callV (ci := 3) (b := a0) (As := [.ref a1, .int a2]) (r := []) d_F_countBlock_112 (c_F_forks h) mw_2_16 mw_2_18 mp_1_3 mw_1_4 mw_2_19 (by decide) q8.1 q8.2 hyV_F_forks (Nat.le_of_ble_eq_true rfl) (Nat.le_of_ble_eq_true rfl) ⟨(Nat.le_of_ble_eq_true rfl), (Nat.le_of_ble_eq_true rfl)⟩ (Nat.le_of_ble_eq_true rfl) rfl (zk_i (fun x13 σ14 h => ?_))
        obtain ⟨ht, hf⟩ := h
        refine zw_if_ne (tgt := 129) d_F_countBlock_115 rfl (fun hc => ?_) (fun hc => ?_)
        · have h := ht hc; clear ht hf
          refine zw_le (ls' := [none, none, none, none]) (True.intro) ?_
          exact w_F_countBlock_129 hr h
        · have h := hf hc; clear ht hf
          refine zw_aload_n d_F_countBlock_118 rfl rfl ?_
          obtain ⟨c15, q16, h⟩ := h
          refine zw_gfr (ci := 3) (j := 7) d_F_countBlock_119 mw_1_103 q8.1 q8.2 (by decide) (by decide) rfl q16 ?_
          refine zw_bipush (v := 6) d_F_countBlock_122 rfl ?_
          refine zw_dup2 d_F_countBlock_124 rfl rfl ?_
          obtain ⟨q17, h⟩ := h
          refine zw_iald d_F_countBlock_125 q17.1 (zkd_eta q17.2.1) q17.2.2 ?_
          refine zw_iconst (v := 1) d_F_countBlock_126 rfl ?_
          refine zw_iadd d_F_countBlock_127 ?_
          obtain ⟨q18, h⟩ := h
          refine zw_iast d_F_countBlock_128 q18.1 (zkd_eta q18.2.1) q18.2.2 ?_
          refine zw_le (ls' := [none, none, none, none]) (True.intro) ?_
          exact w_F_countBlock_129 hr h
    · have h := hf hc; clear ht hf
      refine zw_aload_n d_F_countBlock_42 rfl rfl ?_
      obtain ⟨q19, h⟩ := h
      obtain ⟨c20, q21, h⟩ := h
      refine zw_gfr (ci := 3) (j := 7) d_F_countBlock_43 mw_1_103 q19.1 q19.2 (by decide) (by decide) rfl q21 ?_
      refine zw_iconst (v := 3) d_F_countBlock_46 rfl ?_
      refine zw_dup2 d_F_countBlock_47 rfl rfl ?_
      obtain ⟨q22, h⟩ := h
      refine zw_iald d_F_countBlock_48 q22.1 (zkd_eta q22.2.1) q22.2.2 ?_
      refine zw_iconst (v := 1) d_F_countBlock_49 rfl ?_
      refine zw_iadd d_F_countBlock_50 ?_
      obtain ⟨q23, h⟩ := h
      refine zw_iast d_F_countBlock_51 q23.1 (zkd_eta q23.2.1) q23.2.2 ?_
      refine zw_aload_n d_F_countBlock_52 rfl rfl ?_
      obtain ⟨c24, q25, h⟩ := h
      refine zw_gfr (ci := 3) (j := 5) d_F_countBlock_53 mw_1_101 q19.1 q19.2 (by decide) (by decide) rfl q25 ?_
      refine zw_aload_n d_F_countBlock_56 rfl rfl ?_
      refine zw_iload_n d_F_countBlock_57 rfl rfl ?_
      obtain ⟨q28, h⟩ := h
      refine zw_callV (ci := 4) (b := c24) (As := [.ref a1, .int a3]) (r := []) d_F_countBlock_58 (c_V_settles h) mw_2_49 mw_1_232 mw_1_233 mw_1_5 mw_1_234 (by decide) q28.1 q28.2 hyV_V_settles (Nat.le_of_ble_eq_true rfl) (Nat.le_of_ble_eq_true rfl) ⟨(Nat.le_of_ble_eq_true rfl), (Nat.le_of_ble_eq_true rfl)⟩ (Nat.le_of_ble_eq_true rfl) rfl (zk_i (fun x26 σ27 h => ?_))
      obtain ⟨ht, hf⟩ := h
      refine zw_if_eq (tgt := 74) d_F_countBlock_61 rfl (fun hc => ?_) (fun hc => ?_)
      · have h := ht hc; clear ht hf
        exact w_F_countBlock_74 hr (fun a0 a1 a2 a3 σ hk => ih a0 a1 a2 a3 σ hk) h
      · have h := hf hc; clear ht hf
        refine zw_aload_n d_F_countBlock_64 rfl rfl ?_
        obtain ⟨c29, q30, h⟩ := h
        refine zw_gfr (ci := 3) (j := 7) d_F_countBlock_65 mw_1_103 q19.1 q19.2 (by decide) (by decide) rfl q30 ?_
        refine zw_iconst (v := 4) d_F_countBlock_68 rfl ?_
        refine zw_dup2 d_F_countBlock_69 rfl rfl ?_
        obtain ⟨q31, h⟩ := h
        refine zw_iald d_F_countBlock_70 q31.1 (zkd_eta q31.2.1) q31.2.2 ?_
        refine zw_iconst (v := 1) d_F_countBlock_71 rfl ?_
        refine zw_iadd d_F_countBlock_72 ?_
        obtain ⟨q32, h⟩ := h
        refine zw_iast d_F_countBlock_73 q32.1 (zkd_eta q32.2.1) q32.2.2 ?_
        exact w_F_countBlock_74 hr (fun a0 a1 a2 a3 σ hk => ih a0 a1 a2 a3 σ hk) h
def P_F_countBlock (n : Nat) (a0 : Nat) (a1 : Nat) (a2 : Int32) (σ : zS) (Q : zS → Prop) : Prop := zk n a0 3 ∧ ∃ c2, zr σ a0 7 = some c2 ∧ za n c2 10 (1 : Int32) ∧ za n c2 10 (1 : Int32) ∧ ∃ c6, zr (zI σ c2 (1 : Int32).toNatClampNeg ((zi σ c2 (1 : Int32).toNatClampNeg) + (1 : Int32))) a0 5 = some c6 ∧ ∃ c8, zr (zI σ c2 (1 : Int32).toNatClampNeg ((zi σ c2 (1 : Int32).toNatClampNeg) + (1 : Int32))) a0 2 = some c8 ∧ za n c8 13 a2 ∧ ∃ c11, zr (zI σ c2 (1 : Int32).toNatClampNeg ((zi σ c2 (1 : Int32).toNatClampNeg) + (1 : Int32))) c8 a2.toNatClampNeg = some c11 ∧ zk n c6 4 ∧ P_V_become n c6 c11 (zI σ c2 (1 : Int32).toNatClampNeg ((zi σ c2 (1 : Int32).toNatClampNeg) + (1 : Int32))) (fun σ14 => zk n a1 6 ∧ ∃ c17, zr σ14 a1 2 = some c17 ∧ za n c17 10 a2 ∧ ∃ g, P_F_countBlock_30 n Q g a0 a1 a2 (zi σ14 c17 a2.toNatClampNeg) σ14)
set_option maxHeartbeats 1000000 in
set_option maxRecDepth 10000 in
theorem w_F_countBlock {Q : zS → Prop} (hr : meth.sig.returnType = none) {a0 : Nat} {a1 : Nat} {a2 : Int32} {σ : zS} (h : P_F_countBlock n a0 a1 a2 σ Q) : zG p l e (zrm 4 0 0) s m args below meth c (MQ below (zQc (zA base) D cA base n ex (zqv Q)) args s 0 0 (zA base)) s.heap (zA base) base D cA 4 ex prog_2_method_10_code "ConstantFlow$Facts" n 0 0 0 [some (.ref a0), some (.ref a1), some (.int a2), none] [] σ := by
  unfold P_F_countBlock at h
  refine zw_aload_n d_F_countBlock_0 rfl rfl ?_
  obtain ⟨q1, h⟩ := h
  obtain ⟨c2, q3, h⟩ := h
  refine zw_gfr (ci := 3) (j := 7) d_F_countBlock_1 mw_1_103 q1.1 q1.2 (by decide) (by decide) rfl q3 ?_
  refine zw_iconst (v := 1) d_F_countBlock_4 rfl ?_
  refine zw_dup2 d_F_countBlock_5 rfl rfl ?_
  obtain ⟨q4, h⟩ := h
  refine zw_iald d_F_countBlock_6 q4.1 (zkd_eta q4.2.1) q4.2.2 ?_
  refine zw_iconst (v := 1) d_F_countBlock_7 rfl ?_
  refine zw_iadd d_F_countBlock_8 ?_
  obtain ⟨q5, h⟩ := h
  refine zw_iast d_F_countBlock_9 q5.1 (zkd_eta q5.2.1) q5.2.2 ?_
  refine zw_aload_n d_F_countBlock_10 rfl rfl ?_
  obtain ⟨c6, q7, h⟩ := h
  refine zw_gfr (ci := 3) (j := 5) d_F_countBlock_11 mw_1_101 q1.1 q1.2 (by decide) (by decide) rfl q7 ?_
  refine zw_aload_n d_F_countBlock_14 rfl rfl ?_
  obtain ⟨c8, q9, h⟩ := h
  refine zw_gfr (ci := 3) (j := 2) d_F_countBlock_15 mw_1_98 q1.1 q1.2 (by decide) (by decide) rfl q9 ?_
  refine zw_iload_n d_F_countBlock_18 rfl rfl ?_
  obtain ⟨q10, h⟩ := h
  obtain ⟨c11, q12, h⟩ := h
  refine zw_aald d_F_countBlock_19 q10.1 (zkd_eta q10.2.1) q10.2.2 q12 ?_
  obtain ⟨q15, h⟩ := h
  refine zw_callV (ci := 4) (b := c6) (As := [.ref c11]) (r := []) d_F_countBlock_20 (c_V_become h) mw_1_211 mw_1_212 mw_1_213 mw_1_5 mw_1_214 (by decide) q15.1 q15.2 hyV_V_become (Nat.le_of_ble_eq_true rfl) (Nat.le_of_ble_eq_true rfl) ⟨(Nat.le_of_ble_eq_true rfl), (Nat.le_of_ble_eq_true rfl)⟩ (Nat.le_of_ble_eq_true rfl) rfl (zk_v (fun σ14 h => ?_))
  refine zw_aload_n d_F_countBlock_23 rfl rfl ?_
  obtain ⟨q16, h⟩ := h
  obtain ⟨c17, q18, h⟩ := h
  refine zw_gfrN (ci := 6) (j := 2) d_F_countBlock_24 mw_1_160 q16.1 q16.2 (by decide) (by decide) rfl q18 ?_
  refine zw_iload_n d_F_countBlock_27 rfl rfl ?_
  obtain ⟨q19, h⟩ := h
  refine zw_iald d_F_countBlock_28 q19.1 (zkd_eta q19.2.1) q19.2.2 ?_
  refine zw_istore_n d_F_countBlock_29 rfl (Nat.le_of_ble_eq_true rfl) rfl rfl ?_
  obtain ⟨g, h⟩ := h
  exact w_F_countBlock_30 hr g _ _ _ _ _ h
theorem c_F_countBlock {l : Launch} {D : va_G} {cA : Nat → ClassId} {base n : Nat} {ex : Bool} {Q : zS → Prop} {a0 : Nat} {a1 : Nat} {a2 : Int32} {σ : zS} (h : P_F_countBlock n a0 a1 a2 σ Q) : zM l y_F_countBlock prog_2_method_10_code 4 (none) 4 0 0 (zA base) D cA base n n ex [.ref a0, .ref a1, .int a2] σ (zqv Q) :=
  zMet (by decide) rfl (Nat.le_of_ble_eq_true rfl) (fun p e s m args below meth c hr hnm => w_F_countBlock hr h)
def P_F_rewriteValue_82 (n : Nat) (Q : zS → Prop) (σ : zS) : Prop := Q σ
set_option maxHeartbeats 1000000 in
set_option maxRecDepth 10000 in
theorem w_F_rewriteValue_82 {Q : zS → Prop} (hr : meth.sig.returnType = none) {σ : zS} (h : P_F_rewriteValue_82 n Q σ) : zG p l e (zrm 4 0 0) s m args below meth c (MQ below (zQc (zA base) D cA base n ex (zqv Q)) args s 0 0 (zA base)) s.heap (zA base) base D cA 5 ex prog_2_method_13_code "ConstantFlow$Facts" n 0 0 82 [none, none, none, none, none] [] σ := by
  unfold P_F_rewriteValue_82 at h
  exact zw_vret d_F_rewriteValue_82 hr h
def P_F_rewriteValue (n : Nat) (a0 : Nat) (a1 : Nat) (a2 : Int32) (a3 : Nat) (σ : zS) (Q : zS → Prop) : Prop := zk n a1 6 ∧ ∃ c2, zr σ a1 4 = some c2 ∧ za n c2 10 a2 ∧ zk n a0 3 ∧ ∃ c6, zr σ a0 5 = some c6 ∧ zk n c6 4 ∧ P_V_settles n c6 a1 a2 σ (fun x8 σ9 => ((x8 = 0 → ((¬ (zi σ c2 a2.toNatClampNeg) = 0 → P_G_left n a2 σ9 (fun x11 σ12 => P_F_rewriteOperand n a0 a1 x11 a3 σ12 (fun σ14 => (((zi σ c2 a2.toNatClampNeg) = (1 : Int32) → P_F_rewriteValue_82 n Q σ14) ∧ (¬ ((zi σ c2 a2.toNatClampNeg) = (1 : Int32)) → zk n a3 1 ∧ P_T_append n a3 (zi σ c2 a2.toNatClampNeg) σ14 (fun σ16 => P_G_right n a2 σ16 (fun x18 σ19 => P_F_rewriteOperand n a0 a1 x18 a3 σ19 (fun σ21 => P_F_rewriteValue_82 n Q σ21)))))))) ∧ ((zi σ c2 a2.toNatClampNeg) = 0 → zk n a3 1 ∧ P_T_append n a3 (63 : Int32) σ9 (fun σ23 => P_F_rewriteValue_82 n Q σ23)))) ∧ (¬ (x8 = 0) → ∃ c25, zr σ9 a0 5 = some c25 ∧ zk n c25 4 ∧ P_V_settled n c25 a1 a2 σ9 (fun x27 σ28 => zk n a3 1 ∧ P_T_appendNumber n a3 x27 σ28 (fun σ31 => P_F_rewriteValue_82 n Q σ31)))))
set_option maxHeartbeats 1000000 in
set_option maxRecDepth 10000 in
theorem w_F_rewriteValue {Q : zS → Prop} (hr : meth.sig.returnType = none) {a0 : Nat} {a1 : Nat} {a2 : Int32} {a3 : Nat} {σ : zS} (h : P_F_rewriteValue n a0 a1 a2 a3 σ Q) : zG p l e (zrm 4 0 0) s m args below meth c (MQ below (zQc (zA base) D cA base n ex (zqv Q)) args s 0 0 (zA base)) s.heap (zA base) base D cA 5 ex prog_2_method_13_code "ConstantFlow$Facts" n 0 0 0 [some (.ref a0), some (.ref a1), some (.int a2), some (.ref a3), none] [] σ := by
  unfold P_F_rewriteValue at h
  refine zw_aload_n d_F_rewriteValue_0 rfl rfl ?_
  obtain ⟨q1, h⟩ := h
  obtain ⟨c2, q3, h⟩ := h
  refine zw_gfrN (ci := 6) (j := 4) d_F_rewriteValue_1 mw_1_170 q1.1 q1.2 (by decide) (by decide) rfl q3 ?_
  refine zw_iload_n d_F_rewriteValue_4 rfl rfl ?_
  obtain ⟨q4, h⟩ := h
  refine zw_iald d_F_rewriteValue_5 q4.1 (zkd_eta q4.2.1) q4.2.2 ?_
  refine zw_istore d_F_rewriteValue_6 (Nat.le_of_ble_eq_true rfl) rfl rfl ?_
  refine zw_aload_n d_F_rewriteValue_8 rfl rfl ?_
  obtain ⟨q5, h⟩ := h
  obtain ⟨c6, q7, h⟩ := h
  refine zw_gfr (ci := 3) (j := 5) d_F_rewriteValue_9 mw_1_101 q5.1 q5.2 (by decide) (by decide) rfl q7 ?_
  refine zw_aload_n d_F_rewriteValue_12 rfl rfl ?_
  refine zw_iload_n d_F_rewriteValue_13 rfl rfl ?_
  obtain ⟨q10, h⟩ := h
  refine zw_callV (ci := 4) (b := c6) (As := [.ref a1, .int a2]) (r := []) d_F_rewriteValue_14 (c_V_settles h) mw_2_49 mw_1_232 mw_1_233 mw_1_5 mw_1_234 (by decide) q10.1 q10.2 hyV_V_settles (Nat.le_of_ble_eq_true rfl) (Nat.le_of_ble_eq_true rfl) ⟨(Nat.le_of_ble_eq_true rfl), (Nat.le_of_ble_eq_true rfl)⟩ (Nat.le_of_ble_eq_true rfl) rfl (zk_i (fun x8 σ9 h => ?_))
  obtain ⟨ht, hf⟩ := h
  refine zw_if_eq (tgt := 36) d_F_rewriteValue_17 rfl (fun hc => ?_) (fun hc => ?_)
  · have h := ht hc; clear ht hf
    refine zw_iload d_F_rewriteValue_36 rfl ?_
    obtain ⟨ht, hf⟩ := h
    refine zw_if_ne (tgt := 50) d_F_rewriteValue_38 rfl (fun hc => ?_) (fun hc => ?_)
    · have h := ht hc; clear ht hf
      refine zw_aload_n d_F_rewriteValue_50 rfl rfl ?_
      refine zw_aload_n d_F_rewriteValue_51 rfl rfl ?_
      refine zw_iload_n d_F_rewriteValue_52 rfl rfl ?_
      refine zw_callS (As := [.int a2]) (r := [.ref a1, .ref a0]) d_F_rewriteValue_53 (c_G_left h) mw_2_200 mw_1_236 mw_1_7 mw_1_237 hyS_G_left (Nat.le_of_ble_eq_true rfl) (Nat.le_of_ble_eq_true rfl) ⟨(Nat.le_of_ble_eq_true rfl), (Nat.le_of_ble_eq_true rfl)⟩ (Nat.le_of_ble_eq_true rfl) rfl (zk_i (fun x11 σ12 h => ?_))
      refine zw_aload_n d_F_rewriteValue_56 rfl rfl ?_
      refine zw_callV (ci := 3) (b := a0) (As := [.ref a1, .int x11, .ref a3]) (r := []) d_F_rewriteValue_57 (c_F_rewriteOperand h) mw_2_201 mw_2_203 mp_2_3 mw_1_4 mw_2_204 (by decide) q5.1 q5.2 hyV_F_rewriteOperand (Nat.le_of_ble_eq_true rfl) (Nat.le_of_ble_eq_true rfl) ⟨(Nat.le_of_ble_eq_true rfl), (Nat.le_of_ble_eq_true rfl)⟩ (Nat.le_of_ble_eq_true rfl) rfl (zk_v (fun σ14 h => ?_))
      refine zw_iload d_F_rewriteValue_60 rfl ?_
      refine zw_iconst (v := 1) d_F_rewriteValue_62 rfl ?_
      obtain ⟨ht, hf⟩ := h
      refine zw_icmp_eq (tgt := 82) d_F_rewriteValue_63 rfl (fun hc => ?_) (fun hc => ?_)
      · have h := ht hc; clear ht hf
        refine zw_le (ls' := [none, none, none, none, none]) (True.intro) ?_
        exact w_F_rewriteValue_82 hr h
      · have h := hf hc; clear ht hf
        refine zw_aload_n d_F_rewriteValue_66 rfl rfl ?_
        refine zw_iload d_F_rewriteValue_67 rfl ?_
        obtain ⟨q17, h⟩ := h
        refine zw_callV (ci := 1) (b := a3) (As := [.int (zi σ c2 a2.toNatClampNeg)]) (r := []) d_F_rewriteValue_69 (c_T_append h) mw_2_180 mw_2_181 mw_2_182 mw_1_2 mw_2_183 (by decide) q17.1 q17.2 hyV_T_append (Nat.le_of_ble_eq_true rfl) (Nat.le_of_ble_eq_true rfl) ⟨(Nat.le_of_ble_eq_true rfl), (Nat.le_of_ble_eq_true rfl)⟩ (Nat.le_of_ble_eq_true rfl) rfl (zk_v (fun σ16 h => ?_))
        refine zw_aload_n d_F_rewriteValue_72 rfl rfl ?_
        refine zw_aload_n d_F_rewriteValue_73 rfl rfl ?_
        refine zw_iload_n d_F_rewriteValue_74 rfl rfl ?_
        refine zw_callS (As := [.int a2]) (r := [.ref a1, .ref a0]) d_F_rewriteValue_75 (c_G_right h) mw_2_205 mw_1_239 mw_1_7 mw_2_0 hyS_G_right (Nat.le_of_ble_eq_true rfl) (Nat.le_of_ble_eq_true rfl) ⟨(Nat.le_of_ble_eq_true rfl), (Nat.le_of_ble_eq_true rfl)⟩ (Nat.le_of_ble_eq_true rfl) rfl (zk_i (fun x18 σ19 h => ?_))
        refine zw_aload_n d_F_rewriteValue_78 rfl rfl ?_
        refine zw_callV (ci := 3) (b := a0) (As := [.ref a1, .int x18, .ref a3]) (r := []) d_F_rewriteValue_79 (c_F_rewriteOperand h) mw_2_201 mw_2_203 mp_2_3 mw_1_4 mw_2_204 (by decide) q5.1 q5.2 hyV_F_rewriteOperand (Nat.le_of_ble_eq_true rfl) (Nat.le_of_ble_eq_true rfl) ⟨(Nat.le_of_ble_eq_true rfl), (Nat.le_of_ble_eq_true rfl)⟩ (Nat.le_of_ble_eq_true rfl) rfl (zk_v (fun σ21 h => ?_))
        refine zw_le (ls' := [none, none, none, none, none]) (True.intro) ?_
        exact w_F_rewriteValue_82 hr h
    · have h := hf hc; clear ht hf
      refine zw_aload_n d_F_rewriteValue_41 rfl rfl ?_
      refine zw_bipush (v := 63) d_F_rewriteValue_42 rfl ?_
      obtain ⟨q24, h⟩ := h
      refine zw_callV (ci := 1) (b := a3) (As := [.int (63 : Int32)]) (r := []) d_F_rewriteValue_44 (c_T_append h) mw_2_180 mw_2_181 mw_2_182 mw_1_2 mw_2_183 (by decide) q24.1 q24.2 hyV_T_append (Nat.le_of_ble_eq_true rfl) (Nat.le_of_ble_eq_true rfl) ⟨(Nat.le_of_ble_eq_true rfl), (Nat.le_of_ble_eq_true rfl)⟩ (Nat.le_of_ble_eq_true rfl) rfl (zk_v (fun σ23 h => ?_))
      refine zw_goto (tgt := 82) d_F_rewriteValue_47 rfl ?_
      refine zw_le (ls' := [none, none, none, none, none]) (True.intro) ?_
      exact w_F_rewriteValue_82 hr h
  · have h := hf hc; clear ht hf
    refine zw_aload_n d_F_rewriteValue_20 rfl rfl ?_
    refine zw_aload_n d_F_rewriteValue_21 rfl rfl ?_
    obtain ⟨c25, q26, h⟩ := h
    refine zw_gfr (ci := 3) (j := 5) d_F_rewriteValue_22 mw_1_101 q5.1 q5.2 (by decide) (by decide) rfl q26 ?_
    refine zw_aload_n d_F_rewriteValue_25 rfl rfl ?_
    refine zw_iload_n d_F_rewriteValue_26 rfl rfl ?_
    obtain ⟨q29, h⟩ := h
    refine zw_callV (ci := 4) (b := c25) (As := [.ref a1, .int a2]) (r := [.ref a3]) d_F_rewriteValue_27 (c_V_settled h) mw_2_188 mw_2_10 mw_2_11 mw_1_5 mw_2_12 (by decide) q29.1 q29.2 hyV_V_settled (Nat.le_of_ble_eq_true rfl) (Nat.le_of_ble_eq_true rfl) ⟨(Nat.le_of_ble_eq_true rfl), (Nat.le_of_ble_eq_true rfl)⟩ (Nat.le_of_ble_eq_true rfl) rfl (zk_i (fun x27 σ28 h => ?_))
    obtain ⟨q32, h⟩ := h
    refine zw_callV (ci := 1) (b := a3) (As := [.int x27]) (r := []) d_F_rewriteValue_30 (c_T_appendNumber h) mw_2_189 mw_2_190 mw_2_191 mw_1_2 mw_2_192 (by decide) q32.1 q32.2 hyV_T_appendNumber (Nat.le_of_ble_eq_true rfl) (Nat.le_of_ble_eq_true rfl) ⟨(Nat.le_of_ble_eq_true rfl), (Nat.le_of_ble_eq_true rfl)⟩ (Nat.le_of_ble_eq_true rfl) rfl (zk_v (fun σ31 h => ?_))
    refine zw_goto (tgt := 82) d_F_rewriteValue_33 rfl ?_
    refine zw_le (ls' := [none, none, none, none, none]) (True.intro) ?_
    exact w_F_rewriteValue_82 hr h
theorem c_F_rewriteValue {l : Launch} {D : va_G} {cA : Nat → ClassId} {base n : Nat} {ex : Bool} {Q : zS → Prop} {a0 : Nat} {a1 : Nat} {a2 : Int32} {a3 : Nat} {σ : zS} (h : P_F_rewriteValue n a0 a1 a2 a3 σ Q) : zM l y_F_rewriteValue prog_2_method_13_code 5 (none) 4 0 0 (zA base) D cA base n n ex [.ref a0, .ref a1, .int a2, .ref a3] σ (zqv Q) :=
  zMet (by decide) rfl (Nat.le_of_ble_eq_true rfl) (fun p e s m args below meth c hr hnm => w_F_rewriteValue hr h)
def P_F_onlyGoal (n : Nat) (a0 : Nat) (a1 : Nat) (a2 : Int32) (σ : zS) (Q : Int32 → zS → Prop) : Prop := zk n a0 3 ∧ ∃ c2, zr σ a0 3 = some c2 ∧ za n c2 13 a2 ∧ ∃ c5, zr σ c2 a2.toNatClampNeg = some c5 ∧ P_G_ofEnd n a2 σ (fun x7 σ8 => zk n c5 4 ∧ P_V_numberOf n c5 a1 x7 σ8 (fun x9 σ10 => zk n a1 6 ∧ P_G_goalFor n a1 a2 x9 σ10 (fun x12 σ13 => Q x12 σ13)))
set_option maxHeartbeats 1000000 in
set_option maxRecDepth 10000 in
theorem w_F_onlyGoal {Q : Int32 → zS → Prop} (hr : meth.sig.returnType = some .int) {a0 : Nat} {a1 : Nat} {a2 : Int32} {σ : zS} (h : P_F_onlyGoal n a0 a1 a2 σ Q) : zG p l e (zrm 4 0 0) s m args below meth c (MQ below (zQc (zA base) D cA base n ex (zqi Q)) args s 0 0 (zA base)) s.heap (zA base) base D cA 3 ex prog_2_method_8_code "ConstantFlow$Facts" n 0 0 0 [some (.ref a0), some (.ref a1), some (.int a2)] [] σ := by
  unfold P_F_onlyGoal at h
  refine zw_aload_n d_F_onlyGoal_0 rfl rfl ?_
  refine zw_iload_n d_F_onlyGoal_1 rfl rfl ?_
  refine zw_aload_n d_F_onlyGoal_2 rfl rfl ?_
  obtain ⟨q1, h⟩ := h
  obtain ⟨c2, q3, h⟩ := h
  refine zw_gfr (ci := 3) (j := 3) d_F_onlyGoal_3 mw_1_99 q1.1 q1.2 (by decide) (by decide) rfl q3 ?_
  refine zw_iload_n d_F_onlyGoal_6 rfl rfl ?_
  obtain ⟨q4, h⟩ := h
  obtain ⟨c5, q6, h⟩ := h
  refine zw_aald d_F_onlyGoal_7 q4.1 (zkd_eta q4.2.1) q4.2.2 q6 ?_
  refine zw_aload_n d_F_onlyGoal_8 rfl rfl ?_
  refine zw_iload_n d_F_onlyGoal_9 rfl rfl ?_
  refine zw_callS (As := [.int a2]) (r := [.ref a1, .ref c5, .int a2, .ref a1]) d_F_onlyGoal_10 (c_G_ofEnd h) mw_2_20 mw_2_21 mw_1_7 mw_2_22 hyS_G_ofEnd (Nat.le_of_ble_eq_true rfl) (Nat.le_of_ble_eq_true rfl) ⟨(Nat.le_of_ble_eq_true rfl), (Nat.le_of_ble_eq_true rfl)⟩ (Nat.le_of_ble_eq_true rfl) rfl (zk_i (fun x7 σ8 h => ?_))
  obtain ⟨q11, h⟩ := h
  refine zw_callV (ci := 4) (b := c5) (As := [.ref a1, .int x7]) (r := [.int a2, .ref a1]) d_F_onlyGoal_13 (c_V_numberOf h) mw_2_35 mw_2_6 mw_2_7 mw_1_5 mw_2_8 (by decide) q11.1 q11.2 hyV_V_numberOf (Nat.le_of_ble_eq_true rfl) (Nat.le_of_ble_eq_true rfl) ⟨(Nat.le_of_ble_eq_true rfl), (Nat.le_of_ble_eq_true rfl)⟩ (Nat.le_of_ble_eq_true rfl) rfl (zk_i (fun x9 σ10 h => ?_))
  obtain ⟨q14, h⟩ := h
  refine zw_callV (ci := 6) (b := a1) (As := [.int a2, .int x9]) (r := []) d_F_onlyGoal_16 (c_G_goalFor h) mw_2_36 mw_2_37 mw_2_38 mw_1_7 mw_2_39 (by decide) q14.1 q14.2 hyV_G_goalFor (Nat.le_of_ble_eq_true rfl) (Nat.le_of_ble_eq_true rfl) ⟨(Nat.le_of_ble_eq_true rfl), (Nat.le_of_ble_eq_true rfl)⟩ (Nat.le_of_ble_eq_true rfl) rfl (zk_i (fun x12 σ13 h => ?_))
  exact zw_iret d_F_onlyGoal_19 hr h
theorem c_F_onlyGoal {l : Launch} {D : va_G} {cA : Nat → ClassId} {base n : Nat} {ex : Bool} {Q : Int32 → zS → Prop} {a0 : Nat} {a1 : Nat} {a2 : Int32} {σ : zS} (h : P_F_onlyGoal n a0 a1 a2 σ Q) : zM l y_F_onlyGoal prog_2_method_8_code 3 (some .int) 4 0 0 (zA base) D cA base n n ex [.ref a0, .ref a1, .int a2] σ (zqi Q) :=
  zMet (by decide) rfl (Nat.le_of_ble_eq_true rfl) (fun p e s m args below meth c hr hnm => w_F_onlyGoal hr h)
def P_X_execute_118 (n : Nat) (Q : Int32 → zS → Prop) (K39 : Nat → Nat → Int32 → Int32 → Int32 → Int32 → zS → Prop) (a0 : Nat) (a1 : Nat) (a2 : Int32) (a3 : Int32) (a4 : Int32) (a5 : Int32) (σ : zS) : Prop := K39 a0 a1 a2 a3 a4 (a5 + (1 : Int32)) σ
set_option maxHeartbeats 1000000 in
set_option maxRecDepth 10000 in
theorem w_X_execute_118 {Q : Int32 → zS → Prop} {K39 : Nat → Nat → Int32 → Int32 → Int32 → Int32 → zS → Prop} (hr : meth.sig.returnType = some .int) (hK39 : ∀ (a0 : Nat) (a1 : Nat) (a2 : Int32) (a3 : Int32) (a4 : Int32) (a5 : Int32) (σ : zS), K39 a0 a1 a2 a3 a4 a5 σ → zG p l e (zrm 4 0 0) s m args below meth c (MQ below (zQc (zA base) D cA base n ex (zqi Q)) args s 0 0 (zA base)) s.heap (zA base) base D cA 6 ex prog_3_method_2_code "ConstantFlow$Machine" n 0 0 39 [some (.ref a0), some (.ref a1), some (.int a2), some (.int a3), some (.int a4), some (.int a5)] [] σ) {a0 : Nat} {a1 : Nat} {a2 : Int32} {a3 : Int32} {a4 : Int32} {a5 : Int32} {σ : zS} (h : P_X_execute_118 n Q K39 a0 a1 a2 a3 a4 a5 σ) : zG p l e (zrm 4 0 0) s m args below meth c (MQ below (zQc (zA base) D cA base n ex (zqi Q)) args s 0 0 (zA base)) s.heap (zA base) base D cA 6 ex prog_3_method_2_code "ConstantFlow$Machine" n 0 0 118 [some (.ref a0), some (.ref a1), some (.int a2), some (.int a3), some (.int a4), some (.int a5)] [] σ := by
  unfold P_X_execute_118 at h
  refine zw_iinc (v := (a5 + (1 : Int32))) d_X_execute_118 rfl rfl (Nat.le_of_ble_eq_true rfl) rfl rfl ?_
  refine zw_goto (tgt := 39) d_X_execute_121 rfl ?_
  exact hK39 _ _ _ _ _ _ _ h
def P_X_execute_39 (n : Nat) (Q : Int32 → zS → Prop) : Nat → Nat → Nat → Int32 → Int32 → Int32 → Int32 → zS → Prop
  | 0, _, _, _, _, _, _, _ => False
  | f + 1, a0, a1, a2, a3, a4, a5, σ => ((a2 < a5 → Q (-1 : Int32) σ) ∧ (¬ (a2 < a5) → zk n a1 6 ∧ ∃ c2, zr σ a1 2 = some c2 ∧ za n c2 10 (a3 + (1 : Int32)) ∧ (((zi σ c2 (a3 + (1 : Int32)).toNatClampNeg) ≤ a4 → ∃ c5, zr σ a1 7 = some c5 ∧ za n c5 10 a3 ∧ ((¬ (zi σ c5 a3.toNatClampNeg) = 0 → P_G_ofEnd n a3 σ (fun x8 σ9 => zk n a0 5 ∧ P_X_operand n a0 a1 x8 σ9 (fun x10 σ11 => P_G_goalFor n a1 a3 x10 σ11 (fun x13 σ14 => ∃ c15, zr σ14 a1 2 = some c15 ∧ za n c15 10 x13 ∧ P_X_execute_118 n Q (fun (a0 : Nat) (a1 : Nat) (a2 : Int32) (a3 : Int32) (a4 : Int32) (a5 : Int32) (σ : zS) => P_X_execute_39 n Q f a0 a1 a2 a3 a4 a5 σ) a0 a1 a2 x13 (zi σ14 c15 x13.toNatClampNeg) a5 σ14)))) ∧ ((zi σ c5 a3.toNatClampNeg) = 0 → Q a5 σ))) ∧ (¬ ((zi σ c2 (a3 + (1 : Int32)).toNatClampNeg) ≤ a4) → zk n a0 5 ∧ ∃ c19, zr σ a0 2 = some c19 ∧ ∃ c21, zr σ a1 3 = some c21 ∧ za n c21 10 a4 ∧ P_X_valueOf n a0 a1 a4 σ (fun x24 σ25 => za n c19 10 (zi σ c21 a4.toNatClampNeg) ∧ P_X_execute_118 n Q (fun (a0 : Nat) (a1 : Nat) (a2 : Int32) (a3 : Int32) (a4 : Int32) (a5 : Int32) (σ : zS) => P_X_execute_39 n Q f a0 a1 a2 a3 a4 a5 σ) a0 a1 a2 a3 (a4 + (1 : Int32)) a5 (zI σ25 c19 (zi σ c21 a4.toNatClampNeg).toNatClampNeg x24))))))
set_option maxHeartbeats 1000000 in
set_option maxRecDepth 10000 in
theorem w_X_execute_39 {Q : Int32 → zS → Prop} (hr : meth.sig.returnType = some .int) : ∀ (f : Nat) (a0 : Nat) (a1 : Nat) (a2 : Int32) (a3 : Int32) (a4 : Int32) (a5 : Int32) (σ : zS), P_X_execute_39 n Q f a0 a1 a2 a3 a4 a5 σ → zG p l e (zrm 4 0 0) s m args below meth c (MQ below (zQc (zA base) D cA base n ex (zqi Q)) args s 0 0 (zA base)) s.heap (zA base) base D cA 6 ex prog_3_method_2_code "ConstantFlow$Machine" n 0 0 39 [some (.ref a0), some (.ref a1), some (.int a2), some (.int a3), some (.int a4), some (.int a5)] [] σ := by
  intro f
  induction f with
  | zero => intro a0 a1 a2 a3 a4 a5 σ h; exact False.elim h
  | succ f ih =>
    intro a0 a1 a2 a3 a4 a5 σ h
    refine zw_iload d_X_execute_39 rfl ?_
    refine zw_iload_n d_X_execute_41 rfl rfl ?_
    obtain ⟨ht, hf⟩ := h
    refine zw_icmp_gt (tgt := 124) d_X_execute_42 rfl (fun hc => ?_) (fun hc => ?_)
    · have h := ht hc; clear ht hf
      refine zw_iconst (v := -1) d_X_execute_124 rfl ?_
      exact zw_iret d_X_execute_125 hr h
    · have h := hf hc; clear ht hf
      refine zw_iload d_X_execute_45 rfl ?_
      refine zw_aload_n d_X_execute_47 rfl rfl ?_
      obtain ⟨q1, h⟩ := h
      obtain ⟨c2, q3, h⟩ := h
      refine zw_gfrN (ci := 6) (j := 2) d_X_execute_48 mw_1_159 q1.1 q1.2 (by decide) (by decide) rfl q3 ?_
      refine zw_iload_n d_X_execute_51 rfl rfl ?_
      refine zw_iconst (v := 1) d_X_execute_52 rfl ?_
      refine zw_iadd d_X_execute_53 ?_
      obtain ⟨q4, h⟩ := h
      refine zw_iald d_X_execute_54 q4.1 (zkd_eta q4.2.1) q4.2.2 ?_
      obtain ⟨ht, hf⟩ := h
      refine zw_icmp_ge (tgt := 83) d_X_execute_55 rfl (fun hc => ?_) (fun hc => ?_)
      · have h := ht hc; clear ht hf
        refine zw_aload_n d_X_execute_83 rfl rfl ?_
        obtain ⟨c5, q6, h⟩ := h
        refine zw_gfrN (ci := 6) (j := 7) d_X_execute_84 mw_1_179 q1.1 q1.2 (by decide) (by decide) rfl q6 ?_
        refine zw_iload_n d_X_execute_87 rfl rfl ?_
        obtain ⟨q7, h⟩ := h
        refine zw_iald d_X_execute_88 q7.1 (zkd_eta q7.2.1) q7.2.2 ?_
        obtain ⟨ht, hf⟩ := h
        refine zw_if_ne (tgt := 95) d_X_execute_89 rfl (fun hc => ?_) (fun hc => ?_)
        · have h := ht hc; clear ht hf
          refine zw_aload_n d_X_execute_95 rfl rfl ?_
          refine zw_iload_n d_X_execute_96 rfl rfl ?_
          refine zw_aload_n d_X_execute_97 rfl rfl ?_
          refine zw_aload_n d_X_execute_98 rfl rfl ?_
          refine zw_iload_n d_X_execute_99 rfl rfl ?_
          refine zw_callS (As := [.int a3]) (r := [.ref a1, .ref a0, .int a3, .ref a1]) d_X_execute_100 (c_G_ofEnd h) mw_3_169 mw_2_21 mw_1_7 mw_2_22 hyS_G_ofEnd (Nat.le_of_ble_eq_true rfl) (Nat.le_of_ble_eq_true rfl) ⟨(Nat.le_of_ble_eq_true rfl), (Nat.le_of_ble_eq_true rfl)⟩ (Nat.le_of_ble_eq_true rfl) rfl (zk_i (fun x8 σ9 h => ?_))
          obtain ⟨q12, h⟩ := h
          refine zw_callV (ci := 5) (b := a0) (As := [.ref a1, .int x8]) (r := [.int a3, .ref a1]) d_X_execute_103 (c_X_operand h) mw_3_163 mw_3_165 mp_2_9 mw_1_6 mw_3_166 (by decide) q12.1 q12.2 hyV_X_operand (Nat.le_of_ble_eq_true rfl) (Nat.le_of_ble_eq_true rfl) ⟨(Nat.le_of_ble_eq_true rfl), (Nat.le_of_ble_eq_true rfl)⟩ (Nat.le_of_ble_eq_true rfl) rfl (zk_i (fun x10 σ11 h => ?_))
          refine zw_callV (ci := 6) (b := a1) (As := [.int a3, .int x10]) (r := []) d_X_execute_106 (c_G_goalFor h) mw_3_170 mw_2_37 mw_2_38 mw_1_7 mw_2_39 (by decide) q1.1 q1.2 hyV_G_goalFor (Nat.le_of_ble_eq_true rfl) (Nat.le_of_ble_eq_true rfl) ⟨(Nat.le_of_ble_eq_true rfl), (Nat.le_of_ble_eq_true rfl)⟩ (Nat.le_of_ble_eq_true rfl) rfl (zk_i (fun x13 σ14 h => ?_))
          refine zw_istore_n d_X_execute_109 rfl (Nat.le_of_ble_eq_true rfl) rfl rfl ?_
          refine zw_aload_n d_X_execute_110 rfl rfl ?_
          obtain ⟨c15, q16, h⟩ := h
          refine zw_gfrN (ci := 6) (j := 2) d_X_execute_111 mw_1_159 q1.1 q1.2 (by decide) (by decide) rfl q16 ?_
          refine zw_iload_n d_X_execute_114 rfl rfl ?_
          obtain ⟨q17, h⟩ := h
          refine zw_iald d_X_execute_115 q17.1 (zkd_eta q17.2.1) q17.2.2 ?_
          refine zw_istore d_X_execute_116 (Nat.le_of_ble_eq_true rfl) rfl rfl ?_
          exact w_X_execute_118 hr (fun a0 a1 a2 a3 a4 a5 σ hk => ih a0 a1 a2 a3 a4 a5 σ hk) h
        · have h := hf hc; clear ht hf
          refine zw_iload d_X_execute_92 rfl ?_
          exact zw_iret d_X_execute_94 hr h
      · have h := hf hc; clear ht hf
        refine zw_aload_n d_X_execute_58 rfl rfl ?_
        obtain ⟨q18, h⟩ := h
        obtain ⟨c19, q20, h⟩ := h
        refine zw_gfr (ci := 5) (j := 2) d_X_execute_59 mw_1_132 q18.1 q18.2 (by decide) (by decide) rfl q20 ?_
        refine zw_aload_n d_X_execute_62 rfl rfl ?_
        obtain ⟨c21, q22, h⟩ := h
        refine zw_gfrN (ci := 6) (j := 3) d_X_execute_63 mw_1_162 q1.1 q1.2 (by decide) (by decide) rfl q22 ?_
        refine zw_iload d_X_execute_66 rfl ?_
        obtain ⟨q23, h⟩ := h
        refine zw_iald d_X_execute_68 q23.1 (zkd_eta q23.2.1) q23.2.2 ?_
        refine zw_aload_n d_X_execute_69 rfl rfl ?_
        refine zw_aload_n d_X_execute_70 rfl rfl ?_
        refine zw_iload d_X_execute_71 rfl ?_
        refine zw_callV (ci := 5) (b := a0) (As := [.ref a1, .int a4]) (r := [.int (zi σ c21 a4.toNatClampNeg), .ref c19]) d_X_execute_73 (c_X_valueOf h) mw_3_154 mw_3_156 mp_2_7 mw_1_6 mw_3_157 (by decide) q18.1 q18.2 hyV_X_valueOf (Nat.le_of_ble_eq_true rfl) (Nat.le_of_ble_eq_true rfl) ⟨(Nat.le_of_ble_eq_true rfl), (Nat.le_of_ble_eq_true rfl)⟩ (Nat.le_of_ble_eq_true rfl) rfl (zk_i (fun x24 σ25 h => ?_))
        obtain ⟨q26, h⟩ := h
        refine zw_iast d_X_execute_76 q26.1 (zkd_eta q26.2.1) q26.2.2 ?_
        refine zw_iinc (v := (a4 + (1 : Int32))) d_X_execute_77 rfl rfl (Nat.le_of_ble_eq_true rfl) rfl rfl ?_
        refine zw_goto (tgt := 118) d_X_execute_80 rfl ?_
        exact w_X_execute_118 hr (fun a0 a1 a2 a3 a4 a5 σ hk => ih a0 a1 a2 a3 a4 a5 σ hk) h
def P_X_execute_2 (n : Nat) (Q : Int32 → zS → Prop) : Nat → Nat → Nat → Int32 → Int32 → zS → Prop
  | 0, _, _, _, _, _ => False
  | f + 1, a0, a1, a2, a3, σ => (((8 : Int32) ≤ a3 → zk n a0 5 ∧ zk n a1 6 ∧ ∃ c3, zr (zI σ a0 3 (0 : Int32)) a1 2 = some c3 ∧ za n c3 10 (0 : Int32) ∧ ∃ g, P_X_execute_39 n Q g a0 a1 a2 (0 : Int32) (zi (zI σ a0 3 (0 : Int32)) c3 (0 : Int32).toNatClampNeg) (1 : Int32) (zI σ a0 3 (0 : Int32))) ∧ (¬ ((8 : Int32) ≤ a3) → zk n a0 5 ∧ ∃ c7, zr σ a0 2 = some c7 ∧ za n c7 10 a3 ∧ P_X_execute_2 n Q f a0 a1 a2 (a3 + (1 : Int32)) (zI σ c7 a3.toNatClampNeg (0 : Int32))))
set_option maxHeartbeats 1000000 in
set_option maxRecDepth 10000 in
theorem w_X_execute_2 {Q : Int32 → zS → Prop} (hr : meth.sig.returnType = some .int) : ∀ (f : Nat) (a0 : Nat) (a1 : Nat) (a2 : Int32) (a3 : Int32) (σ : zS), P_X_execute_2 n Q f a0 a1 a2 a3 σ → zG p l e (zrm 4 0 0) s m args below meth c (MQ below (zQc (zA base) D cA base n ex (zqi Q)) args s 0 0 (zA base)) s.heap (zA base) base D cA 6 ex prog_3_method_2_code "ConstantFlow$Machine" n 0 0 2 [some (.ref a0), some (.ref a1), some (.int a2), some (.int a3), none, none] [] σ := by
  intro f
  induction f with
  | zero => intro a0 a1 a2 a3 σ h; exact False.elim h
  | succ f ih =>
    intro a0 a1 a2 a3 σ h
    refine zw_iload_n d_X_execute_2 rfl rfl ?_
    refine zw_bipush (v := 8) d_X_execute_3 rfl ?_
    obtain ⟨ht, hf⟩ := h
    refine zw_icmp_ge (tgt := 21) d_X_execute_5 rfl (fun hc => ?_) (fun hc => ?_)
    · have h := ht hc; clear ht hf
      refine zw_aload_n d_X_execute_21 rfl rfl ?_
      refine zw_iconst (v := 0) d_X_execute_22 rfl ?_
      obtain ⟨q1, h⟩ := h
      refine zw_pfi (ci := 5) (j := 3) d_X_execute_23 mw_1_134 q1.1 q1.2 (by decide) (by decide) rfl rfl rfl rfl ?_
      refine zw_iconst (v := 0) d_X_execute_26 rfl ?_
      refine zw_istore_n d_X_execute_27 rfl (Nat.le_of_ble_eq_true rfl) rfl rfl ?_
      refine zw_aload_n d_X_execute_28 rfl rfl ?_
      obtain ⟨q2, h⟩ := h
      obtain ⟨c3, q4, h⟩ := h
      refine zw_gfrN (ci := 6) (j := 2) d_X_execute_29 mw_1_159 q2.1 q2.2 (by decide) (by decide) rfl q4 ?_
      refine zw_iconst (v := 0) d_X_execute_32 rfl ?_
      obtain ⟨q5, h⟩ := h
      refine zw_iald d_X_execute_33 q5.1 (zkd_eta q5.2.1) q5.2.2 ?_
      refine zw_istore d_X_execute_34 (Nat.le_of_ble_eq_true rfl) rfl rfl ?_
      refine zw_iconst (v := 1) d_X_execute_36 rfl ?_
      refine zw_istore d_X_execute_37 (Nat.le_of_ble_eq_true rfl) rfl rfl ?_
      obtain ⟨g, h⟩ := h
      exact w_X_execute_39 hr g _ _ _ _ _ _ _ h
    · have h := hf hc; clear ht hf
      refine zw_aload_n d_X_execute_8 rfl rfl ?_
      obtain ⟨q6, h⟩ := h
      obtain ⟨c7, q8, h⟩ := h
      refine zw_gfr (ci := 5) (j := 2) d_X_execute_9 mw_1_132 q6.1 q6.2 (by decide) (by decide) rfl q8 ?_
      refine zw_iload_n d_X_execute_12 rfl rfl ?_
      refine zw_iconst (v := 0) d_X_execute_13 rfl ?_
      obtain ⟨q9, h⟩ := h
      refine zw_iast d_X_execute_14 q9.1 (zkd_eta q9.2.1) q9.2.2 ?_
      refine zw_iinc (v := (a3 + (1 : Int32))) d_X_execute_15 rfl rfl (Nat.le_of_ble_eq_true rfl) rfl rfl ?_
      refine zw_goto (tgt := 2) d_X_execute_18 rfl ?_
      exact ih _ _ _ _ _ h
def P_X_execute (n : Nat) (a0 : Nat) (a1 : Nat) (a2 : Int32) (σ : zS) (Q : Int32 → zS → Prop) : Prop := ∃ g, P_X_execute_2 n Q g a0 a1 a2 (0 : Int32) σ
set_option maxHeartbeats 1000000 in
set_option maxRecDepth 10000 in
theorem w_X_execute {Q : Int32 → zS → Prop} (hr : meth.sig.returnType = some .int) {a0 : Nat} {a1 : Nat} {a2 : Int32} {σ : zS} (h : P_X_execute n a0 a1 a2 σ Q) : zG p l e (zrm 4 0 0) s m args below meth c (MQ below (zQc (zA base) D cA base n ex (zqi Q)) args s 0 0 (zA base)) s.heap (zA base) base D cA 6 ex prog_3_method_2_code "ConstantFlow$Machine" n 0 0 0 [some (.ref a0), some (.ref a1), some (.int a2), none, none, none] [] σ := by
  unfold P_X_execute at h
  refine zw_iconst (v := 0) d_X_execute_0 rfl ?_
  refine zw_istore_n d_X_execute_1 rfl (Nat.le_of_ble_eq_true rfl) rfl rfl ?_
  obtain ⟨g, h⟩ := h
  exact w_X_execute_2 hr g _ _ _ _ _ h
theorem c_X_execute {l : Launch} {D : va_G} {cA : Nat → ClassId} {base n : Nat} {ex : Bool} {Q : Int32 → zS → Prop} {a0 : Nat} {a1 : Nat} {a2 : Int32} {σ : zS} (h : P_X_execute n a0 a1 a2 σ Q) : zM l y_X_execute prog_3_method_2_code 6 (some .int) 4 0 0 (zA base) D cA base n n ex [.ref a0, .ref a1, .int a2] σ (zqi Q) :=
  zMet (by decide) rfl (Nat.le_of_ble_eq_true rfl) (fun p e s m args below meth c hr hnm => w_X_execute hr h)
def P_R_fillStatement_135 (n : Nat) (Q : Int32 → zS → Prop) (a0 : Nat) (σ : zS) : Prop := zk n a0 2 ∧ P_R_pass n a0 (59 : Int32) σ (fun x1 σ2 => (x1 = 0 ∨ x1 = 1) ∧ Q x1 σ2)
set_option maxHeartbeats 1000000 in
set_option maxRecDepth 10000 in
theorem w_R_fillStatement_135 {Q : Int32 → zS → Prop} (hr : meth.sig.returnType = some .boolean) {a0 : Nat} {σ : zS} (h : P_R_fillStatement_135 n Q a0 σ) : zG p l e (zrm 4 0 0) s m args below meth c (MQ below (zQc (zA base) D cA base n ex (zqi Q)) args s 0 0 (zA base)) s.heap (zA base) base D cA 4 ex prog_5_method_7_code "ConstantFlow$Reader" n 0 0 135 [some (.ref a0), none, none, none] [] σ := by
  unfold P_R_fillStatement_135 at h
  refine zw_aload_n d_R_fillStatement_135 rfl rfl ?_
  refine zw_bipush (v := 59) d_R_fillStatement_136 rfl ?_
  obtain ⟨q3, h⟩ := h
  refine zw_callV (ci := 2) (b := a0) (As := [.int (59 : Int32)]) (r := []) d_R_fillStatement_138 (c_R_pass h) mw_2_111 mw_2_113 mp_1_11 mw_1_3 mw_2_114 (by decide) q3.1 q3.2 hyV_R_pass (Nat.le_of_ble_eq_true rfl) (Nat.le_of_ble_eq_true rfl) ⟨(Nat.le_of_ble_eq_true rfl), (Nat.le_of_ble_eq_true rfl)⟩ (Nat.le_of_ble_eq_true rfl) rfl (zk_i (fun x1 σ2 h => ?_))
  obtain ⟨q4, h⟩ := h
  exact zw_zret d_R_fillStatement_141 hr q4 h
def P_R_fillStatement (n : Nat) (a0 : Nat) (a1 : Int32) (σ : zS) (Q : Int32 → zS → Prop) : Prop := zk n a0 2 ∧ ∃ c2, zr σ a0 2 = some c2 ∧ zk n c2 6 ∧ ∃ c5, zr σ a0 2 = some c5 ∧ zk n c5 6 ∧ ∃ c8, zr (zI σ c5 1 ((zi σ c5 1) + (1 : Int32))) a0 2 = some c8 ∧ zk n c8 6 ∧ ∃ c11, zr (zI σ c5 1 ((zi σ c5 1) + (1 : Int32))) c8 3 = some c11 ∧ za n c11 10 (zi σ c2 1) ∧ ∃ c14, zr (zI (zI σ c5 1 ((zi σ c5 1) + (1 : Int32))) c11 (zi σ c2 1).toNatClampNeg a1) a0 2 = some c14 ∧ zk n c14 6 ∧ ∃ c17, zr (zI (zI σ c5 1 ((zi σ c5 1) + (1 : Int32))) c11 (zi σ c2 1).toNatClampNeg a1) c14 4 = some c17 ∧ za n c17 10 (zi σ c2 1) ∧ P_R_next n a0 (zI (zI (zI σ c5 1 ((zi σ c5 1) + (1 : Int32))) c11 (zi σ c2 1).toNatClampNeg a1) c17 (zi σ c2 1).toNatClampNeg (0 : Int32)) (fun x20 σ21 => ((¬ x20 = (63 : Int32) → ∃ c22, zr σ21 a0 2 = some c22 ∧ zk n c22 6 ∧ ∃ c25, zr σ21 c22 4 = some c25 ∧ za n c25 10 (zi σ c2 1) ∧ P_G_left n (zi σ c2 1) (zI σ21 c25 (zi σ c2 1).toNatClampNeg (1 : Int32)) (fun x28 σ29 => P_R_fillOperand n a0 x28 σ29 (fun x30 σ31 => ((¬ x30 = 0 → P_R_next n a0 σ31 (fun x32 σ33 => P_C_isOperator n x32 σ33 (fun x34 σ35 => ((x34 = 0 → P_R_fillStatement_135 n Q a0 σ35) ∧ (¬ (x34 = 0) → ∃ c36, zr (zI σ35 a0 3 ((zi σ35 a0 3) + (1 : Int32))) a0 2 = some c36 ∧ zk n c36 6 ∧ ∃ c39, zr (zI σ35 a0 3 ((zi σ35 a0 3) + (1 : Int32))) c36 4 = some c39 ∧ za n c39 10 (zi σ c2 1) ∧ P_G_right n (zi σ c2 1) (zI (zI σ35 a0 3 ((zi σ35 a0 3) + (1 : Int32))) c39 (zi σ c2 1).toNatClampNeg x32) (fun x42 σ43 => P_R_fillOperand n a0 x42 σ43 (fun x44 σ45 => ((¬ x44 = 0 → P_R_fillStatement_135 n Q a0 σ45) ∧ (x44 = 0 → ((0 : Int32) = 0 ∨ (0 : Int32) = 1) ∧ Q (0 : Int32) σ45))))))))) ∧ (x30 = 0 → ((0 : Int32) = 0 ∨ (0 : Int32) = 1) ∧ Q (0 : Int32) σ31))))) ∧ (x20 = (63 : Int32) → P_R_pass n a0 (59 : Int32) (zI σ21 a0 3 ((zi σ21 a0 3) + (1 : Int32))) (fun x48 σ49 => (x48 = 0 ∨ x48 = 1) ∧ Q x48 σ49))))
set_option maxHeartbeats 1000000 in
set_option maxRecDepth 10000 in
theorem w_R_fillStatement {Q : Int32 → zS → Prop} (hr : meth.sig.returnType = some .boolean) {a0 : Nat} {a1 : Int32} {σ : zS} (h : P_R_fillStatement n a0 a1 σ Q) : zG p l e (zrm 4 0 0) s m args below meth c (MQ below (zQc (zA base) D cA base n ex (zqi Q)) args s 0 0 (zA base)) s.heap (zA base) base D cA 4 ex prog_5_method_7_code "ConstantFlow$Reader" n 0 0 0 [some (.ref a0), some (.int a1), none, none] [] σ := by
  unfold P_R_fillStatement at h
  refine zw_aload_n d_R_fillStatement_0 rfl rfl ?_
  obtain ⟨q1, h⟩ := h
  obtain ⟨c2, q3, h⟩ := h
  refine zw_gfr (ci := 2) (j := 2) d_R_fillStatement_1 mw_1_49 q1.1 q1.2 (by decide) (by decide) rfl q3 ?_
  obtain ⟨q4, h⟩ := h
  refine zw_gfiN (ci := 6) (j := 1) d_R_fillStatement_4 mw_1_156 q4.1 q4.2 (by decide) (by decide) rfl ?_
  refine zw_istore_n d_R_fillStatement_7 rfl (Nat.le_of_ble_eq_true rfl) rfl rfl ?_
  refine zw_aload_n d_R_fillStatement_8 rfl rfl ?_
  obtain ⟨c5, q6, h⟩ := h
  refine zw_gfr (ci := 2) (j := 2) d_R_fillStatement_9 mw_1_49 q1.1 q1.2 (by decide) (by decide) rfl q6 ?_
  refine zw_dup d_R_fillStatement_12 rfl ?_
  obtain ⟨q7, h⟩ := h
  refine zw_gfiN (ci := 6) (j := 1) d_R_fillStatement_13 mw_1_156 q7.1 q7.2 (by decide) (by decide) rfl ?_
  refine zw_iconst (v := 1) d_R_fillStatement_16 rfl ?_
  refine zw_iadd d_R_fillStatement_17 ?_
  refine zw_pfiN (ci := 6) (j := 1) d_R_fillStatement_18 mw_1_156 q7.1 q7.2 (by decide) (by decide) rfl rfl rfl rfl ?_
  refine zw_aload_n d_R_fillStatement_21 rfl rfl ?_
  obtain ⟨c8, q9, h⟩ := h
  refine zw_gfr (ci := 2) (j := 2) d_R_fillStatement_22 mw_1_49 q1.1 q1.2 (by decide) (by decide) rfl q9 ?_
  obtain ⟨q10, h⟩ := h
  obtain ⟨c11, q12, h⟩ := h
  refine zw_gfrN (ci := 6) (j := 3) d_R_fillStatement_25 mw_1_163 q10.1 q10.2 (by decide) (by decide) rfl q12 ?_
  refine zw_iload_n d_R_fillStatement_28 rfl rfl ?_
  refine zw_iload_n d_R_fillStatement_29 rfl rfl ?_
  obtain ⟨q13, h⟩ := h
  refine zw_iast d_R_fillStatement_30 q13.1 (zkd_eta q13.2.1) q13.2.2 ?_
  refine zw_aload_n d_R_fillStatement_31 rfl rfl ?_
  obtain ⟨c14, q15, h⟩ := h
  refine zw_gfr (ci := 2) (j := 2) d_R_fillStatement_32 mw_1_49 q1.1 q1.2 (by decide) (by decide) rfl q15 ?_
  obtain ⟨q16, h⟩ := h
  obtain ⟨c17, q18, h⟩ := h
  refine zw_gfrN (ci := 6) (j := 4) d_R_fillStatement_35 mw_1_169 q16.1 q16.2 (by decide) (by decide) rfl q18 ?_
  refine zw_iload_n d_R_fillStatement_38 rfl rfl ?_
  refine zw_iconst (v := 0) d_R_fillStatement_39 rfl ?_
  obtain ⟨q19, h⟩ := h
  refine zw_iast d_R_fillStatement_40 q19.1 (zkd_eta q19.2.1) q19.2.2 ?_
  refine zw_aload_n d_R_fillStatement_41 rfl rfl ?_
  refine zw_callV (ci := 2) (b := a0) (As := []) (r := []) d_R_fillStatement_42 (c_R_next h) mw_2_92 mw_2_94 mp_1_8 mw_1_3 mw_2_95 (by decide) q1.1 q1.2 hyV_R_next (Nat.le_of_ble_eq_true rfl) (Nat.le_of_ble_eq_true rfl) ⟨(Nat.le_of_ble_eq_true rfl), (Nat.le_of_ble_eq_true rfl)⟩ (Nat.le_of_ble_eq_true rfl) rfl (zk_i (fun x20 σ21 h => ?_))
  refine zw_bipush (v := 63) d_R_fillStatement_45 rfl ?_
  obtain ⟨ht, hf⟩ := h
  refine zw_icmp_ne (tgt := 67) d_R_fillStatement_47 rfl (fun hc => ?_) (fun hc => ?_)
  · have h := ht hc; clear ht hf
    refine zw_aload_n d_R_fillStatement_67 rfl rfl ?_
    obtain ⟨c22, q23, h⟩ := h
    refine zw_gfr (ci := 2) (j := 2) d_R_fillStatement_68 mw_1_49 q1.1 q1.2 (by decide) (by decide) rfl q23 ?_
    obtain ⟨q24, h⟩ := h
    obtain ⟨c25, q26, h⟩ := h
    refine zw_gfrN (ci := 6) (j := 4) d_R_fillStatement_71 mw_1_169 q24.1 q24.2 (by decide) (by decide) rfl q26 ?_
    refine zw_iload_n d_R_fillStatement_74 rfl rfl ?_
    refine zw_iconst (v := 1) d_R_fillStatement_75 rfl ?_
    obtain ⟨q27, h⟩ := h
    refine zw_iast d_R_fillStatement_76 q27.1 (zkd_eta q27.2.1) q27.2.2 ?_
    refine zw_aload_n d_R_fillStatement_77 rfl rfl ?_
    refine zw_iload_n d_R_fillStatement_78 rfl rfl ?_
    refine zw_callS (As := [.int (zi σ c2 1)]) (r := [.ref a0]) d_R_fillStatement_79 (c_G_left h) mw_2_115 mw_1_236 mw_1_7 mw_1_237 hyS_G_left (Nat.le_of_ble_eq_true rfl) (Nat.le_of_ble_eq_true rfl) ⟨(Nat.le_of_ble_eq_true rfl), (Nat.le_of_ble_eq_true rfl)⟩ (Nat.le_of_ble_eq_true rfl) rfl (zk_i (fun x28 σ29 h => ?_))
    refine zw_callV (ci := 2) (b := a0) (As := [.int x28]) (r := []) d_R_fillStatement_82 (c_R_fillOperand h) mw_2_116 mw_2_118 mp_1_12 mw_1_3 mw_2_119 (by decide) q1.1 q1.2 hyV_R_fillOperand (Nat.le_of_ble_eq_true rfl) (Nat.le_of_ble_eq_true rfl) ⟨(Nat.le_of_ble_eq_true rfl), (Nat.le_of_ble_eq_true rfl)⟩ (Nat.le_of_ble_eq_true rfl) rfl (zk_i (fun x30 σ31 h => ?_))
    obtain ⟨ht, hf⟩ := h
    refine zw_if_ne (tgt := 90) d_R_fillStatement_85 rfl (fun hc => ?_) (fun hc => ?_)
    · have h := ht hc; clear ht hf
      refine zw_aload_n d_R_fillStatement_90 rfl rfl ?_
      refine zw_callV (ci := 2) (b := a0) (As := []) (r := []) d_R_fillStatement_91 (c_R_next h) mw_2_92 mw_2_94 mp_1_8 mw_1_3 mw_2_95 (by decide) q1.1 q1.2 hyV_R_next (Nat.le_of_ble_eq_true rfl) (Nat.le_of_ble_eq_true rfl) ⟨(Nat.le_of_ble_eq_true rfl), (Nat.le_of_ble_eq_true rfl)⟩ (Nat.le_of_ble_eq_true rfl) rfl (zk_i (fun x32 σ33 h => ?_))
      refine zw_istore_n d_R_fillStatement_94 rfl (Nat.le_of_ble_eq_true rfl) rfl rfl ?_
      refine zw_iload_n d_R_fillStatement_95 rfl rfl ?_
      refine zw_callSN (As := [.int x32]) (r := []) d_R_fillStatement_96 (c_C_isOperator h) mw_2_137 mw_2_138 mw_1_1 mw_2_139 hyS_C_isOperator (Nat.le_of_ble_eq_true rfl) (Nat.le_of_ble_eq_true rfl) ⟨(Nat.le_of_ble_eq_true rfl), (Nat.le_of_ble_eq_true rfl)⟩ (Nat.le_of_ble_eq_true rfl) rfl (zk_i (fun x34 σ35 h => ?_))
      obtain ⟨ht, hf⟩ := h
      refine zw_if_eq (tgt := 135) d_R_fillStatement_99 rfl (fun hc => ?_) (fun hc => ?_)
      · have h := ht hc; clear ht hf
        refine zw_le (ls' := [some (.ref a0), none, none, none]) (And.intro rfl True.intro) ?_
        exact w_R_fillStatement_135 hr h
      · have h := hf hc; clear ht hf
        refine zw_aload_n d_R_fillStatement_102 rfl rfl ?_
        refine zw_dup d_R_fillStatement_103 rfl ?_
        refine zw_gfi (ci := 2) (j := 3) d_R_fillStatement_104 mw_1_50 q1.1 q1.2 (by decide) (by decide) rfl ?_
        refine zw_iconst (v := 1) d_R_fillStatement_107 rfl ?_
        refine zw_iadd d_R_fillStatement_108 ?_
        refine zw_pfi (ci := 2) (j := 3) d_R_fillStatement_109 mw_1_50 q1.1 q1.2 (by decide) (by decide) rfl rfl rfl rfl ?_
        refine zw_aload_n d_R_fillStatement_112 rfl rfl ?_
        obtain ⟨c36, q37, h⟩ := h
        refine zw_gfr (ci := 2) (j := 2) d_R_fillStatement_113 mw_1_49 q1.1 q1.2 (by decide) (by decide) rfl q37 ?_
        obtain ⟨q38, h⟩ := h
        obtain ⟨c39, q40, h⟩ := h
        refine zw_gfrN (ci := 6) (j := 4) d_R_fillStatement_116 mw_1_169 q38.1 q38.2 (by decide) (by decide) rfl q40 ?_
        refine zw_iload_n d_R_fillStatement_119 rfl rfl ?_
        refine zw_iload_n d_R_fillStatement_120 rfl rfl ?_
        obtain ⟨q41, h⟩ := h
        refine zw_iast d_R_fillStatement_121 q41.1 (zkd_eta q41.2.1) q41.2.2 ?_
        refine zw_aload_n d_R_fillStatement_122 rfl rfl ?_
        refine zw_iload_n d_R_fillStatement_123 rfl rfl ?_
        refine zw_callS (As := [.int (zi σ c2 1)]) (r := [.ref a0]) d_R_fillStatement_124 (c_G_right h) mw_2_140 mw_1_239 mw_1_7 mw_2_0 hyS_G_right (Nat.le_of_ble_eq_true rfl) (Nat.le_of_ble_eq_true rfl) ⟨(Nat.le_of_ble_eq_true rfl), (Nat.le_of_ble_eq_true rfl)⟩ (Nat.le_of_ble_eq_true rfl) rfl (zk_i (fun x42 σ43 h => ?_))
        refine zw_callV (ci := 2) (b := a0) (As := [.int x42]) (r := []) d_R_fillStatement_127 (c_R_fillOperand h) mw_2_116 mw_2_118 mp_1_12 mw_1_3 mw_2_119 (by decide) q1.1 q1.2 hyV_R_fillOperand (Nat.le_of_ble_eq_true rfl) (Nat.le_of_ble_eq_true rfl) ⟨(Nat.le_of_ble_eq_true rfl), (Nat.le_of_ble_eq_true rfl)⟩ (Nat.le_of_ble_eq_true rfl) rfl (zk_i (fun x44 σ45 h => ?_))
        obtain ⟨ht, hf⟩ := h
        refine zw_if_ne (tgt := 135) d_R_fillStatement_130 rfl (fun hc => ?_) (fun hc => ?_)
        · have h := ht hc; clear ht hf
          refine zw_le (ls' := [some (.ref a0), none, none, none]) (And.intro rfl True.intro) ?_
          exact w_R_fillStatement_135 hr h
        · have h := hf hc; clear ht hf
          refine zw_iconst (v := 0) d_R_fillStatement_133 rfl ?_
          obtain ⟨q46, h⟩ := h
          exact zw_zret d_R_fillStatement_134 hr q46 h
    · have h := hf hc; clear ht hf
      refine zw_iconst (v := 0) d_R_fillStatement_88 rfl ?_
      obtain ⟨q47, h⟩ := h
      exact zw_zret d_R_fillStatement_89 hr q47 h
  · have h := hf hc; clear ht hf
    refine zw_aload_n d_R_fillStatement_50 rfl rfl ?_
    refine zw_dup d_R_fillStatement_51 rfl ?_
    refine zw_gfi (ci := 2) (j := 3) d_R_fillStatement_52 mw_1_50 q1.1 q1.2 (by decide) (by decide) rfl ?_
    refine zw_iconst (v := 1) d_R_fillStatement_55 rfl ?_
    refine zw_iadd d_R_fillStatement_56 ?_
    refine zw_pfi (ci := 2) (j := 3) d_R_fillStatement_57 mw_1_50 q1.1 q1.2 (by decide) (by decide) rfl rfl rfl rfl ?_
    refine zw_aload_n d_R_fillStatement_60 rfl rfl ?_
    refine zw_bipush (v := 59) d_R_fillStatement_61 rfl ?_
    refine zw_callV (ci := 2) (b := a0) (As := [.int (59 : Int32)]) (r := []) d_R_fillStatement_63 (c_R_pass h) mw_2_111 mw_2_113 mp_1_11 mw_1_3 mw_2_114 (by decide) q1.1 q1.2 hyV_R_pass (Nat.le_of_ble_eq_true rfl) (Nat.le_of_ble_eq_true rfl) ⟨(Nat.le_of_ble_eq_true rfl), (Nat.le_of_ble_eq_true rfl)⟩ (Nat.le_of_ble_eq_true rfl) rfl (zk_i (fun x48 σ49 h => ?_))
    obtain ⟨q50, h⟩ := h
    exact zw_zret d_R_fillStatement_66 hr q50 h
theorem c_R_fillStatement {l : Launch} {D : va_G} {cA : Nat → ClassId} {base n : Nat} {ex : Bool} {Q : Int32 → zS → Prop} {a0 : Nat} {a1 : Int32} {σ : zS} (h : P_R_fillStatement n a0 a1 σ Q) : zM l y_R_fillStatement prog_5_method_7_code 4 (some .boolean) 4 0 0 (zA base) D cA base n n ex [.ref a0, .int a1] σ (zqi Q) :=
  zMet (by decide) rfl (Nat.le_of_ble_eq_true rfl) (fun p e s m args below meth c hr hnm => w_R_fillStatement hr h)
def P_R_fillEnd_71 (n : Nat) (Q : Int32 → zS → Prop) (σ : zS) : Prop := ((0 : Int32) = 0 ∨ (0 : Int32) = 1) ∧ Q (0 : Int32) σ
set_option maxHeartbeats 1000000 in
set_option maxRecDepth 10000 in
theorem w_R_fillEnd_71 {Q : Int32 → zS → Prop} (hr : meth.sig.returnType = some .boolean) {σ : zS} (h : P_R_fillEnd_71 n Q σ) : zG p l e (zrm 4 0 0) s m args below meth c (MQ below (zQc (zA base) D cA base n ex (zqi Q)) args s 0 0 (zA base)) s.heap (zA base) base D cA 3 ex prog_5_method_9_code "ConstantFlow$Reader" n 0 0 71 [none, none, none] [] σ := by
  unfold P_R_fillEnd_71 at h
  refine zw_iconst (v := 0) d_R_fillEnd_71 rfl ?_
  obtain ⟨q1, h⟩ := h
  exact zw_zret d_R_fillEnd_72 hr q1 h
def P_R_fillEnd_111 (n : Nat) (Q : Int32 → zS → Prop) (a0 : Nat) (a2 : Int32) (σ : zS) : Prop := zk n a0 2 ∧ ∃ c2, zr σ a0 2 = some c2 ∧ zk n c2 6 ∧ P_G_closeBlock n c2 a2 σ (fun σ5 => ((1 : Int32) = 0 ∨ (1 : Int32) = 1) ∧ Q (1 : Int32) σ5)
set_option maxHeartbeats 1000000 in
set_option maxRecDepth 10000 in
theorem w_R_fillEnd_111 {Q : Int32 → zS → Prop} (hr : meth.sig.returnType = some .boolean) {a0 : Nat} {a2 : Int32} {σ : zS} (h : P_R_fillEnd_111 n Q a0 a2 σ) : zG p l e (zrm 4 0 0) s m args below meth c (MQ below (zQc (zA base) D cA base n ex (zqi Q)) args s 0 0 (zA base)) s.heap (zA base) base D cA 3 ex prog_5_method_9_code "ConstantFlow$Reader" n 0 0 111 [some (.ref a0), none, some (.int a2)] [] σ := by
  unfold P_R_fillEnd_111 at h
  refine zw_aload_n d_R_fillEnd_111 rfl rfl ?_
  obtain ⟨q1, h⟩ := h
  obtain ⟨c2, q3, h⟩ := h
  refine zw_gfr (ci := 2) (j := 2) d_R_fillEnd_112 mw_1_49 q1.1 q1.2 (by decide) (by decide) rfl q3 ?_
  refine zw_iload_n d_R_fillEnd_115 rfl rfl ?_
  obtain ⟨q6, h⟩ := h
  refine zw_callV (ci := 6) (b := c2) (As := [.int a2]) (r := []) d_R_fillEnd_116 (c_G_closeBlock h) mw_2_151 mw_2_152 mw_2_153 mw_1_7 mw_2_154 (by decide) q6.1 q6.2 hyV_G_closeBlock (Nat.le_of_ble_eq_true rfl) (Nat.le_of_ble_eq_true rfl) ⟨(Nat.le_of_ble_eq_true rfl), (Nat.le_of_ble_eq_true rfl)⟩ (Nat.le_of_ble_eq_true rfl) rfl (zk_v (fun σ5 h => ?_))
  refine zw_iconst (v := 1) d_R_fillEnd_119 rfl ?_
  obtain ⟨q7, h⟩ := h
  exact zw_zret d_R_fillEnd_120 hr q7 h
def P_R_fillEnd_109 (n : Nat) (Q : Int32 → zS → Prop) (σ : zS) : Prop := ((0 : Int32) = 0 ∨ (0 : Int32) = 1) ∧ Q (0 : Int32) σ
set_option maxHeartbeats 1000000 in
set_option maxRecDepth 10000 in
theorem w_R_fillEnd_109 {Q : Int32 → zS → Prop} (hr : meth.sig.returnType = some .boolean) {σ : zS} (h : P_R_fillEnd_109 n Q σ) : zG p l e (zrm 4 0 0) s m args below meth c (MQ below (zQc (zA base) D cA base n ex (zqi Q)) args s 0 0 (zA base)) s.heap (zA base) base D cA 3 ex prog_5_method_9_code "ConstantFlow$Reader" n 0 0 109 [none, none, none] [] σ := by
  unfold P_R_fillEnd_109 at h
  refine zw_iconst (v := 0) d_R_fillEnd_109 rfl ?_
  obtain ⟨q1, h⟩ := h
  exact zw_zret d_R_fillEnd_110 hr q1 h
def P_R_fillEnd_87 (n : Nat) (Q : Int32 → zS → Prop) (a0 : Nat) (a2 : Int32) (σ : zS) : Prop := ((¬ a2 = (2 : Int32) → P_R_fillEnd_111 n Q a0 a2 σ) ∧ (a2 = (2 : Int32) → zk n a0 2 ∧ P_R_pass n a0 (58 : Int32) σ (fun x1 σ2 => ((x1 = 0 → P_R_fillEnd_109 n Q σ2) ∧ (¬ (x1 = 0) → P_R_fillGoal n a0 (1 : Int32) σ2 (fun x4 σ5 => ((¬ x4 = 0 → P_R_fillEnd_111 n Q a0 a2 σ5) ∧ (x4 = 0 → P_R_fillEnd_109 n Q σ5))))))))
set_option maxHeartbeats 1000000 in
set_option maxRecDepth 10000 in
theorem w_R_fillEnd_87 {Q : Int32 → zS → Prop} (hr : meth.sig.returnType = some .boolean) {a0 : Nat} {a2 : Int32} {σ : zS} (h : P_R_fillEnd_87 n Q a0 a2 σ) : zG p l e (zrm 4 0 0) s m args below meth c (MQ below (zQc (zA base) D cA base n ex (zqi Q)) args s 0 0 (zA base)) s.heap (zA base) base D cA 3 ex prog_5_method_9_code "ConstantFlow$Reader" n 0 0 87 [some (.ref a0), none, some (.int a2)] [] σ := by
  unfold P_R_fillEnd_87 at h
  refine zw_iload_n d_R_fillEnd_87 rfl rfl ?_
  refine zw_iconst (v := 2) d_R_fillEnd_88 rfl ?_
  obtain ⟨ht, hf⟩ := h
  refine zw_icmp_ne (tgt := 111) d_R_fillEnd_89 rfl (fun hc => ?_) (fun hc => ?_)
  · have h := ht hc; clear ht hf
    exact w_R_fillEnd_111 hr h
  · have h := hf hc; clear ht hf
    refine zw_aload_n d_R_fillEnd_92 rfl rfl ?_
    refine zw_bipush (v := 58) d_R_fillEnd_93 rfl ?_
    obtain ⟨q3, h⟩ := h
    refine zw_callV (ci := 2) (b := a0) (As := [.int (58 : Int32)]) (r := []) d_R_fillEnd_95 (c_R_pass h) mw_2_111 mw_2_113 mp_1_11 mw_1_3 mw_2_114 (by decide) q3.1 q3.2 hyV_R_pass (Nat.le_of_ble_eq_true rfl) (Nat.le_of_ble_eq_true rfl) ⟨(Nat.le_of_ble_eq_true rfl), (Nat.le_of_ble_eq_true rfl)⟩ (Nat.le_of_ble_eq_true rfl) rfl (zk_i (fun x1 σ2 h => ?_))
    obtain ⟨ht, hf⟩ := h
    refine zw_if_eq (tgt := 109) d_R_fillEnd_98 rfl (fun hc => ?_) (fun hc => ?_)
    · have h := ht hc; clear ht hf
      refine zw_le (ls' := [none, none, none]) (True.intro) ?_
      exact w_R_fillEnd_109 hr h
    · have h := hf hc; clear ht hf
      refine zw_aload_n d_R_fillEnd_101 rfl rfl ?_
      refine zw_iconst (v := 1) d_R_fillEnd_102 rfl ?_
      refine zw_callV (ci := 2) (b := a0) (As := [.int (1 : Int32)]) (r := []) d_R_fillEnd_103 (c_R_fillGoal h) mw_2_146 mw_2_148 mp_1_15 mw_1_3 mw_2_149 (by decide) q3.1 q3.2 hyV_R_fillGoal (Nat.le_of_ble_eq_true rfl) (Nat.le_of_ble_eq_true rfl) ⟨(Nat.le_of_ble_eq_true rfl), (Nat.le_of_ble_eq_true rfl)⟩ (Nat.le_of_ble_eq_true rfl) rfl (zk_i (fun x4 σ5 h => ?_))
      obtain ⟨ht, hf⟩ := h
      refine zw_if_ne (tgt := 111) d_R_fillEnd_106 rfl (fun hc => ?_) (fun hc => ?_)
      · have h := ht hc; clear ht hf
        exact w_R_fillEnd_111 hr h
      · have h := hf hc; clear ht hf
        refine zw_le (ls' := [none, none, none]) (True.intro) ?_
        exact w_R_fillEnd_109 hr h
def P_R_fillEnd_73 (n : Nat) (Q : Int32 → zS → Prop) (a0 : Nat) (a2 : Int32) (σ : zS) : Prop := ((a2 = 0 → P_R_fillEnd_87 n Q a0 a2 σ) ∧ (¬ (a2 = 0) → zk n a0 2 ∧ P_R_fillGoal n a0 (0 : Int32) σ (fun x1 σ2 => ((¬ x1 = 0 → P_R_fillEnd_87 n Q a0 a2 σ2) ∧ (x1 = 0 → ((0 : Int32) = 0 ∨ (0 : Int32) = 1) ∧ Q (0 : Int32) σ2)))))
set_option maxHeartbeats 1000000 in
set_option maxRecDepth 10000 in
theorem w_R_fillEnd_73 {Q : Int32 → zS → Prop} (hr : meth.sig.returnType = some .boolean) {a0 : Nat} {a2 : Int32} {σ : zS} (h : P_R_fillEnd_73 n Q a0 a2 σ) : zG p l e (zrm 4 0 0) s m args below meth c (MQ below (zQc (zA base) D cA base n ex (zqi Q)) args s 0 0 (zA base)) s.heap (zA base) base D cA 3 ex prog_5_method_9_code "ConstantFlow$Reader" n 0 0 73 [some (.ref a0), none, some (.int a2)] [] σ := by
  unfold P_R_fillEnd_73 at h
  refine zw_iload_n d_R_fillEnd_73 rfl rfl ?_
  obtain ⟨ht, hf⟩ := h
  refine zw_if_eq (tgt := 87) d_R_fillEnd_74 rfl (fun hc => ?_) (fun hc => ?_)
  · have h := ht hc; clear ht hf
    exact w_R_fillEnd_87 hr h
  · have h := hf hc; clear ht hf
    refine zw_aload_n d_R_fillEnd_77 rfl rfl ?_
    refine zw_iconst (v := 0) d_R_fillEnd_78 rfl ?_
    obtain ⟨q3, h⟩ := h
    refine zw_callV (ci := 2) (b := a0) (As := [.int (0 : Int32)]) (r := []) d_R_fillEnd_79 (c_R_fillGoal h) mw_2_146 mw_2_148 mp_1_15 mw_1_3 mw_2_149 (by decide) q3.1 q3.2 hyV_R_fillGoal (Nat.le_of_ble_eq_true rfl) (Nat.le_of_ble_eq_true rfl) ⟨(Nat.le_of_ble_eq_true rfl), (Nat.le_of_ble_eq_true rfl)⟩ (Nat.le_of_ble_eq_true rfl) rfl (zk_i (fun x1 σ2 h => ?_))
    obtain ⟨ht, hf⟩ := h
    refine zw_if_ne (tgt := 87) d_R_fillEnd_82 rfl (fun hc => ?_) (fun hc => ?_)
    · have h := ht hc; clear ht hf
      exact w_R_fillEnd_87 hr h
    · have h := hf hc; clear ht hf
      refine zw_iconst (v := 0) d_R_fillEnd_85 rfl ?_
      obtain ⟨q4, h⟩ := h
      exact zw_zret d_R_fillEnd_86 hr q4 h
def P_R_fillEnd_26 (n : Nat) (Q : Int32 → zS → Prop) (a0 : Nat) (b0 : Int32) (σ : zS) : Prop := ((b0 = (2 : Int32) → zk n a0 2 ∧ ∃ c2, zr σ a0 2 = some c2 ∧ zk n c2 6 ∧ P_G_ofEnd n (zi σ c2 0) σ (fun x5 σ6 => P_R_fillOperand n a0 x5 σ6 (fun x7 σ8 => ((x7 = 0 → P_R_fillEnd_71 n Q σ8) ∧ (¬ (x7 = 0) → P_R_pass n a0 (63 : Int32) σ8 (fun x9 σ10 => ((¬ x9 = 0 → P_R_fillEnd_73 n Q a0 b0 σ10) ∧ (x9 = 0 → P_R_fillEnd_71 n Q σ10)))))))) ∧ (¬ (b0 = (2 : Int32)) → zk n a0 2 ∧ P_R_fillEnd_73 n Q a0 b0 (zI σ a0 3 ((zi σ a0 3) + (1 : Int32)))))
set_option maxHeartbeats 1000000 in
set_option maxRecDepth 10000 in
theorem w_R_fillEnd_26 {Q : Int32 → zS → Prop} (hr : meth.sig.returnType = some .boolean) {a0 : Nat} {b0 : Int32} {σ : zS} (h : P_R_fillEnd_26 n Q a0 b0 σ) : zG p l e (zrm 4 0 0) s m args below meth c (MQ below (zQc (zA base) D cA base n ex (zqi Q)) args s 0 0 (zA base)) s.heap (zA base) base D cA 3 ex prog_5_method_9_code "ConstantFlow$Reader" n 0 0 26 [some (.ref a0), none, none] [.int b0] σ := by
  unfold P_R_fillEnd_26 at h
  refine zw_istore_n d_R_fillEnd_26 rfl (Nat.le_of_ble_eq_true rfl) rfl rfl ?_
  refine zw_iload_n d_R_fillEnd_27 rfl rfl ?_
  refine zw_iconst (v := 2) d_R_fillEnd_28 rfl ?_
  obtain ⟨ht, hf⟩ := h
  refine zw_icmp_eq (tgt := 45) d_R_fillEnd_29 rfl (fun hc => ?_) (fun hc => ?_)
  · have h := ht hc; clear ht hf
    refine zw_aload_n d_R_fillEnd_45 rfl rfl ?_
    refine zw_aload_n d_R_fillEnd_46 rfl rfl ?_
    obtain ⟨q1, h⟩ := h
    obtain ⟨c2, q3, h⟩ := h
    refine zw_gfr (ci := 2) (j := 2) d_R_fillEnd_47 mw_1_49 q1.1 q1.2 (by decide) (by decide) rfl q3 ?_
    obtain ⟨q4, h⟩ := h
    refine zw_gfiN (ci := 6) (j := 0) d_R_fillEnd_50 mw_1_154 q4.1 q4.2 (by decide) (by decide) rfl ?_
    refine zw_callS (As := [.int (zi σ c2 0)]) (r := [.ref a0]) d_R_fillEnd_53 (c_G_ofEnd h) mw_2_145 mw_2_21 mw_1_7 mw_2_22 hyS_G_ofEnd (Nat.le_of_ble_eq_true rfl) (Nat.le_of_ble_eq_true rfl) ⟨(Nat.le_of_ble_eq_true rfl), (Nat.le_of_ble_eq_true rfl)⟩ (Nat.le_of_ble_eq_true rfl) rfl (zk_i (fun x5 σ6 h => ?_))
    refine zw_callV (ci := 2) (b := a0) (As := [.int x5]) (r := []) d_R_fillEnd_56 (c_R_fillOperand h) mw_2_116 mw_2_118 mp_1_12 mw_1_3 mw_2_119 (by decide) q1.1 q1.2 hyV_R_fillOperand (Nat.le_of_ble_eq_true rfl) (Nat.le_of_ble_eq_true rfl) ⟨(Nat.le_of_ble_eq_true rfl), (Nat.le_of_ble_eq_true rfl)⟩ (Nat.le_of_ble_eq_true rfl) rfl (zk_i (fun x7 σ8 h => ?_))
    obtain ⟨ht, hf⟩ := h
    refine zw_if_eq (tgt := 71) d_R_fillEnd_59 rfl (fun hc => ?_) (fun hc => ?_)
    · have h := ht hc; clear ht hf
      refine zw_le (ls' := [none, none, none]) (True.intro) ?_
      exact w_R_fillEnd_71 hr h
    · have h := hf hc; clear ht hf
      refine zw_aload_n d_R_fillEnd_62 rfl rfl ?_
      refine zw_bipush (v := 63) d_R_fillEnd_63 rfl ?_
      refine zw_callV (ci := 2) (b := a0) (As := [.int (63 : Int32)]) (r := []) d_R_fillEnd_65 (c_R_pass h) mw_2_111 mw_2_113 mp_1_11 mw_1_3 mw_2_114 (by decide) q1.1 q1.2 hyV_R_pass (Nat.le_of_ble_eq_true rfl) (Nat.le_of_ble_eq_true rfl) ⟨(Nat.le_of_ble_eq_true rfl), (Nat.le_of_ble_eq_true rfl)⟩ (Nat.le_of_ble_eq_true rfl) rfl (zk_i (fun x9 σ10 h => ?_))
      obtain ⟨ht, hf⟩ := h
      refine zw_if_ne (tgt := 73) d_R_fillEnd_68 rfl (fun hc => ?_) (fun hc => ?_)
      · have h := ht hc; clear ht hf
        exact w_R_fillEnd_73 hr h
      · have h := hf hc; clear ht hf
        refine zw_le (ls' := [none, none, none]) (True.intro) ?_
        exact w_R_fillEnd_71 hr h
  · have h := hf hc; clear ht hf
    refine zw_aload_n d_R_fillEnd_32 rfl rfl ?_
    refine zw_dup d_R_fillEnd_33 rfl ?_
    obtain ⟨q11, h⟩ := h
    refine zw_gfi (ci := 2) (j := 3) d_R_fillEnd_34 mw_1_50 q11.1 q11.2 (by decide) (by decide) rfl ?_
    refine zw_iconst (v := 1) d_R_fillEnd_37 rfl ?_
    refine zw_iadd d_R_fillEnd_38 ?_
    refine zw_pfi (ci := 2) (j := 3) d_R_fillEnd_39 mw_1_50 q11.1 q11.2 (by decide) (by decide) rfl rfl rfl rfl ?_
    refine zw_goto (tgt := 73) d_R_fillEnd_42 rfl ?_
    exact w_R_fillEnd_73 hr h
def P_R_fillEnd (n : Nat) (a0 : Nat) (σ : zS) (Q : Int32 → zS → Prop) : Prop := zk n a0 2 ∧ P_R_next n a0 σ (fun x1 σ2 => ((¬ x1 = (46 : Int32) → ((¬ x1 = (62 : Int32) → P_R_fillEnd_26 n Q a0 (2 : Int32) σ2) ∧ (x1 = (62 : Int32) → P_R_fillEnd_26 n Q a0 (1 : Int32) σ2))) ∧ (x1 = (46 : Int32) → P_R_fillEnd_26 n Q a0 (0 : Int32) σ2)))
set_option maxHeartbeats 1000000 in
set_option maxRecDepth 10000 in
theorem w_R_fillEnd {Q : Int32 → zS → Prop} (hr : meth.sig.returnType = some .boolean) {a0 : Nat} {σ : zS} (h : P_R_fillEnd n a0 σ Q) : zG p l e (zrm 4 0 0) s m args below meth c (MQ below (zQc (zA base) D cA base n ex (zqi Q)) args s 0 0 (zA base)) s.heap (zA base) base D cA 3 ex prog_5_method_9_code "ConstantFlow$Reader" n 0 0 0 [some (.ref a0), none, none] [] σ := by
  unfold P_R_fillEnd at h
  refine zw_aload_n d_R_fillEnd_0 rfl rfl ?_
  obtain ⟨q3, h⟩ := h
  refine zw_callV (ci := 2) (b := a0) (As := []) (r := []) d_R_fillEnd_1 (c_R_next h) mw_2_92 mw_2_94 mp_1_8 mw_1_3 mw_2_95 (by decide) q3.1 q3.2 hyV_R_next (Nat.le_of_ble_eq_true rfl) (Nat.le_of_ble_eq_true rfl) ⟨(Nat.le_of_ble_eq_true rfl), (Nat.le_of_ble_eq_true rfl)⟩ (Nat.le_of_ble_eq_true rfl) rfl (zk_i (fun x1 σ2 h => ?_))
  refine zw_istore_n d_R_fillEnd_4 rfl (Nat.le_of_ble_eq_true rfl) rfl rfl ?_
  refine zw_iload_n d_R_fillEnd_5 rfl rfl ?_
  refine zw_bipush (v := 46) d_R_fillEnd_6 rfl ?_
  obtain ⟨ht, hf⟩ := h
  refine zw_icmp_ne (tgt := 15) d_R_fillEnd_8 rfl (fun hc => ?_) (fun hc => ?_)
  · have h := ht hc; clear ht hf
    refine zw_iload_n d_R_fillEnd_15 rfl rfl ?_
    refine zw_bipush (v := 62) d_R_fillEnd_16 rfl ?_
    obtain ⟨ht, hf⟩ := h
    refine zw_icmp_ne (tgt := 25) d_R_fillEnd_18 rfl (fun hc => ?_) (fun hc => ?_)
    · have h := ht hc; clear ht hf
      refine zw_iconst (v := 2) d_R_fillEnd_25 rfl ?_
      refine zw_le (ls' := [some (.ref a0), none, none]) (And.intro rfl True.intro) ?_
      exact w_R_fillEnd_26 hr h
    · have h := hf hc; clear ht hf
      refine zw_iconst (v := 1) d_R_fillEnd_21 rfl ?_
      refine zw_goto (tgt := 26) d_R_fillEnd_22 rfl ?_
      refine zw_le (ls' := [some (.ref a0), none, none]) (And.intro rfl True.intro) ?_
      exact w_R_fillEnd_26 hr h
  · have h := hf hc; clear ht hf
    refine zw_iconst (v := 0) d_R_fillEnd_11 rfl ?_
    refine zw_goto (tgt := 26) d_R_fillEnd_12 rfl ?_
    refine zw_le (ls' := [some (.ref a0), none, none]) (And.intro rfl True.intro) ?_
    exact w_R_fillEnd_26 hr h
theorem c_R_fillEnd {l : Launch} {D : va_G} {cA : Nat → ClassId} {base n : Nat} {ex : Bool} {Q : Int32 → zS → Prop} {a0 : Nat} {σ : zS} (h : P_R_fillEnd n a0 σ Q) : zM l y_R_fillEnd prog_5_method_9_code 3 (some .boolean) 4 0 0 (zA base) D cA base n n ex [.ref a0] σ (zqi Q) :=
  zMet (by decide) rfl (Nat.le_of_ble_eq_true rfl) (fun p e s m args below meth c hr hnm => w_R_fillEnd hr h)
def P_M_statement_193 (n : Nat) (Q : zS → Prop) (a0 : Nat) (σ : zS) : Prop := zk n a0 7 ∧ Q (zI σ a0 12 ((zi σ a0 12) + (1 : Int32)))
set_option maxHeartbeats 1000000 in
set_option maxRecDepth 10000 in
theorem w_M_statement_193 {Q : zS → Prop} (hr : meth.sig.returnType = none) {a0 : Nat} {σ : zS} (h : P_M_statement_193 n Q a0 σ) : zG p l e (zrm 4 0 0) s m args below meth c (MQ below (zQc (zA base) D cA base n ex (zqv Q)) args s 0 0 (zA base)) s.heap (zA base) base D cA 4 ex prog_9_method_16_code "ConstantFlowModel" n 0 0 193 [some (.ref a0), none, none, none] [] σ := by
  unfold P_M_statement_193 at h
  refine zw_aload_n d_M_statement_193 rfl rfl ?_
  refine zw_dup d_M_statement_194 rfl ?_
  obtain ⟨q1, h⟩ := h
  refine zw_gfi (ci := 7) (j := 12) d_M_statement_195 mw_3_197 q1.1 q1.2 (by decide) (by decide) rfl ?_
  refine zw_iconst (v := 1) d_M_statement_198 rfl ?_
  refine zw_iadd d_M_statement_199 ?_
  refine zw_pfi (ci := 7) (j := 12) d_M_statement_200 mw_3_197 q1.1 q1.2 (by decide) (by decide) rfl rfl rfl rfl ?_
  exact zw_vret d_M_statement_203 hr h
def P_M_statement_180 (n : Nat) (Q : zS → Prop) (a0 : Nat) (σ : zS) : Prop := zk n a0 7 ∧ ((¬ (zi σ a0 3) = 0 → P_M_statement_193 n Q a0 σ) ∧ ((zi σ a0 3) = 0 → P_M_want n a0 (59 : Int32) σ (fun σ3 => P_M_statement_193 n Q a0 σ3)))
set_option maxHeartbeats 1000000 in
set_option maxRecDepth 10000 in
theorem w_M_statement_180 {Q : zS → Prop} (hr : meth.sig.returnType = none) {a0 : Nat} {σ : zS} (h : P_M_statement_180 n Q a0 σ) : zG p l e (zrm 4 0 0) s m args below meth c (MQ below (zQc (zA base) D cA base n ex (zqv Q)) args s 0 0 (zA base)) s.heap (zA base) base D cA 4 ex prog_9_method_16_code "ConstantFlowModel" n 0 0 180 [some (.ref a0), none, none, none] [] σ := by
  unfold P_M_statement_180 at h
  refine zw_aload_n d_M_statement_180 rfl rfl ?_
  obtain ⟨q1, h⟩ := h
  refine zw_gfi (ci := 7) (j := 3) d_M_statement_181 mw_3_188 q1.1 q1.2 (by decide) (by decide) rfl ?_
  obtain ⟨ht, hf⟩ := h
  refine zw_if_ne (tgt := 193) d_M_statement_184 rfl (fun hc => ?_) (fun hc => ?_)
  · have h := ht hc; clear ht hf
    exact w_M_statement_193 hr h
  · have h := hf hc; clear ht hf
    refine zw_aload_n d_M_statement_187 rfl rfl ?_
    refine zw_bipush (v := 59) d_M_statement_188 rfl ?_
    refine zw_callV (ci := 7) (b := a0) (As := [.int (59 : Int32)]) (r := []) d_M_statement_190 (c_M_want h) mw_4_108 mw_4_110 mp_3_2 mw_1_8 mw_4_111 (by decide) q1.1 q1.2 hyV_M_want (Nat.le_of_ble_eq_true rfl) (Nat.le_of_ble_eq_true rfl) ⟨(Nat.le_of_ble_eq_true rfl), (Nat.le_of_ble_eq_true rfl)⟩ (Nat.le_of_ble_eq_true rfl) rfl (zk_v (fun σ3 h => ?_))
    exact w_M_statement_193 hr h
def P_M_statement (n : Nat) (a0 : Nat) (a1 : Int32) (σ : zS) (Q : zS → Prop) : Prop := zk n a0 7 ∧ ∃ c2, zr σ a0 13 = some c2 ∧ za n c2 10 (((7 : Int32) * (zi σ a0 12)) + (0 : Int32)) ∧ P_M_skip n a0 (zI σ c2 (((7 : Int32) * (zi σ a0 12)) + (0 : Int32)).toNatClampNeg a1) (fun σ6 => P_M_byteAt n a0 (zi σ6 a0 5) σ6 (fun x7 σ8 => ((¬ x7 = (63 : Int32) → P_M_operand n a0 σ8 (fun σ10 => ∃ c11, zr σ10 a0 13 = some c11 ∧ za n c11 10 (((7 : Int32) * (zi σ a0 12)) + (3 : Int32)) ∧ ∃ c14, zr (zI σ10 c11 (((7 : Int32) * (zi σ a0 12)) + (3 : Int32)).toNatClampNeg (zi σ10 a0 17)) a0 13 = some c14 ∧ za n c14 10 ((((7 : Int32) * (zi σ a0 12)) + (3 : Int32)) + (1 : Int32)) ∧ ∃ c17, zr (zI (zI σ10 c11 (((7 : Int32) * (zi σ a0 12)) + (3 : Int32)).toNatClampNeg (zi σ10 a0 17)) c14 ((((7 : Int32) * (zi σ a0 12)) + (3 : Int32)) + (1 : Int32)).toNatClampNeg (zi (zI σ10 c11 (((7 : Int32) * (zi σ a0 12)) + (3 : Int32)).toNatClampNeg (zi σ10 a0 17)) a0 18)) a0 13 = some c17 ∧ za n c17 10 (((7 : Int32) * (zi σ a0 12)) + (1 : Int32)) ∧ P_M_skip n a0 (zI (zI (zI σ10 c11 (((7 : Int32) * (zi σ a0 12)) + (3 : Int32)).toNatClampNeg (zi σ10 a0 17)) c14 ((((7 : Int32) * (zi σ a0 12)) + (3 : Int32)) + (1 : Int32)).toNatClampNeg (zi (zI σ10 c11 (((7 : Int32) * (zi σ a0 12)) + (3 : Int32)).toNatClampNeg (zi σ10 a0 17)) a0 18)) c17 (((7 : Int32) * (zi σ a0 12)) + (1 : Int32)).toNatClampNeg (1 : Int32)) (fun σ21 => P_M_byteAt n a0 (zi σ21 a0 5) σ21 (fun x22 σ23 => P_M_operator n x22 σ23 (fun x24 σ25 => ((¬ (zi σ25 a0 3) = 0 → P_M_statement_180 n Q a0 σ25) ∧ ((zi σ25 a0 3) = 0 → ((x24 < 0 → P_M_statement_180 n Q a0 σ25) ∧ (¬ (x24 < 0) → P_M_operand n a0 (zI σ25 a0 5 ((zi σ25 a0 5) + (1 : Int32))) (fun σ27 => ∃ c28, zr σ27 a0 13 = some c28 ∧ za n c28 10 (((7 : Int32) * (zi σ a0 12)) + (1 : Int32)) ∧ ∃ c31, zr (zI σ27 c28 (((7 : Int32) * (zi σ a0 12)) + (1 : Int32)).toNatClampNeg (2 : Int32)) a0 13 = some c31 ∧ za n c31 10 (((7 : Int32) * (zi σ a0 12)) + (2 : Int32)) ∧ ∃ c34, zr (zI (zI σ27 c28 (((7 : Int32) * (zi σ a0 12)) + (1 : Int32)).toNatClampNeg (2 : Int32)) c31 (((7 : Int32) * (zi σ a0 12)) + (2 : Int32)).toNatClampNeg x24) a0 13 = some c34 ∧ za n c34 10 (((7 : Int32) * (zi σ a0 12)) + (5 : Int32)) ∧ ∃ c37, zr (zI (zI (zI σ27 c28 (((7 : Int32) * (zi σ a0 12)) + (1 : Int32)).toNatClampNeg (2 : Int32)) c31 (((7 : Int32) * (zi σ a0 12)) + (2 : Int32)).toNatClampNeg x24) c34 (((7 : Int32) * (zi σ a0 12)) + (5 : Int32)).toNatClampNeg (zi (zI (zI σ27 c28 (((7 : Int32) * (zi σ a0 12)) + (1 : Int32)).toNatClampNeg (2 : Int32)) c31 (((7 : Int32) * (zi σ a0 12)) + (2 : Int32)).toNatClampNeg x24) a0 17)) a0 13 = some c37 ∧ za n c37 10 ((((7 : Int32) * (zi σ a0 12)) + (5 : Int32)) + (1 : Int32)) ∧ P_M_statement_180 n Q a0 (zI (zI (zI (zI σ27 c28 (((7 : Int32) * (zi σ a0 12)) + (1 : Int32)).toNatClampNeg (2 : Int32)) c31 (((7 : Int32) * (zi σ a0 12)) + (2 : Int32)).toNatClampNeg x24) c34 (((7 : Int32) * (zi σ a0 12)) + (5 : Int32)).toNatClampNeg (zi (zI (zI σ27 c28 (((7 : Int32) * (zi σ a0 12)) + (1 : Int32)).toNatClampNeg (2 : Int32)) c31 (((7 : Int32) * (zi σ a0 12)) + (2 : Int32)).toNatClampNeg x24) a0 17)) c37 ((((7 : Int32) * (zi σ a0 12)) + (5 : Int32)) + (1 : Int32)).toNatClampNeg (zi (zI (zI (zI σ27 c28 (((7 : Int32) * (zi σ a0 12)) + (1 : Int32)).toNatClampNeg (2 : Int32)) c31 (((7 : Int32) * (zi σ a0 12)) + (2 : Int32)).toNatClampNeg x24) c34 (((7 : Int32) * (zi σ a0 12)) + (5 : Int32)).toNatClampNeg (zi (zI (zI σ27 c28 (((7 : Int32) * (zi σ a0 12)) + (1 : Int32)).toNatClampNeg (2 : Int32)) c31 (((7 : Int32) * (zi σ a0 12)) + (2 : Int32)).toNatClampNeg x24) a0 17)) a0 18)))))))))))) ∧ (x7 = (63 : Int32) → ∃ c40, zr (zI σ8 a0 5 ((zi σ8 a0 5) + (1 : Int32))) a0 13 = some c40 ∧ za n c40 10 (((7 : Int32) * (zi σ a0 12)) + (1 : Int32)) ∧ P_M_statement_180 n Q a0 (zI (zI σ8 a0 5 ((zi σ8 a0 5) + (1 : Int32))) c40 (((7 : Int32) * (zi σ a0 12)) + (1 : Int32)).toNatClampNeg (0 : Int32))))))
set_option maxHeartbeats 1000000 in
set_option maxRecDepth 10000 in
theorem w_M_statement {Q : zS → Prop} (hr : meth.sig.returnType = none) {a0 : Nat} {a1 : Int32} {σ : zS} (h : P_M_statement n a0 a1 σ Q) : zG p l e (zrm 4 0 0) s m args below meth c (MQ below (zQc (zA base) D cA base n ex (zqv Q)) args s 0 0 (zA base)) s.heap (zA base) base D cA 4 ex prog_9_method_16_code "ConstantFlowModel" n 0 0 0 [some (.ref a0), some (.int a1), none, none] [] σ := by
  unfold P_M_statement at h
  refine zw_bipush (v := 7) d_M_statement_0 rfl ?_
  refine zw_aload_n d_M_statement_2 rfl rfl ?_
  obtain ⟨q1, h⟩ := h
  refine zw_gfi (ci := 7) (j := 12) d_M_statement_3 mw_3_197 q1.1 q1.2 (by decide) (by decide) rfl ?_
  refine zw_imul d_M_statement_6 ?_
  refine zw_istore_n d_M_statement_7 rfl (Nat.le_of_ble_eq_true rfl) rfl rfl ?_
  refine zw_aload_n d_M_statement_8 rfl rfl ?_
  obtain ⟨c2, q3, h⟩ := h
  refine zw_gfr (ci := 7) (j := 13) d_M_statement_9 mw_3_198 q1.1 q1.2 (by decide) (by decide) rfl q3 ?_
  refine zw_iload_n d_M_statement_12 rfl rfl ?_
  refine zw_iconst (v := 0) d_M_statement_13 rfl ?_
  refine zw_iadd d_M_statement_14 ?_
  refine zw_iload_n d_M_statement_15 rfl rfl ?_
  obtain ⟨q4, h⟩ := h
  refine zw_iast d_M_statement_16 q4.1 (zkd_eta q4.2.1) q4.2.2 ?_
  refine zw_aload_n d_M_statement_17 rfl rfl ?_
  refine zw_callV (ci := 7) (b := a0) (As := []) (r := []) d_M_statement_18 (c_M_skip h) mw_4_66 mw_4_68 mp_2_11 mw_1_8 mw_4_69 (by decide) q1.1 q1.2 hyV_M_skip (Nat.le_of_ble_eq_true rfl) (Nat.le_of_ble_eq_true rfl) ⟨(Nat.le_of_ble_eq_true rfl), (Nat.le_of_ble_eq_true rfl)⟩ (Nat.le_of_ble_eq_true rfl) rfl (zk_v (fun σ6 h => ?_))
  refine zw_aload_n d_M_statement_21 rfl rfl ?_
  refine zw_aload_n d_M_statement_22 rfl rfl ?_
  refine zw_gfi (ci := 7) (j := 5) d_M_statement_23 mw_3_190 q1.1 q1.2 (by decide) (by decide) rfl ?_
  refine zw_callV (ci := 7) (b := a0) (As := [.int (zi σ6 a0 5)]) (r := []) d_M_statement_26 (c_M_byteAt h) mw_4_70 mw_4_72 mp_2_12 mw_1_8 mw_4_73 (by decide) q1.1 q1.2 hyV_M_byteAt (Nat.le_of_ble_eq_true rfl) (Nat.le_of_ble_eq_true rfl) ⟨(Nat.le_of_ble_eq_true rfl), (Nat.le_of_ble_eq_true rfl)⟩ (Nat.le_of_ble_eq_true rfl) rfl (zk_i (fun x7 σ8 h => ?_))
  refine zw_bipush (v := 63) d_M_statement_29 rfl ?_
  obtain ⟨ht, hf⟩ := h
  refine zw_icmp_ne (tgt := 56) d_M_statement_31 rfl (fun hc => ?_) (fun hc => ?_)
  · have h := ht hc; clear ht hf
    refine zw_aload_n d_M_statement_56 rfl rfl ?_
    refine zw_callV (ci := 7) (b := a0) (As := []) (r := []) d_M_statement_57 (c_M_operand h) mw_4_94 mw_4_96 mp_3_0 mw_1_8 mw_4_97 (by decide) q1.1 q1.2 hyV_M_operand (Nat.le_of_ble_eq_true rfl) (Nat.le_of_ble_eq_true rfl) ⟨(Nat.le_of_ble_eq_true rfl), (Nat.le_of_ble_eq_true rfl)⟩ (Nat.le_of_ble_eq_true rfl) rfl (zk_v (fun σ10 h => ?_))
    refine zw_aload_n d_M_statement_60 rfl rfl ?_
    obtain ⟨c11, q12, h⟩ := h
    refine zw_gfr (ci := 7) (j := 13) d_M_statement_61 mw_3_198 q1.1 q1.2 (by decide) (by decide) rfl q12 ?_
    refine zw_iload_n d_M_statement_64 rfl rfl ?_
    refine zw_iconst (v := 3) d_M_statement_65 rfl ?_
    refine zw_iadd d_M_statement_66 ?_
    refine zw_aload_n d_M_statement_67 rfl rfl ?_
    refine zw_gfi (ci := 7) (j := 17) d_M_statement_68 mw_3_202 q1.1 q1.2 (by decide) (by decide) rfl ?_
    obtain ⟨q13, h⟩ := h
    refine zw_iast d_M_statement_71 q13.1 (zkd_eta q13.2.1) q13.2.2 ?_
    refine zw_aload_n d_M_statement_72 rfl rfl ?_
    obtain ⟨c14, q15, h⟩ := h
    refine zw_gfr (ci := 7) (j := 13) d_M_statement_73 mw_3_198 q1.1 q1.2 (by decide) (by decide) rfl q15 ?_
    refine zw_iload_n d_M_statement_76 rfl rfl ?_
    refine zw_iconst (v := 3) d_M_statement_77 rfl ?_
    refine zw_iadd d_M_statement_78 ?_
    refine zw_iconst (v := 1) d_M_statement_79 rfl ?_
    refine zw_iadd d_M_statement_80 ?_
    refine zw_aload_n d_M_statement_81 rfl rfl ?_
    refine zw_gfi (ci := 7) (j := 18) d_M_statement_82 mw_3_203 q1.1 q1.2 (by decide) (by decide) rfl ?_
    obtain ⟨q16, h⟩ := h
    refine zw_iast d_M_statement_85 q16.1 (zkd_eta q16.2.1) q16.2.2 ?_
    refine zw_aload_n d_M_statement_86 rfl rfl ?_
    obtain ⟨c17, q18, h⟩ := h
    refine zw_gfr (ci := 7) (j := 13) d_M_statement_87 mw_3_198 q1.1 q1.2 (by decide) (by decide) rfl q18 ?_
    refine zw_iload_n d_M_statement_90 rfl rfl ?_
    refine zw_iconst (v := 1) d_M_statement_91 rfl ?_
    refine zw_iadd d_M_statement_92 ?_
    refine zw_iconst (v := 1) d_M_statement_93 rfl ?_
    obtain ⟨q19, h⟩ := h
    refine zw_iast d_M_statement_94 q19.1 (zkd_eta q19.2.1) q19.2.2 ?_
    refine zw_aload_n d_M_statement_95 rfl rfl ?_
    refine zw_callV (ci := 7) (b := a0) (As := []) (r := []) d_M_statement_96 (c_M_skip h) mw_4_66 mw_4_68 mp_2_11 mw_1_8 mw_4_69 (by decide) q1.1 q1.2 hyV_M_skip (Nat.le_of_ble_eq_true rfl) (Nat.le_of_ble_eq_true rfl) ⟨(Nat.le_of_ble_eq_true rfl), (Nat.le_of_ble_eq_true rfl)⟩ (Nat.le_of_ble_eq_true rfl) rfl (zk_v (fun σ21 h => ?_))
    refine zw_aload_n d_M_statement_99 rfl rfl ?_
    refine zw_aload_n d_M_statement_100 rfl rfl ?_
    refine zw_gfi (ci := 7) (j := 5) d_M_statement_101 mw_3_190 q1.1 q1.2 (by decide) (by decide) rfl ?_
    refine zw_callV (ci := 7) (b := a0) (As := [.int (zi σ21 a0 5)]) (r := []) d_M_statement_104 (c_M_byteAt h) mw_4_70 mw_4_72 mp_2_12 mw_1_8 mw_4_73 (by decide) q1.1 q1.2 hyV_M_byteAt (Nat.le_of_ble_eq_true rfl) (Nat.le_of_ble_eq_true rfl) ⟨(Nat.le_of_ble_eq_true rfl), (Nat.le_of_ble_eq_true rfl)⟩ (Nat.le_of_ble_eq_true rfl) rfl (zk_i (fun x22 σ23 h => ?_))
    refine zw_callS (As := [.int x22]) (r := []) d_M_statement_107 (c_M_operator h) mw_4_105 mw_4_106 mw_1_8 mw_4_107 hyS_M_operator (Nat.le_of_ble_eq_true rfl) (Nat.le_of_ble_eq_true rfl) ⟨(Nat.le_of_ble_eq_true rfl), (Nat.le_of_ble_eq_true rfl)⟩ (Nat.le_of_ble_eq_true rfl) rfl (zk_i (fun x24 σ25 h => ?_))
    refine zw_istore_n d_M_statement_110 rfl (Nat.le_of_ble_eq_true rfl) rfl rfl ?_
    refine zw_aload_n d_M_statement_111 rfl rfl ?_
    refine zw_gfi (ci := 7) (j := 3) d_M_statement_112 mw_3_188 q1.1 q1.2 (by decide) (by decide) rfl ?_
    obtain ⟨ht, hf⟩ := h
    refine zw_if_ne (tgt := 180) d_M_statement_115 rfl (fun hc => ?_) (fun hc => ?_)
    · have h := ht hc; clear ht hf
      refine zw_le (ls' := [some (.ref a0), none, none, none]) (And.intro rfl True.intro) ?_
      exact w_M_statement_180 hr h
    · have h := hf hc; clear ht hf
      refine zw_iload_n d_M_statement_118 rfl rfl ?_
      obtain ⟨ht, hf⟩ := h
      refine zw_if_lt (tgt := 180) d_M_statement_119 rfl (fun hc => ?_) (fun hc => ?_)
      · have h := ht hc; clear ht hf
        refine zw_le (ls' := [some (.ref a0), none, none, none]) (And.intro rfl True.intro) ?_
        exact w_M_statement_180 hr h
      · have h := hf hc; clear ht hf
        refine zw_aload_n d_M_statement_122 rfl rfl ?_
        refine zw_dup d_M_statement_123 rfl ?_
        refine zw_gfi (ci := 7) (j := 5) d_M_statement_124 mw_3_190 q1.1 q1.2 (by decide) (by decide) rfl ?_
        refine zw_iconst (v := 1) d_M_statement_127 rfl ?_
        refine zw_iadd d_M_statement_128 ?_
        refine zw_pfi (ci := 7) (j := 5) d_M_statement_129 mw_3_190 q1.1 q1.2 (by decide) (by decide) rfl rfl rfl rfl ?_
        refine zw_aload_n d_M_statement_132 rfl rfl ?_
        refine zw_callV (ci := 7) (b := a0) (As := []) (r := []) d_M_statement_133 (c_M_operand h) mw_4_94 mw_4_96 mp_3_0 mw_1_8 mw_4_97 (by decide) q1.1 q1.2 hyV_M_operand (Nat.le_of_ble_eq_true rfl) (Nat.le_of_ble_eq_true rfl) ⟨(Nat.le_of_ble_eq_true rfl), (Nat.le_of_ble_eq_true rfl)⟩ (Nat.le_of_ble_eq_true rfl) rfl (zk_v (fun σ27 h => ?_))
        refine zw_aload_n d_M_statement_136 rfl rfl ?_
        obtain ⟨c28, q29, h⟩ := h
        refine zw_gfr (ci := 7) (j := 13) d_M_statement_137 mw_3_198 q1.1 q1.2 (by decide) (by decide) rfl q29 ?_
        refine zw_iload_n d_M_statement_140 rfl rfl ?_
        refine zw_iconst (v := 1) d_M_statement_141 rfl ?_
        refine zw_iadd d_M_statement_142 ?_
        refine zw_iconst (v := 2) d_M_statement_143 rfl ?_
        obtain ⟨q30, h⟩ := h
        refine zw_iast d_M_statement_144 q30.1 (zkd_eta q30.2.1) q30.2.2 ?_
        refine zw_aload_n d_M_statement_145 rfl rfl ?_
        obtain ⟨c31, q32, h⟩ := h
        refine zw_gfr (ci := 7) (j := 13) d_M_statement_146 mw_3_198 q1.1 q1.2 (by decide) (by decide) rfl q32 ?_
        refine zw_iload_n d_M_statement_149 rfl rfl ?_
        refine zw_iconst (v := 2) d_M_statement_150 rfl ?_
        refine zw_iadd d_M_statement_151 ?_
        refine zw_iload_n d_M_statement_152 rfl rfl ?_
        obtain ⟨q33, h⟩ := h
        refine zw_iast d_M_statement_153 q33.1 (zkd_eta q33.2.1) q33.2.2 ?_
        refine zw_aload_n d_M_statement_154 rfl rfl ?_
        obtain ⟨c34, q35, h⟩ := h
        refine zw_gfr (ci := 7) (j := 13) d_M_statement_155 mw_3_198 q1.1 q1.2 (by decide) (by decide) rfl q35 ?_
        refine zw_iload_n d_M_statement_158 rfl rfl ?_
        refine zw_iconst (v := 5) d_M_statement_159 rfl ?_
        refine zw_iadd d_M_statement_160 ?_
        refine zw_aload_n d_M_statement_161 rfl rfl ?_
        refine zw_gfi (ci := 7) (j := 17) d_M_statement_162 mw_3_202 q1.1 q1.2 (by decide) (by decide) rfl ?_
        obtain ⟨q36, h⟩ := h
        refine zw_iast d_M_statement_165 q36.1 (zkd_eta q36.2.1) q36.2.2 ?_
        refine zw_aload_n d_M_statement_166 rfl rfl ?_
        obtain ⟨c37, q38, h⟩ := h
        refine zw_gfr (ci := 7) (j := 13) d_M_statement_167 mw_3_198 q1.1 q1.2 (by decide) (by decide) rfl q38 ?_
        refine zw_iload_n d_M_statement_170 rfl rfl ?_
        refine zw_iconst (v := 5) d_M_statement_171 rfl ?_
        refine zw_iadd d_M_statement_172 ?_
        refine zw_iconst (v := 1) d_M_statement_173 rfl ?_
        refine zw_iadd d_M_statement_174 ?_
        refine zw_aload_n d_M_statement_175 rfl rfl ?_
        refine zw_gfi (ci := 7) (j := 18) d_M_statement_176 mw_3_203 q1.1 q1.2 (by decide) (by decide) rfl ?_
        obtain ⟨q39, h⟩ := h
        refine zw_iast d_M_statement_179 q39.1 (zkd_eta q39.2.1) q39.2.2 ?_
        refine zw_le (ls' := [some (.ref a0), none, none, none]) (And.intro rfl True.intro) ?_
        exact w_M_statement_180 hr h
  · have h := hf hc; clear ht hf
    refine zw_aload_n d_M_statement_34 rfl rfl ?_
    refine zw_dup d_M_statement_35 rfl ?_
    refine zw_gfi (ci := 7) (j := 5) d_M_statement_36 mw_3_190 q1.1 q1.2 (by decide) (by decide) rfl ?_
    refine zw_iconst (v := 1) d_M_statement_39 rfl ?_
    refine zw_iadd d_M_statement_40 ?_
    refine zw_pfi (ci := 7) (j := 5) d_M_statement_41 mw_3_190 q1.1 q1.2 (by decide) (by decide) rfl rfl rfl rfl ?_
    refine zw_aload_n d_M_statement_44 rfl rfl ?_
    obtain ⟨c40, q41, h⟩ := h
    refine zw_gfr (ci := 7) (j := 13) d_M_statement_45 mw_3_198 q1.1 q1.2 (by decide) (by decide) rfl q41 ?_
    refine zw_iload_n d_M_statement_48 rfl rfl ?_
    refine zw_iconst (v := 1) d_M_statement_49 rfl ?_
    refine zw_iadd d_M_statement_50 ?_
    refine zw_iconst (v := 0) d_M_statement_51 rfl ?_
    obtain ⟨q42, h⟩ := h
    refine zw_iast d_M_statement_52 q42.1 (zkd_eta q42.2.1) q42.2.2 ?_
    refine zw_goto (tgt := 180) d_M_statement_53 rfl ?_
    refine zw_le (ls' := [some (.ref a0), none, none, none]) (And.intro rfl True.intro) ?_
    exact w_M_statement_180 hr h
theorem c_M_statement {l : Launch} {D : va_G} {cA : Nat → ClassId} {base n : Nat} {ex : Bool} {Q : zS → Prop} {a0 : Nat} {a1 : Int32} {σ : zS} (h : P_M_statement n a0 a1 σ Q) : zM l y_M_statement prog_9_method_16_code 4 (none) 4 0 0 (zA base) D cA base n n ex [.ref a0, .int a1] σ (zqv Q) :=
  zMet (by decide) rfl (Nat.le_of_ble_eq_true rfl) (fun p e s m args below meth c hr hnm => w_M_statement hr h)
end
