section
variable {p : Program} {l : Launch} {e : Env} {s : State} {m : MethodId} {args : Array Value} {below : List Frame} {meth : Method} {c : Code} {base : Nat} {D : va_G} {cA : Nat → ClassId} {ex : Bool} {n : Nat}
def P_M_choice_99 (n : Nat) (Q : zS → Prop) (σ : zS) : Prop := Q σ
set_option maxHeartbeats 1000000 in
set_option maxRecDepth 10000 in
theorem w_M_choice_99 {Q : zS → Prop} (hr : meth.sig.returnType = none) {σ : zS} (h : P_M_choice_99 n Q σ) : zG p l e (zrm 4 0 0) s m args below meth c (MQ below (zQc (zA base) D cA base n ex (zqv Q)) args s 0 0 (zA base)) s.heap (zA base) base D cA 2 ex prog_9_method_17_code "ConstantFlowModel" n 0 0 99 [none, none] [] σ := by
  unfold P_M_choice_99 at h
  exact zw_vret d_M_choice_99 hr h
def P_M_choice_79 (n : Nat) (Q : zS → Prop) (a0 : Nat) (a1 : Int32) (σ : zS) : Prop := zk n a0 7 ∧ ((¬ (zi σ a0 3) = 0 → P_M_choice_99 n Q σ) ∧ ((zi σ a0 3) = 0 → ∃ c2, zr σ a0 14 = some c2 ∧ P_M_blockNumber n a0 (1 : Int32) σ (fun x4 σ5 => za n c2 10 (a1 + (4 : Int32)) ∧ P_M_choice_99 n Q (zI σ5 c2 (a1 + (4 : Int32)).toNatClampNeg x4))))
set_option maxHeartbeats 1000000 in
set_option maxRecDepth 10000 in
theorem w_M_choice_79 {Q : zS → Prop} (hr : meth.sig.returnType = none) {a0 : Nat} {a1 : Int32} {σ : zS} (h : P_M_choice_79 n Q a0 a1 σ) : zG p l e (zrm 4 0 0) s m args below meth c (MQ below (zQc (zA base) D cA base n ex (zqv Q)) args s 0 0 (zA base)) s.heap (zA base) base D cA 2 ex prog_9_method_17_code "ConstantFlowModel" n 0 0 79 [some (.ref a0), some (.int a1)] [] σ := by
  unfold P_M_choice_79 at h
  refine zw_aload_n d_M_choice_79 rfl rfl ?_
  obtain ⟨q1, h⟩ := h
  refine zw_gfi (ci := 7) (j := 3) d_M_choice_80 mw_3_188 q1.1 q1.2 (by decide) (by decide) rfl ?_
  obtain ⟨ht, hf⟩ := h
  refine zw_if_ne (tgt := 99) d_M_choice_83 rfl (fun hc => ?_) (fun hc => ?_)
  · have h := ht hc; clear ht hf
    refine zw_le (ls' := [none, none]) (True.intro) ?_
    exact w_M_choice_99 hr h
  · have h := hf hc; clear ht hf
    refine zw_aload_n d_M_choice_86 rfl rfl ?_
    obtain ⟨c2, q3, h⟩ := h
    refine zw_gfr (ci := 7) (j := 14) d_M_choice_87 mw_3_199 q1.1 q1.2 (by decide) (by decide) rfl q3 ?_
    refine zw_iload_n d_M_choice_90 rfl rfl ?_
    refine zw_iconst (v := 4) d_M_choice_91 rfl ?_
    refine zw_iadd d_M_choice_92 ?_
    refine zw_aload_n d_M_choice_93 rfl rfl ?_
    refine zw_iconst (v := 1) d_M_choice_94 rfl ?_
    refine zw_callV (ci := 7) (b := a0) (As := [.int (1 : Int32)]) (r := [.int (a1 + (4 : Int32)), .ref c2]) d_M_choice_95 (c_M_blockNumber h) mw_4_74 mw_4_76 mp_2_13 mw_1_8 mw_4_77 (by decide) q1.1 q1.2 hyV_M_blockNumber (Nat.le_of_ble_eq_true rfl) (Nat.le_of_ble_eq_true rfl) ⟨(Nat.le_of_ble_eq_true rfl), (Nat.le_of_ble_eq_true rfl)⟩ (Nat.le_of_ble_eq_true rfl) rfl (zk_i (fun x4 σ5 h => ?_))
    obtain ⟨q6, h⟩ := h
    refine zw_iast d_M_choice_98 q6.1 (zkd_eta q6.2.1) q6.2.2 ?_
    refine zw_le (ls' := [none, none]) (True.intro) ?_
    exact w_M_choice_99 hr h
def P_M_choice_66 (n : Nat) (Q : zS → Prop) (a0 : Nat) (a1 : Int32) (σ : zS) : Prop := zk n a0 7 ∧ ((¬ (zi σ a0 3) = 0 → P_M_choice_79 n Q a0 a1 σ) ∧ ((zi σ a0 3) = 0 → P_M_want n a0 (58 : Int32) σ (fun σ3 => P_M_choice_79 n Q a0 a1 σ3)))
set_option maxHeartbeats 1000000 in
set_option maxRecDepth 10000 in
theorem w_M_choice_66 {Q : zS → Prop} (hr : meth.sig.returnType = none) {a0 : Nat} {a1 : Int32} {σ : zS} (h : P_M_choice_66 n Q a0 a1 σ) : zG p l e (zrm 4 0 0) s m args below meth c (MQ below (zQc (zA base) D cA base n ex (zqv Q)) args s 0 0 (zA base)) s.heap (zA base) base D cA 2 ex prog_9_method_17_code "ConstantFlowModel" n 0 0 66 [some (.ref a0), some (.int a1)] [] σ := by
  unfold P_M_choice_66 at h
  refine zw_aload_n d_M_choice_66 rfl rfl ?_
  obtain ⟨q1, h⟩ := h
  refine zw_gfi (ci := 7) (j := 3) d_M_choice_67 mw_3_188 q1.1 q1.2 (by decide) (by decide) rfl ?_
  obtain ⟨ht, hf⟩ := h
  refine zw_if_ne (tgt := 79) d_M_choice_70 rfl (fun hc => ?_) (fun hc => ?_)
  · have h := ht hc; clear ht hf
    exact w_M_choice_79 hr h
  · have h := hf hc; clear ht hf
    refine zw_aload_n d_M_choice_73 rfl rfl ?_
    refine zw_bipush (v := 58) d_M_choice_74 rfl ?_
    refine zw_callV (ci := 7) (b := a0) (As := [.int (58 : Int32)]) (r := []) d_M_choice_76 (c_M_want h) mw_4_108 mw_4_110 mp_3_2 mw_1_8 mw_4_111 (by decide) q1.1 q1.2 hyV_M_want (Nat.le_of_ble_eq_true rfl) (Nat.le_of_ble_eq_true rfl) ⟨(Nat.le_of_ble_eq_true rfl), (Nat.le_of_ble_eq_true rfl)⟩ (Nat.le_of_ble_eq_true rfl) rfl (zk_v (fun σ3 h => ?_))
    exact w_M_choice_79 hr h
def P_M_choice (n : Nat) (a0 : Nat) (σ : zS) (Q : zS → Prop) : Prop := zk n a0 7 ∧ ∃ c2, zr σ a0 14 = some c2 ∧ za n c2 10 ((5 : Int32) * (zi σ a0 11)) ∧ ∃ c5, zr (zI σ c2 ((5 : Int32) * (zi σ a0 11)).toNatClampNeg (2 : Int32)) a0 14 = some c5 ∧ za n c5 10 (((5 : Int32) * (zi σ a0 11)) + (1 : Int32)) ∧ ∃ c8, zr (zI (zI σ c2 ((5 : Int32) * (zi σ a0 11)).toNatClampNeg (2 : Int32)) c5 (((5 : Int32) * (zi σ a0 11)) + (1 : Int32)).toNatClampNeg (zi (zI σ c2 ((5 : Int32) * (zi σ a0 11)).toNatClampNeg (2 : Int32)) a0 17)) a0 14 = some c8 ∧ za n c8 10 ((((5 : Int32) * (zi σ a0 11)) + (1 : Int32)) + (1 : Int32)) ∧ P_M_want n a0 (63 : Int32) (zI (zI (zI σ c2 ((5 : Int32) * (zi σ a0 11)).toNatClampNeg (2 : Int32)) c5 (((5 : Int32) * (zi σ a0 11)) + (1 : Int32)).toNatClampNeg (zi (zI σ c2 ((5 : Int32) * (zi σ a0 11)).toNatClampNeg (2 : Int32)) a0 17)) c8 ((((5 : Int32) * (zi σ a0 11)) + (1 : Int32)) + (1 : Int32)).toNatClampNeg (zi (zI (zI σ c2 ((5 : Int32) * (zi σ a0 11)).toNatClampNeg (2 : Int32)) c5 (((5 : Int32) * (zi σ a0 11)) + (1 : Int32)).toNatClampNeg (zi (zI σ c2 ((5 : Int32) * (zi σ a0 11)).toNatClampNeg (2 : Int32)) a0 17)) a0 18)) (fun σ12 => ((¬ (zi σ12 a0 3) = 0 → P_M_choice_66 n Q a0 ((5 : Int32) * (zi σ a0 11)) σ12) ∧ ((zi σ12 a0 3) = 0 → ∃ c13, zr σ12 a0 14 = some c13 ∧ P_M_blockNumber n a0 (0 : Int32) σ12 (fun x15 σ16 => za n c13 10 (((5 : Int32) * (zi σ a0 11)) + (3 : Int32)) ∧ P_M_choice_66 n Q a0 ((5 : Int32) * (zi σ a0 11)) (zI σ16 c13 (((5 : Int32) * (zi σ a0 11)) + (3 : Int32)).toNatClampNeg x15)))))
set_option maxHeartbeats 1000000 in
set_option maxRecDepth 10000 in
theorem w_M_choice {Q : zS → Prop} (hr : meth.sig.returnType = none) {a0 : Nat} {σ : zS} (h : P_M_choice n a0 σ Q) : zG p l e (zrm 4 0 0) s m args below meth c (MQ below (zQc (zA base) D cA base n ex (zqv Q)) args s 0 0 (zA base)) s.heap (zA base) base D cA 2 ex prog_9_method_17_code "ConstantFlowModel" n 0 0 0 [some (.ref a0), none] [] σ := by
  unfold P_M_choice at h
  refine zw_iconst (v := 5) d_M_choice_0 rfl ?_
  refine zw_aload_n d_M_choice_1 rfl rfl ?_
  obtain ⟨q1, h⟩ := h
  refine zw_gfi (ci := 7) (j := 11) d_M_choice_2 mw_3_196 q1.1 q1.2 (by decide) (by decide) rfl ?_
  refine zw_imul d_M_choice_5 ?_
  refine zw_istore_n d_M_choice_6 rfl (Nat.le_of_ble_eq_true rfl) rfl rfl ?_
  refine zw_aload_n d_M_choice_7 rfl rfl ?_
  obtain ⟨c2, q3, h⟩ := h
  refine zw_gfr (ci := 7) (j := 14) d_M_choice_8 mw_3_199 q1.1 q1.2 (by decide) (by decide) rfl q3 ?_
  refine zw_iload_n d_M_choice_11 rfl rfl ?_
  refine zw_iconst (v := 2) d_M_choice_12 rfl ?_
  obtain ⟨q4, h⟩ := h
  refine zw_iast d_M_choice_13 q4.1 (zkd_eta q4.2.1) q4.2.2 ?_
  refine zw_aload_n d_M_choice_14 rfl rfl ?_
  obtain ⟨c5, q6, h⟩ := h
  refine zw_gfr (ci := 7) (j := 14) d_M_choice_15 mw_3_199 q1.1 q1.2 (by decide) (by decide) rfl q6 ?_
  refine zw_iload_n d_M_choice_18 rfl rfl ?_
  refine zw_iconst (v := 1) d_M_choice_19 rfl ?_
  refine zw_iadd d_M_choice_20 ?_
  refine zw_aload_n d_M_choice_21 rfl rfl ?_
  refine zw_gfi (ci := 7) (j := 17) d_M_choice_22 mw_3_202 q1.1 q1.2 (by decide) (by decide) rfl ?_
  obtain ⟨q7, h⟩ := h
  refine zw_iast d_M_choice_25 q7.1 (zkd_eta q7.2.1) q7.2.2 ?_
  refine zw_aload_n d_M_choice_26 rfl rfl ?_
  obtain ⟨c8, q9, h⟩ := h
  refine zw_gfr (ci := 7) (j := 14) d_M_choice_27 mw_3_199 q1.1 q1.2 (by decide) (by decide) rfl q9 ?_
  refine zw_iload_n d_M_choice_30 rfl rfl ?_
  refine zw_iconst (v := 1) d_M_choice_31 rfl ?_
  refine zw_iadd d_M_choice_32 ?_
  refine zw_iconst (v := 1) d_M_choice_33 rfl ?_
  refine zw_iadd d_M_choice_34 ?_
  refine zw_aload_n d_M_choice_35 rfl rfl ?_
  refine zw_gfi (ci := 7) (j := 18) d_M_choice_36 mw_3_203 q1.1 q1.2 (by decide) (by decide) rfl ?_
  obtain ⟨q10, h⟩ := h
  refine zw_iast d_M_choice_39 q10.1 (zkd_eta q10.2.1) q10.2.2 ?_
  refine zw_aload_n d_M_choice_40 rfl rfl ?_
  refine zw_bipush (v := 63) d_M_choice_41 rfl ?_
  refine zw_callV (ci := 7) (b := a0) (As := [.int (63 : Int32)]) (r := []) d_M_choice_43 (c_M_want h) mw_4_108 mw_4_110 mp_3_2 mw_1_8 mw_4_111 (by decide) q1.1 q1.2 hyV_M_want (Nat.le_of_ble_eq_true rfl) (Nat.le_of_ble_eq_true rfl) ⟨(Nat.le_of_ble_eq_true rfl), (Nat.le_of_ble_eq_true rfl)⟩ (Nat.le_of_ble_eq_true rfl) rfl (zk_v (fun σ12 h => ?_))
  refine zw_aload_n d_M_choice_46 rfl rfl ?_
  refine zw_gfi (ci := 7) (j := 3) d_M_choice_47 mw_3_188 q1.1 q1.2 (by decide) (by decide) rfl ?_
  obtain ⟨ht, hf⟩ := h
  refine zw_if_ne (tgt := 66) d_M_choice_50 rfl (fun hc => ?_) (fun hc => ?_)
  · have h := ht hc; clear ht hf
    exact w_M_choice_66 hr h
  · have h := hf hc; clear ht hf
    refine zw_aload_n d_M_choice_53 rfl rfl ?_
    obtain ⟨c13, q14, h⟩ := h
    refine zw_gfr (ci := 7) (j := 14) d_M_choice_54 mw_3_199 q1.1 q1.2 (by decide) (by decide) rfl q14 ?_
    refine zw_iload_n d_M_choice_57 rfl rfl ?_
    refine zw_iconst (v := 3) d_M_choice_58 rfl ?_
    refine zw_iadd d_M_choice_59 ?_
    refine zw_aload_n d_M_choice_60 rfl rfl ?_
    refine zw_iconst (v := 0) d_M_choice_61 rfl ?_
    refine zw_callV (ci := 7) (b := a0) (As := [.int (0 : Int32)]) (r := [.int (((5 : Int32) * (zi σ a0 11)) + (3 : Int32)), .ref c13]) d_M_choice_62 (c_M_blockNumber h) mw_4_74 mw_4_76 mp_2_13 mw_1_8 mw_4_77 (by decide) q1.1 q1.2 hyV_M_blockNumber (Nat.le_of_ble_eq_true rfl) (Nat.le_of_ble_eq_true rfl) ⟨(Nat.le_of_ble_eq_true rfl), (Nat.le_of_ble_eq_true rfl)⟩ (Nat.le_of_ble_eq_true rfl) rfl (zk_i (fun x15 σ16 h => ?_))
    obtain ⟨q17, h⟩ := h
    refine zw_iast d_M_choice_65 q17.1 (zkd_eta q17.2.1) q17.2.2 ?_
    exact w_M_choice_66 hr h
theorem c_M_choice {l : Launch} {D : va_G} {cA : Nat → ClassId} {base n : Nat} {ex : Bool} {Q : zS → Prop} {a0 : Nat} {σ : zS} (h : P_M_choice n a0 σ Q) : zM l y_M_choice prog_9_method_17_code 2 (none) 4 0 0 (zA base) D cA base n n ex [.ref a0] σ (zqv Q) :=
  zMet (by decide) rfl (Nat.le_of_ble_eq_true rfl) (fun p e s m args below meth c hr hnm => w_M_choice hr h)
def P_M_know_166 (n : Nat) (Q : zS → Prop) (K88 : Nat → Int32 → zS → Prop) (K96 : Nat → Int32 → Int32 → zS → Prop) (a0 : Nat) (a1 : Int32) (a2 : Int32) (σ : zS) : Prop := K96 a0 a1 (a2 + (1 : Int32)) σ
set_option maxHeartbeats 1000000 in
set_option maxRecDepth 10000 in
theorem w_M_know_166 {Q : zS → Prop} {K88 : Nat → Int32 → zS → Prop} {K96 : Nat → Int32 → Int32 → zS → Prop} (hr : meth.sig.returnType = none) (hK88 : ∀ (a0 : Nat) (a1 : Int32) (σ : zS), K88 a0 a1 σ → zG p l e (zrm 4 0 0) s m args below meth c (MQ below (zQc (zA base) D cA base n ex (zqv Q)) args s 0 0 (zA base)) s.heap (zA base) base D cA 4 ex prog_9_method_32_code "ConstantFlowModel" n 0 0 88 [some (.ref a0), some (.int a1), none, none] [] σ) (hK96 : ∀ (a0 : Nat) (a1 : Int32) (a2 : Int32) (σ : zS), K96 a0 a1 a2 σ → zG p l e (zrm 4 0 0) s m args below meth c (MQ below (zQc (zA base) D cA base n ex (zqv Q)) args s 0 0 (zA base)) s.heap (zA base) base D cA 4 ex prog_9_method_32_code "ConstantFlowModel" n 0 0 96 [some (.ref a0), some (.int a1), some (.int a2), none] [] σ) {a0 : Nat} {a1 : Int32} {a2 : Int32} {σ : zS} (h : P_M_know_166 n Q K88 K96 a0 a1 a2 σ) : zG p l e (zrm 4 0 0) s m args below meth c (MQ below (zQc (zA base) D cA base n ex (zqv Q)) args s 0 0 (zA base)) s.heap (zA base) base D cA 4 ex prog_9_method_32_code "ConstantFlowModel" n 0 0 166 [some (.ref a0), some (.int a1), some (.int a2), none] [] σ := by
  unfold P_M_know_166 at h
  refine zw_iinc (v := (a2 + (1 : Int32))) d_M_know_166 rfl rfl (Nat.le_of_ble_eq_true rfl) rfl rfl ?_
  refine zw_goto (tgt := 96) d_M_know_169 rfl ?_
  exact hK96 _ _ _ _ h
def P_M_know_165 (n : Nat) (Q : zS → Prop) (K88 : Nat → Int32 → zS → Prop) (K96 : Nat → Int32 → Int32 → zS → Prop) (a0 : Nat) (a2 : Int32) (b0 : Int32) (σ : zS) : Prop := P_M_know_166 n Q K88 K96 a0 b0 a2 σ
set_option maxHeartbeats 1000000 in
set_option maxRecDepth 10000 in
theorem w_M_know_165 {Q : zS → Prop} {K88 : Nat → Int32 → zS → Prop} {K96 : Nat → Int32 → Int32 → zS → Prop} (hr : meth.sig.returnType = none) (hK88 : ∀ (a0 : Nat) (a1 : Int32) (σ : zS), K88 a0 a1 σ → zG p l e (zrm 4 0 0) s m args below meth c (MQ below (zQc (zA base) D cA base n ex (zqv Q)) args s 0 0 (zA base)) s.heap (zA base) base D cA 4 ex prog_9_method_32_code "ConstantFlowModel" n 0 0 88 [some (.ref a0), some (.int a1), none, none] [] σ) (hK96 : ∀ (a0 : Nat) (a1 : Int32) (a2 : Int32) (σ : zS), K96 a0 a1 a2 σ → zG p l e (zrm 4 0 0) s m args below meth c (MQ below (zQc (zA base) D cA base n ex (zqv Q)) args s 0 0 (zA base)) s.heap (zA base) base D cA 4 ex prog_9_method_32_code "ConstantFlowModel" n 0 0 96 [some (.ref a0), some (.int a1), some (.int a2), none] [] σ) {a0 : Nat} {a2 : Int32} {b0 : Int32} {σ : zS} (h : P_M_know_165 n Q K88 K96 a0 a2 b0 σ) : zG p l e (zrm 4 0 0) s m args below meth c (MQ below (zQc (zA base) D cA base n ex (zqv Q)) args s 0 0 (zA base)) s.heap (zA base) base D cA 4 ex prog_9_method_32_code "ConstantFlowModel" n 0 0 165 [some (.ref a0), none, some (.int a2), none] [.int b0] σ := by
  unfold P_M_know_165 at h
  refine zw_istore_n d_M_know_165 rfl (Nat.le_of_ble_eq_true rfl) rfl rfl ?_
  exact w_M_know_166 hr hK88 hK96 h
def P_M_know_160 (n : Nat) (Q : zS → Prop) (K88 : Nat → Int32 → zS → Prop) (K96 : Nat → Int32 → Int32 → zS → Prop) (a0 : Nat) (a2 : Int32) (σ : zS) : Prop := P_M_know_165 n Q K88 K96 a0 a2 (1 : Int32) σ
set_option maxHeartbeats 1000000 in
set_option maxRecDepth 10000 in
theorem w_M_know_160 {Q : zS → Prop} {K88 : Nat → Int32 → zS → Prop} {K96 : Nat → Int32 → Int32 → zS → Prop} (hr : meth.sig.returnType = none) (hK88 : ∀ (a0 : Nat) (a1 : Int32) (σ : zS), K88 a0 a1 σ → zG p l e (zrm 4 0 0) s m args below meth c (MQ below (zQc (zA base) D cA base n ex (zqv Q)) args s 0 0 (zA base)) s.heap (zA base) base D cA 4 ex prog_9_method_32_code "ConstantFlowModel" n 0 0 88 [some (.ref a0), some (.int a1), none, none] [] σ) (hK96 : ∀ (a0 : Nat) (a1 : Int32) (a2 : Int32) (σ : zS), K96 a0 a1 a2 σ → zG p l e (zrm 4 0 0) s m args below meth c (MQ below (zQc (zA base) D cA base n ex (zqv Q)) args s 0 0 (zA base)) s.heap (zA base) base D cA 4 ex prog_9_method_32_code "ConstantFlowModel" n 0 0 96 [some (.ref a0), some (.int a1), some (.int a2), none] [] σ) {a0 : Nat} {a2 : Int32} {σ : zS} (h : P_M_know_160 n Q K88 K96 a0 a2 σ) : zG p l e (zrm 4 0 0) s m args below meth c (MQ below (zQc (zA base) D cA base n ex (zqv Q)) args s 0 0 (zA base)) s.heap (zA base) base D cA 4 ex prog_9_method_32_code "ConstantFlowModel" n 0 0 160 [some (.ref a0), none, some (.int a2), none] [] σ := by
  unfold P_M_know_160 at h
  refine zw_iconst (v := 1) d_M_know_160 rfl ?_
  refine zw_goto (tgt := 165) d_M_know_161 rfl ?_
  exact w_M_know_165 hr hK88 hK96 h
def P_M_know_125 (n : Nat) (Q : zS → Prop) (K88 : Nat → Int32 → zS → Prop) (K96 : Nat → Int32 → Int32 → zS → Prop) : Nat → Nat → Int32 → Int32 → Int32 → zS → Prop
  | 0, _, _, _, _, _ => False
  | f + 1, a0, a1, a2, a3, σ => zk n a0 7 ∧ ∃ c2, zr σ a0 10 = some c2 ∧ za n c2 10 (a2 + (1 : Int32)) ∧ (((zi σ c2 (a2 + (1 : Int32)).toNatClampNeg) ≤ a3 → P_M_lead n a0 a2 σ (fun x5 σ6 => ((¬ x5 = 0 → P_M_know_160 n Q K88 K96 a0 a2 σ6) ∧ (x5 = 0 → ((a1 = 0 → P_M_know_165 n Q K88 K96 a0 a2 (0 : Int32) σ6) ∧ (¬ (a1 = 0) → P_M_know_160 n Q K88 K96 a0 a2 σ6)))))) ∧ (¬ ((zi σ c2 (a2 + (1 : Int32)).toNatClampNeg) ≤ a3) → P_M_follow n a0 a3 σ (fun σ8 => P_M_know_125 n Q K88 K96 f a0 a1 a2 (a3 + (1 : Int32)) σ8)))
set_option maxHeartbeats 1000000 in
set_option maxRecDepth 10000 in
theorem w_M_know_125 {Q : zS → Prop} {K88 : Nat → Int32 → zS → Prop} {K96 : Nat → Int32 → Int32 → zS → Prop} (hr : meth.sig.returnType = none) (hK88 : ∀ (a0 : Nat) (a1 : Int32) (σ : zS), K88 a0 a1 σ → zG p l e (zrm 4 0 0) s m args below meth c (MQ below (zQc (zA base) D cA base n ex (zqv Q)) args s 0 0 (zA base)) s.heap (zA base) base D cA 4 ex prog_9_method_32_code "ConstantFlowModel" n 0 0 88 [some (.ref a0), some (.int a1), none, none] [] σ) (hK96 : ∀ (a0 : Nat) (a1 : Int32) (a2 : Int32) (σ : zS), K96 a0 a1 a2 σ → zG p l e (zrm 4 0 0) s m args below meth c (MQ below (zQc (zA base) D cA base n ex (zqv Q)) args s 0 0 (zA base)) s.heap (zA base) base D cA 4 ex prog_9_method_32_code "ConstantFlowModel" n 0 0 96 [some (.ref a0), some (.int a1), some (.int a2), none] [] σ) : ∀ (f : Nat) (a0 : Nat) (a1 : Int32) (a2 : Int32) (a3 : Int32) (σ : zS), P_M_know_125 n Q K88 K96 f a0 a1 a2 a3 σ → zG p l e (zrm 4 0 0) s m args below meth c (MQ below (zQc (zA base) D cA base n ex (zqv Q)) args s 0 0 (zA base)) s.heap (zA base) base D cA 4 ex prog_9_method_32_code "ConstantFlowModel" n 0 0 125 [some (.ref a0), some (.int a1), some (.int a2), some (.int a3)] [] σ := by
  intro f
  induction f with
  | zero => intro a0 a1 a2 a3 σ h; exact False.elim h
  | succ f ih =>
    intro a0 a1 a2 a3 σ h
    refine zw_iload_n d_M_know_125 rfl rfl ?_
    refine zw_aload_n d_M_know_126 rfl rfl ?_
    obtain ⟨q1, h⟩ := h
    obtain ⟨c2, q3, h⟩ := h
    refine zw_gfr (ci := 7) (j := 10) d_M_know_127 mw_3_195 q1.1 q1.2 (by decide) (by decide) rfl q3 ?_
    refine zw_iload_n d_M_know_130 rfl rfl ?_
    refine zw_iconst (v := 1) d_M_know_131 rfl ?_
    refine zw_iadd d_M_know_132 ?_
    obtain ⟨q4, h⟩ := h
    refine zw_iald d_M_know_133 q4.1 (zkd_eta q4.2.1) q4.2.2 ?_
    obtain ⟨ht, hf⟩ := h
    refine zw_icmp_ge (tgt := 148) d_M_know_134 rfl (fun hc => ?_) (fun hc => ?_)
    · have h := ht hc; clear ht hf
      refine zw_aload_n d_M_know_148 rfl rfl ?_
      refine zw_iload_n d_M_know_149 rfl rfl ?_
      refine zw_callV (ci := 7) (b := a0) (As := [.int a2]) (r := []) d_M_know_150 (c_M_lead h) mw_4_163 mw_4_165 mp_3_12 mw_1_8 mw_4_166 (by decide) q1.1 q1.2 hyV_M_lead (Nat.le_of_ble_eq_true rfl) (Nat.le_of_ble_eq_true rfl) ⟨(Nat.le_of_ble_eq_true rfl), (Nat.le_of_ble_eq_true rfl)⟩ (Nat.le_of_ble_eq_true rfl) rfl (zk_i (fun x5 σ6 h => ?_))
      obtain ⟨ht, hf⟩ := h
      refine zw_if_ne (tgt := 160) d_M_know_153 rfl (fun hc => ?_) (fun hc => ?_)
      · have h := ht hc; clear ht hf
        refine zw_le (ls' := [some (.ref a0), none, some (.int a2), none]) (And.intro rfl (And.intro rfl True.intro)) ?_
        exact w_M_know_160 hr hK88 hK96 h
      · have h := hf hc; clear ht hf
        refine zw_iload_n d_M_know_156 rfl rfl ?_
        obtain ⟨ht, hf⟩ := h
        refine zw_if_eq (tgt := 164) d_M_know_157 rfl (fun hc => ?_) (fun hc => ?_)
        · have h := ht hc; clear ht hf
          refine zw_iconst (v := 0) d_M_know_164 rfl ?_
          refine zw_le (ls' := [some (.ref a0), none, some (.int a2), none]) (And.intro rfl (And.intro rfl True.intro)) ?_
          exact w_M_know_165 hr hK88 hK96 h
        · have h := hf hc; clear ht hf
          refine zw_le (ls' := [some (.ref a0), none, some (.int a2), none]) (And.intro rfl (And.intro rfl True.intro)) ?_
          exact w_M_know_160 hr hK88 hK96 h
    · have h := hf hc; clear ht hf
      refine zw_aload_n d_M_know_137 rfl rfl ?_
      refine zw_iload_n d_M_know_138 rfl rfl ?_
      refine zw_callV (ci := 7) (b := a0) (As := [.int a3]) (r := []) d_M_know_139 (c_M_follow h) mw_4_144 mw_4_146 mp_3_8 mw_1_8 mw_4_147 (by decide) q1.1 q1.2 hyV_M_follow (Nat.le_of_ble_eq_true rfl) (Nat.le_of_ble_eq_true rfl) ⟨(Nat.le_of_ble_eq_true rfl), (Nat.le_of_ble_eq_true rfl)⟩ (Nat.le_of_ble_eq_true rfl) rfl (zk_v (fun σ8 h => ?_))
      refine zw_iinc (v := (a3 + (1 : Int32))) d_M_know_142 rfl rfl (Nat.le_of_ble_eq_true rfl) rfl rfl ?_
      refine zw_goto (tgt := 125) d_M_know_145 rfl ?_
      exact ih _ _ _ _ _ h
def P_M_know_96 (n : Nat) (Q : zS → Prop) (K88 : Nat → Int32 → zS → Prop) : Nat → Nat → Int32 → Int32 → zS → Prop
  | 0, _, _, _, _ => False
  | f + 1, a0, a1, a2, σ => zk n a0 7 ∧ (((zi σ a0 6) ≤ a2 → K88 a0 a1 σ) ∧ (¬ ((zi σ a0 6) ≤ a2) → ∃ c2, zr σ a0 20 = some c2 ∧ za n c2 11 a2 ∧ (((zi σ c2 a2.toNatClampNeg) = 0 → P_M_know_166 n Q K88 (fun (a0 : Nat) (a1 : Int32) (a2 : Int32) (σ : zS) => P_M_know_96 n Q K88 f a0 a1 a2 σ) a0 a1 a2 σ) ∧ (¬ ((zi σ c2 a2.toNatClampNeg) = 0) → P_M_beginBlock n a0 a2 σ (fun σ6 => ∃ c7, zr σ6 a0 10 = some c7 ∧ za n c7 10 a2 ∧ ∃ g, P_M_know_125 n Q K88 (fun (a0 : Nat) (a1 : Int32) (a2 : Int32) (σ : zS) => P_M_know_96 n Q K88 f a0 a1 a2 σ) g a0 a1 a2 (zi σ6 c7 a2.toNatClampNeg) σ6)))))
set_option maxHeartbeats 1000000 in
set_option maxRecDepth 10000 in
theorem w_M_know_96 {Q : zS → Prop} {K88 : Nat → Int32 → zS → Prop} (hr : meth.sig.returnType = none) (hK88 : ∀ (a0 : Nat) (a1 : Int32) (σ : zS), K88 a0 a1 σ → zG p l e (zrm 4 0 0) s m args below meth c (MQ below (zQc (zA base) D cA base n ex (zqv Q)) args s 0 0 (zA base)) s.heap (zA base) base D cA 4 ex prog_9_method_32_code "ConstantFlowModel" n 0 0 88 [some (.ref a0), some (.int a1), none, none] [] σ) : ∀ (f : Nat) (a0 : Nat) (a1 : Int32) (a2 : Int32) (σ : zS), P_M_know_96 n Q K88 f a0 a1 a2 σ → zG p l e (zrm 4 0 0) s m args below meth c (MQ below (zQc (zA base) D cA base n ex (zqv Q)) args s 0 0 (zA base)) s.heap (zA base) base D cA 4 ex prog_9_method_32_code "ConstantFlowModel" n 0 0 96 [some (.ref a0), some (.int a1), some (.int a2), none] [] σ := by
  intro f
  induction f with
  | zero => intro a0 a1 a2 σ h; exact False.elim h
  | succ f ih =>
    intro a0 a1 a2 σ h
    refine zw_iload_n d_M_know_96 rfl rfl ?_
    refine zw_aload_n d_M_know_97 rfl rfl ?_
    obtain ⟨q1, h⟩ := h
    refine zw_gfi (ci := 7) (j := 6) d_M_know_98 mw_3_191 q1.1 q1.2 (by decide) (by decide) rfl ?_
    obtain ⟨ht, hf⟩ := h
    refine zw_icmp_ge (tgt := 172) d_M_know_101 rfl (fun hc => ?_) (fun hc => ?_)
    · have h := ht hc; clear ht hf
      refine zw_goto (tgt := 88) d_M_know_172 rfl ?_
      refine zw_le (ls' := [some (.ref a0), some (.int a1), none, none]) (And.intro rfl (And.intro rfl True.intro)) ?_
      exact hK88 _ _ _ h
    · have h := hf hc; clear ht hf
      refine zw_aload_n d_M_know_104 rfl rfl ?_
      obtain ⟨c2, q3, h⟩ := h
      refine zw_gfr (ci := 7) (j := 20) d_M_know_105 mw_3_205 q1.1 q1.2 (by decide) (by decide) rfl q3 ?_
      refine zw_iload_n d_M_know_108 rfl rfl ?_
      obtain ⟨q4, h⟩ := h
      refine zw_zald d_M_know_109 q4.1 (zkd_eta q4.2.1) q4.2.2 ?_
      obtain ⟨ht, hf⟩ := h
      refine zw_if_eq (tgt := 166) d_M_know_110 rfl (fun hc => ?_) (fun hc => ?_)
      · have h := ht hc; clear ht hf
        exact w_M_know_166 hr hK88 (fun a0 a1 a2 σ hk => ih a0 a1 a2 σ hk) h
      · have h := hf hc; clear ht hf
        refine zw_aload_n d_M_know_113 rfl rfl ?_
        refine zw_iload_n d_M_know_114 rfl rfl ?_
        refine zw_callV (ci := 7) (b := a0) (As := [.int a2]) (r := []) d_M_know_115 (c_M_beginBlock h) mw_4_140 mw_4_142 mp_3_7 mw_1_8 mw_4_143 (by decide) q1.1 q1.2 hyV_M_beginBlock (Nat.le_of_ble_eq_true rfl) (Nat.le_of_ble_eq_true rfl) ⟨(Nat.le_of_ble_eq_true rfl), (Nat.le_of_ble_eq_true rfl)⟩ (Nat.le_of_ble_eq_true rfl) rfl (zk_v (fun σ6 h => ?_))
        refine zw_aload_n d_M_know_118 rfl rfl ?_
        obtain ⟨c7, q8, h⟩ := h
        refine zw_gfr (ci := 7) (j := 10) d_M_know_119 mw_3_195 q1.1 q1.2 (by decide) (by decide) rfl q8 ?_
        refine zw_iload_n d_M_know_122 rfl rfl ?_
        obtain ⟨q9, h⟩ := h
        refine zw_iald d_M_know_123 q9.1 (zkd_eta q9.2.1) q9.2.2 ?_
        refine zw_istore_n d_M_know_124 rfl (Nat.le_of_ble_eq_true rfl) rfl rfl ?_
        obtain ⟨g, h⟩ := h
        exact w_M_know_125 hr hK88 (fun a0 a1 a2 σ hk => ih a0 a1 a2 σ hk) g _ _ _ _ _ h
def P_M_know_88 (n : Nat) (Q : zS → Prop) : Nat → Nat → Int32 → zS → Prop
  | 0, _, _, _ => False
  | f + 1, a0, a1, σ => ((a1 = 0 → zk n a0 7 ∧ Q (zI σ a0 19 (1 : Int32))) ∧ (¬ (a1 = 0) → ∃ g, P_M_know_96 n Q (fun (a0 : Nat) (a1 : Int32) (σ : zS) => P_M_know_88 n Q f a0 a1 σ) g a0 (0 : Int32) (0 : Int32) σ))
set_option maxHeartbeats 1000000 in
set_option maxRecDepth 10000 in
theorem w_M_know_88 {Q : zS → Prop} (hr : meth.sig.returnType = none) : ∀ (f : Nat) (a0 : Nat) (a1 : Int32) (σ : zS), P_M_know_88 n Q f a0 a1 σ → zG p l e (zrm 4 0 0) s m args below meth c (MQ below (zQc (zA base) D cA base n ex (zqv Q)) args s 0 0 (zA base)) s.heap (zA base) base D cA 4 ex prog_9_method_32_code "ConstantFlowModel" n 0 0 88 [some (.ref a0), some (.int a1), none, none] [] σ := by
  intro f
  induction f with
  | zero => intro a0 a1 σ h; exact False.elim h
  | succ f ih =>
    intro a0 a1 σ h
    refine zw_iload_n d_M_know_88 rfl rfl ?_
    obtain ⟨ht, hf⟩ := h
    refine zw_if_eq (tgt := 175) d_M_know_89 rfl (fun hc => ?_) (fun hc => ?_)
    · have h := ht hc; clear ht hf
      refine zw_aload_n d_M_know_175 rfl rfl ?_
      refine zw_iconst (v := 1) d_M_know_176 rfl ?_
      obtain ⟨q1, h⟩ := h
      refine zw_pfi (ci := 7) (j := 19) d_M_know_177 mw_3_204 q1.1 q1.2 (by decide) (by decide) rfl rfl rfl rfl ?_
      exact zw_vret d_M_know_180 hr h
    · have h := hf hc; clear ht hf
      refine zw_iconst (v := 0) d_M_know_92 rfl ?_
      refine zw_istore_n d_M_know_93 rfl (Nat.le_of_ble_eq_true rfl) rfl rfl ?_
      refine zw_iconst (v := 0) d_M_know_94 rfl ?_
      refine zw_istore_n d_M_know_95 rfl (Nat.le_of_ble_eq_true rfl) rfl rfl ?_
      obtain ⟨g, h⟩ := h
      exact w_M_know_96 hr (fun a0 a1 σ hk => ih a0 a1 σ hk) g _ _ _ _ h
def P_M_know_67 (n : Nat) (Q : zS → Prop) : Nat → Nat → Int32 → zS → Prop
  | 0, _, _, _ => False
  | f + 1, a0, a1, σ => (((8 : Int32) ≤ a1 → ∃ g, P_M_know_88 n Q g a0 (1 : Int32) σ) ∧ (¬ ((8 : Int32) ≤ a1) → zk n a0 7 ∧ ∃ c2, zr σ a0 21 = some c2 ∧ za n c2 10 a1 ∧ P_M_know_67 n Q f a0 (a1 + (1 : Int32)) (zI σ c2 a1.toNatClampNeg (1 : Int32))))
set_option maxHeartbeats 1000000 in
set_option maxRecDepth 10000 in
theorem w_M_know_67 {Q : zS → Prop} (hr : meth.sig.returnType = none) : ∀ (f : Nat) (a0 : Nat) (a1 : Int32) (σ : zS), P_M_know_67 n Q f a0 a1 σ → zG p l e (zrm 4 0 0) s m args below meth c (MQ below (zQc (zA base) D cA base n ex (zqv Q)) args s 0 0 (zA base)) s.heap (zA base) base D cA 4 ex prog_9_method_32_code "ConstantFlowModel" n 0 0 67 [some (.ref a0), some (.int a1), none, none] [] σ := by
  intro f
  induction f with
  | zero => intro a0 a1 σ h; exact False.elim h
  | succ f ih =>
    intro a0 a1 σ h
    refine zw_iload_n d_M_know_67 rfl rfl ?_
    refine zw_bipush (v := 8) d_M_know_68 rfl ?_
    obtain ⟨ht, hf⟩ := h
    refine zw_icmp_ge (tgt := 86) d_M_know_70 rfl (fun hc => ?_) (fun hc => ?_)
    · have h := ht hc; clear ht hf
      refine zw_iconst (v := 1) d_M_know_86 rfl ?_
      refine zw_istore_n d_M_know_87 rfl (Nat.le_of_ble_eq_true rfl) rfl rfl ?_
      obtain ⟨g, h⟩ := h
      exact w_M_know_88 hr g _ _ _ h
    · have h := hf hc; clear ht hf
      refine zw_aload_n d_M_know_73 rfl rfl ?_
      obtain ⟨q1, h⟩ := h
      obtain ⟨c2, q3, h⟩ := h
      refine zw_gfr (ci := 7) (j := 21) d_M_know_74 mw_3_206 q1.1 q1.2 (by decide) (by decide) rfl q3 ?_
      refine zw_iload_n d_M_know_77 rfl rfl ?_
      refine zw_iconst (v := 1) d_M_know_78 rfl ?_
      obtain ⟨q4, h⟩ := h
      refine zw_iast d_M_know_79 q4.1 (zkd_eta q4.2.1) q4.2.2 ?_
      refine zw_iinc (v := (a1 + (1 : Int32))) d_M_know_80 rfl rfl (Nat.le_of_ble_eq_true rfl) rfl rfl ?_
      refine zw_goto (tgt := 67) d_M_know_83 rfl ?_
      exact ih _ _ _ h
def P_M_know_39 (n : Nat) (Q : zS → Prop) : Nat → Nat → Int32 → zS → Prop
  | 0, _, _, _ => False
  | f + 1, a0, a1, σ => (((24 : Int32) ≤ a1 → zk n a0 7 ∧ ∃ c2, zr σ a0 20 = some c2 ∧ za n c2 11 (0 : Int32) ∧ ∃ g, P_M_know_67 n Q g a0 (0 : Int32) (zI σ c2 (0 : Int32).toNatClampNeg (vp_nar .boolean (1 : Int32)))) ∧ (¬ ((24 : Int32) ≤ a1) → zk n a0 7 ∧ ∃ c6, zr σ a0 20 = some c6 ∧ za n c6 11 a1 ∧ P_M_know_39 n Q f a0 (a1 + (1 : Int32)) (zI σ c6 a1.toNatClampNeg (vp_nar .boolean (0 : Int32)))))
set_option maxHeartbeats 1000000 in
set_option maxRecDepth 10000 in
theorem w_M_know_39 {Q : zS → Prop} (hr : meth.sig.returnType = none) : ∀ (f : Nat) (a0 : Nat) (a1 : Int32) (σ : zS), P_M_know_39 n Q f a0 a1 σ → zG p l e (zrm 4 0 0) s m args below meth c (MQ below (zQc (zA base) D cA base n ex (zqv Q)) args s 0 0 (zA base)) s.heap (zA base) base D cA 4 ex prog_9_method_32_code "ConstantFlowModel" n 0 0 39 [some (.ref a0), some (.int a1), none, none] [] σ := by
  intro f
  induction f with
  | zero => intro a0 a1 σ h; exact False.elim h
  | succ f ih =>
    intro a0 a1 σ h
    refine zw_iload_n d_M_know_39 rfl rfl ?_
    refine zw_bipush (v := 24) d_M_know_40 rfl ?_
    obtain ⟨ht, hf⟩ := h
    refine zw_icmp_ge (tgt := 58) d_M_know_42 rfl (fun hc => ?_) (fun hc => ?_)
    · have h := ht hc; clear ht hf
      refine zw_aload_n d_M_know_58 rfl rfl ?_
      obtain ⟨q1, h⟩ := h
      obtain ⟨c2, q3, h⟩ := h
      refine zw_gfr (ci := 7) (j := 20) d_M_know_59 mw_3_205 q1.1 q1.2 (by decide) (by decide) rfl q3 ?_
      refine zw_iconst (v := 0) d_M_know_62 rfl ?_
      refine zw_iconst (v := 1) d_M_know_63 rfl ?_
      obtain ⟨q4, h⟩ := h
      refine zw_zast d_M_know_64 q4.1 (zkd_eta q4.2.1) q4.2.2 ?_
      refine zw_iconst (v := 0) d_M_know_65 rfl ?_
      refine zw_istore_n d_M_know_66 rfl (Nat.le_of_ble_eq_true rfl) rfl rfl ?_
      obtain ⟨g, h⟩ := h
      exact w_M_know_67 hr g _ _ _ h
    · have h := hf hc; clear ht hf
      refine zw_aload_n d_M_know_45 rfl rfl ?_
      obtain ⟨q5, h⟩ := h
      obtain ⟨c6, q7, h⟩ := h
      refine zw_gfr (ci := 7) (j := 20) d_M_know_46 mw_3_205 q5.1 q5.2 (by decide) (by decide) rfl q7 ?_
      refine zw_iload_n d_M_know_49 rfl rfl ?_
      refine zw_iconst (v := 0) d_M_know_50 rfl ?_
      obtain ⟨q8, h⟩ := h
      refine zw_zast d_M_know_51 q8.1 (zkd_eta q8.2.1) q8.2.2 ?_
      refine zw_iinc (v := (a1 + (1 : Int32))) d_M_know_52 rfl rfl (Nat.le_of_ble_eq_true rfl) rfl rfl ?_
      refine zw_goto (tgt := 39) d_M_know_55 rfl ?_
      exact ih _ _ _ h
def P_M_know_10 (n : Nat) (Q : zS → Prop) : Nat → Nat → Int32 → zS → Prop
  | 0, _, _, _ => False
  | f + 1, a0, a1, σ => (((192 : Int32) ≤ a1 → ∃ g, P_M_know_39 n Q g a0 (0 : Int32) σ) ∧ (¬ ((192 : Int32) ≤ a1) → zk n a0 7 ∧ ∃ c2, zr σ a0 21 = some c2 ∧ za n c2 10 a1 ∧ ∃ c5, zr (zI σ c2 a1.toNatClampNeg (0 : Int32)) a0 22 = some c5 ∧ za n c5 10 a1 ∧ P_M_know_10 n Q f a0 (a1 + (1 : Int32)) (zI (zI σ c2 a1.toNatClampNeg (0 : Int32)) c5 a1.toNatClampNeg (0 : Int32))))
set_option maxHeartbeats 1000000 in
set_option maxRecDepth 10000 in
theorem w_M_know_10 {Q : zS → Prop} (hr : meth.sig.returnType = none) : ∀ (f : Nat) (a0 : Nat) (a1 : Int32) (σ : zS), P_M_know_10 n Q f a0 a1 σ → zG p l e (zrm 4 0 0) s m args below meth c (MQ below (zQc (zA base) D cA base n ex (zqv Q)) args s 0 0 (zA base)) s.heap (zA base) base D cA 4 ex prog_9_method_32_code "ConstantFlowModel" n 0 0 10 [some (.ref a0), some (.int a1), none, none] [] σ := by
  intro f
  induction f with
  | zero => intro a0 a1 σ h; exact False.elim h
  | succ f ih =>
    intro a0 a1 σ h
    refine zw_iload_n d_M_know_10 rfl rfl ?_
    refine zw_sipush (v := 192) d_M_know_11 rfl ?_
    obtain ⟨ht, hf⟩ := h
    refine zw_icmp_ge (tgt := 37) d_M_know_14 rfl (fun hc => ?_) (fun hc => ?_)
    · have h := ht hc; clear ht hf
      refine zw_iconst (v := 0) d_M_know_37 rfl ?_
      refine zw_istore_n d_M_know_38 rfl (Nat.le_of_ble_eq_true rfl) rfl rfl ?_
      obtain ⟨g, h⟩ := h
      exact w_M_know_39 hr g _ _ _ h
    · have h := hf hc; clear ht hf
      refine zw_aload_n d_M_know_17 rfl rfl ?_
      obtain ⟨q1, h⟩ := h
      obtain ⟨c2, q3, h⟩ := h
      refine zw_gfr (ci := 7) (j := 21) d_M_know_18 mw_3_206 q1.1 q1.2 (by decide) (by decide) rfl q3 ?_
      refine zw_iload_n d_M_know_21 rfl rfl ?_
      refine zw_iconst (v := 0) d_M_know_22 rfl ?_
      obtain ⟨q4, h⟩ := h
      refine zw_iast d_M_know_23 q4.1 (zkd_eta q4.2.1) q4.2.2 ?_
      refine zw_aload_n d_M_know_24 rfl rfl ?_
      obtain ⟨c5, q6, h⟩ := h
      refine zw_gfr (ci := 7) (j := 22) d_M_know_25 mw_3_207 q1.1 q1.2 (by decide) (by decide) rfl q6 ?_
      refine zw_iload_n d_M_know_28 rfl rfl ?_
      refine zw_iconst (v := 0) d_M_know_29 rfl ?_
      obtain ⟨q7, h⟩ := h
      refine zw_iast d_M_know_30 q7.1 (zkd_eta q7.2.1) q7.2.2 ?_
      refine zw_iinc (v := (a1 + (1 : Int32))) d_M_know_31 rfl rfl (Nat.le_of_ble_eq_true rfl) rfl rfl ?_
      refine zw_goto (tgt := 10) d_M_know_34 rfl ?_
      exact ih _ _ _ h
def P_M_know (n : Nat) (a0 : Nat) (σ : zS) (Q : zS → Prop) : Prop := zk n a0 7 ∧ (((zi σ a0 19) = 0 → ∃ g, P_M_know_10 n Q g a0 (0 : Int32) σ) ∧ (¬ ((zi σ a0 19) = 0) → Q σ))
set_option maxHeartbeats 1000000 in
set_option maxRecDepth 10000 in
theorem w_M_know {Q : zS → Prop} (hr : meth.sig.returnType = none) {a0 : Nat} {σ : zS} (h : P_M_know n a0 σ Q) : zG p l e (zrm 4 0 0) s m args below meth c (MQ below (zQc (zA base) D cA base n ex (zqv Q)) args s 0 0 (zA base)) s.heap (zA base) base D cA 4 ex prog_9_method_32_code "ConstantFlowModel" n 0 0 0 [some (.ref a0), none, none, none] [] σ := by
  unfold P_M_know at h
  refine zw_aload_n d_M_know_0 rfl rfl ?_
  obtain ⟨q1, h⟩ := h
  refine zw_gfi (ci := 7) (j := 19) d_M_know_1 mw_3_204 q1.1 q1.2 (by decide) (by decide) rfl ?_
  obtain ⟨ht, hf⟩ := h
  refine zw_if_eq (tgt := 8) d_M_know_4 rfl (fun hc => ?_) (fun hc => ?_)
  · have h := ht hc; clear ht hf
    refine zw_iconst (v := 0) d_M_know_8 rfl ?_
    refine zw_istore_n d_M_know_9 rfl (Nat.le_of_ble_eq_true rfl) rfl rfl ?_
    obtain ⟨g, h⟩ := h
    exact w_M_know_10 hr g _ _ _ h
  · have h := hf hc; clear ht hf
    exact zw_vret d_M_know_7 hr h
theorem c_M_know {l : Launch} {D : va_G} {cA : Nat → ClassId} {base n : Nat} {ex : Bool} {Q : zS → Prop} {a0 : Nat} {σ : zS} (h : P_M_know n a0 σ Q) : zM l y_M_know prog_9_method_32_code 4 (none) 4 0 0 (zA base) D cA base n n ex [.ref a0] σ (zqv Q) :=
  zMet (by decide) rfl (Nat.le_of_ble_eq_true rfl) (fun p e s m args below meth c hr hnm => w_M_know hr h)
def P_M_putStatement_141 (n : Nat) (Q : zS → Prop) (a0 : Nat) (σ : zS) : Prop := zk n a0 7 ∧ P_M_put n a0 (59 : Int32) σ (fun σ2 => Q σ2)
set_option maxHeartbeats 1000000 in
set_option maxRecDepth 10000 in
theorem w_M_putStatement_141 {Q : zS → Prop} (hr : meth.sig.returnType = none) {a0 : Nat} {σ : zS} (h : P_M_putStatement_141 n Q a0 σ) : zG p l e (zrm 4 0 0) s m args below meth c (MQ below (zQc (zA base) D cA base n ex (zqv Q)) args s 0 0 (zA base)) s.heap (zA base) base D cA 3 ex prog_9_method_42_code "ConstantFlowModel" n 0 0 141 [some (.ref a0), none, none] [] σ := by
  unfold P_M_putStatement_141 at h
  refine zw_aload_n d_M_putStatement_141 rfl rfl ?_
  refine zw_bipush (v := 59) d_M_putStatement_142 rfl ?_
  obtain ⟨q3, h⟩ := h
  refine zw_callV (ci := 7) (b := a0) (As := [.int (59 : Int32)]) (r := []) d_M_putStatement_144 (c_M_put h) mw_4_199 mw_4_201 mp_4_1 mw_1_8 mw_4_202 (by decide) q3.1 q3.2 hyV_M_put (Nat.le_of_ble_eq_true rfl) (Nat.le_of_ble_eq_true rfl) ⟨(Nat.le_of_ble_eq_true rfl), (Nat.le_of_ble_eq_true rfl)⟩ (Nat.le_of_ble_eq_true rfl) rfl (zk_v (fun σ2 h => ?_))
  exact zw_vret d_M_putStatement_147 hr h
def P_M_putStatement (n : Nat) (a0 : Nat) (a1 : Int32) (σ : zS) (Q : zS → Prop) : Prop := zk n a0 7 ∧ ∃ c2, zr σ a0 8 = some c2 ∧ za n c2 10 (((7 : Int32) * a1) + (0 : Int32)) ∧ P_M_put n a0 ((97 : Int32) + (zi σ c2 (((7 : Int32) * a1) + (0 : Int32)).toNatClampNeg)) σ (fun σ6 => P_M_put n a0 (61 : Int32) σ6 (fun σ8 => P_M_make n a0 a1 σ8 (fun σ10 => ((¬ (zi σ10 a0 25) = (1 : Int32) → ∃ c11, zr σ10 a0 8 = some c11 ∧ za n c11 10 (((7 : Int32) * a1) + (1 : Int32)) ∧ ((¬ (zi σ10 c11 (((7 : Int32) * a1) + (1 : Int32)).toNatClampNeg) = 0 → ∃ c14, zr σ10 a0 8 = some c14 ∧ za n c14 10 (((7 : Int32) * a1) + (3 : Int32)) ∧ ∃ c17, zr σ10 a0 8 = some c17 ∧ za n c17 10 ((((7 : Int32) * a1) + (3 : Int32)) + (1 : Int32)) ∧ P_M_putOperand n a0 (zi σ10 c14 (((7 : Int32) * a1) + (3 : Int32)).toNatClampNeg) (zi σ10 c17 ((((7 : Int32) * a1) + (3 : Int32)) + (1 : Int32)).toNatClampNeg) σ10 (fun σ21 => ∃ c22, zr σ21 a0 8 = some c22 ∧ za n c22 10 (((7 : Int32) * a1) + (1 : Int32)) ∧ ((¬ (zi σ21 c22 (((7 : Int32) * a1) + (1 : Int32)).toNatClampNeg) = (2 : Int32) → P_M_putStatement_141 n Q a0 σ21) ∧ ((zi σ21 c22 (((7 : Int32) * a1) + (1 : Int32)).toNatClampNeg) = (2 : Int32) → ∃ c25, zr σ21 a0 8 = some c25 ∧ za n c25 10 (((7 : Int32) * a1) + (2 : Int32)) ∧ P_M_sign n (zi σ21 c25 (((7 : Int32) * a1) + (2 : Int32)).toNatClampNeg) σ21 (fun x28 σ29 => P_M_put n a0 x28 σ29 (fun σ31 => ∃ c32, zr σ31 a0 8 = some c32 ∧ za n c32 10 (((7 : Int32) * a1) + (5 : Int32)) ∧ ∃ c35, zr σ31 a0 8 = some c35 ∧ za n c35 10 ((((7 : Int32) * a1) + (5 : Int32)) + (1 : Int32)) ∧ P_M_putOperand n a0 (zi σ31 c32 (((7 : Int32) * a1) + (5 : Int32)).toNatClampNeg) (zi σ31 c35 ((((7 : Int32) * a1) + (5 : Int32)) + (1 : Int32)).toNatClampNeg) σ31 (fun σ39 => P_M_putStatement_141 n Q a0 σ39))))))) ∧ ((zi σ10 c11 (((7 : Int32) * a1) + (1 : Int32)).toNatClampNeg) = 0 → P_M_put n a0 (63 : Int32) σ10 (fun σ41 => P_M_putStatement_141 n Q a0 σ41)))) ∧ ((zi σ10 a0 25) = (1 : Int32) → P_M_putNumber n a0 (zi σ10 a0 26) σ10 (fun σ43 => P_M_putStatement_141 n Q a0 σ43))))))
set_option maxHeartbeats 1000000 in
set_option maxRecDepth 10000 in
theorem w_M_putStatement {Q : zS → Prop} (hr : meth.sig.returnType = none) {a0 : Nat} {a1 : Int32} {σ : zS} (h : P_M_putStatement n a0 a1 σ Q) : zG p l e (zrm 4 0 0) s m args below meth c (MQ below (zQc (zA base) D cA base n ex (zqv Q)) args s 0 0 (zA base)) s.heap (zA base) base D cA 3 ex prog_9_method_42_code "ConstantFlowModel" n 0 0 0 [some (.ref a0), some (.int a1), none] [] σ := by
  unfold P_M_putStatement at h
  refine zw_bipush (v := 7) d_M_putStatement_0 rfl ?_
  refine zw_iload_n d_M_putStatement_2 rfl rfl ?_
  refine zw_imul d_M_putStatement_3 ?_
  refine zw_istore_n d_M_putStatement_4 rfl (Nat.le_of_ble_eq_true rfl) rfl rfl ?_
  refine zw_aload_n d_M_putStatement_5 rfl rfl ?_
  refine zw_bipush (v := 97) d_M_putStatement_6 rfl ?_
  refine zw_aload_n d_M_putStatement_8 rfl rfl ?_
  obtain ⟨q1, h⟩ := h
  obtain ⟨c2, q3, h⟩ := h
  refine zw_gfr (ci := 7) (j := 8) d_M_putStatement_9 mw_3_193 q1.1 q1.2 (by decide) (by decide) rfl q3 ?_
  refine zw_iload_n d_M_putStatement_12 rfl rfl ?_
  refine zw_iconst (v := 0) d_M_putStatement_13 rfl ?_
  refine zw_iadd d_M_putStatement_14 ?_
  obtain ⟨q4, h⟩ := h
  refine zw_iald d_M_putStatement_15 q4.1 (zkd_eta q4.2.1) q4.2.2 ?_
  refine zw_iadd d_M_putStatement_16 ?_
  refine zw_callV (ci := 7) (b := a0) (As := [.int ((97 : Int32) + (zi σ c2 (((7 : Int32) * a1) + (0 : Int32)).toNatClampNeg))]) (r := []) d_M_putStatement_17 (c_M_put h) mw_4_199 mw_4_201 mp_4_1 mw_1_8 mw_4_202 (by decide) q1.1 q1.2 hyV_M_put (Nat.le_of_ble_eq_true rfl) (Nat.le_of_ble_eq_true rfl) ⟨(Nat.le_of_ble_eq_true rfl), (Nat.le_of_ble_eq_true rfl)⟩ (Nat.le_of_ble_eq_true rfl) rfl (zk_v (fun σ6 h => ?_))
  refine zw_aload_n d_M_putStatement_20 rfl rfl ?_
  refine zw_bipush (v := 61) d_M_putStatement_21 rfl ?_
  refine zw_callV (ci := 7) (b := a0) (As := [.int (61 : Int32)]) (r := []) d_M_putStatement_23 (c_M_put h) mw_4_199 mw_4_201 mp_4_1 mw_1_8 mw_4_202 (by decide) q1.1 q1.2 hyV_M_put (Nat.le_of_ble_eq_true rfl) (Nat.le_of_ble_eq_true rfl) ⟨(Nat.le_of_ble_eq_true rfl), (Nat.le_of_ble_eq_true rfl)⟩ (Nat.le_of_ble_eq_true rfl) rfl (zk_v (fun σ8 h => ?_))
  refine zw_aload_n d_M_putStatement_26 rfl rfl ?_
  refine zw_iload_n d_M_putStatement_27 rfl rfl ?_
  refine zw_callV (ci := 7) (b := a0) (As := [.int a1]) (r := []) d_M_putStatement_28 (c_M_make h) mw_4_148 mw_4_150 mp_3_9 mw_1_8 mw_4_151 (by decide) q1.1 q1.2 hyV_M_make (Nat.le_of_ble_eq_true rfl) (Nat.le_of_ble_eq_true rfl) ⟨(Nat.le_of_ble_eq_true rfl), (Nat.le_of_ble_eq_true rfl)⟩ (Nat.le_of_ble_eq_true rfl) rfl (zk_v (fun σ10 h => ?_))
  refine zw_aload_n d_M_putStatement_31 rfl rfl ?_
  refine zw_gfi (ci := 7) (j := 25) d_M_putStatement_32 mw_3_210 q1.1 q1.2 (by decide) (by decide) rfl ?_
  refine zw_iconst (v := 1) d_M_putStatement_35 rfl ?_
  obtain ⟨ht, hf⟩ := h
  refine zw_icmp_ne (tgt := 50) d_M_putStatement_36 rfl (fun hc => ?_) (fun hc => ?_)
  · have h := ht hc; clear ht hf
    refine zw_aload_n d_M_putStatement_50 rfl rfl ?_
    obtain ⟨c11, q12, h⟩ := h
    refine zw_gfr (ci := 7) (j := 8) d_M_putStatement_51 mw_3_193 q1.1 q1.2 (by decide) (by decide) rfl q12 ?_
    refine zw_iload_n d_M_putStatement_54 rfl rfl ?_
    refine zw_iconst (v := 1) d_M_putStatement_55 rfl ?_
    refine zw_iadd d_M_putStatement_56 ?_
    obtain ⟨q13, h⟩ := h
    refine zw_iald d_M_putStatement_57 q13.1 (zkd_eta q13.2.1) q13.2.2 ?_
    obtain ⟨ht, hf⟩ := h
    refine zw_if_ne (tgt := 70) d_M_putStatement_58 rfl (fun hc => ?_) (fun hc => ?_)
    · have h := ht hc; clear ht hf
      refine zw_aload_n d_M_putStatement_70 rfl rfl ?_
      refine zw_aload_n d_M_putStatement_71 rfl rfl ?_
      obtain ⟨c14, q15, h⟩ := h
      refine zw_gfr (ci := 7) (j := 8) d_M_putStatement_72 mw_3_193 q1.1 q1.2 (by decide) (by decide) rfl q15 ?_
      refine zw_iload_n d_M_putStatement_75 rfl rfl ?_
      refine zw_iconst (v := 3) d_M_putStatement_76 rfl ?_
      refine zw_iadd d_M_putStatement_77 ?_
      obtain ⟨q16, h⟩ := h
      refine zw_iald d_M_putStatement_78 q16.1 (zkd_eta q16.2.1) q16.2.2 ?_
      refine zw_aload_n d_M_putStatement_79 rfl rfl ?_
      obtain ⟨c17, q18, h⟩ := h
      refine zw_gfr (ci := 7) (j := 8) d_M_putStatement_80 mw_3_193 q1.1 q1.2 (by decide) (by decide) rfl q18 ?_
      refine zw_iload_n d_M_putStatement_83 rfl rfl ?_
      refine zw_iconst (v := 3) d_M_putStatement_84 rfl ?_
      refine zw_iadd d_M_putStatement_85 ?_
      refine zw_iconst (v := 1) d_M_putStatement_86 rfl ?_
      refine zw_iadd d_M_putStatement_87 ?_
      obtain ⟨q19, h⟩ := h
      refine zw_iald d_M_putStatement_88 q19.1 (zkd_eta q19.2.1) q19.2.2 ?_
      refine zw_callV (ci := 7) (b := a0) (As := [.int (zi σ10 c14 (((7 : Int32) * a1) + (3 : Int32)).toNatClampNeg), .int (zi σ10 c17 ((((7 : Int32) * a1) + (3 : Int32)) + (1 : Int32)).toNatClampNeg)]) (r := []) d_M_putStatement_89 (c_M_putOperand h) mw_4_207 mw_4_209 mp_4_3 mw_1_8 mw_4_210 (by decide) q1.1 q1.2 hyV_M_putOperand (Nat.le_of_ble_eq_true rfl) (Nat.le_of_ble_eq_true rfl) ⟨(Nat.le_of_ble_eq_true rfl), (Nat.le_of_ble_eq_true rfl)⟩ (Nat.le_of_ble_eq_true rfl) rfl (zk_v (fun σ21 h => ?_))
      refine zw_aload_n d_M_putStatement_92 rfl rfl ?_
      obtain ⟨c22, q23, h⟩ := h
      refine zw_gfr (ci := 7) (j := 8) d_M_putStatement_93 mw_3_193 q1.1 q1.2 (by decide) (by decide) rfl q23 ?_
      refine zw_iload_n d_M_putStatement_96 rfl rfl ?_
      refine zw_iconst (v := 1) d_M_putStatement_97 rfl ?_
      refine zw_iadd d_M_putStatement_98 ?_
      obtain ⟨q24, h⟩ := h
      refine zw_iald d_M_putStatement_99 q24.1 (zkd_eta q24.2.1) q24.2.2 ?_
      refine zw_iconst (v := 2) d_M_putStatement_100 rfl ?_
      obtain ⟨ht, hf⟩ := h
      refine zw_icmp_ne (tgt := 141) d_M_putStatement_101 rfl (fun hc => ?_) (fun hc => ?_)
      · have h := ht hc; clear ht hf
        refine zw_le (ls' := [some (.ref a0), none, none]) (And.intro rfl True.intro) ?_
        exact w_M_putStatement_141 hr h
      · have h := hf hc; clear ht hf
        refine zw_aload_n d_M_putStatement_104 rfl rfl ?_
        refine zw_aload_n d_M_putStatement_105 rfl rfl ?_
        obtain ⟨c25, q26, h⟩ := h
        refine zw_gfr (ci := 7) (j := 8) d_M_putStatement_106 mw_3_193 q1.1 q1.2 (by decide) (by decide) rfl q26 ?_
        refine zw_iload_n d_M_putStatement_109 rfl rfl ?_
        refine zw_iconst (v := 2) d_M_putStatement_110 rfl ?_
        refine zw_iadd d_M_putStatement_111 ?_
        obtain ⟨q27, h⟩ := h
        refine zw_iald d_M_putStatement_112 q27.1 (zkd_eta q27.2.1) q27.2.2 ?_
        refine zw_callS (As := [.int (zi σ21 c25 (((7 : Int32) * a1) + (2 : Int32)).toNatClampNeg)]) (r := [.ref a0]) d_M_putStatement_113 (c_M_sign h) mw_4_211 mw_4_212 mw_1_8 mw_4_213 hyS_M_sign (Nat.le_of_ble_eq_true rfl) (Nat.le_of_ble_eq_true rfl) ⟨(Nat.le_of_ble_eq_true rfl), (Nat.le_of_ble_eq_true rfl)⟩ (Nat.le_of_ble_eq_true rfl) rfl (zk_i (fun x28 σ29 h => ?_))
        refine zw_callV (ci := 7) (b := a0) (As := [.int x28]) (r := []) d_M_putStatement_116 (c_M_put h) mw_4_199 mw_4_201 mp_4_1 mw_1_8 mw_4_202 (by decide) q1.1 q1.2 hyV_M_put (Nat.le_of_ble_eq_true rfl) (Nat.le_of_ble_eq_true rfl) ⟨(Nat.le_of_ble_eq_true rfl), (Nat.le_of_ble_eq_true rfl)⟩ (Nat.le_of_ble_eq_true rfl) rfl (zk_v (fun σ31 h => ?_))
        refine zw_aload_n d_M_putStatement_119 rfl rfl ?_
        refine zw_aload_n d_M_putStatement_120 rfl rfl ?_
        obtain ⟨c32, q33, h⟩ := h
        refine zw_gfr (ci := 7) (j := 8) d_M_putStatement_121 mw_3_193 q1.1 q1.2 (by decide) (by decide) rfl q33 ?_
        refine zw_iload_n d_M_putStatement_124 rfl rfl ?_
        refine zw_iconst (v := 5) d_M_putStatement_125 rfl ?_
        refine zw_iadd d_M_putStatement_126 ?_
        obtain ⟨q34, h⟩ := h
        refine zw_iald d_M_putStatement_127 q34.1 (zkd_eta q34.2.1) q34.2.2 ?_
        refine zw_aload_n d_M_putStatement_128 rfl rfl ?_
        obtain ⟨c35, q36, h⟩ := h
        refine zw_gfr (ci := 7) (j := 8) d_M_putStatement_129 mw_3_193 q1.1 q1.2 (by decide) (by decide) rfl q36 ?_
        refine zw_iload_n d_M_putStatement_132 rfl rfl ?_
        refine zw_iconst (v := 5) d_M_putStatement_133 rfl ?_
        refine zw_iadd d_M_putStatement_134 ?_
        refine zw_iconst (v := 1) d_M_putStatement_135 rfl ?_
        refine zw_iadd d_M_putStatement_136 ?_
        obtain ⟨q37, h⟩ := h
        refine zw_iald d_M_putStatement_137 q37.1 (zkd_eta q37.2.1) q37.2.2 ?_
        refine zw_callV (ci := 7) (b := a0) (As := [.int (zi σ31 c32 (((7 : Int32) * a1) + (5 : Int32)).toNatClampNeg), .int (zi σ31 c35 ((((7 : Int32) * a1) + (5 : Int32)) + (1 : Int32)).toNatClampNeg)]) (r := []) d_M_putStatement_138 (c_M_putOperand h) mw_4_207 mw_4_209 mp_4_3 mw_1_8 mw_4_210 (by decide) q1.1 q1.2 hyV_M_putOperand (Nat.le_of_ble_eq_true rfl) (Nat.le_of_ble_eq_true rfl) ⟨(Nat.le_of_ble_eq_true rfl), (Nat.le_of_ble_eq_true rfl)⟩ (Nat.le_of_ble_eq_true rfl) rfl (zk_v (fun σ39 h => ?_))
        refine zw_le (ls' := [some (.ref a0), none, none]) (And.intro rfl True.intro) ?_
        exact w_M_putStatement_141 hr h
    · have h := hf hc; clear ht hf
      refine zw_aload_n d_M_putStatement_61 rfl rfl ?_
      refine zw_bipush (v := 63) d_M_putStatement_62 rfl ?_
      refine zw_callV (ci := 7) (b := a0) (As := [.int (63 : Int32)]) (r := []) d_M_putStatement_64 (c_M_put h) mw_4_199 mw_4_201 mp_4_1 mw_1_8 mw_4_202 (by decide) q1.1 q1.2 hyV_M_put (Nat.le_of_ble_eq_true rfl) (Nat.le_of_ble_eq_true rfl) ⟨(Nat.le_of_ble_eq_true rfl), (Nat.le_of_ble_eq_true rfl)⟩ (Nat.le_of_ble_eq_true rfl) rfl (zk_v (fun σ41 h => ?_))
      refine zw_goto (tgt := 141) d_M_putStatement_67 rfl ?_
      refine zw_le (ls' := [some (.ref a0), none, none]) (And.intro rfl True.intro) ?_
      exact w_M_putStatement_141 hr h
  · have h := hf hc; clear ht hf
    refine zw_aload_n d_M_putStatement_39 rfl rfl ?_
    refine zw_aload_n d_M_putStatement_40 rfl rfl ?_
    refine zw_gfi (ci := 7) (j := 26) d_M_putStatement_41 mw_3_211 q1.1 q1.2 (by decide) (by decide) rfl ?_
    refine zw_callV (ci := 7) (b := a0) (As := [.int (zi σ10 a0 26)]) (r := []) d_M_putStatement_44 (c_M_putNumber h) mw_4_203 mw_4_205 mp_4_2 mw_1_8 mw_4_206 (by decide) q1.1 q1.2 hyV_M_putNumber (Nat.le_of_ble_eq_true rfl) (Nat.le_of_ble_eq_true rfl) ⟨(Nat.le_of_ble_eq_true rfl), (Nat.le_of_ble_eq_true rfl)⟩ (Nat.le_of_ble_eq_true rfl) rfl (zk_v (fun σ43 h => ?_))
    refine zw_goto (tgt := 141) d_M_putStatement_47 rfl ?_
    refine zw_le (ls' := [some (.ref a0), none, none]) (And.intro rfl True.intro) ?_
    exact w_M_putStatement_141 hr h
theorem c_M_putStatement {l : Launch} {D : va_G} {cA : Nat → ClassId} {base n : Nat} {ex : Bool} {Q : zS → Prop} {a0 : Nat} {a1 : Int32} {σ : zS} (h : P_M_putStatement n a0 a1 σ Q) : zM l y_M_putStatement prog_9_method_42_code 3 (none) 4 0 0 (zA base) D cA base n n ex [.ref a0, .int a1] σ (zqv Q) :=
  zMet (by decide) rfl (Nat.le_of_ble_eq_true rfl) (fun p e s m args below meth c hr hnm => w_M_putStatement hr h)
def P_F_rewriteEnd_103 (n : Nat) (Q : zS → Prop) (σ : zS) : Prop := Q σ
set_option maxHeartbeats 1000000 in
set_option maxRecDepth 10000 in
theorem w_F_rewriteEnd_103 {Q : zS → Prop} (hr : meth.sig.returnType = none) {σ : zS} (h : P_F_rewriteEnd_103 n Q σ) : zG p l e (zrm 5 0 0) s m args below meth c (MQ below (zQc (zA base) D cA base n ex (zqv Q)) args s 0 0 (zA base)) s.heap (zA base) base D cA 4 ex prog_2_method_15_code "ConstantFlow$Facts" n 0 0 103 [none, none, none, none] [] σ := by
  unfold P_F_rewriteEnd_103 at h
  exact zw_vret d_F_rewriteEnd_103 hr h
def P_F_rewriteEnd (n : Nat) (a0 : Nat) (a1 : Nat) (a2 : Int32) (a3 : Nat) (σ : zS) (Q : zS → Prop) : Prop := zk n a1 6 ∧ ∃ c2, zr σ a1 7 = some c2 ∧ za n c2 10 a2 ∧ ((¬ (zi σ c2 a2.toNatClampNeg) = 0 → zk n a0 3 ∧ P_F_forks n a0 a1 a2 σ (fun x5 σ6 => ((x5 = 0 → zk n a3 1 ∧ P_T_append n a3 (62 : Int32) σ6 (fun σ9 => ∃ c11, zr σ9 a0 6 = some c11 ∧ P_F_onlyGoal n a0 a1 a2 σ9 (fun x13 σ14 => za n c11 10 x13 ∧ P_T_appendNumber n a3 (zi σ14 c11 x13.toNatClampNeg) σ14 (fun σ17 => P_F_rewriteEnd_103 n Q σ17)))) ∧ (¬ (x5 = 0) → P_G_ofEnd n a2 σ6 (fun x18 σ19 => P_F_rewriteOperand n a0 a1 x18 a3 σ19 (fun σ21 => zk n a3 1 ∧ P_T_append n a3 (63 : Int32) σ21 (fun σ23 => ∃ c25, zr σ23 a0 6 = some c25 ∧ P_G_goal n a1 a2 (0 : Int32) σ23 (fun x27 σ28 => za n c25 10 x27 ∧ P_T_appendNumber n a3 (zi σ28 c25 x27.toNatClampNeg) σ28 (fun σ31 => P_T_append n a3 (58 : Int32) σ31 (fun σ33 => ∃ c34, zr σ33 a0 6 = some c34 ∧ P_G_goal n a1 a2 (1 : Int32) σ33 (fun x36 σ37 => za n c34 10 x36 ∧ P_T_appendNumber n a3 (zi σ37 c34 x36.toNatClampNeg) σ37 (fun σ40 => P_F_rewriteEnd_103 n Q σ40)))))))))))) ∧ ((zi σ c2 a2.toNatClampNeg) = 0 → zk n a3 1 ∧ P_T_append n a3 (46 : Int32) σ (fun σ42 => P_F_rewriteEnd_103 n Q σ42)))
set_option maxHeartbeats 1000000 in
set_option maxRecDepth 10000 in
theorem w_F_rewriteEnd {Q : zS → Prop} (hr : meth.sig.returnType = none) {a0 : Nat} {a1 : Nat} {a2 : Int32} {a3 : Nat} {σ : zS} (h : P_F_rewriteEnd n a0 a1 a2 a3 σ Q) : zG p l e (zrm 5 0 0) s m args below meth c (MQ below (zQc (zA base) D cA base n ex (zqv Q)) args s 0 0 (zA base)) s.heap (zA base) base D cA 4 ex prog_2_method_15_code "ConstantFlow$Facts" n 0 0 0 [some (.ref a0), some (.ref a1), some (.int a2), some (.ref a3)] [] σ := by
  unfold P_F_rewriteEnd at h
  refine zw_aload_n d_F_rewriteEnd_0 rfl rfl ?_
  obtain ⟨q1, h⟩ := h
  obtain ⟨c2, q3, h⟩ := h
  refine zw_gfrN (ci := 6) (j := 7) d_F_rewriteEnd_1 mw_1_180 q1.1 q1.2 (by decide) (by decide) rfl q3 ?_
  refine zw_iload_n d_F_rewriteEnd_4 rfl rfl ?_
  obtain ⟨q4, h⟩ := h
  refine zw_iald d_F_rewriteEnd_5 q4.1 (zkd_eta q4.2.1) q4.2.2 ?_
  obtain ⟨ht, hf⟩ := h
  refine zw_if_ne (tgt := 18) d_F_rewriteEnd_6 rfl (fun hc => ?_) (fun hc => ?_)
  · have h := ht hc; clear ht hf
    refine zw_aload_n d_F_rewriteEnd_18 rfl rfl ?_
    refine zw_aload_n d_F_rewriteEnd_19 rfl rfl ?_
    refine zw_iload_n d_F_rewriteEnd_20 rfl rfl ?_
    obtain ⟨q7, h⟩ := h
    refine zw_callV (ci := 3) (b := a0) (As := [.ref a1, .int a2]) (r := []) d_F_rewriteEnd_21 (c_F_forks h) mw_2_16 mw_2_18 mp_1_3 mw_1_4 mw_2_19 (by decide) q7.1 q7.2 hyV_F_forks (Nat.le_of_ble_eq_true rfl) (Nat.le_of_ble_eq_true rfl) ⟨(Nat.le_of_ble_eq_true rfl), (Nat.le_of_ble_eq_true rfl)⟩ (Nat.le_of_ble_eq_true rfl) rfl (zk_i (fun x5 σ6 h => ?_))
    obtain ⟨ht, hf⟩ := h
    refine zw_if_eq (tgt := 82) d_F_rewriteEnd_24 rfl (fun hc => ?_) (fun hc => ?_)
    · have h := ht hc; clear ht hf
      refine zw_aload_n d_F_rewriteEnd_82 rfl rfl ?_
      refine zw_bipush (v := 62) d_F_rewriteEnd_83 rfl ?_
      obtain ⟨q10, h⟩ := h
      refine zw_callV (ci := 1) (b := a3) (As := [.int (62 : Int32)]) (r := []) d_F_rewriteEnd_85 (c_T_append h) mw_2_180 mw_2_181 mw_2_182 mw_1_2 mw_2_183 (by decide) q10.1 q10.2 hyV_T_append (Nat.le_of_ble_eq_true rfl) (Nat.le_of_ble_eq_true rfl) ⟨(Nat.le_of_ble_eq_true rfl), (Nat.le_of_ble_eq_true rfl)⟩ (Nat.le_of_ble_eq_true rfl) rfl (zk_v (fun σ9 h => ?_))
      refine zw_aload_n d_F_rewriteEnd_88 rfl rfl ?_
      refine zw_aload_n d_F_rewriteEnd_89 rfl rfl ?_
      obtain ⟨c11, q12, h⟩ := h
      refine zw_gfr (ci := 3) (j := 6) d_F_rewriteEnd_90 mw_1_102 q7.1 q7.2 (by decide) (by decide) rfl q12 ?_
      refine zw_aload_n d_F_rewriteEnd_93 rfl rfl ?_
      refine zw_aload_n d_F_rewriteEnd_94 rfl rfl ?_
      refine zw_iload_n d_F_rewriteEnd_95 rfl rfl ?_
      refine zw_callV (ci := 3) (b := a0) (As := [.ref a1, .int a2]) (r := [.ref c11, .ref a3]) d_F_rewriteEnd_96 (c_F_onlyGoal h) mw_2_31 mw_2_33 mp_1_4 mw_1_4 mw_2_34 (by decide) q7.1 q7.2 hyV_F_onlyGoal (Nat.le_of_ble_eq_true rfl) (Nat.le_of_ble_eq_true rfl) ⟨(Nat.le_of_ble_eq_true rfl), (Nat.le_of_ble_eq_true rfl)⟩ (Nat.le_of_ble_eq_true rfl) rfl (zk_i (fun x13 σ14 h => ?_))
      obtain ⟨q15, h⟩ := h
      refine zw_iald d_F_rewriteEnd_99 q15.1 (zkd_eta q15.2.1) q15.2.2 ?_
      refine zw_callV (ci := 1) (b := a3) (As := [.int (zi σ14 c11 x13.toNatClampNeg)]) (r := []) d_F_rewriteEnd_100 (c_T_appendNumber h) mw_2_189 mw_2_190 mw_2_191 mw_1_2 mw_2_192 (by decide) q10.1 q10.2 hyV_T_appendNumber (Nat.le_of_ble_eq_true rfl) (Nat.le_of_ble_eq_true rfl) ⟨(Nat.le_of_ble_eq_true rfl), (Nat.le_of_ble_eq_true rfl)⟩ (Nat.le_of_ble_eq_true rfl) rfl (zk_v (fun σ17 h => ?_))
      refine zw_le (ls' := [none, none, none, none]) (True.intro) ?_
      exact w_F_rewriteEnd_103 hr h
    · have h := hf hc; clear ht hf
      refine zw_aload_n d_F_rewriteEnd_27 rfl rfl ?_
      refine zw_aload_n d_F_rewriteEnd_28 rfl rfl ?_
      refine zw_iload_n d_F_rewriteEnd_29 rfl rfl ?_
      refine zw_callS (As := [.int a2]) (r := [.ref a1, .ref a0]) d_F_rewriteEnd_30 (c_G_ofEnd h) mw_2_20 mw_2_21 mw_1_7 mw_2_22 hyS_G_ofEnd (Nat.le_of_ble_eq_true rfl) (Nat.le_of_ble_eq_true rfl) ⟨(Nat.le_of_ble_eq_true rfl), (Nat.le_of_ble_eq_true rfl)⟩ (Nat.le_of_ble_eq_true rfl) rfl (zk_i (fun x18 σ19 h => ?_))
      refine zw_aload_n d_F_rewriteEnd_33 rfl rfl ?_
      refine zw_callV (ci := 3) (b := a0) (As := [.ref a1, .int x18, .ref a3]) (r := []) d_F_rewriteEnd_34 (c_F_rewriteOperand h) mw_2_201 mw_2_203 mp_2_3 mw_1_4 mw_2_204 (by decide) q7.1 q7.2 hyV_F_rewriteOperand (Nat.le_of_ble_eq_true rfl) (Nat.le_of_ble_eq_true rfl) ⟨(Nat.le_of_ble_eq_true rfl), (Nat.le_of_ble_eq_true rfl)⟩ (Nat.le_of_ble_eq_true rfl) rfl (zk_v (fun σ21 h => ?_))
      refine zw_aload_n d_F_rewriteEnd_37 rfl rfl ?_
      refine zw_bipush (v := 63) d_F_rewriteEnd_38 rfl ?_
      obtain ⟨q24, h⟩ := h
      refine zw_callV (ci := 1) (b := a3) (As := [.int (63 : Int32)]) (r := []) d_F_rewriteEnd_40 (c_T_append h) mw_2_180 mw_2_181 mw_2_182 mw_1_2 mw_2_183 (by decide) q24.1 q24.2 hyV_T_append (Nat.le_of_ble_eq_true rfl) (Nat.le_of_ble_eq_true rfl) ⟨(Nat.le_of_ble_eq_true rfl), (Nat.le_of_ble_eq_true rfl)⟩ (Nat.le_of_ble_eq_true rfl) rfl (zk_v (fun σ23 h => ?_))
      refine zw_aload_n d_F_rewriteEnd_43 rfl rfl ?_
      refine zw_aload_n d_F_rewriteEnd_44 rfl rfl ?_
      obtain ⟨c25, q26, h⟩ := h
      refine zw_gfr (ci := 3) (j := 6) d_F_rewriteEnd_45 mw_1_102 q7.1 q7.2 (by decide) (by decide) rfl q26 ?_
      refine zw_aload_n d_F_rewriteEnd_48 rfl rfl ?_
      refine zw_iload_n d_F_rewriteEnd_49 rfl rfl ?_
      refine zw_iconst (v := 0) d_F_rewriteEnd_50 rfl ?_
      refine zw_callV (ci := 6) (b := a1) (As := [.int a2, .int (0 : Int32)]) (r := [.ref c25, .ref a3]) d_F_rewriteEnd_51 (c_G_goal h) mw_2_24 mw_2_25 mw_2_26 mw_1_7 mw_2_27 (by decide) q1.1 q1.2 hyV_G_goal (Nat.le_of_ble_eq_true rfl) (Nat.le_of_ble_eq_true rfl) ⟨(Nat.le_of_ble_eq_true rfl), (Nat.le_of_ble_eq_true rfl)⟩ (Nat.le_of_ble_eq_true rfl) rfl (zk_i (fun x27 σ28 h => ?_))
      obtain ⟨q29, h⟩ := h
      refine zw_iald d_F_rewriteEnd_54 q29.1 (zkd_eta q29.2.1) q29.2.2 ?_
      refine zw_callV (ci := 1) (b := a3) (As := [.int (zi σ28 c25 x27.toNatClampNeg)]) (r := []) d_F_rewriteEnd_55 (c_T_appendNumber h) mw_2_189 mw_2_190 mw_2_191 mw_1_2 mw_2_192 (by decide) q24.1 q24.2 hyV_T_appendNumber (Nat.le_of_ble_eq_true rfl) (Nat.le_of_ble_eq_true rfl) ⟨(Nat.le_of_ble_eq_true rfl), (Nat.le_of_ble_eq_true rfl)⟩ (Nat.le_of_ble_eq_true rfl) rfl (zk_v (fun σ31 h => ?_))
      refine zw_aload_n d_F_rewriteEnd_58 rfl rfl ?_
      refine zw_bipush (v := 58) d_F_rewriteEnd_59 rfl ?_
      refine zw_callV (ci := 1) (b := a3) (As := [.int (58 : Int32)]) (r := []) d_F_rewriteEnd_61 (c_T_append h) mw_2_180 mw_2_181 mw_2_182 mw_1_2 mw_2_183 (by decide) q24.1 q24.2 hyV_T_append (Nat.le_of_ble_eq_true rfl) (Nat.le_of_ble_eq_true rfl) ⟨(Nat.le_of_ble_eq_true rfl), (Nat.le_of_ble_eq_true rfl)⟩ (Nat.le_of_ble_eq_true rfl) rfl (zk_v (fun σ33 h => ?_))
      refine zw_aload_n d_F_rewriteEnd_64 rfl rfl ?_
      refine zw_aload_n d_F_rewriteEnd_65 rfl rfl ?_
      obtain ⟨c34, q35, h⟩ := h
      refine zw_gfr (ci := 3) (j := 6) d_F_rewriteEnd_66 mw_1_102 q7.1 q7.2 (by decide) (by decide) rfl q35 ?_
      refine zw_aload_n d_F_rewriteEnd_69 rfl rfl ?_
      refine zw_iload_n d_F_rewriteEnd_70 rfl rfl ?_
      refine zw_iconst (v := 1) d_F_rewriteEnd_71 rfl ?_
      refine zw_callV (ci := 6) (b := a1) (As := [.int a2, .int (1 : Int32)]) (r := [.ref c34, .ref a3]) d_F_rewriteEnd_72 (c_G_goal h) mw_2_24 mw_2_25 mw_2_26 mw_1_7 mw_2_27 (by decide) q1.1 q1.2 hyV_G_goal (Nat.le_of_ble_eq_true rfl) (Nat.le_of_ble_eq_true rfl) ⟨(Nat.le_of_ble_eq_true rfl), (Nat.le_of_ble_eq_true rfl)⟩ (Nat.le_of_ble_eq_true rfl) rfl (zk_i (fun x36 σ37 h => ?_))
      obtain ⟨q38, h⟩ := h
      refine zw_iald d_F_rewriteEnd_75 q38.1 (zkd_eta q38.2.1) q38.2.2 ?_
      refine zw_callV (ci := 1) (b := a3) (As := [.int (zi σ37 c34 x36.toNatClampNeg)]) (r := []) d_F_rewriteEnd_76 (c_T_appendNumber h) mw_2_189 mw_2_190 mw_2_191 mw_1_2 mw_2_192 (by decide) q24.1 q24.2 hyV_T_appendNumber (Nat.le_of_ble_eq_true rfl) (Nat.le_of_ble_eq_true rfl) ⟨(Nat.le_of_ble_eq_true rfl), (Nat.le_of_ble_eq_true rfl)⟩ (Nat.le_of_ble_eq_true rfl) rfl (zk_v (fun σ40 h => ?_))
      refine zw_goto (tgt := 103) d_F_rewriteEnd_79 rfl ?_
      refine zw_le (ls' := [none, none, none, none]) (True.intro) ?_
      exact w_F_rewriteEnd_103 hr h
  · have h := hf hc; clear ht hf
    refine zw_aload_n d_F_rewriteEnd_9 rfl rfl ?_
    refine zw_bipush (v := 46) d_F_rewriteEnd_10 rfl ?_
    obtain ⟨q43, h⟩ := h
    refine zw_callV (ci := 1) (b := a3) (As := [.int (46 : Int32)]) (r := []) d_F_rewriteEnd_12 (c_T_append h) mw_2_180 mw_2_181 mw_2_182 mw_1_2 mw_2_183 (by decide) q43.1 q43.2 hyV_T_append (Nat.le_of_ble_eq_true rfl) (Nat.le_of_ble_eq_true rfl) ⟨(Nat.le_of_ble_eq_true rfl), (Nat.le_of_ble_eq_true rfl)⟩ (Nat.le_of_ble_eq_true rfl) rfl (zk_v (fun σ42 h => ?_))
    refine zw_goto (tgt := 103) d_F_rewriteEnd_15 rfl ?_
    refine zw_le (ls' := [none, none, none, none]) (True.intro) ?_
    exact w_F_rewriteEnd_103 hr h
theorem c_F_rewriteEnd {l : Launch} {D : va_G} {cA : Nat → ClassId} {base n : Nat} {ex : Bool} {Q : zS → Prop} {a0 : Nat} {a1 : Nat} {a2 : Int32} {a3 : Nat} {σ : zS} (h : P_F_rewriteEnd n a0 a1 a2 a3 σ Q) : zM l y_F_rewriteEnd prog_2_method_15_code 4 (none) 5 0 0 (zA base) D cA base n n ex [.ref a0, .ref a1, .int a2, .ref a3] σ (zqv Q) :=
  zMet (by decide) rfl (Nat.le_of_ble_eq_true rfl) (fun p e s m args below meth c hr hnm => w_F_rewriteEnd hr h)
def P_F_flowThrough_106 (n : Nat) (Q : zS → Prop) (σ : zS) : Prop := Q σ
set_option maxHeartbeats 1000000 in
set_option maxRecDepth 10000 in
theorem w_F_flowThrough_106 {Q : zS → Prop} (hr : meth.sig.returnType = none) {σ : zS} (h : P_F_flowThrough_106 n Q σ) : zG p l e (zrm 5 0 0) s m args below meth c (MQ below (zQc (zA base) D cA base n ex (zqv Q)) args s 0 0 (zA base)) s.heap (zA base) base D cA 5 ex prog_2_method_5_code "ConstantFlow$Facts" n 0 0 106 [none, none, none, none, none] [] σ := by
  unfold P_F_flowThrough_106 at h
  exact zw_vret d_F_flowThrough_106 hr h
def P_F_flowThrough_25 (n : Nat) (Q : zS → Prop) : Nat → Nat → Nat → Int32 → Nat → Int32 → zS → Prop
  | 0, _, _, _, _, _, _ => False
  | f + 1, a0, a1, a2, a3, a4, σ => zk n a1 6 ∧ ∃ c2, zr σ a1 2 = some c2 ∧ za n c2 10 (a2 + (1 : Int32)) ∧ (((zi σ c2 (a2 + (1 : Int32)).toNatClampNeg) ≤ a4 → ∃ c5, zr σ a1 7 = some c5 ∧ za n c5 10 a2 ∧ ((¬ (zi σ c5 a2.toNatClampNeg) = 0 → zk n a0 3 ∧ P_F_forks n a0 a1 a2 σ (fun x8 σ9 => ((x8 = 0 → P_F_onlyGoal n a0 a1 a2 σ9 (fun x11 σ12 => P_F_comeTo n a0 x11 a3 σ12 (fun σ14 => P_F_flowThrough_106 n Q σ14))) ∧ (¬ (x8 = 0) → P_G_goal n a1 a2 (0 : Int32) σ9 (fun x15 σ16 => P_F_comeTo n a0 x15 a3 σ16 (fun σ18 => P_G_goal n a1 a2 (1 : Int32) σ18 (fun x19 σ20 => P_F_comeTo n a0 x19 a3 σ20 (fun σ22 => P_F_flowThrough_106 n Q σ22)))))))) ∧ ((zi σ c5 a2.toNatClampNeg) = 0 → Q σ))) ∧ (¬ ((zi σ c2 (a2 + (1 : Int32)).toNatClampNeg) ≤ a4) → zk n a3 4 ∧ P_V_assign n a3 a1 a4 σ (fun σ24 => P_F_flowThrough_25 n Q f a0 a1 a2 a3 (a4 + (1 : Int32)) σ24)))
set_option maxHeartbeats 1000000 in
set_option maxRecDepth 10000 in
theorem w_F_flowThrough_25 {Q : zS → Prop} (hr : meth.sig.returnType = none) : ∀ (f : Nat) (a0 : Nat) (a1 : Nat) (a2 : Int32) (a3 : Nat) (a4 : Int32) (σ : zS), P_F_flowThrough_25 n Q f a0 a1 a2 a3 a4 σ → zG p l e (zrm 5 0 0) s m args below meth c (MQ below (zQc (zA base) D cA base n ex (zqv Q)) args s 0 0 (zA base)) s.heap (zA base) base D cA 5 ex prog_2_method_5_code "ConstantFlow$Facts" n 0 0 25 [some (.ref a0), some (.ref a1), some (.int a2), some (.ref a3), some (.int a4)] [] σ := by
  intro f
  induction f with
  | zero => intro a0 a1 a2 a3 a4 σ h; exact False.elim h
  | succ f ih =>
    intro a0 a1 a2 a3 a4 σ h
    refine zw_iload d_F_flowThrough_25 rfl ?_
    refine zw_aload_n d_F_flowThrough_27 rfl rfl ?_
    obtain ⟨q1, h⟩ := h
    obtain ⟨c2, q3, h⟩ := h
    refine zw_gfrN (ci := 6) (j := 2) d_F_flowThrough_28 mw_1_160 q1.1 q1.2 (by decide) (by decide) rfl q3 ?_
    refine zw_iload_n d_F_flowThrough_31 rfl rfl ?_
    refine zw_iconst (v := 1) d_F_flowThrough_32 rfl ?_
    refine zw_iadd d_F_flowThrough_33 ?_
    obtain ⟨q4, h⟩ := h
    refine zw_iald d_F_flowThrough_34 q4.1 (zkd_eta q4.2.1) q4.2.2 ?_
    obtain ⟨ht, hf⟩ := h
    refine zw_icmp_ge (tgt := 51) d_F_flowThrough_35 rfl (fun hc => ?_) (fun hc => ?_)
    · have h := ht hc; clear ht hf
      refine zw_aload_n d_F_flowThrough_51 rfl rfl ?_
      obtain ⟨c5, q6, h⟩ := h
      refine zw_gfrN (ci := 6) (j := 7) d_F_flowThrough_52 mw_1_180 q1.1 q1.2 (by decide) (by decide) rfl q6 ?_
      refine zw_iload_n d_F_flowThrough_55 rfl rfl ?_
      obtain ⟨q7, h⟩ := h
      refine zw_iald d_F_flowThrough_56 q7.1 (zkd_eta q7.2.1) q7.2.2 ?_
      obtain ⟨ht, hf⟩ := h
      refine zw_if_ne (tgt := 61) d_F_flowThrough_57 rfl (fun hc => ?_) (fun hc => ?_)
      · have h := ht hc; clear ht hf
        refine zw_aload_n d_F_flowThrough_61 rfl rfl ?_
        refine zw_aload_n d_F_flowThrough_62 rfl rfl ?_
        refine zw_iload_n d_F_flowThrough_63 rfl rfl ?_
        obtain ⟨q10, h⟩ := h
        refine zw_callV (ci := 3) (b := a0) (As := [.ref a1, .int a2]) (r := []) d_F_flowThrough_64 (c_F_forks h) mw_2_16 mw_2_18 mp_1_3 mw_1_4 mw_2_19 (by decide) q10.1 q10.2 hyV_F_forks (Nat.le_of_ble_eq_true rfl) (Nat.le_of_ble_eq_true rfl) ⟨(Nat.le_of_ble_eq_true rfl), (Nat.le_of_ble_eq_true rfl)⟩ (Nat.le_of_ble_eq_true rfl) rfl (zk_i (fun x8 σ9 h => ?_))
        obtain ⟨ht, hf⟩ := h
        refine zw_if_eq (tgt := 95) d_F_flowThrough_67 rfl (fun hc => ?_) (fun hc => ?_)
        · have h := ht hc; clear ht hf
          refine zw_aload_n d_F_flowThrough_95 rfl rfl ?_
          refine zw_aload_n d_F_flowThrough_96 rfl rfl ?_
          refine zw_aload_n d_F_flowThrough_97 rfl rfl ?_
          refine zw_iload_n d_F_flowThrough_98 rfl rfl ?_
          refine zw_callV (ci := 3) (b := a0) (As := [.ref a1, .int a2]) (r := [.ref a0]) d_F_flowThrough_99 (c_F_onlyGoal h) mw_2_31 mw_2_33 mp_1_4 mw_1_4 mw_2_34 (by decide) q10.1 q10.2 hyV_F_onlyGoal (Nat.le_of_ble_eq_true rfl) (Nat.le_of_ble_eq_true rfl) ⟨(Nat.le_of_ble_eq_true rfl), (Nat.le_of_ble_eq_true rfl)⟩ (Nat.le_of_ble_eq_true rfl) rfl (zk_i (fun x11 σ12 h => ?_))
          refine zw_aload_n d_F_flowThrough_102 rfl rfl ?_
          refine zw_callV (ci := 3) (b := a0) (As := [.int x11, .ref a3]) (r := []) d_F_flowThrough_103 (c_F_comeTo h) mw_1_207 mw_1_209 mp_1_0 mw_1_4 mw_1_210 (by decide) q10.1 q10.2 hyV_F_comeTo (Nat.le_of_ble_eq_true rfl) (Nat.le_of_ble_eq_true rfl) ⟨(Nat.le_of_ble_eq_true rfl), (Nat.le_of_ble_eq_true rfl)⟩ (Nat.le_of_ble_eq_true rfl) rfl (zk_v (fun σ14 h => ?_))
          refine zw_le (ls' := [none, none, none, none, none]) (True.intro) ?_
          exact w_F_flowThrough_106 hr h
        · have h := hf hc; clear ht hf
          refine zw_aload_n d_F_flowThrough_70 rfl rfl ?_
          refine zw_aload_n d_F_flowThrough_71 rfl rfl ?_
          refine zw_iload_n d_F_flowThrough_72 rfl rfl ?_
          refine zw_iconst (v := 0) d_F_flowThrough_73 rfl ?_
          refine zw_callV (ci := 6) (b := a1) (As := [.int a2, .int (0 : Int32)]) (r := [.ref a0]) d_F_flowThrough_74 (c_G_goal h) mw_2_24 mw_2_25 mw_2_26 mw_1_7 mw_2_27 (by decide) q1.1 q1.2 hyV_G_goal (Nat.le_of_ble_eq_true rfl) (Nat.le_of_ble_eq_true rfl) ⟨(Nat.le_of_ble_eq_true rfl), (Nat.le_of_ble_eq_true rfl)⟩ (Nat.le_of_ble_eq_true rfl) rfl (zk_i (fun x15 σ16 h => ?_))
          refine zw_aload_n d_F_flowThrough_77 rfl rfl ?_
          refine zw_callV (ci := 3) (b := a0) (As := [.int x15, .ref a3]) (r := []) d_F_flowThrough_78 (c_F_comeTo h) mw_1_207 mw_1_209 mp_1_0 mw_1_4 mw_1_210 (by decide) q10.1 q10.2 hyV_F_comeTo (Nat.le_of_ble_eq_true rfl) (Nat.le_of_ble_eq_true rfl) ⟨(Nat.le_of_ble_eq_true rfl), (Nat.le_of_ble_eq_true rfl)⟩ (Nat.le_of_ble_eq_true rfl) rfl (zk_v (fun σ18 h => ?_))
          refine zw_aload_n d_F_flowThrough_81 rfl rfl ?_
          refine zw_aload_n d_F_flowThrough_82 rfl rfl ?_
          refine zw_iload_n d_F_flowThrough_83 rfl rfl ?_
          refine zw_iconst (v := 1) d_F_flowThrough_84 rfl ?_
          refine zw_callV (ci := 6) (b := a1) (As := [.int a2, .int (1 : Int32)]) (r := [.ref a0]) d_F_flowThrough_85 (c_G_goal h) mw_2_24 mw_2_25 mw_2_26 mw_1_7 mw_2_27 (by decide) q1.1 q1.2 hyV_G_goal (Nat.le_of_ble_eq_true rfl) (Nat.le_of_ble_eq_true rfl) ⟨(Nat.le_of_ble_eq_true rfl), (Nat.le_of_ble_eq_true rfl)⟩ (Nat.le_of_ble_eq_true rfl) rfl (zk_i (fun x19 σ20 h => ?_))
          refine zw_aload_n d_F_flowThrough_88 rfl rfl ?_
          refine zw_callV (ci := 3) (b := a0) (As := [.int x19, .ref a3]) (r := []) d_F_flowThrough_89 (c_F_comeTo h) mw_1_207 mw_1_209 mp_1_0 mw_1_4 mw_1_210 (by decide) q10.1 q10.2 hyV_F_comeTo (Nat.le_of_ble_eq_true rfl) (Nat.le_of_ble_eq_true rfl) ⟨(Nat.le_of_ble_eq_true rfl), (Nat.le_of_ble_eq_true rfl)⟩ (Nat.le_of_ble_eq_true rfl) rfl (zk_v (fun σ22 h => ?_))
          refine zw_goto (tgt := 106) d_F_flowThrough_92 rfl ?_
          refine zw_le (ls' := [none, none, none, none, none]) (True.intro) ?_
          exact w_F_flowThrough_106 hr h
      · have h := hf hc; clear ht hf
        exact zw_vret d_F_flowThrough_60 hr h
    · have h := hf hc; clear ht hf
      refine zw_aload_n d_F_flowThrough_38 rfl rfl ?_
      refine zw_aload_n d_F_flowThrough_39 rfl rfl ?_
      refine zw_iload d_F_flowThrough_40 rfl ?_
      obtain ⟨q25, h⟩ := h
      refine zw_callV (ci := 4) (b := a3) (As := [.ref a1, .int a4]) (r := []) d_F_flowThrough_42 (c_V_assign h) mw_1_227 mw_1_228 mw_1_229 mw_1_5 mw_1_230 (by decide) q25.1 q25.2 hyV_V_assign (Nat.le_of_ble_eq_true rfl) (Nat.le_of_ble_eq_true rfl) ⟨(Nat.le_of_ble_eq_true rfl), (Nat.le_of_ble_eq_true rfl)⟩ (Nat.le_of_ble_eq_true rfl) rfl (zk_v (fun σ24 h => ?_))
      refine zw_iinc (v := (a4 + (1 : Int32))) d_F_flowThrough_45 rfl rfl (Nat.le_of_ble_eq_true rfl) rfl rfl ?_
      refine zw_goto (tgt := 25) d_F_flowThrough_48 rfl ?_
      exact ih _ _ _ _ _ _ h
def P_F_flowThrough (n : Nat) (a0 : Nat) (a1 : Nat) (a2 : Int32) (σ : zS) (Q : zS → Prop) : Prop := zk n a0 3 ∧ ∃ c2, zr σ a0 3 = some c2 ∧ za n c2 13 a2 ∧ ∃ c5, zr σ c2 a2.toNatClampNeg = some c5 ∧ ∃ c7, zr σ a0 2 = some c7 ∧ za n c7 13 a2 ∧ ∃ c10, zr σ c7 a2.toNatClampNeg = some c10 ∧ zk n c5 4 ∧ P_V_become n c5 c10 σ (fun σ13 => zk n a1 6 ∧ ∃ c16, zr σ13 a1 2 = some c16 ∧ za n c16 10 a2 ∧ ∃ g, P_F_flowThrough_25 n Q g a0 a1 a2 c5 (zi σ13 c16 a2.toNatClampNeg) σ13)
set_option maxHeartbeats 1000000 in
set_option maxRecDepth 10000 in
theorem w_F_flowThrough {Q : zS → Prop} (hr : meth.sig.returnType = none) {a0 : Nat} {a1 : Nat} {a2 : Int32} {σ : zS} (h : P_F_flowThrough n a0 a1 a2 σ Q) : zG p l e (zrm 5 0 0) s m args below meth c (MQ below (zQc (zA base) D cA base n ex (zqv Q)) args s 0 0 (zA base)) s.heap (zA base) base D cA 5 ex prog_2_method_5_code "ConstantFlow$Facts" n 0 0 0 [some (.ref a0), some (.ref a1), some (.int a2), none, none] [] σ := by
  unfold P_F_flowThrough at h
  refine zw_aload_n d_F_flowThrough_0 rfl rfl ?_
  obtain ⟨q1, h⟩ := h
  obtain ⟨c2, q3, h⟩ := h
  refine zw_gfr (ci := 3) (j := 3) d_F_flowThrough_1 mw_1_99 q1.1 q1.2 (by decide) (by decide) rfl q3 ?_
  refine zw_iload_n d_F_flowThrough_4 rfl rfl ?_
  obtain ⟨q4, h⟩ := h
  obtain ⟨c5, q6, h⟩ := h
  refine zw_aald d_F_flowThrough_5 q4.1 (zkd_eta q4.2.1) q4.2.2 q6 ?_
  refine zw_astore_n d_F_flowThrough_6 rfl (Nat.le_of_ble_eq_true rfl) rfl rfl ?_
  refine zw_aload_n d_F_flowThrough_7 rfl rfl ?_
  refine zw_aload_n d_F_flowThrough_8 rfl rfl ?_
  obtain ⟨c7, q8, h⟩ := h
  refine zw_gfr (ci := 3) (j := 2) d_F_flowThrough_9 mw_1_98 q1.1 q1.2 (by decide) (by decide) rfl q8 ?_
  refine zw_iload_n d_F_flowThrough_12 rfl rfl ?_
  obtain ⟨q9, h⟩ := h
  obtain ⟨c10, q11, h⟩ := h
  refine zw_aald d_F_flowThrough_13 q9.1 (zkd_eta q9.2.1) q9.2.2 q11 ?_
  obtain ⟨q14, h⟩ := h
  refine zw_callV (ci := 4) (b := c5) (As := [.ref c10]) (r := []) d_F_flowThrough_14 (c_V_become h) mw_1_211 mw_1_212 mw_1_213 mw_1_5 mw_1_214 (by decide) q14.1 q14.2 hyV_V_become (Nat.le_of_ble_eq_true rfl) (Nat.le_of_ble_eq_true rfl) ⟨(Nat.le_of_ble_eq_true rfl), (Nat.le_of_ble_eq_true rfl)⟩ (Nat.le_of_ble_eq_true rfl) rfl (zk_v (fun σ13 h => ?_))
  refine zw_aload_n d_F_flowThrough_17 rfl rfl ?_
  obtain ⟨q15, h⟩ := h
  obtain ⟨c16, q17, h⟩ := h
  refine zw_gfrN (ci := 6) (j := 2) d_F_flowThrough_18 mw_1_160 q15.1 q15.2 (by decide) (by decide) rfl q17 ?_
  refine zw_iload_n d_F_flowThrough_21 rfl rfl ?_
  obtain ⟨q18, h⟩ := h
  refine zw_iald d_F_flowThrough_22 q18.1 (zkd_eta q18.2.1) q18.2.2 ?_
  refine zw_istore d_F_flowThrough_23 (Nat.le_of_ble_eq_true rfl) rfl rfl ?_
  obtain ⟨g, h⟩ := h
  exact w_F_flowThrough_25 hr g _ _ _ _ _ _ h
theorem c_F_flowThrough {l : Launch} {D : va_G} {cA : Nat → ClassId} {base n : Nat} {ex : Bool} {Q : zS → Prop} {a0 : Nat} {a1 : Nat} {a2 : Int32} {σ : zS} (h : P_F_flowThrough n a0 a1 a2 σ Q) : zM l y_F_flowThrough prog_2_method_5_code 5 (none) 5 0 0 (zA base) D cA base n n ex [.ref a0, .ref a1, .int a2] σ (zqv Q) :=
  zMet (by decide) rfl (Nat.le_of_ble_eq_true rfl) (fun p e s m args below meth c hr hnm => w_F_flowThrough hr h)
def P_F_count_66 (n : Nat) (Q : zS → Prop) (K43 : Nat → Nat → Int32 → zS → Prop) (a0 : Nat) (a1 : Nat) (a2 : Int32) (σ : zS) : Prop := K43 a0 a1 (a2 + (1 : Int32)) σ
set_option maxHeartbeats 1000000 in
set_option maxRecDepth 10000 in
theorem w_F_count_66 {Q : zS → Prop} {K43 : Nat → Nat → Int32 → zS → Prop} (hr : meth.sig.returnType = none) (hK43 : ∀ (a0 : Nat) (a1 : Nat) (a2 : Int32) (σ : zS), K43 a0 a1 a2 σ → zG p l e (zrm 5 0 0) s m args below meth c (MQ below (zQc (zA base) D cA base n ex (zqv Q)) args s 0 0 (zA base)) s.heap (zA base) base D cA 3 ex prog_2_method_9_code "ConstantFlow$Facts" n 0 0 43 [some (.ref a0), some (.ref a1), some (.int a2)] [] σ) {a0 : Nat} {a1 : Nat} {a2 : Int32} {σ : zS} (h : P_F_count_66 n Q K43 a0 a1 a2 σ) : zG p l e (zrm 5 0 0) s m args below meth c (MQ below (zQc (zA base) D cA base n ex (zqv Q)) args s 0 0 (zA base)) s.heap (zA base) base D cA 3 ex prog_2_method_9_code "ConstantFlow$Facts" n 0 0 66 [some (.ref a0), some (.ref a1), some (.int a2)] [] σ := by
  unfold P_F_count_66 at h
  refine zw_iinc (v := (a2 + (1 : Int32))) d_F_count_66 rfl rfl (Nat.le_of_ble_eq_true rfl) rfl rfl ?_
  refine zw_goto (tgt := 43) d_F_count_69 rfl ?_
  exact hK43 _ _ _ _ h
def P_F_count_43 (n : Nat) (Q : zS → Prop) : Nat → Nat → Nat → Int32 → zS → Prop
  | 0, _, _, _, _ => False
  | f + 1, a0, a1, a2, σ => zk n a1 6 ∧ (((zi σ a1 0) ≤ a2 → Q σ) ∧ (¬ ((zi σ a1 0) ≤ a2) → zk n a0 3 ∧ ∃ c3, zr σ a0 0 = some c3 ∧ za n c3 11 a2 ∧ (((zi σ c3 a2.toNatClampNeg) = 0 → P_F_count_66 n Q (fun (a0 : Nat) (a1 : Nat) (a2 : Int32) (σ : zS) => P_F_count_43 n Q f a0 a1 a2 σ) a0 a1 a2 σ) ∧ (¬ ((zi σ c3 a2.toNatClampNeg) = 0) → P_F_countBlock n a0 a1 a2 σ (fun σ7 => P_F_count_66 n Q (fun (a0 : Nat) (a1 : Nat) (a2 : Int32) (σ : zS) => P_F_count_43 n Q f a0 a1 a2 σ) a0 a1 a2 σ7)))))
set_option maxHeartbeats 1000000 in
set_option maxRecDepth 10000 in
theorem w_F_count_43 {Q : zS → Prop} (hr : meth.sig.returnType = none) : ∀ (f : Nat) (a0 : Nat) (a1 : Nat) (a2 : Int32) (σ : zS), P_F_count_43 n Q f a0 a1 a2 σ → zG p l e (zrm 5 0 0) s m args below meth c (MQ below (zQc (zA base) D cA base n ex (zqv Q)) args s 0 0 (zA base)) s.heap (zA base) base D cA 3 ex prog_2_method_9_code "ConstantFlow$Facts" n 0 0 43 [some (.ref a0), some (.ref a1), some (.int a2)] [] σ := by
  intro f
  induction f with
  | zero => intro a0 a1 a2 σ h; exact False.elim h
  | succ f ih =>
    intro a0 a1 a2 σ h
    refine zw_iload_n d_F_count_43 rfl rfl ?_
    refine zw_aload_n d_F_count_44 rfl rfl ?_
    obtain ⟨q1, h⟩ := h
    refine zw_gfiN (ci := 6) (j := 0) d_F_count_45 mw_1_152 q1.1 q1.2 (by decide) (by decide) rfl ?_
    obtain ⟨ht, hf⟩ := h
    refine zw_icmp_ge (tgt := 72) d_F_count_48 rfl (fun hc => ?_) (fun hc => ?_)
    · have h := ht hc; clear ht hf
      exact zw_vret d_F_count_72 hr h
    · have h := hf hc; clear ht hf
      refine zw_aload_n d_F_count_51 rfl rfl ?_
      obtain ⟨q2, h⟩ := h
      obtain ⟨c3, q4, h⟩ := h
      refine zw_gfr (ci := 3) (j := 0) d_F_count_52 mw_1_95 q2.1 q2.2 (by decide) (by decide) rfl q4 ?_
      refine zw_iload_n d_F_count_55 rfl rfl ?_
      obtain ⟨q5, h⟩ := h
      refine zw_zald d_F_count_56 q5.1 (zkd_eta q5.2.1) q5.2.2 ?_
      obtain ⟨ht, hf⟩ := h
      refine zw_if_eq (tgt := 66) d_F_count_57 rfl (fun hc => ?_) (fun hc => ?_)
      · have h := ht hc; clear ht hf
        exact w_F_count_66 hr (fun a0 a1 a2 σ hk => ih a0 a1 a2 σ hk) h
      · have h := hf hc; clear ht hf
        refine zw_aload_n d_F_count_60 rfl rfl ?_
        refine zw_aload_n d_F_count_61 rfl rfl ?_
        refine zw_iload_n d_F_count_62 rfl rfl ?_
        refine zw_callV (ci := 3) (b := a0) (As := [.ref a1, .int a2]) (r := []) d_F_count_63 (c_F_countBlock h) mw_2_45 mw_2_47 mp_1_6 mw_1_4 mw_2_48 (by decide) q2.1 q2.2 hyV_F_countBlock (Nat.le_of_ble_eq_true rfl) (Nat.le_of_ble_eq_true rfl) ⟨(Nat.le_of_ble_eq_true rfl), (Nat.le_of_ble_eq_true rfl)⟩ (Nat.le_of_ble_eq_true rfl) rfl (zk_v (fun σ7 h => ?_))
        exact w_F_count_66 hr (fun a0 a1 a2 σ hk => ih a0 a1 a2 σ hk) h
def P_F_count_2 (n : Nat) (Q : zS → Prop) : Nat → Nat → Nat → Int32 → zS → Prop
  | 0, _, _, _, _ => False
  | f + 1, a0, a1, a2, σ => (((7 : Int32) ≤ a2 → zk n a0 3 ∧ ∃ c2, zr σ a0 7 = some c2 ∧ zk n a1 6 ∧ za n c2 10 (0 : Int32) ∧ ∃ c6, zr (zI σ c2 (0 : Int32).toNatClampNeg (zi σ a1 0)) a0 7 = some c6 ∧ za n c6 10 (2 : Int32) ∧ ∃ g, P_F_count_43 n Q g a0 a1 (0 : Int32) (zI (zI σ c2 (0 : Int32).toNatClampNeg (zi σ a1 0)) c6 (2 : Int32).toNatClampNeg (zi (zI σ c2 (0 : Int32).toNatClampNeg (zi σ a1 0)) a1 1))) ∧ (¬ ((7 : Int32) ≤ a2) → zk n a0 3 ∧ ∃ c10, zr σ a0 7 = some c10 ∧ za n c10 10 a2 ∧ P_F_count_2 n Q f a0 a1 (a2 + (1 : Int32)) (zI σ c10 a2.toNatClampNeg (0 : Int32))))
set_option maxHeartbeats 1000000 in
set_option maxRecDepth 10000 in
theorem w_F_count_2 {Q : zS → Prop} (hr : meth.sig.returnType = none) : ∀ (f : Nat) (a0 : Nat) (a1 : Nat) (a2 : Int32) (σ : zS), P_F_count_2 n Q f a0 a1 a2 σ → zG p l e (zrm 5 0 0) s m args below meth c (MQ below (zQc (zA base) D cA base n ex (zqv Q)) args s 0 0 (zA base)) s.heap (zA base) base D cA 3 ex prog_2_method_9_code "ConstantFlow$Facts" n 0 0 2 [some (.ref a0), some (.ref a1), some (.int a2)] [] σ := by
  intro f
  induction f with
  | zero => intro a0 a1 a2 σ h; exact False.elim h
  | succ f ih =>
    intro a0 a1 a2 σ h
    refine zw_iload_n d_F_count_2 rfl rfl ?_
    refine zw_bipush (v := 7) d_F_count_3 rfl ?_
    obtain ⟨ht, hf⟩ := h
    refine zw_icmp_ge (tgt := 21) d_F_count_5 rfl (fun hc => ?_) (fun hc => ?_)
    · have h := ht hc; clear ht hf
      refine zw_aload_n d_F_count_21 rfl rfl ?_
      obtain ⟨q1, h⟩ := h
      obtain ⟨c2, q3, h⟩ := h
      refine zw_gfr (ci := 3) (j := 7) d_F_count_22 mw_1_103 q1.1 q1.2 (by decide) (by decide) rfl q3 ?_
      refine zw_iconst (v := 0) d_F_count_25 rfl ?_
      refine zw_aload_n d_F_count_26 rfl rfl ?_
      obtain ⟨q4, h⟩ := h
      refine zw_gfiN (ci := 6) (j := 0) d_F_count_27 mw_1_152 q4.1 q4.2 (by decide) (by decide) rfl ?_
      obtain ⟨q5, h⟩ := h
      refine zw_iast d_F_count_30 q5.1 (zkd_eta q5.2.1) q5.2.2 ?_
      refine zw_aload_n d_F_count_31 rfl rfl ?_
      obtain ⟨c6, q7, h⟩ := h
      refine zw_gfr (ci := 3) (j := 7) d_F_count_32 mw_1_103 q1.1 q1.2 (by decide) (by decide) rfl q7 ?_
      refine zw_iconst (v := 2) d_F_count_35 rfl ?_
      refine zw_aload_n d_F_count_36 rfl rfl ?_
      refine zw_gfiN (ci := 6) (j := 1) d_F_count_37 mw_1_157 q4.1 q4.2 (by decide) (by decide) rfl ?_
      obtain ⟨q8, h⟩ := h
      refine zw_iast d_F_count_40 q8.1 (zkd_eta q8.2.1) q8.2.2 ?_
      refine zw_iconst (v := 0) d_F_count_41 rfl ?_
      refine zw_istore_n d_F_count_42 rfl (Nat.le_of_ble_eq_true rfl) rfl rfl ?_
      obtain ⟨g, h⟩ := h
      exact w_F_count_43 hr g _ _ _ _ h
    · have h := hf hc; clear ht hf
      refine zw_aload_n d_F_count_8 rfl rfl ?_
      obtain ⟨q9, h⟩ := h
      obtain ⟨c10, q11, h⟩ := h
      refine zw_gfr (ci := 3) (j := 7) d_F_count_9 mw_1_103 q9.1 q9.2 (by decide) (by decide) rfl q11 ?_
      refine zw_iload_n d_F_count_12 rfl rfl ?_
      refine zw_iconst (v := 0) d_F_count_13 rfl ?_
      obtain ⟨q12, h⟩ := h
      refine zw_iast d_F_count_14 q12.1 (zkd_eta q12.2.1) q12.2.2 ?_
      refine zw_iinc (v := (a2 + (1 : Int32))) d_F_count_15 rfl rfl (Nat.le_of_ble_eq_true rfl) rfl rfl ?_
      refine zw_goto (tgt := 2) d_F_count_18 rfl ?_
      exact ih _ _ _ _ h
def P_F_count (n : Nat) (a0 : Nat) (a1 : Nat) (σ : zS) (Q : zS → Prop) : Prop := ∃ g, P_F_count_2 n Q g a0 a1 (0 : Int32) σ
set_option maxHeartbeats 1000000 in
set_option maxRecDepth 10000 in
theorem w_F_count {Q : zS → Prop} (hr : meth.sig.returnType = none) {a0 : Nat} {a1 : Nat} {σ : zS} (h : P_F_count n a0 a1 σ Q) : zG p l e (zrm 5 0 0) s m args below meth c (MQ below (zQc (zA base) D cA base n ex (zqv Q)) args s 0 0 (zA base)) s.heap (zA base) base D cA 3 ex prog_2_method_9_code "ConstantFlow$Facts" n 0 0 0 [some (.ref a0), some (.ref a1), none] [] σ := by
  unfold P_F_count at h
  refine zw_iconst (v := 0) d_F_count_0 rfl ?_
  refine zw_istore_n d_F_count_1 rfl (Nat.le_of_ble_eq_true rfl) rfl rfl ?_
  obtain ⟨g, h⟩ := h
  exact w_F_count_2 hr g _ _ _ _ h
theorem c_F_count {l : Launch} {D : va_G} {cA : Nat → ClassId} {base n : Nat} {ex : Bool} {Q : zS → Prop} {a0 : Nat} {a1 : Nat} {σ : zS} (h : P_F_count n a0 a1 σ Q) : zM l y_F_count prog_2_method_9_code 3 (none) 5 0 0 (zA base) D cA base n n ex [.ref a0, .ref a1] σ (zqv Q) :=
  zMet (by decide) rfl (Nat.le_of_ble_eq_true rfl) (fun p e s m args below meth c hr hnm => w_F_count hr h)
def P_R_fillStatements_102 (n : Nat) (Q : Int32 → zS → Prop) (σ : zS) : Prop := ((1 : Int32) = 0 ∨ (1 : Int32) = 1) ∧ Q (1 : Int32) σ
set_option maxHeartbeats 1000000 in
set_option maxRecDepth 10000 in
theorem w_R_fillStatements_102 {Q : Int32 → zS → Prop} (hr : meth.sig.returnType = some .boolean) {σ : zS} (h : P_R_fillStatements_102 n Q σ) : zG p l e (zrm 5 0 0) s m args below meth c (MQ below (zQc (zA base) D cA base n ex (zqi Q)) args s 0 0 (zA base)) s.heap (zA base) base D cA 4 ex prog_5_method_6_code "ConstantFlow$Reader" n 0 0 102 [none, none, none, none] [] σ := by
  unfold P_R_fillStatements_102 at h
  refine zw_iconst (v := 1) d_R_fillStatements_102 rfl ?_
  obtain ⟨q1, h⟩ := h
  exact zw_zret d_R_fillStatements_103 hr q1 h
def P_R_fillStatements_2 (n : Nat) (Q : Int32 → zS → Prop) : Nat → Nat → Int32 → zS → Prop
  | 0, _, _, _ => False
  | f + 1, a0, a1, σ => (((80 : Int32) < a1 → P_R_fillStatements_102 n Q σ) ∧ (¬ ((80 : Int32) < a1) → zk n a0 2 ∧ P_R_next n a0 σ (fun x1 σ2 => P_C_isLetter n x1 σ2 (fun x4 σ5 => ((x4 = 0 → P_R_fillStatements_102 n Q σ5) ∧ (¬ (x4 = 0) → P_R_next n a0 σ5 (fun x6 σ7 => P_R_next n a0 (zI σ7 a0 3 ((zi σ7 a0 3) + (1 : Int32))) (fun x8 σ9 => ((x8 = (61 : Int32) → ∃ c10, zr σ9 a0 2 = some c10 ∧ zk n c10 6 ∧ (((zi σ9 c10 1) < (80 : Int32) → P_R_fillStatement n a0 (x6 - (97 : Int32)) (zI σ9 a0 3 ((zi σ9 a0 3) + (1 : Int32))) (fun x13 σ14 => ((¬ x13 = 0 → P_R_fillStatements_2 n Q f a0 (a1 + (1 : Int32)) σ14) ∧ (x13 = 0 → ((0 : Int32) = 0 ∨ (0 : Int32) = 1) ∧ Q (0 : Int32) σ14)))) ∧ (¬ ((zi σ9 c10 1) < (80 : Int32)) → P_R_refuse n a0 (3 : Int32) (zi σ5 a0 3) σ9 (fun x16 σ17 => (x16 = 0 ∨ x16 = 1) ∧ Q x16 σ17)))) ∧ (¬ (x8 = (61 : Int32)) → ((1 : Int32) = 0 ∨ (1 : Int32) = 1) ∧ Q (1 : Int32) (zI σ9 a0 3 (zi σ5 a0 3))))))))))))
set_option maxHeartbeats 1000000 in
set_option maxRecDepth 10000 in
theorem w_R_fillStatements_2 {Q : Int32 → zS → Prop} (hr : meth.sig.returnType = some .boolean) : ∀ (f : Nat) (a0 : Nat) (a1 : Int32) (σ : zS), P_R_fillStatements_2 n Q f a0 a1 σ → zG p l e (zrm 5 0 0) s m args below meth c (MQ below (zQc (zA base) D cA base n ex (zqi Q)) args s 0 0 (zA base)) s.heap (zA base) base D cA 4 ex prog_5_method_6_code "ConstantFlow$Reader" n 0 0 2 [some (.ref a0), some (.int a1), none, none] [] σ := by
  intro f
  induction f with
  | zero => intro a0 a1 σ h; exact False.elim h
  | succ f ih =>
    intro a0 a1 σ h
    refine zw_iload_n d_R_fillStatements_2 rfl rfl ?_
    refine zw_bipush (v := 80) d_R_fillStatements_3 rfl ?_
    obtain ⟨ht, hf⟩ := h
    refine zw_icmp_gt (tgt := 102) d_R_fillStatements_5 rfl (fun hc => ?_) (fun hc => ?_)
    · have h := ht hc; clear ht hf
      refine zw_le (ls' := [none, none, none, none]) (True.intro) ?_
      exact w_R_fillStatements_102 hr h
    · have h := hf hc; clear ht hf
      refine zw_aload_n d_R_fillStatements_8 rfl rfl ?_
      obtain ⟨q3, h⟩ := h
      refine zw_callV (ci := 2) (b := a0) (As := []) (r := []) d_R_fillStatements_9 (c_R_next h) mw_2_92 mw_2_94 mp_1_8 mw_1_3 mw_2_95 (by decide) q3.1 q3.2 hyV_R_next (Nat.le_of_ble_eq_true rfl) (Nat.le_of_ble_eq_true rfl) ⟨(Nat.le_of_ble_eq_true rfl), (Nat.le_of_ble_eq_true rfl)⟩ (Nat.le_of_ble_eq_true rfl) rfl (zk_i (fun x1 σ2 h => ?_))
      refine zw_callSN (As := [.int x1]) (r := []) d_R_fillStatements_12 (c_C_isLetter h) mw_2_100 mw_2_101 mw_1_1 mw_2_102 hyS_C_isLetter (Nat.le_of_ble_eq_true rfl) (Nat.le_of_ble_eq_true rfl) ⟨(Nat.le_of_ble_eq_true rfl), (Nat.le_of_ble_eq_true rfl)⟩ (Nat.le_of_ble_eq_true rfl) rfl (zk_i (fun x4 σ5 h => ?_))
      obtain ⟨ht, hf⟩ := h
      refine zw_if_eq (tgt := 102) d_R_fillStatements_15 rfl (fun hc => ?_) (fun hc => ?_)
      · have h := ht hc; clear ht hf
        refine zw_le (ls' := [none, none, none, none]) (True.intro) ?_
        exact w_R_fillStatements_102 hr h
      · have h := hf hc; clear ht hf
        refine zw_aload_n d_R_fillStatements_18 rfl rfl ?_
        refine zw_gfi (ci := 2) (j := 3) d_R_fillStatements_19 mw_1_50 q3.1 q3.2 (by decide) (by decide) rfl ?_
        refine zw_istore_n d_R_fillStatements_22 rfl (Nat.le_of_ble_eq_true rfl) rfl rfl ?_
        refine zw_aload_n d_R_fillStatements_23 rfl rfl ?_
        refine zw_callV (ci := 2) (b := a0) (As := []) (r := []) d_R_fillStatements_24 (c_R_next h) mw_2_92 mw_2_94 mp_1_8 mw_1_3 mw_2_95 (by decide) q3.1 q3.2 hyV_R_next (Nat.le_of_ble_eq_true rfl) (Nat.le_of_ble_eq_true rfl) ⟨(Nat.le_of_ble_eq_true rfl), (Nat.le_of_ble_eq_true rfl)⟩ (Nat.le_of_ble_eq_true rfl) rfl (zk_i (fun x6 σ7 h => ?_))
        refine zw_bipush (v := 97) d_R_fillStatements_27 rfl ?_
        refine zw_isub d_R_fillStatements_29 ?_
        refine zw_istore_n d_R_fillStatements_30 rfl (Nat.le_of_ble_eq_true rfl) rfl rfl ?_
        refine zw_aload_n d_R_fillStatements_31 rfl rfl ?_
        refine zw_dup d_R_fillStatements_32 rfl ?_
        refine zw_gfi (ci := 2) (j := 3) d_R_fillStatements_33 mw_1_50 q3.1 q3.2 (by decide) (by decide) rfl ?_
        refine zw_iconst (v := 1) d_R_fillStatements_36 rfl ?_
        refine zw_iadd d_R_fillStatements_37 ?_
        refine zw_pfi (ci := 2) (j := 3) d_R_fillStatements_38 mw_1_50 q3.1 q3.2 (by decide) (by decide) rfl rfl rfl rfl ?_
        refine zw_aload_n d_R_fillStatements_41 rfl rfl ?_
        refine zw_callV (ci := 2) (b := a0) (As := []) (r := []) d_R_fillStatements_42 (c_R_next h) mw_2_92 mw_2_94 mp_1_8 mw_1_3 mw_2_95 (by decide) q3.1 q3.2 hyV_R_next (Nat.le_of_ble_eq_true rfl) (Nat.le_of_ble_eq_true rfl) ⟨(Nat.le_of_ble_eq_true rfl), (Nat.le_of_ble_eq_true rfl)⟩ (Nat.le_of_ble_eq_true rfl) rfl (zk_i (fun x8 σ9 h => ?_))
        refine zw_bipush (v := 61) d_R_fillStatements_45 rfl ?_
        obtain ⟨ht, hf⟩ := h
        refine zw_icmp_eq (tgt := 57) d_R_fillStatements_47 rfl (fun hc => ?_) (fun hc => ?_)
        · have h := ht hc; clear ht hf
          refine zw_aload_n d_R_fillStatements_57 rfl rfl ?_
          obtain ⟨c10, q11, h⟩ := h
          refine zw_gfr (ci := 2) (j := 2) d_R_fillStatements_58 mw_1_49 q3.1 q3.2 (by decide) (by decide) rfl q11 ?_
          obtain ⟨q12, h⟩ := h
          refine zw_gfiN (ci := 6) (j := 1) d_R_fillStatements_61 mw_1_156 q12.1 q12.2 (by decide) (by decide) rfl ?_
          refine zw_bipush (v := 80) d_R_fillStatements_64 rfl ?_
          obtain ⟨ht, hf⟩ := h
          refine zw_icmp_lt (tgt := 76) d_R_fillStatements_66 rfl (fun hc => ?_) (fun hc => ?_)
          · have h := ht hc; clear ht hf
            refine zw_aload_n d_R_fillStatements_76 rfl rfl ?_
            refine zw_dup d_R_fillStatements_77 rfl ?_
            refine zw_gfi (ci := 2) (j := 3) d_R_fillStatements_78 mw_1_50 q3.1 q3.2 (by decide) (by decide) rfl ?_
            refine zw_iconst (v := 1) d_R_fillStatements_81 rfl ?_
            refine zw_iadd d_R_fillStatements_82 ?_
            refine zw_pfi (ci := 2) (j := 3) d_R_fillStatements_83 mw_1_50 q3.1 q3.2 (by decide) (by decide) rfl rfl rfl rfl ?_
            refine zw_aload_n d_R_fillStatements_86 rfl rfl ?_
            refine zw_iload_n d_R_fillStatements_87 rfl rfl ?_
            refine zw_callV (ci := 2) (b := a0) (As := [.int (x6 - (97 : Int32))]) (r := []) d_R_fillStatements_88 (c_R_fillStatement h) mw_2_107 mw_2_109 mp_1_10 mw_1_3 mw_2_110 (by decide) q3.1 q3.2 hyV_R_fillStatement (Nat.le_of_ble_eq_true rfl) (Nat.le_of_ble_eq_true rfl) ⟨(Nat.le_of_ble_eq_true rfl), (Nat.le_of_ble_eq_true rfl)⟩ (Nat.le_of_ble_eq_true rfl) rfl (zk_i (fun x13 σ14 h => ?_))
            obtain ⟨ht, hf⟩ := h
            refine zw_if_ne (tgt := 96) d_R_fillStatements_91 rfl (fun hc => ?_) (fun hc => ?_)
            · have h := ht hc; clear ht hf
              refine zw_iinc (v := (a1 + (1 : Int32))) d_R_fillStatements_96 rfl rfl (Nat.le_of_ble_eq_true rfl) rfl rfl ?_
              refine zw_goto (tgt := 2) d_R_fillStatements_99 rfl ?_
              refine zw_le (ls' := [some (.ref a0), some (.int (a1 + (1 : Int32))), none, none]) (And.intro rfl (And.intro rfl True.intro)) ?_
              exact ih _ _ _ h
            · have h := hf hc; clear ht hf
              refine zw_iconst (v := 0) d_R_fillStatements_94 rfl ?_
              obtain ⟨q15, h⟩ := h
              exact zw_zret d_R_fillStatements_95 hr q15 h
          · have h := hf hc; clear ht hf
            refine zw_aload_n d_R_fillStatements_69 rfl rfl ?_
            refine zw_iconst (v := 3) d_R_fillStatements_70 rfl ?_
            refine zw_iload_n d_R_fillStatements_71 rfl rfl ?_
            refine zw_callV (ci := 2) (b := a0) (As := [.int (3 : Int32), .int (zi σ5 a0 3)]) (r := []) d_R_fillStatements_72 (c_R_refuse h) mw_2_103 mw_2_105 mp_1_9 mw_1_3 mw_2_106 (by decide) q3.1 q3.2 hyV_R_refuse (Nat.le_of_ble_eq_true rfl) (Nat.le_of_ble_eq_true rfl) ⟨(Nat.le_of_ble_eq_true rfl), (Nat.le_of_ble_eq_true rfl)⟩ (Nat.le_of_ble_eq_true rfl) rfl (zk_i (fun x16 σ17 h => ?_))
            obtain ⟨q18, h⟩ := h
            exact zw_zret d_R_fillStatements_75 hr q18 h
        · have h := hf hc; clear ht hf
          refine zw_aload_n d_R_fillStatements_50 rfl rfl ?_
          refine zw_iload_n d_R_fillStatements_51 rfl rfl ?_
          refine zw_pfi (ci := 2) (j := 3) d_R_fillStatements_52 mw_1_50 q3.1 q3.2 (by decide) (by decide) rfl rfl rfl rfl ?_
          refine zw_iconst (v := 1) d_R_fillStatements_55 rfl ?_
          obtain ⟨q19, h⟩ := h
          exact zw_zret d_R_fillStatements_56 hr q19 h
def P_R_fillStatements (n : Nat) (a0 : Nat) (σ : zS) (Q : Int32 → zS → Prop) : Prop := ∃ g, P_R_fillStatements_2 n Q g a0 (0 : Int32) σ
set_option maxHeartbeats 1000000 in
set_option maxRecDepth 10000 in
theorem w_R_fillStatements {Q : Int32 → zS → Prop} (hr : meth.sig.returnType = some .boolean) {a0 : Nat} {σ : zS} (h : P_R_fillStatements n a0 σ Q) : zG p l e (zrm 5 0 0) s m args below meth c (MQ below (zQc (zA base) D cA base n ex (zqi Q)) args s 0 0 (zA base)) s.heap (zA base) base D cA 4 ex prog_5_method_6_code "ConstantFlow$Reader" n 0 0 0 [some (.ref a0), none, none, none] [] σ := by
  unfold P_R_fillStatements at h
  refine zw_iconst (v := 0) d_R_fillStatements_0 rfl ?_
  refine zw_istore_n d_R_fillStatements_1 rfl (Nat.le_of_ble_eq_true rfl) rfl rfl ?_
  obtain ⟨g, h⟩ := h
  exact w_R_fillStatements_2 hr g _ _ _ h
theorem c_R_fillStatements {l : Launch} {D : va_G} {cA : Nat → ClassId} {base n : Nat} {ex : Bool} {Q : Int32 → zS → Prop} {a0 : Nat} {σ : zS} (h : P_R_fillStatements n a0 σ Q) : zM l y_R_fillStatements prog_5_method_6_code 4 (some .boolean) 5 0 0 (zA base) D cA base n n ex [.ref a0] σ (zqi Q) :=
  zMet (by decide) rfl (Nat.le_of_ble_eq_true rfl) (fun p e s m args below meth c hr hnm => w_R_fillStatements hr h)
end
