section
variable {p : Program} {l : Launch} {e : Env} {s : State} {m : MethodId} {args : Array Value} {below : List Frame} {meth : Method} {c : Code} {base : Nat} {D : va_G} {cA : Nat → ClassId} {ex : Bool} {n : Nat}
def P_R_fillOperand (n : Nat) (a0 : Nat) (a1 : Int32) (σ : zS) (Q : Int32 → zS → Prop) : Prop := zk n a0 2 ∧ P_R_next n a0 σ (fun x1 σ2 => P_C_isLetter n x1 σ2 (fun x4 σ5 => ((x4 = 0 → P_R_passNumber n a0 (1 : Int32) σ5 (fun x6 σ7 => ((¬ x6 = 0 → ∃ c8, zr σ7 a0 2 = some c8 ∧ zk n c8 6 ∧ P_G_setOperand n c8 a1 (0 : Int32) (zi σ7 a0 4) σ7 (fun σ11 => ((1 : Int32) = 0 ∨ (1 : Int32) = 1) ∧ Q (1 : Int32) σ11)) ∧ (x6 = 0 → ((0 : Int32) = 0 ∨ (0 : Int32) = 1) ∧ Q (0 : Int32) σ7)))) ∧ (¬ (x4 = 0) → ∃ c15, zr (zI σ5 a0 3 ((zi σ5 a0 3) + (1 : Int32))) a0 2 = some c15 ∧ zk n c15 6 ∧ P_G_setOperand n c15 a1 (1 : Int32) (x1 - (97 : Int32)) (zI σ5 a0 3 ((zi σ5 a0 3) + (1 : Int32))) (fun σ18 => ((1 : Int32) = 0 ∨ (1 : Int32) = 1) ∧ Q (1 : Int32) σ18)))))
set_option maxHeartbeats 1000000 in
set_option maxRecDepth 10000 in
theorem w_R_fillOperand {Q : Int32 → zS → Prop} (hr : meth.sig.returnType = some .boolean) {a0 : Nat} {a1 : Int32} {σ : zS} (h : P_R_fillOperand n a0 a1 σ Q) : zG p l e (zrm 3 0 0) s m args below meth c (MQ below (zQc (zA base) D cA base n ex (zqi Q)) args s 0 0 (zA base)) s.heap (zA base) base D cA 3 ex prog_5_method_8_code "ConstantFlow$Reader" n 0 0 0 [some (.ref a0), some (.int a1), none] [] σ := by
  unfold P_R_fillOperand at h
  refine zw_aload_n d_R_fillOperand_0 rfl rfl ?_
  obtain ⟨q3, h⟩ := h
  refine zw_callV (ci := 2) (b := a0) (As := []) (r := []) d_R_fillOperand_1 (c_R_next h) mw_2_92 mw_2_94 mp_1_8 mw_1_3 mw_2_95 (by decide) q3.1 q3.2 hyV_R_next (Nat.le_of_ble_eq_true rfl) (Nat.le_of_ble_eq_true rfl) ⟨(Nat.le_of_ble_eq_true rfl), (Nat.le_of_ble_eq_true rfl)⟩ (Nat.le_of_ble_eq_true rfl) rfl (zk_i (fun x1 σ2 h => ?_))
  refine zw_istore_n d_R_fillOperand_4 rfl (Nat.le_of_ble_eq_true rfl) rfl rfl ?_
  refine zw_iload_n d_R_fillOperand_5 rfl rfl ?_
  refine zw_callSN (As := [.int x1]) (r := []) d_R_fillOperand_6 (c_C_isLetter h) mw_2_100 mw_2_101 mw_1_1 mw_2_102 hyS_C_isLetter (Nat.le_of_ble_eq_true rfl) (Nat.le_of_ble_eq_true rfl) ⟨(Nat.le_of_ble_eq_true rfl), (Nat.le_of_ble_eq_true rfl)⟩ (Nat.le_of_ble_eq_true rfl) rfl (zk_i (fun x4 σ5 h => ?_))
  obtain ⟨ht, hf⟩ := h
  refine zw_if_eq (tgt := 37) d_R_fillOperand_9 rfl (fun hc => ?_) (fun hc => ?_)
  · have h := ht hc; clear ht hf
    refine zw_aload_n d_R_fillOperand_37 rfl rfl ?_
    refine zw_iconst (v := 1) d_R_fillOperand_38 rfl ?_
    refine zw_callV (ci := 2) (b := a0) (As := [.int (1 : Int32)]) (r := []) d_R_fillOperand_39 (c_R_passNumber h) mw_2_124 mw_2_126 mp_1_13 mw_1_3 mw_2_127 (by decide) q3.1 q3.2 hyV_R_passNumber (Nat.le_of_ble_eq_true rfl) (Nat.le_of_ble_eq_true rfl) ⟨(Nat.le_of_ble_eq_true rfl), (Nat.le_of_ble_eq_true rfl)⟩ (Nat.le_of_ble_eq_true rfl) rfl (zk_i (fun x6 σ7 h => ?_))
    obtain ⟨ht, hf⟩ := h
    refine zw_if_ne (tgt := 47) d_R_fillOperand_42 rfl (fun hc => ?_) (fun hc => ?_)
    · have h := ht hc; clear ht hf
      refine zw_aload_n d_R_fillOperand_47 rfl rfl ?_
      obtain ⟨c8, q9, h⟩ := h
      refine zw_gfr (ci := 2) (j := 2) d_R_fillOperand_48 mw_1_49 q3.1 q3.2 (by decide) (by decide) rfl q9 ?_
      refine zw_iload_n d_R_fillOperand_51 rfl rfl ?_
      refine zw_iconst (v := 0) d_R_fillOperand_52 rfl ?_
      refine zw_aload_n d_R_fillOperand_53 rfl rfl ?_
      refine zw_gfi (ci := 2) (j := 4) d_R_fillOperand_54 mw_1_51 q3.1 q3.2 (by decide) (by decide) rfl ?_
      obtain ⟨q12, h⟩ := h
      refine zw_callV (ci := 6) (b := c8) (As := [.int a1, .int (0 : Int32), .int (zi σ7 a0 4)]) (r := []) d_R_fillOperand_57 (c_G_setOperand h) mw_2_120 mw_2_121 mw_2_122 mw_1_7 mw_2_123 (by decide) q12.1 q12.2 hyV_G_setOperand (Nat.le_of_ble_eq_true rfl) (Nat.le_of_ble_eq_true rfl) ⟨(Nat.le_of_ble_eq_true rfl), (Nat.le_of_ble_eq_true rfl)⟩ (Nat.le_of_ble_eq_true rfl) rfl (zk_v (fun σ11 h => ?_))
      refine zw_iconst (v := 1) d_R_fillOperand_60 rfl ?_
      obtain ⟨q13, h⟩ := h
      exact zw_zret d_R_fillOperand_61 hr q13 h
    · have h := hf hc; clear ht hf
      refine zw_iconst (v := 0) d_R_fillOperand_45 rfl ?_
      obtain ⟨q14, h⟩ := h
      exact zw_zret d_R_fillOperand_46 hr q14 h
  · have h := hf hc; clear ht hf
    refine zw_aload_n d_R_fillOperand_12 rfl rfl ?_
    refine zw_dup d_R_fillOperand_13 rfl ?_
    refine zw_gfi (ci := 2) (j := 3) d_R_fillOperand_14 mw_1_50 q3.1 q3.2 (by decide) (by decide) rfl ?_
    refine zw_iconst (v := 1) d_R_fillOperand_17 rfl ?_
    refine zw_iadd d_R_fillOperand_18 ?_
    refine zw_pfi (ci := 2) (j := 3) d_R_fillOperand_19 mw_1_50 q3.1 q3.2 (by decide) (by decide) rfl rfl rfl rfl ?_
    refine zw_aload_n d_R_fillOperand_22 rfl rfl ?_
    obtain ⟨c15, q16, h⟩ := h
    refine zw_gfr (ci := 2) (j := 2) d_R_fillOperand_23 mw_1_49 q3.1 q3.2 (by decide) (by decide) rfl q16 ?_
    refine zw_iload_n d_R_fillOperand_26 rfl rfl ?_
    refine zw_iconst (v := 1) d_R_fillOperand_27 rfl ?_
    refine zw_iload_n d_R_fillOperand_28 rfl rfl ?_
    refine zw_bipush (v := 97) d_R_fillOperand_29 rfl ?_
    refine zw_isub d_R_fillOperand_31 ?_
    obtain ⟨q19, h⟩ := h
    refine zw_callV (ci := 6) (b := c15) (As := [.int a1, .int (1 : Int32), .int (x1 - (97 : Int32))]) (r := []) d_R_fillOperand_32 (c_G_setOperand h) mw_2_120 mw_2_121 mw_2_122 mw_1_7 mw_2_123 (by decide) q19.1 q19.2 hyV_G_setOperand (Nat.le_of_ble_eq_true rfl) (Nat.le_of_ble_eq_true rfl) ⟨(Nat.le_of_ble_eq_true rfl), (Nat.le_of_ble_eq_true rfl)⟩ (Nat.le_of_ble_eq_true rfl) rfl (zk_v (fun σ18 h => ?_))
    refine zw_iconst (v := 1) d_R_fillOperand_35 rfl ?_
    obtain ⟨q20, h⟩ := h
    exact zw_zret d_R_fillOperand_36 hr q20 h
theorem c_R_fillOperand {l : Launch} {D : va_G} {cA : Nat → ClassId} {base n : Nat} {ex : Bool} {Q : Int32 → zS → Prop} {a0 : Nat} {a1 : Int32} {σ : zS} (h : P_R_fillOperand n a0 a1 σ Q) : zM l y_R_fillOperand prog_5_method_8_code 3 (some .boolean) 3 0 0 (zA base) D cA base n n ex [.ref a0, .int a1] σ (zqi Q) :=
  zMet (by decide) rfl (Nat.le_of_ble_eq_true rfl) (fun p e s m args below meth c hr hnm => w_R_fillOperand hr h)
def P_V_assign_47 (n : Nat) (Q : zS → Prop) (b0 : Nat) (b1 : Int32) (b2 : Int32) (σ : zS) : Prop := za n b0 11 b1 ∧ Q (zI σ b0 b1.toNatClampNeg (vp_nar .boolean b2))
set_option maxHeartbeats 1000000 in
set_option maxRecDepth 10000 in
theorem w_V_assign_47 {Q : zS → Prop} (hr : meth.sig.returnType = none) {b0 : Nat} {b1 : Int32} {b2 : Int32} {σ : zS} (h : P_V_assign_47 n Q b0 b1 b2 σ) : zG p l e (zrm 3 0 0) s m args below meth c (MQ below (zQc (zA base) D cA base n ex (zqv Q)) args s 0 0 (zA base)) s.heap (zA base) base D cA 5 ex prog_7_method_8_code "ConstantFlow$View" n 0 0 47 [none, none, none, none, none] [.int b2, .int b1, .ref b0] σ := by
  unfold P_V_assign_47 at h
  obtain ⟨q1, h⟩ := h
  refine zw_zast d_V_assign_47 q1.1 (zkd_eta q1.2.1) q1.2.2 ?_
  exact zw_vret d_V_assign_48 hr h
def P_V_assign_32 (n : Nat) (Q : zS → Prop) (a0 : Nat) (a3 : Int32) (a4 : Int32) (σ : zS) : Prop := zk n a0 4 ∧ ∃ c2, zr σ a0 0 = some c2 ∧ ((¬ a4 = 0 → P_V_assign_47 n Q c2 a3 (0 : Int32) σ) ∧ (a4 = 0 → P_V_assign_47 n Q c2 a3 (1 : Int32) σ))
set_option maxHeartbeats 1000000 in
set_option maxRecDepth 10000 in
theorem w_V_assign_32 {Q : zS → Prop} (hr : meth.sig.returnType = none) {a0 : Nat} {a3 : Int32} {a4 : Int32} {σ : zS} (h : P_V_assign_32 n Q a0 a3 a4 σ) : zG p l e (zrm 3 0 0) s m args below meth c (MQ below (zQc (zA base) D cA base n ex (zqv Q)) args s 0 0 (zA base)) s.heap (zA base) base D cA 5 ex prog_7_method_8_code "ConstantFlow$View" n 0 0 32 [some (.ref a0), none, none, some (.int a3), some (.int a4)] [] σ := by
  unfold P_V_assign_32 at h
  refine zw_aload_n d_V_assign_32 rfl rfl ?_
  obtain ⟨q1, h⟩ := h
  obtain ⟨c2, q3, h⟩ := h
  refine zw_gfr (ci := 4) (j := 0) d_V_assign_33 mw_1_85 q1.1 q1.2 (by decide) (by decide) rfl q3 ?_
  refine zw_iload_n d_V_assign_36 rfl rfl ?_
  refine zw_iload d_V_assign_37 rfl ?_
  obtain ⟨ht, hf⟩ := h
  refine zw_if_ne (tgt := 46) d_V_assign_39 rfl (fun hc => ?_) (fun hc => ?_)
  · have h := ht hc; clear ht hf
    refine zw_iconst (v := 0) d_V_assign_46 rfl ?_
    refine zw_le (ls' := [none, none, none, none, none]) (True.intro) ?_
    exact w_V_assign_47 hr h
  · have h := hf hc; clear ht hf
    refine zw_iconst (v := 1) d_V_assign_42 rfl ?_
    refine zw_goto (tgt := 47) d_V_assign_43 rfl ?_
    refine zw_le (ls' := [none, none, none, none, none]) (True.intro) ?_
    exact w_V_assign_47 hr h
def P_V_assign (n : Nat) (a0 : Nat) (a1 : Nat) (a2 : Int32) (σ : zS) (Q : zS → Prop) : Prop := zk n a1 6 ∧ ∃ c2, zr σ a1 3 = some c2 ∧ za n c2 10 a2 ∧ zk n a0 4 ∧ P_V_settles n a0 a1 a2 σ (fun x5 σ6 => ((x5 = 0 → P_V_assign_32 n Q a0 (zi σ c2 a2.toNatClampNeg) x5 σ6) ∧ (¬ (x5 = 0) → ∃ c8, zr σ6 a0 1 = some c8 ∧ P_V_settled n a0 a1 a2 σ6 (fun x10 σ11 => za n c8 10 (zi σ c2 a2.toNatClampNeg) ∧ P_V_assign_32 n Q a0 (zi σ c2 a2.toNatClampNeg) x5 (zI σ11 c8 (zi σ c2 a2.toNatClampNeg).toNatClampNeg x10)))))
set_option maxHeartbeats 1000000 in
set_option maxRecDepth 10000 in
theorem w_V_assign {Q : zS → Prop} (hr : meth.sig.returnType = none) {a0 : Nat} {a1 : Nat} {a2 : Int32} {σ : zS} (h : P_V_assign n a0 a1 a2 σ Q) : zG p l e (zrm 3 0 0) s m args below meth c (MQ below (zQc (zA base) D cA base n ex (zqv Q)) args s 0 0 (zA base)) s.heap (zA base) base D cA 5 ex prog_7_method_8_code "ConstantFlow$View" n 0 0 0 [some (.ref a0), some (.ref a1), some (.int a2), none, none] [] σ := by
  unfold P_V_assign at h
  refine zw_aload_n d_V_assign_0 rfl rfl ?_
  obtain ⟨q1, h⟩ := h
  obtain ⟨c2, q3, h⟩ := h
  refine zw_gfrN (ci := 6) (j := 3) d_V_assign_1 mw_1_164 q1.1 q1.2 (by decide) (by decide) rfl q3 ?_
  refine zw_iload_n d_V_assign_4 rfl rfl ?_
  obtain ⟨q4, h⟩ := h
  refine zw_iald d_V_assign_5 q4.1 (zkd_eta q4.2.1) q4.2.2 ?_
  refine zw_istore_n d_V_assign_6 rfl (Nat.le_of_ble_eq_true rfl) rfl rfl ?_
  refine zw_aload_n d_V_assign_7 rfl rfl ?_
  refine zw_aload_n d_V_assign_8 rfl rfl ?_
  refine zw_iload_n d_V_assign_9 rfl rfl ?_
  obtain ⟨q7, h⟩ := h
  refine zw_callV (ci := 4) (b := a0) (As := [.ref a1, .int a2]) (r := []) d_V_assign_10 (c_V_settles h) mw_1_231 mw_1_232 mw_1_233 mw_1_5 mw_1_234 (by decide) q7.1 q7.2 hyV_V_settles (Nat.le_of_ble_eq_true rfl) (Nat.le_of_ble_eq_true rfl) ⟨(Nat.le_of_ble_eq_true rfl), (Nat.le_of_ble_eq_true rfl)⟩ (Nat.le_of_ble_eq_true rfl) rfl (zk_i (fun x5 σ6 h => ?_))
  refine zw_istore d_V_assign_13 (Nat.le_of_ble_eq_true rfl) rfl rfl ?_
  refine zw_iload d_V_assign_15 rfl ?_
  obtain ⟨ht, hf⟩ := h
  refine zw_if_eq (tgt := 32) d_V_assign_17 rfl (fun hc => ?_) (fun hc => ?_)
  · have h := ht hc; clear ht hf
    refine zw_le (ls' := [some (.ref a0), none, none, some (.int (zi σ c2 a2.toNatClampNeg)), some (.int x5)]) (And.intro rfl (And.intro rfl (And.intro rfl True.intro))) ?_
    exact w_V_assign_32 hr h
  · have h := hf hc; clear ht hf
    refine zw_aload_n d_V_assign_20 rfl rfl ?_
    obtain ⟨c8, q9, h⟩ := h
    refine zw_gfr (ci := 4) (j := 1) d_V_assign_21 mw_1_87 q7.1 q7.2 (by decide) (by decide) rfl q9 ?_
    refine zw_iload_n d_V_assign_24 rfl rfl ?_
    refine zw_aload_n d_V_assign_25 rfl rfl ?_
    refine zw_aload_n d_V_assign_26 rfl rfl ?_
    refine zw_iload_n d_V_assign_27 rfl rfl ?_
    refine zw_callV (ci := 4) (b := a0) (As := [.ref a1, .int a2]) (r := [.int (zi σ c2 a2.toNatClampNeg), .ref c8]) d_V_assign_28 (c_V_settled h) mw_2_9 mw_2_10 mw_2_11 mw_1_5 mw_2_12 (by decide) q7.1 q7.2 hyV_V_settled (Nat.le_of_ble_eq_true rfl) (Nat.le_of_ble_eq_true rfl) ⟨(Nat.le_of_ble_eq_true rfl), (Nat.le_of_ble_eq_true rfl)⟩ (Nat.le_of_ble_eq_true rfl) rfl (zk_i (fun x10 σ11 h => ?_))
    obtain ⟨q12, h⟩ := h
    refine zw_iast d_V_assign_31 q12.1 (zkd_eta q12.2.1) q12.2.2 ?_
    refine zw_le (ls' := [some (.ref a0), none, none, some (.int (zi σ c2 a2.toNatClampNeg)), some (.int x5)]) (And.intro rfl (And.intro rfl (And.intro rfl True.intro))) ?_
    exact w_V_assign_32 hr h
theorem c_V_assign {l : Launch} {D : va_G} {cA : Nat → ClassId} {base n : Nat} {ex : Bool} {Q : zS → Prop} {a0 : Nat} {a1 : Nat} {a2 : Int32} {σ : zS} (h : P_V_assign n a0 a1 a2 σ Q) : zM l y_V_assign prog_7_method_8_code 5 (none) 3 0 0 (zA base) D cA base n n ex [.ref a0, .ref a1, .int a2] σ (zqv Q) :=
  zMet (by decide) rfl (Nat.le_of_ble_eq_true rfl) (fun p e s m args below meth c hr hnm => w_V_assign hr h)
def P_M_operand_85 (n : Nat) (Q : zS → Prop) (σ : zS) : Prop := Q σ
set_option maxHeartbeats 1000000 in
set_option maxRecDepth 10000 in
theorem w_M_operand_85 {Q : zS → Prop} (hr : meth.sig.returnType = none) {σ : zS} (h : P_M_operand_85 n Q σ) : zG p l e (zrm 3 0 0) s m args below meth c (MQ below (zQc (zA base) D cA base n ex (zqv Q)) args s 0 0 (zA base)) s.heap (zA base) base D cA 2 ex prog_9_method_12_code "ConstantFlowModel" n 0 0 85 [none, none] [] σ := by
  unfold P_M_operand_85 at h
  exact zw_vret d_M_operand_85 hr h
def P_M_operand_59 (n : Nat) (Q : zS → Prop) (a0 : Nat) (σ : zS) : Prop := zk n a0 7 ∧ P_M_number0 n a0 (1 : Int32) (zI σ a0 17 (0 : Int32)) (fun x2 σ3 => P_M_operand_85 n Q (zI σ3 a0 18 x2))
set_option maxHeartbeats 1000000 in
set_option maxRecDepth 10000 in
theorem w_M_operand_59 {Q : zS → Prop} (hr : meth.sig.returnType = none) {a0 : Nat} {σ : zS} (h : P_M_operand_59 n Q a0 σ) : zG p l e (zrm 3 0 0) s m args below meth c (MQ below (zQc (zA base) D cA base n ex (zqv Q)) args s 0 0 (zA base)) s.heap (zA base) base D cA 2 ex prog_9_method_12_code "ConstantFlowModel" n 0 0 59 [some (.ref a0), none] [] σ := by
  unfold P_M_operand_59 at h
  refine zw_aload_n d_M_operand_59 rfl rfl ?_
  refine zw_iconst (v := 0) d_M_operand_60 rfl ?_
  obtain ⟨q1, h⟩ := h
  refine zw_pfi (ci := 7) (j := 17) d_M_operand_61 mw_3_202 q1.1 q1.2 (by decide) (by decide) rfl rfl rfl rfl ?_
  refine zw_aload_n d_M_operand_64 rfl rfl ?_
  refine zw_aload_n d_M_operand_65 rfl rfl ?_
  refine zw_iconst (v := 1) d_M_operand_66 rfl ?_
  refine zw_callV (ci := 7) (b := a0) (As := [.int (1 : Int32)]) (r := [.ref a0]) d_M_operand_67 (c_M_number0 h) mw_4_78 mw_4_80 mp_2_14 mw_1_8 mw_4_81 (by decide) q1.1 q1.2 hyV_M_number0 (Nat.le_of_ble_eq_true rfl) (Nat.le_of_ble_eq_true rfl) ⟨(Nat.le_of_ble_eq_true rfl), (Nat.le_of_ble_eq_true rfl)⟩ (Nat.le_of_ble_eq_true rfl) rfl (zk_i (fun x2 σ3 h => ?_))
  refine zw_pfi (ci := 7) (j := 18) d_M_operand_70 mw_3_203 q1.1 q1.2 (by decide) (by decide) rfl rfl rfl rfl ?_
  refine zw_goto (tgt := 85) d_M_operand_73 rfl ?_
  refine zw_le (ls' := [none, none]) (True.intro) ?_
  exact w_M_operand_85 hr h
def P_M_operand (n : Nat) (a0 : Nat) (σ : zS) (Q : zS → Prop) : Prop := zk n a0 7 ∧ P_M_skip n a0 σ (fun σ2 => P_M_byteAt n a0 (zi σ2 a0 5) σ2 (fun x4 σ5 => P_M_isVariable n x4 σ5 (fun x6 σ7 => ((x6 = 0 → P_M_isFigure n x4 σ7 (fun x8 σ9 => ((¬ x8 = 0 → P_M_operand_59 n Q a0 σ9) ∧ (x8 = 0 → ((¬ x4 = (45 : Int32) → P_M_fail n a0 (1 : Int32) (zi σ9 a0 5) σ9 (fun σ11 => P_M_operand_85 n Q σ11)) ∧ (x4 = (45 : Int32) → P_M_operand_59 n Q a0 σ9)))))) ∧ (¬ (x6 = 0) → P_M_operand_85 n Q (zI (zI (zI σ7 a0 5 ((zi σ7 a0 5) + (1 : Int32))) a0 17 (1 : Int32)) a0 18 (x4 - (97 : Int32))))))))
set_option maxHeartbeats 1000000 in
set_option maxRecDepth 10000 in
theorem w_M_operand {Q : zS → Prop} (hr : meth.sig.returnType = none) {a0 : Nat} {σ : zS} (h : P_M_operand n a0 σ Q) : zG p l e (zrm 3 0 0) s m args below meth c (MQ below (zQc (zA base) D cA base n ex (zqv Q)) args s 0 0 (zA base)) s.heap (zA base) base D cA 2 ex prog_9_method_12_code "ConstantFlowModel" n 0 0 0 [some (.ref a0), none] [] σ := by
  unfold P_M_operand at h
  refine zw_aload_n d_M_operand_0 rfl rfl ?_
  obtain ⟨q3, h⟩ := h
  refine zw_callV (ci := 7) (b := a0) (As := []) (r := []) d_M_operand_1 (c_M_skip h) mw_4_66 mw_4_68 mp_2_11 mw_1_8 mw_4_69 (by decide) q3.1 q3.2 hyV_M_skip (Nat.le_of_ble_eq_true rfl) (Nat.le_of_ble_eq_true rfl) ⟨(Nat.le_of_ble_eq_true rfl), (Nat.le_of_ble_eq_true rfl)⟩ (Nat.le_of_ble_eq_true rfl) rfl (zk_v (fun σ2 h => ?_))
  refine zw_aload_n d_M_operand_4 rfl rfl ?_
  refine zw_aload_n d_M_operand_5 rfl rfl ?_
  refine zw_gfi (ci := 7) (j := 5) d_M_operand_6 mw_3_190 q3.1 q3.2 (by decide) (by decide) rfl ?_
  refine zw_callV (ci := 7) (b := a0) (As := [.int (zi σ2 a0 5)]) (r := []) d_M_operand_9 (c_M_byteAt h) mw_4_70 mw_4_72 mp_2_12 mw_1_8 mw_4_73 (by decide) q3.1 q3.2 hyV_M_byteAt (Nat.le_of_ble_eq_true rfl) (Nat.le_of_ble_eq_true rfl) ⟨(Nat.le_of_ble_eq_true rfl), (Nat.le_of_ble_eq_true rfl)⟩ (Nat.le_of_ble_eq_true rfl) rfl (zk_i (fun x4 σ5 h => ?_))
  refine zw_istore_n d_M_operand_12 rfl (Nat.le_of_ble_eq_true rfl) rfl rfl ?_
  refine zw_iload_n d_M_operand_13 rfl rfl ?_
  refine zw_callS (As := [.int x4]) (r := []) d_M_operand_14 (c_M_isVariable h) mw_4_98 mw_4_99 mw_1_8 mw_4_100 hyS_M_isVariable (Nat.le_of_ble_eq_true rfl) (Nat.le_of_ble_eq_true rfl) ⟨(Nat.le_of_ble_eq_true rfl), (Nat.le_of_ble_eq_true rfl)⟩ (Nat.le_of_ble_eq_true rfl) rfl (zk_i (fun x6 σ7 h => ?_))
  obtain ⟨ht, hf⟩ := h
  refine zw_if_eq (tgt := 46) d_M_operand_17 rfl (fun hc => ?_) (fun hc => ?_)
  · have h := ht hc; clear ht hf
    refine zw_iload_n d_M_operand_46 rfl rfl ?_
    refine zw_callS (As := [.int x4]) (r := []) d_M_operand_47 (c_M_isFigure h) mw_4_82 mw_4_83 mw_1_8 mw_4_84 hyS_M_isFigure (Nat.le_of_ble_eq_true rfl) (Nat.le_of_ble_eq_true rfl) ⟨(Nat.le_of_ble_eq_true rfl), (Nat.le_of_ble_eq_true rfl)⟩ (Nat.le_of_ble_eq_true rfl) rfl (zk_i (fun x8 σ9 h => ?_))
    obtain ⟨ht, hf⟩ := h
    refine zw_if_ne (tgt := 59) d_M_operand_50 rfl (fun hc => ?_) (fun hc => ?_)
    · have h := ht hc; clear ht hf
      refine zw_le (ls' := [some (.ref a0), none]) (And.intro rfl True.intro) ?_
      exact w_M_operand_59 hr h
    · have h := hf hc; clear ht hf
      refine zw_iload_n d_M_operand_53 rfl rfl ?_
      refine zw_bipush (v := 45) d_M_operand_54 rfl ?_
      obtain ⟨ht, hf⟩ := h
      refine zw_icmp_ne (tgt := 76) d_M_operand_56 rfl (fun hc => ?_) (fun hc => ?_)
      · have h := ht hc; clear ht hf
        refine zw_aload_n d_M_operand_76 rfl rfl ?_
        refine zw_iconst (v := 1) d_M_operand_77 rfl ?_
        refine zw_aload_n d_M_operand_78 rfl rfl ?_
        refine zw_gfi (ci := 7) (j := 5) d_M_operand_79 mw_3_190 q3.1 q3.2 (by decide) (by decide) rfl ?_
        refine zw_callV (ci := 7) (b := a0) (As := [.int (1 : Int32), .int (zi σ9 a0 5)]) (r := []) d_M_operand_82 (c_M_fail h) mw_4_85 mw_4_87 mp_2_15 mw_1_8 mw_4_88 (by decide) q3.1 q3.2 hyV_M_fail (Nat.le_of_ble_eq_true rfl) (Nat.le_of_ble_eq_true rfl) ⟨(Nat.le_of_ble_eq_true rfl), (Nat.le_of_ble_eq_true rfl)⟩ (Nat.le_of_ble_eq_true rfl) rfl (zk_v (fun σ11 h => ?_))
        refine zw_le (ls' := [none, none]) (True.intro) ?_
        exact w_M_operand_85 hr h
      · have h := hf hc; clear ht hf
        refine zw_le (ls' := [some (.ref a0), none]) (And.intro rfl True.intro) ?_
        exact w_M_operand_59 hr h
  · have h := hf hc; clear ht hf
    refine zw_aload_n d_M_operand_20 rfl rfl ?_
    refine zw_dup d_M_operand_21 rfl ?_
    refine zw_gfi (ci := 7) (j := 5) d_M_operand_22 mw_3_190 q3.1 q3.2 (by decide) (by decide) rfl ?_
    refine zw_iconst (v := 1) d_M_operand_25 rfl ?_
    refine zw_iadd d_M_operand_26 ?_
    refine zw_pfi (ci := 7) (j := 5) d_M_operand_27 mw_3_190 q3.1 q3.2 (by decide) (by decide) rfl rfl rfl rfl ?_
    refine zw_aload_n d_M_operand_30 rfl rfl ?_
    refine zw_iconst (v := 1) d_M_operand_31 rfl ?_
    refine zw_pfi (ci := 7) (j := 17) d_M_operand_32 mw_3_202 q3.1 q3.2 (by decide) (by decide) rfl rfl rfl rfl ?_
    refine zw_aload_n d_M_operand_35 rfl rfl ?_
    refine zw_iload_n d_M_operand_36 rfl rfl ?_
    refine zw_bipush (v := 97) d_M_operand_37 rfl ?_
    refine zw_isub d_M_operand_39 ?_
    refine zw_pfi (ci := 7) (j := 18) d_M_operand_40 mw_3_203 q3.1 q3.2 (by decide) (by decide) rfl rfl rfl rfl ?_
    refine zw_goto (tgt := 85) d_M_operand_43 rfl ?_
    refine zw_le (ls' := [none, none]) (True.intro) ?_
    exact w_M_operand_85 hr h
theorem c_M_operand {l : Launch} {D : va_G} {cA : Nat → ClassId} {base n : Nat} {ex : Bool} {Q : zS → Prop} {a0 : Nat} {σ : zS} (h : P_M_operand n a0 σ Q) : zM l y_M_operand prog_9_method_12_code 2 (none) 3 0 0 (zA base) D cA base n n ex [.ref a0] σ (zqv Q) :=
  zMet (by decide) rfl (Nat.le_of_ble_eq_true rfl) (fun p e s m args below meth c hr hnm => w_M_operand hr h)
def P_M_blockNumber (n : Nat) (a0 : Nat) (a1 : Int32) (σ : zS) (Q : Int32 → zS → Prop) : Prop := zk n a0 7 ∧ P_M_skip n a0 σ (fun σ2 => ∃ c4, zr σ2 a0 16 = some c4 ∧ za n c4 10 (((2 : Int32) * (zi σ2 a0 11)) + a1) ∧ P_M_number0 n a0 (0 : Int32) (zI σ2 c4 (((2 : Int32) * (zi σ2 a0 11)) + a1).toNatClampNeg (zi σ2 a0 5)) (fun x7 σ8 => Q x7 σ8))
set_option maxHeartbeats 1000000 in
set_option maxRecDepth 10000 in
theorem w_M_blockNumber {Q : Int32 → zS → Prop} (hr : meth.sig.returnType = some .int) {a0 : Nat} {a1 : Int32} {σ : zS} (h : P_M_blockNumber n a0 a1 σ Q) : zG p l e (zrm 3 0 0) s m args below meth c (MQ below (zQc (zA base) D cA base n ex (zqi Q)) args s 0 0 (zA base)) s.heap (zA base) base D cA 2 ex prog_9_method_13_code "ConstantFlowModel" n 0 0 0 [some (.ref a0), some (.int a1)] [] σ := by
  unfold P_M_blockNumber at h
  refine zw_aload_n d_M_blockNumber_0 rfl rfl ?_
  obtain ⟨q3, h⟩ := h
  refine zw_callV (ci := 7) (b := a0) (As := []) (r := []) d_M_blockNumber_1 (c_M_skip h) mw_4_66 mw_4_68 mp_2_11 mw_1_8 mw_4_69 (by decide) q3.1 q3.2 hyV_M_skip (Nat.le_of_ble_eq_true rfl) (Nat.le_of_ble_eq_true rfl) ⟨(Nat.le_of_ble_eq_true rfl), (Nat.le_of_ble_eq_true rfl)⟩ (Nat.le_of_ble_eq_true rfl) rfl (zk_v (fun σ2 h => ?_))
  refine zw_aload_n d_M_blockNumber_4 rfl rfl ?_
  obtain ⟨c4, q5, h⟩ := h
  refine zw_gfr (ci := 7) (j := 16) d_M_blockNumber_5 mw_3_201 q3.1 q3.2 (by decide) (by decide) rfl q5 ?_
  refine zw_iconst (v := 2) d_M_blockNumber_8 rfl ?_
  refine zw_aload_n d_M_blockNumber_9 rfl rfl ?_
  refine zw_gfi (ci := 7) (j := 11) d_M_blockNumber_10 mw_3_196 q3.1 q3.2 (by decide) (by decide) rfl ?_
  refine zw_imul d_M_blockNumber_13 ?_
  refine zw_iload_n d_M_blockNumber_14 rfl rfl ?_
  refine zw_iadd d_M_blockNumber_15 ?_
  refine zw_aload_n d_M_blockNumber_16 rfl rfl ?_
  refine zw_gfi (ci := 7) (j := 5) d_M_blockNumber_17 mw_3_190 q3.1 q3.2 (by decide) (by decide) rfl ?_
  obtain ⟨q6, h⟩ := h
  refine zw_iast d_M_blockNumber_20 q6.1 (zkd_eta q6.2.1) q6.2.2 ?_
  refine zw_aload_n d_M_blockNumber_21 rfl rfl ?_
  refine zw_iconst (v := 0) d_M_blockNumber_22 rfl ?_
  refine zw_callV (ci := 7) (b := a0) (As := [.int (0 : Int32)]) (r := []) d_M_blockNumber_23 (c_M_number0 h) mw_4_78 mw_4_80 mp_2_14 mw_1_8 mw_4_81 (by decide) q3.1 q3.2 hyV_M_number0 (Nat.le_of_ble_eq_true rfl) (Nat.le_of_ble_eq_true rfl) ⟨(Nat.le_of_ble_eq_true rfl), (Nat.le_of_ble_eq_true rfl)⟩ (Nat.le_of_ble_eq_true rfl) rfl (zk_i (fun x7 σ8 h => ?_))
  exact zw_iret d_M_blockNumber_26 hr h
theorem c_M_blockNumber {l : Launch} {D : va_G} {cA : Nat → ClassId} {base n : Nat} {ex : Bool} {Q : Int32 → zS → Prop} {a0 : Nat} {a1 : Int32} {σ : zS} (h : P_M_blockNumber n a0 a1 σ Q) : zM l y_M_blockNumber prog_9_method_13_code 2 (some .int) 3 0 0 (zA base) D cA base n n ex [.ref a0, .int a1] σ (zqi Q) :=
  zMet (by decide) rfl (Nat.le_of_ble_eq_true rfl) (fun p e s m args below meth c hr hnm => w_M_blockNumber hr h)
def P_M_follow (n : Nat) (a0 : Nat) (a1 : Int32) (σ : zS) (Q : zS → Prop) : Prop := zk n a0 7 ∧ P_M_make n a0 a1 σ (fun σ2 => ∃ c4, zr σ2 a0 23 = some c4 ∧ ∃ c6, zr σ2 a0 8 = some c6 ∧ za n c6 10 (((7 : Int32) * a1) + (0 : Int32)) ∧ za n c4 10 (zi σ2 c6 (((7 : Int32) * a1) + (0 : Int32)).toNatClampNeg) ∧ ∃ c10, zr (zI σ2 c4 (zi σ2 c6 (((7 : Int32) * a1) + (0 : Int32)).toNatClampNeg).toNatClampNeg (zi σ2 a0 25)) a0 24 = some c10 ∧ ∃ c12, zr (zI σ2 c4 (zi σ2 c6 (((7 : Int32) * a1) + (0 : Int32)).toNatClampNeg).toNatClampNeg (zi σ2 a0 25)) a0 8 = some c12 ∧ za n c12 10 (((7 : Int32) * a1) + (0 : Int32)) ∧ za n c10 10 (zi (zI σ2 c4 (zi σ2 c6 (((7 : Int32) * a1) + (0 : Int32)).toNatClampNeg).toNatClampNeg (zi σ2 a0 25)) c12 (((7 : Int32) * a1) + (0 : Int32)).toNatClampNeg) ∧ Q (zI (zI σ2 c4 (zi σ2 c6 (((7 : Int32) * a1) + (0 : Int32)).toNatClampNeg).toNatClampNeg (zi σ2 a0 25)) c10 (zi (zI σ2 c4 (zi σ2 c6 (((7 : Int32) * a1) + (0 : Int32)).toNatClampNeg).toNatClampNeg (zi σ2 a0 25)) c12 (((7 : Int32) * a1) + (0 : Int32)).toNatClampNeg).toNatClampNeg (zi (zI σ2 c4 (zi σ2 c6 (((7 : Int32) * a1) + (0 : Int32)).toNatClampNeg).toNatClampNeg (zi σ2 a0 25)) a0 26)))
set_option maxHeartbeats 1000000 in
set_option maxRecDepth 10000 in
theorem w_M_follow {Q : zS → Prop} (hr : meth.sig.returnType = none) {a0 : Nat} {a1 : Int32} {σ : zS} (h : P_M_follow n a0 a1 σ Q) : zG p l e (zrm 3 0 0) s m args below meth c (MQ below (zQc (zA base) D cA base n ex (zqv Q)) args s 0 0 (zA base)) s.heap (zA base) base D cA 2 ex prog_9_method_27_code "ConstantFlowModel" n 0 0 0 [some (.ref a0), some (.int a1)] [] σ := by
  unfold P_M_follow at h
  refine zw_aload_n d_M_follow_0 rfl rfl ?_
  refine zw_iload_n d_M_follow_1 rfl rfl ?_
  obtain ⟨q3, h⟩ := h
  refine zw_callV (ci := 7) (b := a0) (As := [.int a1]) (r := []) d_M_follow_2 (c_M_make h) mw_4_148 mw_4_150 mp_3_9 mw_1_8 mw_4_151 (by decide) q3.1 q3.2 hyV_M_make (Nat.le_of_ble_eq_true rfl) (Nat.le_of_ble_eq_true rfl) ⟨(Nat.le_of_ble_eq_true rfl), (Nat.le_of_ble_eq_true rfl)⟩ (Nat.le_of_ble_eq_true rfl) rfl (zk_v (fun σ2 h => ?_))
  refine zw_aload_n d_M_follow_5 rfl rfl ?_
  obtain ⟨c4, q5, h⟩ := h
  refine zw_gfr (ci := 7) (j := 23) d_M_follow_6 mw_3_208 q3.1 q3.2 (by decide) (by decide) rfl q5 ?_
  refine zw_aload_n d_M_follow_9 rfl rfl ?_
  obtain ⟨c6, q7, h⟩ := h
  refine zw_gfr (ci := 7) (j := 8) d_M_follow_10 mw_3_193 q3.1 q3.2 (by decide) (by decide) rfl q7 ?_
  refine zw_bipush (v := 7) d_M_follow_13 rfl ?_
  refine zw_iload_n d_M_follow_15 rfl rfl ?_
  refine zw_imul d_M_follow_16 ?_
  refine zw_iconst (v := 0) d_M_follow_17 rfl ?_
  refine zw_iadd d_M_follow_18 ?_
  obtain ⟨q8, h⟩ := h
  refine zw_iald d_M_follow_19 q8.1 (zkd_eta q8.2.1) q8.2.2 ?_
  refine zw_aload_n d_M_follow_20 rfl rfl ?_
  refine zw_gfi (ci := 7) (j := 25) d_M_follow_21 mw_3_210 q3.1 q3.2 (by decide) (by decide) rfl ?_
  obtain ⟨q9, h⟩ := h
  refine zw_iast d_M_follow_24 q9.1 (zkd_eta q9.2.1) q9.2.2 ?_
  refine zw_aload_n d_M_follow_25 rfl rfl ?_
  obtain ⟨c10, q11, h⟩ := h
  refine zw_gfr (ci := 7) (j := 24) d_M_follow_26 mw_3_209 q3.1 q3.2 (by decide) (by decide) rfl q11 ?_
  refine zw_aload_n d_M_follow_29 rfl rfl ?_
  obtain ⟨c12, q13, h⟩ := h
  refine zw_gfr (ci := 7) (j := 8) d_M_follow_30 mw_3_193 q3.1 q3.2 (by decide) (by decide) rfl q13 ?_
  refine zw_bipush (v := 7) d_M_follow_33 rfl ?_
  refine zw_iload_n d_M_follow_35 rfl rfl ?_
  refine zw_imul d_M_follow_36 ?_
  refine zw_iconst (v := 0) d_M_follow_37 rfl ?_
  refine zw_iadd d_M_follow_38 ?_
  obtain ⟨q14, h⟩ := h
  refine zw_iald d_M_follow_39 q14.1 (zkd_eta q14.2.1) q14.2.2 ?_
  refine zw_aload_n d_M_follow_40 rfl rfl ?_
  refine zw_gfi (ci := 7) (j := 26) d_M_follow_41 mw_3_211 q3.1 q3.2 (by decide) (by decide) rfl ?_
  obtain ⟨q15, h⟩ := h
  refine zw_iast d_M_follow_44 q15.1 (zkd_eta q15.2.1) q15.2.2 ?_
  exact zw_vret d_M_follow_45 hr h
theorem c_M_follow {l : Launch} {D : va_G} {cA : Nat → ClassId} {base n : Nat} {ex : Bool} {Q : zS → Prop} {a0 : Nat} {a1 : Int32} {σ : zS} (h : P_M_follow n a0 a1 σ Q) : zM l y_M_follow prog_9_method_27_code 2 (none) 3 0 0 (zA base) D cA base n n ex [.ref a0, .int a1] σ (zqv Q) :=
  zMet (by decide) rfl (Nat.le_of_ble_eq_true rfl) (fun p e s m args below meth c hr hnm => w_M_follow hr h)
def P_M_lead_101 (n : Nat) (Q : Int32 → zS → Prop) (b0 : Int32) (σ : zS) : Prop := (b0 = 0 ∨ b0 = 1) ∧ Q b0 σ
set_option maxHeartbeats 1000000 in
set_option maxRecDepth 10000 in
theorem w_M_lead_101 {Q : Int32 → zS → Prop} (hr : meth.sig.returnType = some .boolean) {b0 : Int32} {σ : zS} (h : P_M_lead_101 n Q b0 σ) : zG p l e (zrm 3 0 0) s m args below meth c (MQ below (zQc (zA base) D cA base n ex (zqi Q)) args s 0 0 (zA base)) s.heap (zA base) base D cA 5 ex prog_9_method_31_code "ConstantFlowModel" n 0 0 101 [none, none, none, none, none] [.int b0] σ := by
  unfold P_M_lead_101 at h
  obtain ⟨q1, h⟩ := h
  exact zw_zret d_M_lead_101 hr q1 h
def P_M_lead_96 (n : Nat) (Q : Int32 → zS → Prop) (σ : zS) : Prop := P_M_lead_101 n Q (1 : Int32) σ
set_option maxHeartbeats 1000000 in
set_option maxRecDepth 10000 in
theorem w_M_lead_96 {Q : Int32 → zS → Prop} (hr : meth.sig.returnType = some .boolean) {σ : zS} (h : P_M_lead_96 n Q σ) : zG p l e (zrm 3 0 0) s m args below meth c (MQ below (zQc (zA base) D cA base n ex (zqi Q)) args s 0 0 (zA base)) s.heap (zA base) base D cA 5 ex prog_9_method_31_code "ConstantFlowModel" n 0 0 96 [none, none, none, none, none] [] σ := by
  unfold P_M_lead_96 at h
  refine zw_iconst (v := 1) d_M_lead_96 rfl ?_
  refine zw_goto (tgt := 101) d_M_lead_97 rfl ?_
  exact w_M_lead_101 hr h
def P_M_lead (n : Nat) (a0 : Nat) (a1 : Int32) (σ : zS) (Q : Int32 → zS → Prop) : Prop := zk n a0 7 ∧ ∃ c2, zr σ a0 9 = some c2 ∧ za n c2 10 ((5 : Int32) * a1) ∧ ((¬ (zi σ c2 ((5 : Int32) * a1).toNatClampNeg) = 0 → ∃ c5, zr σ a0 9 = some c5 ∧ za n c5 10 ((5 : Int32) * a1) ∧ ((¬ (zi σ c5 ((5 : Int32) * a1).toNatClampNeg) = (1 : Int32) → P_M_goes n a0 a1 σ (fun x8 σ9 => ((x8 < 0 → ∃ c10, zr σ9 a0 9 = some c10 ∧ za n c10 10 (((5 : Int32) * a1) + (3 : Int32)) ∧ P_M_join n a0 (zi σ9 c10 (((5 : Int32) * a1) + (3 : Int32)).toNatClampNeg) σ9 (fun x13 σ14 => ∃ c15, zr σ14 a0 9 = some c15 ∧ za n c15 10 (((5 : Int32) * a1) + (4 : Int32)) ∧ P_M_join n a0 (zi σ14 c15 (((5 : Int32) * a1) + (4 : Int32)).toNatClampNeg) σ14 (fun x18 σ19 => ((¬ x13 = 0 → P_M_lead_96 n Q σ19) ∧ (x13 = 0 → ((x18 = 0 → P_M_lead_101 n Q (0 : Int32) σ19) ∧ (¬ (x18 = 0) → P_M_lead_96 n Q σ19))))))) ∧ (¬ (x8 < 0) → P_M_join n a0 x8 σ9 (fun x20 σ21 => (x20 = 0 ∨ x20 = 1) ∧ Q x20 σ21))))) ∧ ((zi σ c5 ((5 : Int32) * a1).toNatClampNeg) = (1 : Int32) → ∃ c23, zr σ a0 9 = some c23 ∧ za n c23 10 (((5 : Int32) * a1) + (3 : Int32)) ∧ P_M_join n a0 (zi σ c23 (((5 : Int32) * a1) + (3 : Int32)).toNatClampNeg) σ (fun x26 σ27 => (x26 = 0 ∨ x26 = 1) ∧ Q x26 σ27)))) ∧ ((zi σ c2 ((5 : Int32) * a1).toNatClampNeg) = 0 → ((0 : Int32) = 0 ∨ (0 : Int32) = 1) ∧ Q (0 : Int32) σ))
set_option maxHeartbeats 1000000 in
set_option maxRecDepth 10000 in
theorem w_M_lead {Q : Int32 → zS → Prop} (hr : meth.sig.returnType = some .boolean) {a0 : Nat} {a1 : Int32} {σ : zS} (h : P_M_lead n a0 a1 σ Q) : zG p l e (zrm 3 0 0) s m args below meth c (MQ below (zQc (zA base) D cA base n ex (zqi Q)) args s 0 0 (zA base)) s.heap (zA base) base D cA 5 ex prog_9_method_31_code "ConstantFlowModel" n 0 0 0 [some (.ref a0), some (.int a1), none, none, none] [] σ := by
  unfold P_M_lead at h
  refine zw_aload_n d_M_lead_0 rfl rfl ?_
  obtain ⟨q1, h⟩ := h
  obtain ⟨c2, q3, h⟩ := h
  refine zw_gfr (ci := 7) (j := 9) d_M_lead_1 mw_3_194 q1.1 q1.2 (by decide) (by decide) rfl q3 ?_
  refine zw_iconst (v := 5) d_M_lead_4 rfl ?_
  refine zw_iload_n d_M_lead_5 rfl rfl ?_
  refine zw_imul d_M_lead_6 ?_
  obtain ⟨q4, h⟩ := h
  refine zw_iald d_M_lead_7 q4.1 (zkd_eta q4.2.1) q4.2.2 ?_
  obtain ⟨ht, hf⟩ := h
  refine zw_if_ne (tgt := 13) d_M_lead_8 rfl (fun hc => ?_) (fun hc => ?_)
  · have h := ht hc; clear ht hf
    refine zw_aload_n d_M_lead_13 rfl rfl ?_
    obtain ⟨c5, q6, h⟩ := h
    refine zw_gfr (ci := 7) (j := 9) d_M_lead_14 mw_3_194 q1.1 q1.2 (by decide) (by decide) rfl q6 ?_
    refine zw_iconst (v := 5) d_M_lead_17 rfl ?_
    refine zw_iload_n d_M_lead_18 rfl rfl ?_
    refine zw_imul d_M_lead_19 ?_
    obtain ⟨q7, h⟩ := h
    refine zw_iald d_M_lead_20 q7.1 (zkd_eta q7.2.1) q7.2.2 ?_
    refine zw_iconst (v := 1) d_M_lead_21 rfl ?_
    obtain ⟨ht, hf⟩ := h
    refine zw_icmp_ne (tgt := 40) d_M_lead_22 rfl (fun hc => ?_) (fun hc => ?_)
    · have h := ht hc; clear ht hf
      refine zw_aload_n d_M_lead_40 rfl rfl ?_
      refine zw_iload_n d_M_lead_41 rfl rfl ?_
      refine zw_callV (ci := 7) (b := a0) (As := [.int a1]) (r := []) d_M_lead_42 (c_M_goes h) mw_4_171 mw_4_173 mp_3_14 mw_1_8 mw_4_174 (by decide) q1.1 q1.2 hyV_M_goes (Nat.le_of_ble_eq_true rfl) (Nat.le_of_ble_eq_true rfl) ⟨(Nat.le_of_ble_eq_true rfl), (Nat.le_of_ble_eq_true rfl)⟩ (Nat.le_of_ble_eq_true rfl) rfl (zk_i (fun x8 σ9 h => ?_))
      refine zw_istore_n d_M_lead_45 rfl (Nat.le_of_ble_eq_true rfl) rfl rfl ?_
      refine zw_iload_n d_M_lead_46 rfl rfl ?_
      obtain ⟨ht, hf⟩ := h
      refine zw_if_lt (tgt := 56) d_M_lead_47 rfl (fun hc => ?_) (fun hc => ?_)
      · have h := ht hc; clear ht hf
        refine zw_aload_n d_M_lead_56 rfl rfl ?_
        refine zw_aload_n d_M_lead_57 rfl rfl ?_
        obtain ⟨c10, q11, h⟩ := h
        refine zw_gfr (ci := 7) (j := 9) d_M_lead_58 mw_3_194 q1.1 q1.2 (by decide) (by decide) rfl q11 ?_
        refine zw_iconst (v := 5) d_M_lead_61 rfl ?_
        refine zw_iload_n d_M_lead_62 rfl rfl ?_
        refine zw_imul d_M_lead_63 ?_
        refine zw_iconst (v := 3) d_M_lead_64 rfl ?_
        refine zw_iadd d_M_lead_65 ?_
        obtain ⟨q12, h⟩ := h
        refine zw_iald d_M_lead_66 q12.1 (zkd_eta q12.2.1) q12.2.2 ?_
        refine zw_callV (ci := 7) (b := a0) (As := [.int (zi σ9 c10 (((5 : Int32) * a1) + (3 : Int32)).toNatClampNeg)]) (r := []) d_M_lead_67 (c_M_join h) mw_4_167 mw_4_169 mp_3_13 mw_1_8 mw_4_170 (by decide) q1.1 q1.2 hyV_M_join (Nat.le_of_ble_eq_true rfl) (Nat.le_of_ble_eq_true rfl) ⟨(Nat.le_of_ble_eq_true rfl), (Nat.le_of_ble_eq_true rfl)⟩ (Nat.le_of_ble_eq_true rfl) rfl (zk_i (fun x13 σ14 h => ?_))
        refine zw_istore_n d_M_lead_70 rfl (Nat.le_of_ble_eq_true rfl) rfl rfl ?_
        refine zw_aload_n d_M_lead_71 rfl rfl ?_
        refine zw_aload_n d_M_lead_72 rfl rfl ?_
        obtain ⟨c15, q16, h⟩ := h
        refine zw_gfr (ci := 7) (j := 9) d_M_lead_73 mw_3_194 q1.1 q1.2 (by decide) (by decide) rfl q16 ?_
        refine zw_iconst (v := 5) d_M_lead_76 rfl ?_
        refine zw_iload_n d_M_lead_77 rfl rfl ?_
        refine zw_imul d_M_lead_78 ?_
        refine zw_iconst (v := 4) d_M_lead_79 rfl ?_
        refine zw_iadd d_M_lead_80 ?_
        obtain ⟨q17, h⟩ := h
        refine zw_iald d_M_lead_81 q17.1 (zkd_eta q17.2.1) q17.2.2 ?_
        refine zw_callV (ci := 7) (b := a0) (As := [.int (zi σ14 c15 (((5 : Int32) * a1) + (4 : Int32)).toNatClampNeg)]) (r := []) d_M_lead_82 (c_M_join h) mw_4_167 mw_4_169 mp_3_13 mw_1_8 mw_4_170 (by decide) q1.1 q1.2 hyV_M_join (Nat.le_of_ble_eq_true rfl) (Nat.le_of_ble_eq_true rfl) ⟨(Nat.le_of_ble_eq_true rfl), (Nat.le_of_ble_eq_true rfl)⟩ (Nat.le_of_ble_eq_true rfl) rfl (zk_i (fun x18 σ19 h => ?_))
        refine zw_istore d_M_lead_85 (Nat.le_of_ble_eq_true rfl) rfl rfl ?_
        refine zw_iload_n d_M_lead_87 rfl rfl ?_
        obtain ⟨ht, hf⟩ := h
        refine zw_if_ne (tgt := 96) d_M_lead_88 rfl (fun hc => ?_) (fun hc => ?_)
        · have h := ht hc; clear ht hf
          refine zw_le (ls' := [none, none, none, none, none]) (True.intro) ?_
          exact w_M_lead_96 hr h
        · have h := hf hc; clear ht hf
          refine zw_iload d_M_lead_91 rfl ?_
          obtain ⟨ht, hf⟩ := h
          refine zw_if_eq (tgt := 100) d_M_lead_93 rfl (fun hc => ?_) (fun hc => ?_)
          · have h := ht hc; clear ht hf
            refine zw_iconst (v := 0) d_M_lead_100 rfl ?_
            refine zw_le (ls' := [none, none, none, none, none]) (True.intro) ?_
            exact w_M_lead_101 hr h
          · have h := hf hc; clear ht hf
            refine zw_le (ls' := [none, none, none, none, none]) (True.intro) ?_
            exact w_M_lead_96 hr h
      · have h := hf hc; clear ht hf
        refine zw_aload_n d_M_lead_50 rfl rfl ?_
        refine zw_iload_n d_M_lead_51 rfl rfl ?_
        refine zw_callV (ci := 7) (b := a0) (As := [.int x8]) (r := []) d_M_lead_52 (c_M_join h) mw_4_167 mw_4_169 mp_3_13 mw_1_8 mw_4_170 (by decide) q1.1 q1.2 hyV_M_join (Nat.le_of_ble_eq_true rfl) (Nat.le_of_ble_eq_true rfl) ⟨(Nat.le_of_ble_eq_true rfl), (Nat.le_of_ble_eq_true rfl)⟩ (Nat.le_of_ble_eq_true rfl) rfl (zk_i (fun x20 σ21 h => ?_))
        obtain ⟨q22, h⟩ := h
        exact zw_zret d_M_lead_55 hr q22 h
    · have h := hf hc; clear ht hf
      refine zw_aload_n d_M_lead_25 rfl rfl ?_
      refine zw_aload_n d_M_lead_26 rfl rfl ?_
      obtain ⟨c23, q24, h⟩ := h
      refine zw_gfr (ci := 7) (j := 9) d_M_lead_27 mw_3_194 q1.1 q1.2 (by decide) (by decide) rfl q24 ?_
      refine zw_iconst (v := 5) d_M_lead_30 rfl ?_
      refine zw_iload_n d_M_lead_31 rfl rfl ?_
      refine zw_imul d_M_lead_32 ?_
      refine zw_iconst (v := 3) d_M_lead_33 rfl ?_
      refine zw_iadd d_M_lead_34 ?_
      obtain ⟨q25, h⟩ := h
      refine zw_iald d_M_lead_35 q25.1 (zkd_eta q25.2.1) q25.2.2 ?_
      refine zw_callV (ci := 7) (b := a0) (As := [.int (zi σ c23 (((5 : Int32) * a1) + (3 : Int32)).toNatClampNeg)]) (r := []) d_M_lead_36 (c_M_join h) mw_4_167 mw_4_169 mp_3_13 mw_1_8 mw_4_170 (by decide) q1.1 q1.2 hyV_M_join (Nat.le_of_ble_eq_true rfl) (Nat.le_of_ble_eq_true rfl) ⟨(Nat.le_of_ble_eq_true rfl), (Nat.le_of_ble_eq_true rfl)⟩ (Nat.le_of_ble_eq_true rfl) rfl (zk_i (fun x26 σ27 h => ?_))
      obtain ⟨q28, h⟩ := h
      exact zw_zret d_M_lead_39 hr q28 h
  · have h := hf hc; clear ht hf
    refine zw_iconst (v := 0) d_M_lead_11 rfl ?_
    obtain ⟨q29, h⟩ := h
    exact zw_zret d_M_lead_12 hr q29 h
theorem c_M_lead {l : Launch} {D : va_G} {cA : Nat → ClassId} {base n : Nat} {ex : Bool} {Q : Int32 → zS → Prop} {a0 : Nat} {a1 : Int32} {σ : zS} (h : P_M_lead n a0 a1 σ Q) : zM l y_M_lead prog_9_method_31_code 5 (some .boolean) 3 0 0 (zA base) D cA base n n ex [.ref a0, .int a1] σ (zqi Q) :=
  zMet (by decide) rfl (Nat.le_of_ble_eq_true rfl) (fun p e s m args below meth c hr hnm => w_M_lead hr h)
def P_M_putOperand_31 (n : Nat) (Q : zS → Prop) (σ : zS) : Prop := Q σ
set_option maxHeartbeats 1000000 in
set_option maxRecDepth 10000 in
theorem w_M_putOperand_31 {Q : zS → Prop} (hr : meth.sig.returnType = none) {σ : zS} (h : P_M_putOperand_31 n Q σ) : zG p l e (zrm 3 0 0) s m args below meth c (MQ below (zQc (zA base) D cA base n ex (zqv Q)) args s 0 0 (zA base)) s.heap (zA base) base D cA 3 ex prog_9_method_41_code "ConstantFlowModel" n 0 0 31 [none, none, none] [] σ := by
  unfold P_M_putOperand_31 at h
  exact zw_vret d_M_putOperand_31 hr h
def P_M_putOperand (n : Nat) (a0 : Nat) (a1 : Int32) (a2 : Int32) (σ : zS) (Q : zS → Prop) : Prop := zk n a0 7 ∧ P_M_sortOf n a0 a1 a2 σ (fun x1 σ2 => ((¬ x1 = (1 : Int32) → P_M_put n a0 ((97 : Int32) + a2) σ2 (fun σ5 => P_M_putOperand_31 n Q σ5)) ∧ (x1 = (1 : Int32) → P_M_numberOf n a0 a1 a2 σ2 (fun x6 σ7 => P_M_putNumber n a0 x6 σ7 (fun σ9 => P_M_putOperand_31 n Q σ9)))))
set_option maxHeartbeats 1000000 in
set_option maxRecDepth 10000 in
theorem w_M_putOperand {Q : zS → Prop} (hr : meth.sig.returnType = none) {a0 : Nat} {a1 : Int32} {a2 : Int32} {σ : zS} (h : P_M_putOperand n a0 a1 a2 σ Q) : zG p l e (zrm 3 0 0) s m args below meth c (MQ below (zQc (zA base) D cA base n ex (zqv Q)) args s 0 0 (zA base)) s.heap (zA base) base D cA 3 ex prog_9_method_41_code "ConstantFlowModel" n 0 0 0 [some (.ref a0), some (.int a1), some (.int a2)] [] σ := by
  unfold P_M_putOperand at h
  refine zw_aload_n d_M_putOperand_0 rfl rfl ?_
  refine zw_iload_n d_M_putOperand_1 rfl rfl ?_
  refine zw_iload_n d_M_putOperand_2 rfl rfl ?_
  obtain ⟨q3, h⟩ := h
  refine zw_callV (ci := 7) (b := a0) (As := [.int a1, .int a2]) (r := []) d_M_putOperand_3 (c_M_sortOf h) mw_4_156 mw_4_158 mp_3_11 mw_1_8 mw_4_159 (by decide) q3.1 q3.2 hyV_M_sortOf (Nat.le_of_ble_eq_true rfl) (Nat.le_of_ble_eq_true rfl) ⟨(Nat.le_of_ble_eq_true rfl), (Nat.le_of_ble_eq_true rfl)⟩ (Nat.le_of_ble_eq_true rfl) rfl (zk_i (fun x1 σ2 h => ?_))
  refine zw_iconst (v := 1) d_M_putOperand_6 rfl ?_
  obtain ⟨ht, hf⟩ := h
  refine zw_icmp_ne (tgt := 23) d_M_putOperand_7 rfl (fun hc => ?_) (fun hc => ?_)
  · have h := ht hc; clear ht hf
    refine zw_aload_n d_M_putOperand_23 rfl rfl ?_
    refine zw_bipush (v := 97) d_M_putOperand_24 rfl ?_
    refine zw_iload_n d_M_putOperand_26 rfl rfl ?_
    refine zw_iadd d_M_putOperand_27 ?_
    refine zw_callV (ci := 7) (b := a0) (As := [.int ((97 : Int32) + a2)]) (r := []) d_M_putOperand_28 (c_M_put h) mw_4_199 mw_4_201 mp_4_1 mw_1_8 mw_4_202 (by decide) q3.1 q3.2 hyV_M_put (Nat.le_of_ble_eq_true rfl) (Nat.le_of_ble_eq_true rfl) ⟨(Nat.le_of_ble_eq_true rfl), (Nat.le_of_ble_eq_true rfl)⟩ (Nat.le_of_ble_eq_true rfl) rfl (zk_v (fun σ5 h => ?_))
    refine zw_le (ls' := [none, none, none]) (True.intro) ?_
    exact w_M_putOperand_31 hr h
  · have h := hf hc; clear ht hf
    refine zw_aload_n d_M_putOperand_10 rfl rfl ?_
    refine zw_aload_n d_M_putOperand_11 rfl rfl ?_
    refine zw_iload_n d_M_putOperand_12 rfl rfl ?_
    refine zw_iload_n d_M_putOperand_13 rfl rfl ?_
    refine zw_callV (ci := 7) (b := a0) (As := [.int a1, .int a2]) (r := [.ref a0]) d_M_putOperand_14 (c_M_numberOf h) mw_4_152 mw_4_154 mp_3_10 mw_1_8 mw_4_155 (by decide) q3.1 q3.2 hyV_M_numberOf (Nat.le_of_ble_eq_true rfl) (Nat.le_of_ble_eq_true rfl) ⟨(Nat.le_of_ble_eq_true rfl), (Nat.le_of_ble_eq_true rfl)⟩ (Nat.le_of_ble_eq_true rfl) rfl (zk_i (fun x6 σ7 h => ?_))
    refine zw_callV (ci := 7) (b := a0) (As := [.int x6]) (r := []) d_M_putOperand_17 (c_M_putNumber h) mw_4_203 mw_4_205 mp_4_2 mw_1_8 mw_4_206 (by decide) q3.1 q3.2 hyV_M_putNumber (Nat.le_of_ble_eq_true rfl) (Nat.le_of_ble_eq_true rfl) ⟨(Nat.le_of_ble_eq_true rfl), (Nat.le_of_ble_eq_true rfl)⟩ (Nat.le_of_ble_eq_true rfl) rfl (zk_v (fun σ9 h => ?_))
    refine zw_goto (tgt := 31) d_M_putOperand_20 rfl ?_
    refine zw_le (ls' := [none, none, none]) (True.intro) ?_
    exact w_M_putOperand_31 hr h
theorem c_M_putOperand {l : Launch} {D : va_G} {cA : Nat → ClassId} {base n : Nat} {ex : Bool} {Q : zS → Prop} {a0 : Nat} {a1 : Int32} {a2 : Int32} {σ : zS} (h : P_M_putOperand n a0 a1 a2 σ Q) : zM l y_M_putOperand prog_9_method_41_code 3 (none) 3 0 0 (zA base) D cA base n n ex [.ref a0, .int a1, .int a2] σ (zqv Q) :=
  zMet (by decide) rfl (Nat.le_of_ble_eq_true rfl) (fun p e s m args below meth c hr hnm => w_M_putOperand hr h)
def P_M_putEnd_46 (n : Nat) (Q : zS → Prop) (a0 : Nat) (a2 : Int32) (b0 : Int32) (σ : zS) : Prop := ((b0 < 0 → zk n a0 7 ∧ ∃ c2, zr σ a0 9 = some c2 ∧ za n c2 10 ((a2 + (1 : Int32)) + (1 : Int32)) ∧ P_M_put n a0 ((97 : Int32) + (zi σ c2 ((a2 + (1 : Int32)) + (1 : Int32)).toNatClampNeg)) σ (fun σ6 => P_M_put n a0 (63 : Int32) σ6 (fun σ8 => ∃ c9, zr σ8 a0 9 = some c9 ∧ za n c9 10 (a2 + (3 : Int32)) ∧ P_M_newNumber n a0 (zi σ8 c9 (a2 + (3 : Int32)).toNatClampNeg) σ8 (fun x12 σ13 => P_M_putNumber n a0 x12 σ13 (fun σ15 => P_M_put n a0 (58 : Int32) σ15 (fun σ17 => ∃ c18, zr σ17 a0 9 = some c18 ∧ za n c18 10 (a2 + (4 : Int32)) ∧ P_M_newNumber n a0 (zi σ17 c18 (a2 + (4 : Int32)).toNatClampNeg) σ17 (fun x21 σ22 => P_M_putNumber n a0 x21 σ22 (fun σ24 => Q σ24)))))))) ∧ (¬ (b0 < 0) → zk n a0 7 ∧ P_M_put n a0 (62 : Int32) σ (fun σ26 => P_M_newNumber n a0 b0 σ26 (fun x28 σ29 => P_M_putNumber n a0 x28 σ29 (fun σ31 => Q σ31)))))
set_option maxHeartbeats 1000000 in
set_option maxRecDepth 10000 in
theorem w_M_putEnd_46 {Q : zS → Prop} (hr : meth.sig.returnType = none) {a0 : Nat} {a2 : Int32} {b0 : Int32} {σ : zS} (h : P_M_putEnd_46 n Q a0 a2 b0 σ) : zG p l e (zrm 3 0 0) s m args below meth c (MQ below (zQc (zA base) D cA base n ex (zqv Q)) args s 0 0 (zA base)) s.heap (zA base) base D cA 4 ex prog_9_method_44_code "ConstantFlowModel" n 0 0 46 [some (.ref a0), none, some (.int a2), none] [.int b0] σ := by
  unfold P_M_putEnd_46 at h
  refine zw_istore_n d_M_putEnd_46 rfl (Nat.le_of_ble_eq_true rfl) rfl rfl ?_
  refine zw_iload_n d_M_putEnd_47 rfl rfl ?_
  obtain ⟨ht, hf⟩ := h
  refine zw_if_lt (tgt := 67) d_M_putEnd_48 rfl (fun hc => ?_) (fun hc => ?_)
  · have h := ht hc; clear ht hf
    refine zw_aload_n d_M_putEnd_67 rfl rfl ?_
    refine zw_bipush (v := 97) d_M_putEnd_68 rfl ?_
    refine zw_aload_n d_M_putEnd_70 rfl rfl ?_
    obtain ⟨q1, h⟩ := h
    obtain ⟨c2, q3, h⟩ := h
    refine zw_gfr (ci := 7) (j := 9) d_M_putEnd_71 mw_3_194 q1.1 q1.2 (by decide) (by decide) rfl q3 ?_
    refine zw_iload_n d_M_putEnd_74 rfl rfl ?_
    refine zw_iconst (v := 1) d_M_putEnd_75 rfl ?_
    refine zw_iadd d_M_putEnd_76 ?_
    refine zw_iconst (v := 1) d_M_putEnd_77 rfl ?_
    refine zw_iadd d_M_putEnd_78 ?_
    obtain ⟨q4, h⟩ := h
    refine zw_iald d_M_putEnd_79 q4.1 (zkd_eta q4.2.1) q4.2.2 ?_
    refine zw_iadd d_M_putEnd_80 ?_
    refine zw_callV (ci := 7) (b := a0) (As := [.int ((97 : Int32) + (zi σ c2 ((a2 + (1 : Int32)) + (1 : Int32)).toNatClampNeg))]) (r := []) d_M_putEnd_81 (c_M_put h) mw_4_199 mw_4_201 mp_4_1 mw_1_8 mw_4_202 (by decide) q1.1 q1.2 hyV_M_put (Nat.le_of_ble_eq_true rfl) (Nat.le_of_ble_eq_true rfl) ⟨(Nat.le_of_ble_eq_true rfl), (Nat.le_of_ble_eq_true rfl)⟩ (Nat.le_of_ble_eq_true rfl) rfl (zk_v (fun σ6 h => ?_))
    refine zw_aload_n d_M_putEnd_84 rfl rfl ?_
    refine zw_bipush (v := 63) d_M_putEnd_85 rfl ?_
    refine zw_callV (ci := 7) (b := a0) (As := [.int (63 : Int32)]) (r := []) d_M_putEnd_87 (c_M_put h) mw_4_199 mw_4_201 mp_4_1 mw_1_8 mw_4_202 (by decide) q1.1 q1.2 hyV_M_put (Nat.le_of_ble_eq_true rfl) (Nat.le_of_ble_eq_true rfl) ⟨(Nat.le_of_ble_eq_true rfl), (Nat.le_of_ble_eq_true rfl)⟩ (Nat.le_of_ble_eq_true rfl) rfl (zk_v (fun σ8 h => ?_))
    refine zw_aload_n d_M_putEnd_90 rfl rfl ?_
    refine zw_aload_n d_M_putEnd_91 rfl rfl ?_
    refine zw_aload_n d_M_putEnd_92 rfl rfl ?_
    obtain ⟨c9, q10, h⟩ := h
    refine zw_gfr (ci := 7) (j := 9) d_M_putEnd_93 mw_3_194 q1.1 q1.2 (by decide) (by decide) rfl q10 ?_
    refine zw_iload_n d_M_putEnd_96 rfl rfl ?_
    refine zw_iconst (v := 3) d_M_putEnd_97 rfl ?_
    refine zw_iadd d_M_putEnd_98 ?_
    obtain ⟨q11, h⟩ := h
    refine zw_iald d_M_putEnd_99 q11.1 (zkd_eta q11.2.1) q11.2.2 ?_
    refine zw_callV (ci := 7) (b := a0) (As := [.int (zi σ8 c9 (a2 + (3 : Int32)).toNatClampNeg)]) (r := [.ref a0]) d_M_putEnd_100 (c_M_newNumber h) mw_4_218 mw_4_220 mp_4_5 mw_1_8 mw_4_221 (by decide) q1.1 q1.2 hyV_M_newNumber (Nat.le_of_ble_eq_true rfl) (Nat.le_of_ble_eq_true rfl) ⟨(Nat.le_of_ble_eq_true rfl), (Nat.le_of_ble_eq_true rfl)⟩ (Nat.le_of_ble_eq_true rfl) rfl (zk_i (fun x12 σ13 h => ?_))
    refine zw_callV (ci := 7) (b := a0) (As := [.int x12]) (r := []) d_M_putEnd_103 (c_M_putNumber h) mw_4_203 mw_4_205 mp_4_2 mw_1_8 mw_4_206 (by decide) q1.1 q1.2 hyV_M_putNumber (Nat.le_of_ble_eq_true rfl) (Nat.le_of_ble_eq_true rfl) ⟨(Nat.le_of_ble_eq_true rfl), (Nat.le_of_ble_eq_true rfl)⟩ (Nat.le_of_ble_eq_true rfl) rfl (zk_v (fun σ15 h => ?_))
    refine zw_aload_n d_M_putEnd_106 rfl rfl ?_
    refine zw_bipush (v := 58) d_M_putEnd_107 rfl ?_
    refine zw_callV (ci := 7) (b := a0) (As := [.int (58 : Int32)]) (r := []) d_M_putEnd_109 (c_M_put h) mw_4_199 mw_4_201 mp_4_1 mw_1_8 mw_4_202 (by decide) q1.1 q1.2 hyV_M_put (Nat.le_of_ble_eq_true rfl) (Nat.le_of_ble_eq_true rfl) ⟨(Nat.le_of_ble_eq_true rfl), (Nat.le_of_ble_eq_true rfl)⟩ (Nat.le_of_ble_eq_true rfl) rfl (zk_v (fun σ17 h => ?_))
    refine zw_aload_n d_M_putEnd_112 rfl rfl ?_
    refine zw_aload_n d_M_putEnd_113 rfl rfl ?_
    refine zw_aload_n d_M_putEnd_114 rfl rfl ?_
    obtain ⟨c18, q19, h⟩ := h
    refine zw_gfr (ci := 7) (j := 9) d_M_putEnd_115 mw_3_194 q1.1 q1.2 (by decide) (by decide) rfl q19 ?_
    refine zw_iload_n d_M_putEnd_118 rfl rfl ?_
    refine zw_iconst (v := 4) d_M_putEnd_119 rfl ?_
    refine zw_iadd d_M_putEnd_120 ?_
    obtain ⟨q20, h⟩ := h
    refine zw_iald d_M_putEnd_121 q20.1 (zkd_eta q20.2.1) q20.2.2 ?_
    refine zw_callV (ci := 7) (b := a0) (As := [.int (zi σ17 c18 (a2 + (4 : Int32)).toNatClampNeg)]) (r := [.ref a0]) d_M_putEnd_122 (c_M_newNumber h) mw_4_218 mw_4_220 mp_4_5 mw_1_8 mw_4_221 (by decide) q1.1 q1.2 hyV_M_newNumber (Nat.le_of_ble_eq_true rfl) (Nat.le_of_ble_eq_true rfl) ⟨(Nat.le_of_ble_eq_true rfl), (Nat.le_of_ble_eq_true rfl)⟩ (Nat.le_of_ble_eq_true rfl) rfl (zk_i (fun x21 σ22 h => ?_))
    refine zw_callV (ci := 7) (b := a0) (As := [.int x21]) (r := []) d_M_putEnd_125 (c_M_putNumber h) mw_4_203 mw_4_205 mp_4_2 mw_1_8 mw_4_206 (by decide) q1.1 q1.2 hyV_M_putNumber (Nat.le_of_ble_eq_true rfl) (Nat.le_of_ble_eq_true rfl) ⟨(Nat.le_of_ble_eq_true rfl), (Nat.le_of_ble_eq_true rfl)⟩ (Nat.le_of_ble_eq_true rfl) rfl (zk_v (fun σ24 h => ?_))
    exact zw_vret d_M_putEnd_128 hr h
  · have h := hf hc; clear ht hf
    refine zw_aload_n d_M_putEnd_51 rfl rfl ?_
    refine zw_bipush (v := 62) d_M_putEnd_52 rfl ?_
    obtain ⟨q27, h⟩ := h
    refine zw_callV (ci := 7) (b := a0) (As := [.int (62 : Int32)]) (r := []) d_M_putEnd_54 (c_M_put h) mw_4_199 mw_4_201 mp_4_1 mw_1_8 mw_4_202 (by decide) q27.1 q27.2 hyV_M_put (Nat.le_of_ble_eq_true rfl) (Nat.le_of_ble_eq_true rfl) ⟨(Nat.le_of_ble_eq_true rfl), (Nat.le_of_ble_eq_true rfl)⟩ (Nat.le_of_ble_eq_true rfl) rfl (zk_v (fun σ26 h => ?_))
    refine zw_aload_n d_M_putEnd_57 rfl rfl ?_
    refine zw_aload_n d_M_putEnd_58 rfl rfl ?_
    refine zw_iload_n d_M_putEnd_59 rfl rfl ?_
    refine zw_callV (ci := 7) (b := a0) (As := [.int b0]) (r := [.ref a0]) d_M_putEnd_60 (c_M_newNumber h) mw_4_218 mw_4_220 mp_4_5 mw_1_8 mw_4_221 (by decide) q27.1 q27.2 hyV_M_newNumber (Nat.le_of_ble_eq_true rfl) (Nat.le_of_ble_eq_true rfl) ⟨(Nat.le_of_ble_eq_true rfl), (Nat.le_of_ble_eq_true rfl)⟩ (Nat.le_of_ble_eq_true rfl) rfl (zk_i (fun x28 σ29 h => ?_))
    refine zw_callV (ci := 7) (b := a0) (As := [.int x28]) (r := []) d_M_putEnd_63 (c_M_putNumber h) mw_4_203 mw_4_205 mp_4_2 mw_1_8 mw_4_206 (by decide) q27.1 q27.2 hyV_M_putNumber (Nat.le_of_ble_eq_true rfl) (Nat.le_of_ble_eq_true rfl) ⟨(Nat.le_of_ble_eq_true rfl), (Nat.le_of_ble_eq_true rfl)⟩ (Nat.le_of_ble_eq_true rfl) rfl (zk_v (fun σ31 h => ?_))
    exact zw_vret d_M_putEnd_66 hr h
def P_M_putEnd (n : Nat) (a0 : Nat) (a1 : Int32) (σ : zS) (Q : zS → Prop) : Prop := zk n a0 7 ∧ ∃ c2, zr σ a0 9 = some c2 ∧ za n c2 10 ((5 : Int32) * a1) ∧ ((¬ (zi σ c2 ((5 : Int32) * a1).toNatClampNeg) = 0 → ∃ c5, zr σ a0 9 = some c5 ∧ za n c5 10 ((5 : Int32) * a1) ∧ ((¬ (zi σ c5 ((5 : Int32) * a1).toNatClampNeg) = (1 : Int32) → P_M_goes n a0 a1 σ (fun x8 σ9 => P_M_putEnd_46 n Q a0 ((5 : Int32) * a1) x8 σ9)) ∧ ((zi σ c5 ((5 : Int32) * a1).toNatClampNeg) = (1 : Int32) → ∃ c10, zr σ a0 9 = some c10 ∧ za n c10 10 (((5 : Int32) * a1) + (3 : Int32)) ∧ P_M_putEnd_46 n Q a0 ((5 : Int32) * a1) (zi σ c10 (((5 : Int32) * a1) + (3 : Int32)).toNatClampNeg) σ))) ∧ ((zi σ c2 ((5 : Int32) * a1).toNatClampNeg) = 0 → P_M_put n a0 (46 : Int32) σ (fun σ14 => Q σ14)))
set_option maxHeartbeats 1000000 in
set_option maxRecDepth 10000 in
theorem w_M_putEnd {Q : zS → Prop} (hr : meth.sig.returnType = none) {a0 : Nat} {a1 : Int32} {σ : zS} (h : P_M_putEnd n a0 a1 σ Q) : zG p l e (zrm 3 0 0) s m args below meth c (MQ below (zQc (zA base) D cA base n ex (zqv Q)) args s 0 0 (zA base)) s.heap (zA base) base D cA 4 ex prog_9_method_44_code "ConstantFlowModel" n 0 0 0 [some (.ref a0), some (.int a1), none, none] [] σ := by
  unfold P_M_putEnd at h
  refine zw_iconst (v := 5) d_M_putEnd_0 rfl ?_
  refine zw_iload_n d_M_putEnd_1 rfl rfl ?_
  refine zw_imul d_M_putEnd_2 ?_
  refine zw_istore_n d_M_putEnd_3 rfl (Nat.le_of_ble_eq_true rfl) rfl rfl ?_
  refine zw_aload_n d_M_putEnd_4 rfl rfl ?_
  obtain ⟨q1, h⟩ := h
  obtain ⟨c2, q3, h⟩ := h
  refine zw_gfr (ci := 7) (j := 9) d_M_putEnd_5 mw_3_194 q1.1 q1.2 (by decide) (by decide) rfl q3 ?_
  refine zw_iload_n d_M_putEnd_8 rfl rfl ?_
  obtain ⟨q4, h⟩ := h
  refine zw_iald d_M_putEnd_9 q4.1 (zkd_eta q4.2.1) q4.2.2 ?_
  obtain ⟨ht, hf⟩ := h
  refine zw_if_ne (tgt := 20) d_M_putEnd_10 rfl (fun hc => ?_) (fun hc => ?_)
  · have h := ht hc; clear ht hf
    refine zw_aload_n d_M_putEnd_20 rfl rfl ?_
    obtain ⟨c5, q6, h⟩ := h
    refine zw_gfr (ci := 7) (j := 9) d_M_putEnd_21 mw_3_194 q1.1 q1.2 (by decide) (by decide) rfl q6 ?_
    refine zw_iload_n d_M_putEnd_24 rfl rfl ?_
    obtain ⟨q7, h⟩ := h
    refine zw_iald d_M_putEnd_25 q7.1 (zkd_eta q7.2.1) q7.2.2 ?_
    refine zw_iconst (v := 1) d_M_putEnd_26 rfl ?_
    obtain ⟨ht, hf⟩ := h
    refine zw_icmp_ne (tgt := 41) d_M_putEnd_27 rfl (fun hc => ?_) (fun hc => ?_)
    · have h := ht hc; clear ht hf
      refine zw_aload_n d_M_putEnd_41 rfl rfl ?_
      refine zw_iload_n d_M_putEnd_42 rfl rfl ?_
      refine zw_callV (ci := 7) (b := a0) (As := [.int a1]) (r := []) d_M_putEnd_43 (c_M_goes h) mw_4_171 mw_4_173 mp_3_14 mw_1_8 mw_4_174 (by decide) q1.1 q1.2 hyV_M_goes (Nat.le_of_ble_eq_true rfl) (Nat.le_of_ble_eq_true rfl) ⟨(Nat.le_of_ble_eq_true rfl), (Nat.le_of_ble_eq_true rfl)⟩ (Nat.le_of_ble_eq_true rfl) rfl (zk_i (fun x8 σ9 h => ?_))
      refine zw_le (ls' := [some (.ref a0), none, some (.int ((5 : Int32) * a1)), none]) (And.intro rfl (And.intro rfl True.intro)) ?_
      exact w_M_putEnd_46 hr h
    · have h := hf hc; clear ht hf
      refine zw_aload_n d_M_putEnd_30 rfl rfl ?_
      obtain ⟨c10, q11, h⟩ := h
      refine zw_gfr (ci := 7) (j := 9) d_M_putEnd_31 mw_3_194 q1.1 q1.2 (by decide) (by decide) rfl q11 ?_
      refine zw_iload_n d_M_putEnd_34 rfl rfl ?_
      refine zw_iconst (v := 3) d_M_putEnd_35 rfl ?_
      refine zw_iadd d_M_putEnd_36 ?_
      obtain ⟨q12, h⟩ := h
      refine zw_iald d_M_putEnd_37 q12.1 (zkd_eta q12.2.1) q12.2.2 ?_
      refine zw_goto (tgt := 46) d_M_putEnd_38 rfl ?_
      refine zw_le (ls' := [some (.ref a0), none, some (.int ((5 : Int32) * a1)), none]) (And.intro rfl (And.intro rfl True.intro)) ?_
      exact w_M_putEnd_46 hr h
  · have h := hf hc; clear ht hf
    refine zw_aload_n d_M_putEnd_13 rfl rfl ?_
    refine zw_bipush (v := 46) d_M_putEnd_14 rfl ?_
    refine zw_callV (ci := 7) (b := a0) (As := [.int (46 : Int32)]) (r := []) d_M_putEnd_16 (c_M_put h) mw_4_199 mw_4_201 mp_4_1 mw_1_8 mw_4_202 (by decide) q1.1 q1.2 hyV_M_put (Nat.le_of_ble_eq_true rfl) (Nat.le_of_ble_eq_true rfl) ⟨(Nat.le_of_ble_eq_true rfl), (Nat.le_of_ble_eq_true rfl)⟩ (Nat.le_of_ble_eq_true rfl) rfl (zk_v (fun σ14 h => ?_))
    exact zw_vret d_M_putEnd_19 hr h
theorem c_M_putEnd {l : Launch} {D : va_G} {cA : Nat → ClassId} {base n : Nat} {ex : Bool} {Q : zS → Prop} {a0 : Nat} {a1 : Int32} {σ : zS} (h : P_M_putEnd n a0 a1 σ Q) : zM l y_M_putEnd prog_9_method_44_code 4 (none) 3 0 0 (zA base) D cA base n n ex [.ref a0, .int a1] σ (zqv Q) :=
  zMet (by decide) rfl (Nat.le_of_ble_eq_true rfl) (fun p e s m args below meth c hr hnm => w_M_putEnd hr h)
def P_M_run_196 (n : Nat) (Q : Int32 → zS → Prop) (K67 : Nat → Int32 → Int32 → Int32 → Int32 → zS → Prop) (a0 : Nat) (a1 : Int32) (a2 : Int32) (a3 : Int32) (a4 : Int32) (σ : zS) : Prop := K67 a0 a1 a2 a3 (a4 + (1 : Int32)) σ
set_option maxHeartbeats 1000000 in
set_option maxRecDepth 10000 in
theorem w_M_run_196 {Q : Int32 → zS → Prop} {K67 : Nat → Int32 → Int32 → Int32 → Int32 → zS → Prop} (hr : meth.sig.returnType = some .int) (hK67 : ∀ (a0 : Nat) (a1 : Int32) (a2 : Int32) (a3 : Int32) (a4 : Int32) (σ : zS), K67 a0 a1 a2 a3 a4 σ → zG p l e (zrm 3 0 0) s m args below meth c (MQ below (zQc (zA base) D cA base n ex (zqi Q)) args s 0 0 (zA base)) s.heap (zA base) base D cA 7 ex prog_9_method_52_code "ConstantFlowModel" n 0 0 67 [some (.ref a0), some (.int a1), some (.int a2), some (.int a3), some (.int a4), none, none] [] σ) {a0 : Nat} {a1 : Int32} {a2 : Int32} {a3 : Int32} {a4 : Int32} {σ : zS} (h : P_M_run_196 n Q K67 a0 a1 a2 a3 a4 σ) : zG p l e (zrm 3 0 0) s m args below meth c (MQ below (zQc (zA base) D cA base n ex (zqi Q)) args s 0 0 (zA base)) s.heap (zA base) base D cA 7 ex prog_9_method_52_code "ConstantFlowModel" n 0 0 196 [some (.ref a0), some (.int a1), some (.int a2), some (.int a3), some (.int a4), none, none] [] σ := by
  unfold P_M_run_196 at h
  refine zw_iinc (v := (a4 + (1 : Int32))) d_M_run_196 rfl rfl (Nat.le_of_ble_eq_true rfl) rfl rfl ?_
  refine zw_goto (tgt := 67) d_M_run_199 rfl ?_
  exact hK67 _ _ _ _ _ _ h
def P_M_run_188 (n : Nat) (Q : Int32 → zS → Prop) (K67 : Nat → Int32 → Int32 → Int32 → Int32 → zS → Prop) (a0 : Nat) (a1 : Int32) (a4 : Int32) (b0 : Int32) (σ : zS) : Prop := zk n a0 7 ∧ ∃ c2, zr σ a0 10 = some c2 ∧ za n c2 10 b0 ∧ P_M_run_196 n Q K67 a0 a1 b0 (zi σ c2 b0.toNatClampNeg) a4 σ
set_option maxHeartbeats 1000000 in
set_option maxRecDepth 10000 in
theorem w_M_run_188 {Q : Int32 → zS → Prop} {K67 : Nat → Int32 → Int32 → Int32 → Int32 → zS → Prop} (hr : meth.sig.returnType = some .int) (hK67 : ∀ (a0 : Nat) (a1 : Int32) (a2 : Int32) (a3 : Int32) (a4 : Int32) (σ : zS), K67 a0 a1 a2 a3 a4 σ → zG p l e (zrm 3 0 0) s m args below meth c (MQ below (zQc (zA base) D cA base n ex (zqi Q)) args s 0 0 (zA base)) s.heap (zA base) base D cA 7 ex prog_9_method_52_code "ConstantFlowModel" n 0 0 67 [some (.ref a0), some (.int a1), some (.int a2), some (.int a3), some (.int a4), none, none] [] σ) {a0 : Nat} {a1 : Int32} {a4 : Int32} {b0 : Int32} {σ : zS} (h : P_M_run_188 n Q K67 a0 a1 a4 b0 σ) : zG p l e (zrm 3 0 0) s m args below meth c (MQ below (zQc (zA base) D cA base n ex (zqi Q)) args s 0 0 (zA base)) s.heap (zA base) base D cA 7 ex prog_9_method_52_code "ConstantFlowModel" n 0 0 188 [some (.ref a0), some (.int a1), none, none, some (.int a4), none, none] [.int b0] σ := by
  unfold P_M_run_188 at h
  refine zw_istore_n d_M_run_188 rfl (Nat.le_of_ble_eq_true rfl) rfl rfl ?_
  refine zw_aload_n d_M_run_189 rfl rfl ?_
  obtain ⟨q1, h⟩ := h
  obtain ⟨c2, q3, h⟩ := h
  refine zw_gfr (ci := 7) (j := 10) d_M_run_190 mw_3_195 q1.1 q1.2 (by decide) (by decide) rfl q3 ?_
  refine zw_iload_n d_M_run_193 rfl rfl ?_
  obtain ⟨q4, h⟩ := h
  refine zw_iald d_M_run_194 q4.1 (zkd_eta q4.2.1) q4.2.2 ?_
  refine zw_istore_n d_M_run_195 rfl (Nat.le_of_ble_eq_true rfl) rfl rfl ?_
  exact w_M_run_196 hr hK67 h
def P_M_run_160 (n : Nat) (Q : Int32 → zS → Prop) (K67 : Nat → Int32 → Int32 → Int32 → Int32 → zS → Prop) (a0 : Nat) (a1 : Int32) (a4 : Int32) (a5 : Int32) (b0 : Int32) (σ : zS) : Prop := ((b0 = 0 → zk n a0 7 ∧ ∃ c2, zr σ a0 9 = some c2 ∧ za n c2 10 (a5 + (4 : Int32)) ∧ P_M_run_188 n Q K67 a0 a1 a4 (zi σ c2 (a5 + (4 : Int32)).toNatClampNeg) σ) ∧ (¬ (b0 = 0) → zk n a0 7 ∧ ∃ c6, zr σ a0 9 = some c6 ∧ za n c6 10 (a5 + (3 : Int32)) ∧ P_M_run_188 n Q K67 a0 a1 a4 (zi σ c6 (a5 + (3 : Int32)).toNatClampNeg) σ))
set_option maxHeartbeats 1000000 in
set_option maxRecDepth 10000 in
theorem w_M_run_160 {Q : Int32 → zS → Prop} {K67 : Nat → Int32 → Int32 → Int32 → Int32 → zS → Prop} (hr : meth.sig.returnType = some .int) (hK67 : ∀ (a0 : Nat) (a1 : Int32) (a2 : Int32) (a3 : Int32) (a4 : Int32) (σ : zS), K67 a0 a1 a2 a3 a4 σ → zG p l e (zrm 3 0 0) s m args below meth c (MQ below (zQc (zA base) D cA base n ex (zqi Q)) args s 0 0 (zA base)) s.heap (zA base) base D cA 7 ex prog_9_method_52_code "ConstantFlowModel" n 0 0 67 [some (.ref a0), some (.int a1), some (.int a2), some (.int a3), some (.int a4), none, none] [] σ) {a0 : Nat} {a1 : Int32} {a4 : Int32} {a5 : Int32} {b0 : Int32} {σ : zS} (h : P_M_run_160 n Q K67 a0 a1 a4 a5 b0 σ) : zG p l e (zrm 3 0 0) s m args below meth c (MQ below (zQc (zA base) D cA base n ex (zqi Q)) args s 0 0 (zA base)) s.heap (zA base) base D cA 7 ex prog_9_method_52_code "ConstantFlowModel" n 0 0 160 [some (.ref a0), some (.int a1), none, none, some (.int a4), some (.int a5), none] [.int b0] σ := by
  unfold P_M_run_160 at h
  refine zw_istore d_M_run_160 (Nat.le_of_ble_eq_true rfl) rfl rfl ?_
  refine zw_iload d_M_run_162 rfl ?_
  obtain ⟨ht, hf⟩ := h
  refine zw_if_eq (tgt := 179) d_M_run_164 rfl (fun hc => ?_) (fun hc => ?_)
  · have h := ht hc; clear ht hf
    refine zw_aload_n d_M_run_179 rfl rfl ?_
    obtain ⟨q1, h⟩ := h
    obtain ⟨c2, q3, h⟩ := h
    refine zw_gfr (ci := 7) (j := 9) d_M_run_180 mw_3_194 q1.1 q1.2 (by decide) (by decide) rfl q3 ?_
    refine zw_iload d_M_run_183 rfl ?_
    refine zw_iconst (v := 4) d_M_run_185 rfl ?_
    refine zw_iadd d_M_run_186 ?_
    obtain ⟨q4, h⟩ := h
    refine zw_iald d_M_run_187 q4.1 (zkd_eta q4.2.1) q4.2.2 ?_
    refine zw_le (ls' := [some (.ref a0), some (.int a1), none, none, some (.int a4), none, none]) (And.intro rfl (And.intro rfl (And.intro rfl True.intro))) ?_
    exact w_M_run_188 hr hK67 h
  · have h := hf hc; clear ht hf
    refine zw_aload_n d_M_run_167 rfl rfl ?_
    obtain ⟨q5, h⟩ := h
    obtain ⟨c6, q7, h⟩ := h
    refine zw_gfr (ci := 7) (j := 9) d_M_run_168 mw_3_194 q5.1 q5.2 (by decide) (by decide) rfl q7 ?_
    refine zw_iload d_M_run_171 rfl ?_
    refine zw_iconst (v := 3) d_M_run_173 rfl ?_
    refine zw_iadd d_M_run_174 ?_
    obtain ⟨q8, h⟩ := h
    refine zw_iald d_M_run_175 q8.1 (zkd_eta q8.2.1) q8.2.2 ?_
    refine zw_goto (tgt := 188) d_M_run_176 rfl ?_
    refine zw_le (ls' := [some (.ref a0), some (.int a1), none, none, some (.int a4), none, none]) (And.intro rfl (And.intro rfl (And.intro rfl True.intro))) ?_
    exact w_M_run_188 hr hK67 h
def P_M_run_155 (n : Nat) (Q : Int32 → zS → Prop) (K67 : Nat → Int32 → Int32 → Int32 → Int32 → zS → Prop) (a0 : Nat) (a1 : Int32) (a4 : Int32) (a5 : Int32) (σ : zS) : Prop := P_M_run_160 n Q K67 a0 a1 a4 a5 (1 : Int32) σ
set_option maxHeartbeats 1000000 in
set_option maxRecDepth 10000 in
theorem w_M_run_155 {Q : Int32 → zS → Prop} {K67 : Nat → Int32 → Int32 → Int32 → Int32 → zS → Prop} (hr : meth.sig.returnType = some .int) (hK67 : ∀ (a0 : Nat) (a1 : Int32) (a2 : Int32) (a3 : Int32) (a4 : Int32) (σ : zS), K67 a0 a1 a2 a3 a4 σ → zG p l e (zrm 3 0 0) s m args below meth c (MQ below (zQc (zA base) D cA base n ex (zqi Q)) args s 0 0 (zA base)) s.heap (zA base) base D cA 7 ex prog_9_method_52_code "ConstantFlowModel" n 0 0 67 [some (.ref a0), some (.int a1), some (.int a2), some (.int a3), some (.int a4), none, none] [] σ) {a0 : Nat} {a1 : Int32} {a4 : Int32} {a5 : Int32} {σ : zS} (h : P_M_run_155 n Q K67 a0 a1 a4 a5 σ) : zG p l e (zrm 3 0 0) s m args below meth c (MQ below (zQc (zA base) D cA base n ex (zqi Q)) args s 0 0 (zA base)) s.heap (zA base) base D cA 7 ex prog_9_method_52_code "ConstantFlowModel" n 0 0 155 [some (.ref a0), some (.int a1), none, none, some (.int a4), some (.int a5), none] [] σ := by
  unfold P_M_run_155 at h
  refine zw_iconst (v := 1) d_M_run_155 rfl ?_
  refine zw_goto (tgt := 160) d_M_run_156 rfl ?_
  exact w_M_run_160 hr hK67 h
def P_M_run_67 (n : Nat) (Q : Int32 → zS → Prop) : Nat → Nat → Int32 → Int32 → Int32 → Int32 → zS → Prop
  | 0, _, _, _, _, _, _ => False
  | f + 1, a0, a1, a2, a3, a4, σ => ((a1 ≤ a4 → Q (-1 : Int32) σ) ∧ (¬ (a1 ≤ a4) → zk n a0 7 ∧ ∃ c2, zr σ a0 10 = some c2 ∧ za n c2 10 (a2 + (1 : Int32)) ∧ (((zi σ c2 (a2 + (1 : Int32)).toNatClampNeg) ≤ a3 → ∃ c5, zr σ a0 9 = some c5 ∧ za n c5 10 ((5 : Int32) * a2) ∧ ((¬ (zi σ c5 ((5 : Int32) * a2).toNatClampNeg) = 0 → ∃ c8, zr σ a0 9 = some c8 ∧ za n c8 10 ((5 : Int32) * a2) ∧ (((zi σ c8 ((5 : Int32) * a2).toNatClampNeg) = (1 : Int32) → P_M_run_155 n Q (fun (a0 : Nat) (a1 : Int32) (a2 : Int32) (a3 : Int32) (a4 : Int32) (σ : zS) => P_M_run_67 n Q f a0 a1 a2 a3 a4 σ) a0 a1 a4 ((5 : Int32) * a2) σ) ∧ (¬ ((zi σ c8 ((5 : Int32) * a2).toNatClampNeg) = (1 : Int32)) → ∃ c11, zr σ a0 9 = some c11 ∧ za n c11 10 (((5 : Int32) * a2) + (1 : Int32)) ∧ ∃ c14, zr σ a0 9 = some c14 ∧ za n c14 10 ((((5 : Int32) * a2) + (1 : Int32)) + (1 : Int32)) ∧ P_M_valueOf n a0 (zi σ c11 (((5 : Int32) * a2) + (1 : Int32)).toNatClampNeg) (zi σ c14 ((((5 : Int32) * a2) + (1 : Int32)) + (1 : Int32)).toNatClampNeg) σ (fun x17 σ18 => ((x17 = 0 → P_M_run_160 n Q (fun (a0 : Nat) (a1 : Int32) (a2 : Int32) (a3 : Int32) (a4 : Int32) (σ : zS) => P_M_run_67 n Q f a0 a1 a2 a3 a4 σ) a0 a1 a4 ((5 : Int32) * a2) (0 : Int32) σ18) ∧ (¬ (x17 = 0) → P_M_run_155 n Q (fun (a0 : Nat) (a1 : Int32) (a2 : Int32) (a3 : Int32) (a4 : Int32) (σ : zS) => P_M_run_67 n Q f a0 a1 a2 a3 a4 σ) a0 a1 a4 ((5 : Int32) * a2) σ18)))))) ∧ ((zi σ c5 ((5 : Int32) * a2).toNatClampNeg) = 0 → Q (a4 + (1 : Int32)) σ))) ∧ (¬ ((zi σ c2 (a2 + (1 : Int32)).toNatClampNeg) ≤ a3) → P_M_done n a0 a3 σ (fun σ20 => P_M_run_196 n Q (fun (a0 : Nat) (a1 : Int32) (a2 : Int32) (a3 : Int32) (a4 : Int32) (σ : zS) => P_M_run_67 n Q f a0 a1 a2 a3 a4 σ) a0 a1 a2 (a3 + (1 : Int32)) a4 σ20)))))
set_option maxHeartbeats 1000000 in
set_option maxRecDepth 10000 in
theorem w_M_run_67 {Q : Int32 → zS → Prop} (hr : meth.sig.returnType = some .int) : ∀ (f : Nat) (a0 : Nat) (a1 : Int32) (a2 : Int32) (a3 : Int32) (a4 : Int32) (σ : zS), P_M_run_67 n Q f a0 a1 a2 a3 a4 σ → zG p l e (zrm 3 0 0) s m args below meth c (MQ below (zQc (zA base) D cA base n ex (zqi Q)) args s 0 0 (zA base)) s.heap (zA base) base D cA 7 ex prog_9_method_52_code "ConstantFlowModel" n 0 0 67 [some (.ref a0), some (.int a1), some (.int a2), some (.int a3), some (.int a4), none, none] [] σ := by
  intro f
  induction f with
  | zero => intro a0 a1 a2 a3 a4 σ h; exact False.elim h
  | succ f ih =>
    intro a0 a1 a2 a3 a4 σ h
    refine zw_iload d_M_run_67 rfl ?_
    refine zw_iload_n d_M_run_69 rfl rfl ?_
    obtain ⟨ht, hf⟩ := h
    refine zw_icmp_ge (tgt := 202) d_M_run_70 rfl (fun hc => ?_) (fun hc => ?_)
    · have h := ht hc; clear ht hf
      refine zw_iconst (v := -1) d_M_run_202 rfl ?_
      exact zw_iret d_M_run_203 hr h
    · have h := hf hc; clear ht hf
      refine zw_iload_n d_M_run_73 rfl rfl ?_
      refine zw_aload_n d_M_run_74 rfl rfl ?_
      obtain ⟨q1, h⟩ := h
      obtain ⟨c2, q3, h⟩ := h
      refine zw_gfr (ci := 7) (j := 10) d_M_run_75 mw_3_195 q1.1 q1.2 (by decide) (by decide) rfl q3 ?_
      refine zw_iload_n d_M_run_78 rfl rfl ?_
      refine zw_iconst (v := 1) d_M_run_79 rfl ?_
      refine zw_iadd d_M_run_80 ?_
      obtain ⟨q4, h⟩ := h
      refine zw_iald d_M_run_81 q4.1 (zkd_eta q4.2.1) q4.2.2 ?_
      obtain ⟨ht, hf⟩ := h
      refine zw_icmp_ge (tgt := 96) d_M_run_82 rfl (fun hc => ?_) (fun hc => ?_)
      · have h := ht hc; clear ht hf
        refine zw_aload_n d_M_run_96 rfl rfl ?_
        obtain ⟨c5, q6, h⟩ := h
        refine zw_gfr (ci := 7) (j := 9) d_M_run_97 mw_3_194 q1.1 q1.2 (by decide) (by decide) rfl q6 ?_
        refine zw_iconst (v := 5) d_M_run_100 rfl ?_
        refine zw_iload_n d_M_run_101 rfl rfl ?_
        refine zw_imul d_M_run_102 ?_
        obtain ⟨q7, h⟩ := h
        refine zw_iald d_M_run_103 q7.1 (zkd_eta q7.2.1) q7.2.2 ?_
        obtain ⟨ht, hf⟩ := h
        refine zw_if_ne (tgt := 112) d_M_run_104 rfl (fun hc => ?_) (fun hc => ?_)
        · have h := ht hc; clear ht hf
          refine zw_iconst (v := 5) d_M_run_112 rfl ?_
          refine zw_iload_n d_M_run_113 rfl rfl ?_
          refine zw_imul d_M_run_114 ?_
          refine zw_istore d_M_run_115 (Nat.le_of_ble_eq_true rfl) rfl rfl ?_
          refine zw_aload_n d_M_run_117 rfl rfl ?_
          obtain ⟨c8, q9, h⟩ := h
          refine zw_gfr (ci := 7) (j := 9) d_M_run_118 mw_3_194 q1.1 q1.2 (by decide) (by decide) rfl q9 ?_
          refine zw_iload d_M_run_121 rfl ?_
          obtain ⟨q10, h⟩ := h
          refine zw_iald d_M_run_123 q10.1 (zkd_eta q10.2.1) q10.2.2 ?_
          refine zw_iconst (v := 1) d_M_run_124 rfl ?_
          obtain ⟨ht, hf⟩ := h
          refine zw_icmp_eq (tgt := 155) d_M_run_125 rfl (fun hc => ?_) (fun hc => ?_)
          · have h := ht hc; clear ht hf
            refine zw_le (ls' := [some (.ref a0), some (.int a1), none, none, some (.int a4), some (.int ((5 : Int32) * a2)), none]) (And.intro rfl (And.intro rfl (And.intro rfl (And.intro rfl True.intro)))) ?_
            exact w_M_run_155 hr (fun a0 a1 a2 a3 a4 σ hk => ih a0 a1 a2 a3 a4 σ hk) h
          · have h := hf hc; clear ht hf
            refine zw_aload_n d_M_run_128 rfl rfl ?_
            refine zw_aload_n d_M_run_129 rfl rfl ?_
            obtain ⟨c11, q12, h⟩ := h
            refine zw_gfr (ci := 7) (j := 9) d_M_run_130 mw_3_194 q1.1 q1.2 (by decide) (by decide) rfl q12 ?_
            refine zw_iload d_M_run_133 rfl ?_
            refine zw_iconst (v := 1) d_M_run_135 rfl ?_
            refine zw_iadd d_M_run_136 ?_
            obtain ⟨q13, h⟩ := h
            refine zw_iald d_M_run_137 q13.1 (zkd_eta q13.2.1) q13.2.2 ?_
            refine zw_aload_n d_M_run_138 rfl rfl ?_
            obtain ⟨c14, q15, h⟩ := h
            refine zw_gfr (ci := 7) (j := 9) d_M_run_139 mw_3_194 q1.1 q1.2 (by decide) (by decide) rfl q15 ?_
            refine zw_iload d_M_run_142 rfl ?_
            refine zw_iconst (v := 1) d_M_run_144 rfl ?_
            refine zw_iadd d_M_run_145 ?_
            refine zw_iconst (v := 1) d_M_run_146 rfl ?_
            refine zw_iadd d_M_run_147 ?_
            obtain ⟨q16, h⟩ := h
            refine zw_iald d_M_run_148 q16.1 (zkd_eta q16.2.1) q16.2.2 ?_
            refine zw_callV (ci := 7) (b := a0) (As := [.int (zi σ c11 (((5 : Int32) * a2) + (1 : Int32)).toNatClampNeg), .int (zi σ c14 ((((5 : Int32) * a2) + (1 : Int32)) + (1 : Int32)).toNatClampNeg)]) (r := []) d_M_run_149 (c_M_valueOf h) mw_5_6 mw_5_8 mp_4_7 mw_1_8 mw_5_9 (by decide) q1.1 q1.2 hyV_M_valueOf (Nat.le_of_ble_eq_true rfl) (Nat.le_of_ble_eq_true rfl) ⟨(Nat.le_of_ble_eq_true rfl), (Nat.le_of_ble_eq_true rfl)⟩ (Nat.le_of_ble_eq_true rfl) rfl (zk_i (fun x17 σ18 h => ?_))
            obtain ⟨ht, hf⟩ := h
            refine zw_if_eq (tgt := 159) d_M_run_152 rfl (fun hc => ?_) (fun hc => ?_)
            · have h := ht hc; clear ht hf
              refine zw_iconst (v := 0) d_M_run_159 rfl ?_
              refine zw_le (ls' := [some (.ref a0), some (.int a1), none, none, some (.int a4), some (.int ((5 : Int32) * a2)), none]) (And.intro rfl (And.intro rfl (And.intro rfl (And.intro rfl True.intro)))) ?_
              exact w_M_run_160 hr (fun a0 a1 a2 a3 a4 σ hk => ih a0 a1 a2 a3 a4 σ hk) h
            · have h := hf hc; clear ht hf
              refine zw_le (ls' := [some (.ref a0), some (.int a1), none, none, some (.int a4), some (.int ((5 : Int32) * a2)), none]) (And.intro rfl (And.intro rfl (And.intro rfl (And.intro rfl True.intro)))) ?_
              exact w_M_run_155 hr (fun a0 a1 a2 a3 a4 σ hk => ih a0 a1 a2 a3 a4 σ hk) h
        · have h := hf hc; clear ht hf
          refine zw_iload d_M_run_107 rfl ?_
          refine zw_iconst (v := 1) d_M_run_109 rfl ?_
          refine zw_iadd d_M_run_110 ?_
          exact zw_iret d_M_run_111 hr h
      · have h := hf hc; clear ht hf
        refine zw_aload_n d_M_run_85 rfl rfl ?_
        refine zw_iload_n d_M_run_86 rfl rfl ?_
        refine zw_callV (ci := 7) (b := a0) (As := [.int a3]) (r := []) d_M_run_87 (c_M_done h) mw_5_2 mw_5_4 mp_4_6 mw_1_8 mw_5_5 (by decide) q1.1 q1.2 hyV_M_done (Nat.le_of_ble_eq_true rfl) (Nat.le_of_ble_eq_true rfl) ⟨(Nat.le_of_ble_eq_true rfl), (Nat.le_of_ble_eq_true rfl)⟩ (Nat.le_of_ble_eq_true rfl) rfl (zk_v (fun σ20 h => ?_))
        refine zw_iinc (v := (a3 + (1 : Int32))) d_M_run_90 rfl rfl (Nat.le_of_ble_eq_true rfl) rfl rfl ?_
        refine zw_goto (tgt := 196) d_M_run_93 rfl ?_
        exact w_M_run_196 hr (fun a0 a1 a2 a3 a4 σ hk => ih a0 a1 a2 a3 a4 σ hk) h
def P_M_run_31 (n : Nat) (Q : Int32 → zS → Prop) : Nat → Nat → Int32 → Int32 → zS → Prop
  | 0, _, _, _, _ => False
  | f + 1, a0, a1, a2, σ => (((8 : Int32) ≤ a2 → zk n a0 7 ∧ ∃ c2, zr (zI σ a0 32 (0 : Int32)) a0 10 = some c2 ∧ za n c2 10 (0 : Int32) ∧ ∃ g, P_M_run_67 n Q g a0 a1 (0 : Int32) (zi (zI σ a0 32 (0 : Int32)) c2 (0 : Int32).toNatClampNeg) (0 : Int32) (zI σ a0 32 (0 : Int32))) ∧ (¬ ((8 : Int32) ≤ a2) → zk n a0 7 ∧ ∃ c6, zr σ a0 31 = some c6 ∧ za n c6 10 a2 ∧ P_M_run_31 n Q f a0 a1 (a2 + (1 : Int32)) (zI σ c6 a2.toNatClampNeg (0 : Int32))))
set_option maxHeartbeats 1000000 in
set_option maxRecDepth 10000 in
theorem w_M_run_31 {Q : Int32 → zS → Prop} (hr : meth.sig.returnType = some .int) : ∀ (f : Nat) (a0 : Nat) (a1 : Int32) (a2 : Int32) (σ : zS), P_M_run_31 n Q f a0 a1 a2 σ → zG p l e (zrm 3 0 0) s m args below meth c (MQ below (zQc (zA base) D cA base n ex (zqi Q)) args s 0 0 (zA base)) s.heap (zA base) base D cA 7 ex prog_9_method_52_code "ConstantFlowModel" n 0 0 31 [some (.ref a0), some (.int a1), some (.int a2), none, none, none, none] [] σ := by
  intro f
  induction f with
  | zero => intro a0 a1 a2 σ h; exact False.elim h
  | succ f ih =>
    intro a0 a1 a2 σ h
    refine zw_iload_n d_M_run_31 rfl rfl ?_
    refine zw_bipush (v := 8) d_M_run_32 rfl ?_
    obtain ⟨ht, hf⟩ := h
    refine zw_icmp_ge (tgt := 50) d_M_run_34 rfl (fun hc => ?_) (fun hc => ?_)
    · have h := ht hc; clear ht hf
      refine zw_aload_n d_M_run_50 rfl rfl ?_
      refine zw_iconst (v := 0) d_M_run_51 rfl ?_
      obtain ⟨q1, h⟩ := h
      refine zw_pfi (ci := 7) (j := 32) d_M_run_52 mw_3_217 q1.1 q1.2 (by decide) (by decide) rfl rfl rfl rfl ?_
      refine zw_iconst (v := 0) d_M_run_55 rfl ?_
      refine zw_istore_n d_M_run_56 rfl (Nat.le_of_ble_eq_true rfl) rfl rfl ?_
      refine zw_aload_n d_M_run_57 rfl rfl ?_
      obtain ⟨c2, q3, h⟩ := h
      refine zw_gfr (ci := 7) (j := 10) d_M_run_58 mw_3_195 q1.1 q1.2 (by decide) (by decide) rfl q3 ?_
      refine zw_iconst (v := 0) d_M_run_61 rfl ?_
      obtain ⟨q4, h⟩ := h
      refine zw_iald d_M_run_62 q4.1 (zkd_eta q4.2.1) q4.2.2 ?_
      refine zw_istore_n d_M_run_63 rfl (Nat.le_of_ble_eq_true rfl) rfl rfl ?_
      refine zw_iconst (v := 0) d_M_run_64 rfl ?_
      refine zw_istore d_M_run_65 (Nat.le_of_ble_eq_true rfl) rfl rfl ?_
      obtain ⟨g, h⟩ := h
      exact w_M_run_67 hr g _ _ _ _ _ _ h
    · have h := hf hc; clear ht hf
      refine zw_aload_n d_M_run_37 rfl rfl ?_
      obtain ⟨q5, h⟩ := h
      obtain ⟨c6, q7, h⟩ := h
      refine zw_gfr (ci := 7) (j := 31) d_M_run_38 mw_3_216 q5.1 q5.2 (by decide) (by decide) rfl q7 ?_
      refine zw_iload_n d_M_run_41 rfl rfl ?_
      refine zw_iconst (v := 0) d_M_run_42 rfl ?_
      obtain ⟨q8, h⟩ := h
      refine zw_iast d_M_run_43 q8.1 (zkd_eta q8.2.1) q8.2.2 ?_
      refine zw_iinc (v := (a2 + (1 : Int32))) d_M_run_44 rfl rfl (Nat.le_of_ble_eq_true rfl) rfl rfl ?_
      refine zw_goto (tgt := 31) d_M_run_47 rfl ?_
      exact ih _ _ _ _ h
def P_M_run_17 (n : Nat) (Q : Int32 → zS → Prop) (a0 : Nat) (a1 : Int32) (b0 : Nat) (b1 : Int32) (σ : zS) : Prop := zk n b0 7 ∧ zk n a0 7 ∧ (((zi (zI σ b0 0 b1) a0 0) ≤ 0 → ∃ g, P_M_run_31 n Q g a0 a1 (0 : Int32) (zI σ b0 0 b1)) ∧ (¬ ((zi (zI σ b0 0 b1) a0 0) ≤ 0) → Q (0 : Int32) (zI σ b0 0 b1)))
set_option maxHeartbeats 1000000 in
set_option maxRecDepth 10000 in
theorem w_M_run_17 {Q : Int32 → zS → Prop} (hr : meth.sig.returnType = some .int) {a0 : Nat} {a1 : Int32} {b0 : Nat} {b1 : Int32} {σ : zS} (h : P_M_run_17 n Q a0 a1 b0 b1 σ) : zG p l e (zrm 3 0 0) s m args below meth c (MQ below (zQc (zA base) D cA base n ex (zqi Q)) args s 0 0 (zA base)) s.heap (zA base) base D cA 7 ex prog_9_method_52_code "ConstantFlowModel" n 0 0 17 [some (.ref a0), some (.int a1), none, none, none, none, none] [.int b1, .ref b0] σ := by
  unfold P_M_run_17 at h
  obtain ⟨q1, h⟩ := h
  refine zw_pfi (ci := 7) (j := 0) d_M_run_17 mw_3_185 q1.1 q1.2 (by decide) (by decide) rfl rfl rfl rfl ?_
  refine zw_aload_n d_M_run_20 rfl rfl ?_
  obtain ⟨q2, h⟩ := h
  refine zw_gfi (ci := 7) (j := 0) d_M_run_21 mw_3_185 q2.1 q2.2 (by decide) (by decide) rfl ?_
  obtain ⟨ht, hf⟩ := h
  refine zw_if_le (tgt := 29) d_M_run_24 rfl (fun hc => ?_) (fun hc => ?_)
  · have h := ht hc; clear ht hf
    refine zw_iconst (v := 0) d_M_run_29 rfl ?_
    refine zw_istore_n d_M_run_30 rfl (Nat.le_of_ble_eq_true rfl) rfl rfl ?_
    obtain ⟨g, h⟩ := h
    exact w_M_run_31 hr g _ _ _ _ h
  · have h := hf hc; clear ht hf
    refine zw_iconst (v := 0) d_M_run_27 rfl ?_
    exact zw_iret d_M_run_28 hr h
def P_M_run_12 (n : Nat) (Q : Int32 → zS → Prop) (a0 : Nat) (a1 : Int32) (b0 : Nat) (σ : zS) : Prop := P_M_run_17 n Q a0 a1 b0 (1 : Int32) σ
set_option maxHeartbeats 1000000 in
set_option maxRecDepth 10000 in
theorem w_M_run_12 {Q : Int32 → zS → Prop} (hr : meth.sig.returnType = some .int) {a0 : Nat} {a1 : Int32} {b0 : Nat} {σ : zS} (h : P_M_run_12 n Q a0 a1 b0 σ) : zG p l e (zrm 3 0 0) s m args below meth c (MQ below (zQc (zA base) D cA base n ex (zqi Q)) args s 0 0 (zA base)) s.heap (zA base) base D cA 7 ex prog_9_method_52_code "ConstantFlowModel" n 0 0 12 [some (.ref a0), some (.int a1), none, none, none, none, none] [.ref b0] σ := by
  unfold P_M_run_12 at h
  refine zw_iconst (v := 1) d_M_run_12 rfl ?_
  refine zw_goto (tgt := 17) d_M_run_13 rfl ?_
  exact w_M_run_17 hr h
def P_M_run (n : Nat) (a0 : Nat) (a1 : Int32) (σ : zS) (Q : Int32 → zS → Prop) : Prop := ((a1 < 0 → P_M_run_12 n Q a0 a1 a0 σ) ∧ (¬ (a1 < 0) → ((a1 ≤ (20000 : Int32) → P_M_run_17 n Q a0 a1 a0 (0 : Int32) σ) ∧ (¬ (a1 ≤ (20000 : Int32)) → P_M_run_12 n Q a0 a1 a0 σ))))
set_option maxHeartbeats 1000000 in
set_option maxRecDepth 10000 in
theorem w_M_run {Q : Int32 → zS → Prop} (hr : meth.sig.returnType = some .int) {a0 : Nat} {a1 : Int32} {σ : zS} (h : P_M_run n a0 a1 σ Q) : zG p l e (zrm 3 0 0) s m args below meth c (MQ below (zQc (zA base) D cA base n ex (zqi Q)) args s 0 0 (zA base)) s.heap (zA base) base D cA 7 ex prog_9_method_52_code "ConstantFlowModel" n 0 0 0 [some (.ref a0), some (.int a1), none, none, none, none, none] [] σ := by
  unfold P_M_run at h
  refine zw_aload_n d_M_run_0 rfl rfl ?_
  refine zw_iload_n d_M_run_1 rfl rfl ?_
  obtain ⟨ht, hf⟩ := h
  refine zw_if_lt (tgt := 12) d_M_run_2 rfl (fun hc => ?_) (fun hc => ?_)
  · have h := ht hc; clear ht hf
    exact w_M_run_12 hr h
  · have h := hf hc; clear ht hf
    refine zw_iload_n d_M_run_5 rfl rfl ?_
    refine zw_sipush (v := 20000) d_M_run_6 rfl ?_
    obtain ⟨ht, hf⟩ := h
    refine zw_icmp_le (tgt := 16) d_M_run_9 rfl (fun hc => ?_) (fun hc => ?_)
    · have h := ht hc; clear ht hf
      refine zw_iconst (v := 0) d_M_run_16 rfl ?_
      exact w_M_run_17 hr h
    · have h := hf hc; clear ht hf
      exact w_M_run_12 hr h
theorem c_M_run {l : Launch} {D : va_G} {cA : Nat → ClassId} {base n : Nat} {ex : Bool} {Q : Int32 → zS → Prop} {a0 : Nat} {a1 : Int32} {σ : zS} (h : P_M_run n a0 a1 σ Q) : zM l y_M_run prog_9_method_52_code 7 (some .int) 3 0 0 (zA base) D cA base n n ex [.ref a0, .int a1] σ (zqi Q) :=
  zMet (by decide) rfl (Nat.le_of_ble_eq_true rfl) (fun p e s m args below meth c hr hnm => w_M_run hr h)
end
