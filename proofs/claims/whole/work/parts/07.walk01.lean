section
variable {p : Program} {l : Launch} {e : Env} {s : State} {m : MethodId} {args : Array Value} {below : List Frame} {meth : Method} {c : Code} {base : Nat} {D : va_G} {cA : Nat → ClassId} {ex : Bool} {n : Nat}
def P_V_knows_28 (n : Nat) (Q : Int32 → zS → Prop) (b0 : Int32) (σ : zS) : Prop := (b0 = 0 ∨ b0 = 1) ∧ Q b0 σ
set_option maxHeartbeats 1000000 in
set_option maxRecDepth 10000 in
theorem w_V_knows_28 {Q : Int32 → zS → Prop} (hr : meth.sig.returnType = some .boolean) {b0 : Int32} {σ : zS} (h : P_V_knows_28 n Q b0 σ) : zG p l e (zrm 1 0 0) s m args below meth c (MQ below (zQc (zA base) D cA base n ex (zqi Q)) args s 0 0 (zA base)) s.heap (zA base) base D cA 3 ex prog_7_method_4_code "ConstantFlow$View" n 0 0 28 [none, none, none] [.int b0] σ := by
  unfold P_V_knows_28 at h
  obtain ⟨q1, h⟩ := h
  exact zw_zret d_V_knows_28 hr q1 h
def P_V_knows_23 (n : Nat) (Q : Int32 → zS → Prop) (σ : zS) : Prop := P_V_knows_28 n Q (1 : Int32) σ
set_option maxHeartbeats 1000000 in
set_option maxRecDepth 10000 in
theorem w_V_knows_23 {Q : Int32 → zS → Prop} (hr : meth.sig.returnType = some .boolean) {σ : zS} (h : P_V_knows_23 n Q σ) : zG p l e (zrm 1 0 0) s m args below meth c (MQ below (zQc (zA base) D cA base n ex (zqi Q)) args s 0 0 (zA base)) s.heap (zA base) base D cA 3 ex prog_7_method_4_code "ConstantFlow$View" n 0 0 23 [none, none, none] [] σ := by
  unfold P_V_knows_23 at h
  refine zw_iconst (v := 1) d_V_knows_23 rfl ?_
  refine zw_goto (tgt := 28) d_V_knows_24 rfl ?_
  exact w_V_knows_28 hr h
def P_V_knows (n : Nat) (a0 : Nat) (a1 : Nat) (a2 : Int32) (σ : zS) (Q : Int32 → zS → Prop) : Prop := zk n a1 6 ∧ ∃ c2, zr σ a1 5 = some c2 ∧ za n c2 11 a2 ∧ (((zi σ c2 a2.toNatClampNeg) = 0 → P_V_knows_23 n Q σ) ∧ (¬ ((zi σ c2 a2.toNatClampNeg) = 0) → zk n a0 4 ∧ ∃ c6, zr σ a0 0 = some c6 ∧ ∃ c8, zr σ a1 6 = some c8 ∧ za n c8 10 a2 ∧ za n c6 11 (zi σ c8 a2.toNatClampNeg) ∧ ((¬ (zi σ c6 (zi σ c8 a2.toNatClampNeg).toNatClampNeg) = 0 → P_V_knows_28 n Q (0 : Int32) σ) ∧ ((zi σ c6 (zi σ c8 a2.toNatClampNeg).toNatClampNeg) = 0 → P_V_knows_23 n Q σ))))
set_option maxHeartbeats 1000000 in
set_option maxRecDepth 10000 in
theorem w_V_knows {Q : Int32 → zS → Prop} (hr : meth.sig.returnType = some .boolean) {a0 : Nat} {a1 : Nat} {a2 : Int32} {σ : zS} (h : P_V_knows n a0 a1 a2 σ Q) : zG p l e (zrm 1 0 0) s m args below meth c (MQ below (zQc (zA base) D cA base n ex (zqi Q)) args s 0 0 (zA base)) s.heap (zA base) base D cA 3 ex prog_7_method_4_code "ConstantFlow$View" n 0 0 0 [some (.ref a0), some (.ref a1), some (.int a2)] [] σ := by
  unfold P_V_knows at h
  refine zw_aload_n d_V_knows_0 rfl rfl ?_
  obtain ⟨q1, h⟩ := h
  obtain ⟨c2, q3, h⟩ := h
  refine zw_gfrN (ci := 6) (j := 5) d_V_knows_1 mw_1_172 q1.1 q1.2 (by decide) (by decide) rfl q3 ?_
  refine zw_iload_n d_V_knows_4 rfl rfl ?_
  obtain ⟨q4, h⟩ := h
  refine zw_zald d_V_knows_5 q4.1 (zkd_eta q4.2.1) q4.2.2 ?_
  obtain ⟨ht, hf⟩ := h
  refine zw_if_eq (tgt := 23) d_V_knows_6 rfl (fun hc => ?_) (fun hc => ?_)
  · have h := ht hc; clear ht hf
    refine zw_le (ls' := [none, none, none]) (True.intro) ?_
    exact w_V_knows_23 hr h
  · have h := hf hc; clear ht hf
    refine zw_aload_n d_V_knows_9 rfl rfl ?_
    obtain ⟨q5, h⟩ := h
    obtain ⟨c6, q7, h⟩ := h
    refine zw_gfr (ci := 4) (j := 0) d_V_knows_10 mw_1_85 q5.1 q5.2 (by decide) (by decide) rfl q7 ?_
    refine zw_aload_n d_V_knows_13 rfl rfl ?_
    obtain ⟨c8, q9, h⟩ := h
    refine zw_gfrN (ci := 6) (j := 6) d_V_knows_14 mw_1_175 q1.1 q1.2 (by decide) (by decide) rfl q9 ?_
    refine zw_iload_n d_V_knows_17 rfl rfl ?_
    obtain ⟨q10, h⟩ := h
    refine zw_iald d_V_knows_18 q10.1 (zkd_eta q10.2.1) q10.2.2 ?_
    obtain ⟨q11, h⟩ := h
    refine zw_zald d_V_knows_19 q11.1 (zkd_eta q11.2.1) q11.2.2 ?_
    obtain ⟨ht, hf⟩ := h
    refine zw_if_ne (tgt := 27) d_V_knows_20 rfl (fun hc => ?_) (fun hc => ?_)
    · have h := ht hc; clear ht hf
      refine zw_iconst (v := 0) d_V_knows_27 rfl ?_
      refine zw_le (ls' := [none, none, none]) (True.intro) ?_
      exact w_V_knows_28 hr h
    · have h := hf hc; clear ht hf
      refine zw_le (ls' := [none, none, none]) (True.intro) ?_
      exact w_V_knows_23 hr h
theorem c_V_knows {l : Launch} {D : va_G} {cA : Nat → ClassId} {base n : Nat} {ex : Bool} {Q : Int32 → zS → Prop} {a0 : Nat} {a1 : Nat} {a2 : Int32} {σ : zS} (h : P_V_knows n a0 a1 a2 σ Q) : zM l y_V_knows prog_7_method_4_code 3 (some .boolean) 1 0 0 (zA base) D cA base n n ex [.ref a0, .ref a1, .int a2] σ (zqi Q) :=
  zMet (by decide) rfl (Nat.le_of_ble_eq_true rfl) (fun p e s m args below meth c hr hnm => w_V_knows hr h)
def P_V_numberOf_26 (n : Nat) (Q : Int32 → zS → Prop) (b0 : Int32) (σ : zS) : Prop := Q b0 σ
set_option maxHeartbeats 1000000 in
set_option maxRecDepth 10000 in
theorem w_V_numberOf_26 {Q : Int32 → zS → Prop} (hr : meth.sig.returnType = some .int) {b0 : Int32} {σ : zS} (h : P_V_numberOf_26 n Q b0 σ) : zG p l e (zrm 1 0 0) s m args below meth c (MQ below (zQc (zA base) D cA base n ex (zqi Q)) args s 0 0 (zA base)) s.heap (zA base) base D cA 4 ex prog_7_method_5_code "ConstantFlow$View" n 0 0 26 [none, none, none, none] [.int b0] σ := by
  unfold P_V_numberOf_26 at h
  exact zw_iret d_V_numberOf_26 hr h
def P_V_numberOf (n : Nat) (a0 : Nat) (a1 : Nat) (a2 : Int32) (σ : zS) (Q : Int32 → zS → Prop) : Prop := zk n a1 6 ∧ ∃ c2, zr σ a1 6 = some c2 ∧ za n c2 10 a2 ∧ ∃ c5, zr σ a1 5 = some c5 ∧ za n c5 11 a2 ∧ (((zi σ c5 a2.toNatClampNeg) = 0 → P_V_numberOf_26 n Q (zi σ c2 a2.toNatClampNeg) σ) ∧ (¬ ((zi σ c5 a2.toNatClampNeg) = 0) → zk n a0 4 ∧ ∃ c9, zr σ a0 1 = some c9 ∧ za n c9 10 (zi σ c2 a2.toNatClampNeg) ∧ P_V_numberOf_26 n Q (zi σ c9 (zi σ c2 a2.toNatClampNeg).toNatClampNeg) σ))
set_option maxHeartbeats 1000000 in
set_option maxRecDepth 10000 in
theorem w_V_numberOf {Q : Int32 → zS → Prop} (hr : meth.sig.returnType = some .int) {a0 : Nat} {a1 : Nat} {a2 : Int32} {σ : zS} (h : P_V_numberOf n a0 a1 a2 σ Q) : zG p l e (zrm 1 0 0) s m args below meth c (MQ below (zQc (zA base) D cA base n ex (zqi Q)) args s 0 0 (zA base)) s.heap (zA base) base D cA 4 ex prog_7_method_5_code "ConstantFlow$View" n 0 0 0 [some (.ref a0), some (.ref a1), some (.int a2), none] [] σ := by
  unfold P_V_numberOf at h
  refine zw_aload_n d_V_numberOf_0 rfl rfl ?_
  obtain ⟨q1, h⟩ := h
  obtain ⟨c2, q3, h⟩ := h
  refine zw_gfrN (ci := 6) (j := 6) d_V_numberOf_1 mw_1_175 q1.1 q1.2 (by decide) (by decide) rfl q3 ?_
  refine zw_iload_n d_V_numberOf_4 rfl rfl ?_
  obtain ⟨q4, h⟩ := h
  refine zw_iald d_V_numberOf_5 q4.1 (zkd_eta q4.2.1) q4.2.2 ?_
  refine zw_istore_n d_V_numberOf_6 rfl (Nat.le_of_ble_eq_true rfl) rfl rfl ?_
  refine zw_aload_n d_V_numberOf_7 rfl rfl ?_
  obtain ⟨c5, q6, h⟩ := h
  refine zw_gfrN (ci := 6) (j := 5) d_V_numberOf_8 mw_1_172 q1.1 q1.2 (by decide) (by decide) rfl q6 ?_
  refine zw_iload_n d_V_numberOf_11 rfl rfl ?_
  obtain ⟨q7, h⟩ := h
  refine zw_zald d_V_numberOf_12 q7.1 (zkd_eta q7.2.1) q7.2.2 ?_
  obtain ⟨ht, hf⟩ := h
  refine zw_if_eq (tgt := 25) d_V_numberOf_13 rfl (fun hc => ?_) (fun hc => ?_)
  · have h := ht hc; clear ht hf
    refine zw_iload_n d_V_numberOf_25 rfl rfl ?_
    refine zw_le (ls' := [none, none, none, none]) (True.intro) ?_
    exact w_V_numberOf_26 hr h
  · have h := hf hc; clear ht hf
    refine zw_aload_n d_V_numberOf_16 rfl rfl ?_
    obtain ⟨q8, h⟩ := h
    obtain ⟨c9, q10, h⟩ := h
    refine zw_gfr (ci := 4) (j := 1) d_V_numberOf_17 mw_1_87 q8.1 q8.2 (by decide) (by decide) rfl q10 ?_
    refine zw_iload_n d_V_numberOf_20 rfl rfl ?_
    obtain ⟨q11, h⟩ := h
    refine zw_iald d_V_numberOf_21 q11.1 (zkd_eta q11.2.1) q11.2.2 ?_
    refine zw_goto (tgt := 26) d_V_numberOf_22 rfl ?_
    refine zw_le (ls' := [none, none, none, none]) (True.intro) ?_
    exact w_V_numberOf_26 hr h
theorem c_V_numberOf {l : Launch} {D : va_G} {cA : Nat → ClassId} {base n : Nat} {ex : Bool} {Q : Int32 → zS → Prop} {a0 : Nat} {a1 : Nat} {a2 : Int32} {σ : zS} (h : P_V_numberOf n a0 a1 a2 σ Q) : zM l y_V_numberOf prog_7_method_5_code 4 (some .int) 1 0 0 (zA base) D cA base n n ex [.ref a0, .ref a1, .int a2] σ (zqi Q) :=
  zMet (by decide) rfl (Nat.le_of_ble_eq_true rfl) (fun p e s m args below meth c hr hnm => w_V_numberOf hr h)
def P_M_operator (n : Nat) (a0 : Int32) (σ : zS) (Q : Int32 → zS → Prop) : Prop := ((a0 = (37 : Int32) → Q (4 : Int32) σ) ∧ (a0 = (38 : Int32) → Q (5 : Int32) σ) ∧ (a0 = (42 : Int32) → Q (2 : Int32) σ) ∧ (a0 = (43 : Int32) → Q (0 : Int32) σ) ∧ (a0 = (45 : Int32) → Q (1 : Int32) σ) ∧ (a0 = (47 : Int32) → Q (3 : Int32) σ) ∧ (a0 = (60 : Int32) → Q (8 : Int32) σ) ∧ (a0 = (61 : Int32) → Q (9 : Int32) σ) ∧ (a0 = (94 : Int32) → Q (7 : Int32) σ) ∧ (a0 = (124 : Int32) → Q (6 : Int32) σ) ∧ (¬ a0 = (37 : Int32) → ¬ a0 = (38 : Int32) → ¬ a0 = (42 : Int32) → ¬ a0 = (43 : Int32) → ¬ a0 = (45 : Int32) → ¬ a0 = (47 : Int32) → ¬ a0 = (60 : Int32) → ¬ a0 = (61 : Int32) → ¬ a0 = (94 : Int32) → ¬ a0 = (124 : Int32) → Q (-1 : Int32) σ))
set_option maxHeartbeats 1000000 in
set_option maxRecDepth 10000 in
theorem w_M_operator {Q : Int32 → zS → Prop} (hr : meth.sig.returnType = some .int) {a0 : Int32} {σ : zS} (h : P_M_operator n a0 σ Q) : zG p l e (zrm 1 0 0) s m args below meth c (MQ below (zQc (zA base) D cA base n ex (zqi Q)) args s 0 0 (zA base)) s.heap (zA base) base D cA 1 ex prog_9_method_14_code "ConstantFlowModel" n 0 0 0 [some (.int a0)] [] σ := by
  unfold P_M_operator at h
  refine zw_iload_n d_M_operator_0 rfl rfl ?_
  obtain ⟨hs0, hs1, hs2, hs3, hs4, hs5, hs6, hs7, hs8, hs9, hsd⟩ := h
  by_cases he0 : a0 = (37 : Int32)
  · have h := hs0 he0; clear hs0 hs1 hs2 hs3 hs4 hs5 hs6 hs7 hs8 hs9 hsd
    refine zw_lookup (tgt := 100) d_M_operator_1 (by decide) (by rw [he0]) rfl ?_
    refine zw_iconst (v := 4) d_M_operator_100 rfl ?_
    exact zw_iret d_M_operator_101 hr h
  by_cases he1 : a0 = (38 : Int32)
  · have h := hs1 he1; clear hs0 hs1 hs2 hs3 hs4 hs5 hs6 hs7 hs8 hs9 hsd
    refine zw_lookup (tgt := 102) d_M_operator_1 (by decide) (by rw [he1]) rfl ?_
    refine zw_iconst (v := 5) d_M_operator_102 rfl ?_
    exact zw_iret d_M_operator_103 hr h
  by_cases he2 : a0 = (42 : Int32)
  · have h := hs2 he2; clear hs0 hs1 hs2 hs3 hs4 hs5 hs6 hs7 hs8 hs9 hsd
    refine zw_lookup (tgt := 96) d_M_operator_1 (by decide) (by rw [he2]) rfl ?_
    refine zw_iconst (v := 2) d_M_operator_96 rfl ?_
    exact zw_iret d_M_operator_97 hr h
  by_cases he3 : a0 = (43 : Int32)
  · have h := hs3 he3; clear hs0 hs1 hs2 hs3 hs4 hs5 hs6 hs7 hs8 hs9 hsd
    refine zw_lookup (tgt := 92) d_M_operator_1 (by decide) (by rw [he3]) rfl ?_
    refine zw_iconst (v := 0) d_M_operator_92 rfl ?_
    exact zw_iret d_M_operator_93 hr h
  by_cases he4 : a0 = (45 : Int32)
  · have h := hs4 he4; clear hs0 hs1 hs2 hs3 hs4 hs5 hs6 hs7 hs8 hs9 hsd
    refine zw_lookup (tgt := 94) d_M_operator_1 (by decide) (by rw [he4]) rfl ?_
    refine zw_iconst (v := 1) d_M_operator_94 rfl ?_
    exact zw_iret d_M_operator_95 hr h
  by_cases he5 : a0 = (47 : Int32)
  · have h := hs5 he5; clear hs0 hs1 hs2 hs3 hs4 hs5 hs6 hs7 hs8 hs9 hsd
    refine zw_lookup (tgt := 98) d_M_operator_1 (by decide) (by rw [he5]) rfl ?_
    refine zw_iconst (v := 3) d_M_operator_98 rfl ?_
    exact zw_iret d_M_operator_99 hr h
  by_cases he6 : a0 = (60 : Int32)
  · have h := hs6 he6; clear hs0 hs1 hs2 hs3 hs4 hs5 hs6 hs7 hs8 hs9 hsd
    refine zw_lookup (tgt := 110) d_M_operator_1 (by decide) (by rw [he6]) rfl ?_
    refine zw_bipush (v := 8) d_M_operator_110 rfl ?_
    exact zw_iret d_M_operator_112 hr h
  by_cases he7 : a0 = (61 : Int32)
  · have h := hs7 he7; clear hs0 hs1 hs2 hs3 hs4 hs5 hs6 hs7 hs8 hs9 hsd
    refine zw_lookup (tgt := 113) d_M_operator_1 (by decide) (by rw [he7]) rfl ?_
    refine zw_bipush (v := 9) d_M_operator_113 rfl ?_
    exact zw_iret d_M_operator_115 hr h
  by_cases he8 : a0 = (94 : Int32)
  · have h := hs8 he8; clear hs0 hs1 hs2 hs3 hs4 hs5 hs6 hs7 hs8 hs9 hsd
    refine zw_lookup (tgt := 107) d_M_operator_1 (by decide) (by rw [he8]) rfl ?_
    refine zw_bipush (v := 7) d_M_operator_107 rfl ?_
    exact zw_iret d_M_operator_109 hr h
  by_cases he9 : a0 = (124 : Int32)
  · have h := hs9 he9; clear hs0 hs1 hs2 hs3 hs4 hs5 hs6 hs7 hs8 hs9 hsd
    refine zw_lookup (tgt := 104) d_M_operator_1 (by decide) (by rw [he9]) rfl ?_
    refine zw_bipush (v := 6) d_M_operator_104 rfl ?_
    exact zw_iret d_M_operator_106 hr h
  have h := hsd he0 he1 he2 he3 he4 he5 he6 he7 he8 he9; clear hs0 hs1 hs2 hs3 hs4 hs5 hs6 hs7 hs8 hs9 hsd
  refine zw_lookup (tgt := 116) d_M_operator_1 (by decide) ((lv_osw he0 rfl).trans ((lv_osw he1 rfl).trans ((lv_osw he2 rfl).trans ((lv_osw he3 rfl).trans ((lv_osw he4 rfl).trans ((lv_osw he5 rfl).trans ((lv_osw he6 rfl).trans ((lv_osw he7 rfl).trans ((lv_osw he8 rfl).trans ((lv_osw he9 rfl).trans (rfl))))))))))) rfl ?_
  refine zw_iconst (v := -1) d_M_operator_116 rfl ?_
  exact zw_iret d_M_operator_117 hr h
theorem c_M_operator {l : Launch} {D : va_G} {cA : Nat → ClassId} {base n : Nat} {ex : Bool} {Q : Int32 → zS → Prop} {a0 : Int32} {σ : zS} (h : P_M_operator n a0 σ Q) : zM l y_M_operator prog_9_method_14_code 1 (some .int) 1 0 0 (zA base) D cA base n n ex [.int a0] σ (zqi Q) :=
  zMet (by decide) rfl (Nat.le_of_ble_eq_true rfl) (fun p e s m args below meth c hr hnm => w_M_operator hr h)
def P_M_sign_94 (n : Nat) (Q : Int32 → zS → Prop) (b0 : Int32) (σ : zS) : Prop := Q b0 σ
set_option maxHeartbeats 1000000 in
set_option maxRecDepth 10000 in
theorem w_M_sign_94 {Q : Int32 → zS → Prop} (hr : meth.sig.returnType = some .int) {b0 : Int32} {σ : zS} (h : P_M_sign_94 n Q b0 σ) : zG p l e (zrm 1 0 0) s m args below meth c (MQ below (zQc (zA base) D cA base n ex (zqi Q)) args s 0 0 (zA base)) s.heap (zA base) base D cA 1 ex prog_9_method_15_code "ConstantFlowModel" n 0 0 94 [none] [.int b0] σ := by
  unfold P_M_sign_94 at h
  exact zw_iret d_M_sign_94 hr h
def P_M_sign (n : Nat) (a0 : Int32) (σ : zS) (Q : Int32 → zS → Prop) : Prop := ((¬ a0 = 0 → ((¬ a0 = (1 : Int32) → ((¬ a0 = (2 : Int32) → ((¬ a0 = (3 : Int32) → ((¬ a0 = (4 : Int32) → ((¬ a0 = (5 : Int32) → ((¬ a0 = (6 : Int32) → ((¬ a0 = (7 : Int32) → ((¬ a0 = (8 : Int32) → P_M_sign_94 n Q (61 : Int32) σ) ∧ (a0 = (8 : Int32) → P_M_sign_94 n Q (60 : Int32) σ))) ∧ (a0 = (7 : Int32) → P_M_sign_94 n Q (94 : Int32) σ))) ∧ (a0 = (6 : Int32) → P_M_sign_94 n Q (124 : Int32) σ))) ∧ (a0 = (5 : Int32) → P_M_sign_94 n Q (38 : Int32) σ))) ∧ (a0 = (4 : Int32) → P_M_sign_94 n Q (37 : Int32) σ))) ∧ (a0 = (3 : Int32) → P_M_sign_94 n Q (47 : Int32) σ))) ∧ (a0 = (2 : Int32) → P_M_sign_94 n Q (42 : Int32) σ))) ∧ (a0 = (1 : Int32) → P_M_sign_94 n Q (45 : Int32) σ))) ∧ (a0 = 0 → P_M_sign_94 n Q (43 : Int32) σ))
set_option maxHeartbeats 1000000 in
set_option maxRecDepth 10000 in
theorem w_M_sign {Q : Int32 → zS → Prop} (hr : meth.sig.returnType = some .int) {a0 : Int32} {σ : zS} (h : P_M_sign n a0 σ Q) : zG p l e (zrm 1 0 0) s m args below meth c (MQ below (zQc (zA base) D cA base n ex (zqi Q)) args s 0 0 (zA base)) s.heap (zA base) base D cA 1 ex prog_9_method_15_code "ConstantFlowModel" n 0 0 0 [some (.int a0)] [] σ := by
  unfold P_M_sign at h
  refine zw_iload_n d_M_sign_0 rfl rfl ?_
  obtain ⟨ht, hf⟩ := h
  refine zw_if_ne (tgt := 9) d_M_sign_1 rfl (fun hc => ?_) (fun hc => ?_)
  · have h := ht hc; clear ht hf
    refine zw_iload_n d_M_sign_9 rfl rfl ?_
    refine zw_iconst (v := 1) d_M_sign_10 rfl ?_
    obtain ⟨ht, hf⟩ := h
    refine zw_icmp_ne (tgt := 19) d_M_sign_11 rfl (fun hc => ?_) (fun hc => ?_)
    · have h := ht hc; clear ht hf
      refine zw_iload_n d_M_sign_19 rfl rfl ?_
      refine zw_iconst (v := 2) d_M_sign_20 rfl ?_
      obtain ⟨ht, hf⟩ := h
      refine zw_icmp_ne (tgt := 29) d_M_sign_21 rfl (fun hc => ?_) (fun hc => ?_)
      · have h := ht hc; clear ht hf
        refine zw_iload_n d_M_sign_29 rfl rfl ?_
        refine zw_iconst (v := 3) d_M_sign_30 rfl ?_
        obtain ⟨ht, hf⟩ := h
        refine zw_icmp_ne (tgt := 39) d_M_sign_31 rfl (fun hc => ?_) (fun hc => ?_)
        · have h := ht hc; clear ht hf
          refine zw_iload_n d_M_sign_39 rfl rfl ?_
          refine zw_iconst (v := 4) d_M_sign_40 rfl ?_
          obtain ⟨ht, hf⟩ := h
          refine zw_icmp_ne (tgt := 49) d_M_sign_41 rfl (fun hc => ?_) (fun hc => ?_)
          · have h := ht hc; clear ht hf
            refine zw_iload_n d_M_sign_49 rfl rfl ?_
            refine zw_iconst (v := 5) d_M_sign_50 rfl ?_
            obtain ⟨ht, hf⟩ := h
            refine zw_icmp_ne (tgt := 59) d_M_sign_51 rfl (fun hc => ?_) (fun hc => ?_)
            · have h := ht hc; clear ht hf
              refine zw_iload_n d_M_sign_59 rfl rfl ?_
              refine zw_bipush (v := 6) d_M_sign_60 rfl ?_
              obtain ⟨ht, hf⟩ := h
              refine zw_icmp_ne (tgt := 70) d_M_sign_62 rfl (fun hc => ?_) (fun hc => ?_)
              · have h := ht hc; clear ht hf
                refine zw_iload_n d_M_sign_70 rfl rfl ?_
                refine zw_bipush (v := 7) d_M_sign_71 rfl ?_
                obtain ⟨ht, hf⟩ := h
                refine zw_icmp_ne (tgt := 81) d_M_sign_73 rfl (fun hc => ?_) (fun hc => ?_)
                · have h := ht hc; clear ht hf
                  refine zw_iload_n d_M_sign_81 rfl rfl ?_
                  refine zw_bipush (v := 8) d_M_sign_82 rfl ?_
                  obtain ⟨ht, hf⟩ := h
                  refine zw_icmp_ne (tgt := 92) d_M_sign_84 rfl (fun hc => ?_) (fun hc => ?_)
                  · have h := ht hc; clear ht hf
                    refine zw_bipush (v := 61) d_M_sign_92 rfl ?_
                    refine zw_le (ls' := [none]) (True.intro) ?_
                    exact w_M_sign_94 hr h
                  · have h := hf hc; clear ht hf
                    refine zw_bipush (v := 60) d_M_sign_87 rfl ?_
                    refine zw_goto (tgt := 94) d_M_sign_89 rfl ?_
                    refine zw_le (ls' := [none]) (True.intro) ?_
                    exact w_M_sign_94 hr h
                · have h := hf hc; clear ht hf
                  refine zw_bipush (v := 94) d_M_sign_76 rfl ?_
                  refine zw_goto (tgt := 94) d_M_sign_78 rfl ?_
                  refine zw_le (ls' := [none]) (True.intro) ?_
                  exact w_M_sign_94 hr h
              · have h := hf hc; clear ht hf
                refine zw_bipush (v := 124) d_M_sign_65 rfl ?_
                refine zw_goto (tgt := 94) d_M_sign_67 rfl ?_
                refine zw_le (ls' := [none]) (True.intro) ?_
                exact w_M_sign_94 hr h
            · have h := hf hc; clear ht hf
              refine zw_bipush (v := 38) d_M_sign_54 rfl ?_
              refine zw_goto (tgt := 94) d_M_sign_56 rfl ?_
              refine zw_le (ls' := [none]) (True.intro) ?_
              exact w_M_sign_94 hr h
          · have h := hf hc; clear ht hf
            refine zw_bipush (v := 37) d_M_sign_44 rfl ?_
            refine zw_goto (tgt := 94) d_M_sign_46 rfl ?_
            refine zw_le (ls' := [none]) (True.intro) ?_
            exact w_M_sign_94 hr h
        · have h := hf hc; clear ht hf
          refine zw_bipush (v := 47) d_M_sign_34 rfl ?_
          refine zw_goto (tgt := 94) d_M_sign_36 rfl ?_
          refine zw_le (ls' := [none]) (True.intro) ?_
          exact w_M_sign_94 hr h
      · have h := hf hc; clear ht hf
        refine zw_bipush (v := 42) d_M_sign_24 rfl ?_
        refine zw_goto (tgt := 94) d_M_sign_26 rfl ?_
        refine zw_le (ls' := [none]) (True.intro) ?_
        exact w_M_sign_94 hr h
    · have h := hf hc; clear ht hf
      refine zw_bipush (v := 45) d_M_sign_14 rfl ?_
      refine zw_goto (tgt := 94) d_M_sign_16 rfl ?_
      refine zw_le (ls' := [none]) (True.intro) ?_
      exact w_M_sign_94 hr h
  · have h := hf hc; clear ht hf
    refine zw_bipush (v := 43) d_M_sign_4 rfl ?_
    refine zw_goto (tgt := 94) d_M_sign_6 rfl ?_
    refine zw_le (ls' := [none]) (True.intro) ?_
    exact w_M_sign_94 hr h
theorem c_M_sign {l : Launch} {D : va_G} {cA : Nat → ClassId} {base n : Nat} {ex : Bool} {Q : Int32 → zS → Prop} {a0 : Int32} {σ : zS} (h : P_M_sign n a0 σ Q) : zM l y_M_sign prog_9_method_15_code 1 (some .int) 1 0 0 (zA base) D cA base n n ex [.int a0] σ (zqi Q) :=
  zMet (by decide) rfl (Nat.le_of_ble_eq_true rfl) (fun p e s m args below meth c hr hnm => w_M_sign hr h)
def P_M_fault (n : Nat) (a0 : Nat) (σ : zS) (Q : Int32 → zS → Prop) : Prop := zk n a0 7 ∧ Q (zi (zI σ a0 0 (0 : Int32)) a0 3) (zI σ a0 0 (0 : Int32))
set_option maxHeartbeats 1000000 in
set_option maxRecDepth 10000 in
theorem w_M_fault {Q : Int32 → zS → Prop} (hr : meth.sig.returnType = some .int) {a0 : Nat} {σ : zS} (h : P_M_fault n a0 σ Q) : zG p l e (zrm 1 0 0) s m args below meth c (MQ below (zQc (zA base) D cA base n ex (zqi Q)) args s 0 0 (zA base)) s.heap (zA base) base D cA 1 ex prog_9_method_21_code "ConstantFlowModel" n 0 0 0 [some (.ref a0)] [] σ := by
  unfold P_M_fault at h
  refine zw_aload_n d_M_fault_0 rfl rfl ?_
  refine zw_iconst (v := 0) d_M_fault_1 rfl ?_
  obtain ⟨q1, h⟩ := h
  refine zw_pfi (ci := 7) (j := 0) d_M_fault_2 mw_3_185 q1.1 q1.2 (by decide) (by decide) rfl rfl rfl rfl ?_
  refine zw_aload_n d_M_fault_5 rfl rfl ?_
  refine zw_gfi (ci := 7) (j := 3) d_M_fault_6 mw_3_188 q1.1 q1.2 (by decide) (by decide) rfl ?_
  exact zw_iret d_M_fault_9 hr h
theorem c_M_fault {l : Launch} {D : va_G} {cA : Nat → ClassId} {base n : Nat} {ex : Bool} {Q : Int32 → zS → Prop} {a0 : Nat} {σ : zS} (h : P_M_fault n a0 σ Q) : zM l y_M_fault prog_9_method_21_code 1 (some .int) 1 0 0 (zA base) D cA base n n ex [.ref a0] σ (zqi Q) :=
  zMet (by decide) rfl (Nat.le_of_ble_eq_true rfl) (fun p e s m args below meth c hr hnm => w_M_fault hr h)
def P_M_place (n : Nat) (a0 : Nat) (σ : zS) (Q : Int32 → zS → Prop) : Prop := zk n a0 7 ∧ Q (zi (zI σ a0 0 (0 : Int32)) a0 4) (zI σ a0 0 (0 : Int32))
set_option maxHeartbeats 1000000 in
set_option maxRecDepth 10000 in
theorem w_M_place {Q : Int32 → zS → Prop} (hr : meth.sig.returnType = some .int) {a0 : Nat} {σ : zS} (h : P_M_place n a0 σ Q) : zG p l e (zrm 1 0 0) s m args below meth c (MQ below (zQc (zA base) D cA base n ex (zqi Q)) args s 0 0 (zA base)) s.heap (zA base) base D cA 1 ex prog_9_method_22_code "ConstantFlowModel" n 0 0 0 [some (.ref a0)] [] σ := by
  unfold P_M_place at h
  refine zw_aload_n d_M_place_0 rfl rfl ?_
  refine zw_iconst (v := 0) d_M_place_1 rfl ?_
  obtain ⟨q1, h⟩ := h
  refine zw_pfi (ci := 7) (j := 0) d_M_place_2 mw_3_185 q1.1 q1.2 (by decide) (by decide) rfl rfl rfl rfl ?_
  refine zw_aload_n d_M_place_5 rfl rfl ?_
  refine zw_gfi (ci := 7) (j := 4) d_M_place_6 mw_3_189 q1.1 q1.2 (by decide) (by decide) rfl ?_
  exact zw_iret d_M_place_9 hr h
theorem c_M_place {l : Launch} {D : va_G} {cA : Nat → ClassId} {base n : Nat} {ex : Bool} {Q : Int32 → zS → Prop} {a0 : Nat} {σ : zS} (h : P_M_place n a0 σ Q) : zM l y_M_place prog_9_method_22_code 1 (some .int) 1 0 0 (zA base) D cA base n n ex [.ref a0] σ (zqi Q) :=
  zMet (by decide) rfl (Nat.le_of_ble_eq_true rfl) (fun p e s m args below meth c hr hnm => w_M_place hr h)
def P_M_reckoned_75 (n : Nat) (Q : Int32 → zS → Prop) (b0 : Int32) (σ : zS) : Prop := Q b0 σ
set_option maxHeartbeats 1000000 in
set_option maxRecDepth 10000 in
theorem w_M_reckoned_75 {Q : Int32 → zS → Prop} (hr : meth.sig.returnType = some .int) {b0 : Int32} {σ : zS} (h : P_M_reckoned_75 n Q b0 σ) : zG p l e (zrm 1 0 0) s m args below meth c (MQ below (zQc (zA base) D cA base n ex (zqi Q)) args s 0 0 (zA base)) s.heap (zA base) base D cA 3 ex prog_9_method_23_code "ConstantFlowModel" n 0 0 75 [none, none, none] [.int b0] σ := by
  unfold P_M_reckoned_75 at h
  exact zw_iret d_M_reckoned_75 hr h
def P_M_reckoned_87 (n : Nat) (Q : Int32 → zS → Prop) (b0 : Int32) (σ : zS) : Prop := Q b0 σ
set_option maxHeartbeats 1000000 in
set_option maxRecDepth 10000 in
theorem w_M_reckoned_87 {Q : Int32 → zS → Prop} (hr : meth.sig.returnType = some .int) {b0 : Int32} {σ : zS} (h : P_M_reckoned_87 n Q b0 σ) : zG p l e (zrm 1 0 0) s m args below meth c (MQ below (zQc (zA base) D cA base n ex (zqi Q)) args s 0 0 (zA base)) s.heap (zA base) base D cA 3 ex prog_9_method_23_code "ConstantFlowModel" n 0 0 87 [none, none, none] [.int b0] σ := by
  unfold P_M_reckoned_87 at h
  exact zw_iret d_M_reckoned_87 hr h
def P_M_reckoned_110 (n : Nat) (Q : Int32 → zS → Prop) (b0 : Int32) (σ : zS) : Prop := Q b0 σ
set_option maxHeartbeats 1000000 in
set_option maxRecDepth 10000 in
theorem w_M_reckoned_110 {Q : Int32 → zS → Prop} (hr : meth.sig.returnType = some .int) {b0 : Int32} {σ : zS} (h : P_M_reckoned_110 n Q b0 σ) : zG p l e (zrm 1 0 0) s m args below meth c (MQ below (zQc (zA base) D cA base n ex (zqi Q)) args s 0 0 (zA base)) s.heap (zA base) base D cA 3 ex prog_9_method_23_code "ConstantFlowModel" n 0 0 110 [none, none, none] [.int b0] σ := by
  unfold P_M_reckoned_110 at h
  exact zw_iret d_M_reckoned_110 hr h
def P_M_reckoned_121 (n : Nat) (Q : Int32 → zS → Prop) (b0 : Int32) (σ : zS) : Prop := Q b0 σ
set_option maxHeartbeats 1000000 in
set_option maxRecDepth 10000 in
theorem w_M_reckoned_121 {Q : Int32 → zS → Prop} (hr : meth.sig.returnType = some .int) {b0 : Int32} {σ : zS} (h : P_M_reckoned_121 n Q b0 σ) : zG p l e (zrm 1 0 0) s m args below meth c (MQ below (zQc (zA base) D cA base n ex (zqi Q)) args s 0 0 (zA base)) s.heap (zA base) base D cA 3 ex prog_9_method_23_code "ConstantFlowModel" n 0 0 121 [none, none, none] [.int b0] σ := by
  unfold P_M_reckoned_121 at h
  exact zw_iret d_M_reckoned_121 hr h
def P_M_reckoned (n : Nat) (a0 : Int32) (a1 : Int32) (a2 : Int32) (σ : zS) (Q : Int32 → zS → Prop) : Prop := ((a0 = (0 : Int32) → Q (a1 + a2) σ) ∧ (a0 = (1 : Int32) → Q (a1 - a2) σ) ∧ (a0 = (2 : Int32) → Q (a1 * a2) σ) ∧ (a0 = (3 : Int32) → ((¬ a2 = 0 → (¬ a2 = 0) ∧ P_M_reckoned_75 n Q (a1 / a2) σ) ∧ (a2 = 0 → P_M_reckoned_75 n Q (0 : Int32) σ))) ∧ (a0 = (4 : Int32) → ((¬ a2 = 0 → (¬ a2 = 0) ∧ P_M_reckoned_87 n Q (a1 - a1 / a2 * a2) σ) ∧ (a2 = 0 → P_M_reckoned_87 n Q (0 : Int32) σ))) ∧ (a0 = (5 : Int32) → Q (a1 &&& a2) σ) ∧ (a0 = (6 : Int32) → Q (a1 ||| a2) σ) ∧ (a0 = (7 : Int32) → Q (a1 ^^^ a2) σ) ∧ (a0 = (8 : Int32) → ((a2 ≤ a1 → P_M_reckoned_110 n Q (0 : Int32) σ) ∧ (¬ (a2 ≤ a1) → P_M_reckoned_110 n Q (1 : Int32) σ))) ∧ (¬ a0 = (0 : Int32) → ¬ a0 = (1 : Int32) → ¬ a0 = (2 : Int32) → ¬ a0 = (3 : Int32) → ¬ a0 = (4 : Int32) → ¬ a0 = (5 : Int32) → ¬ a0 = (6 : Int32) → ¬ a0 = (7 : Int32) → ¬ a0 = (8 : Int32) → ((¬ a1 = a2 → P_M_reckoned_121 n Q (0 : Int32) σ) ∧ (a1 = a2 → P_M_reckoned_121 n Q (1 : Int32) σ))))
set_option maxHeartbeats 1000000 in
set_option maxRecDepth 10000 in
theorem w_M_reckoned {Q : Int32 → zS → Prop} (hr : meth.sig.returnType = some .int) {a0 : Int32} {a1 : Int32} {a2 : Int32} {σ : zS} (h : P_M_reckoned n a0 a1 a2 σ Q) : zG p l e (zrm 1 0 0) s m args below meth c (MQ below (zQc (zA base) D cA base n ex (zqi Q)) args s 0 0 (zA base)) s.heap (zA base) base D cA 3 ex prog_9_method_23_code "ConstantFlowModel" n 0 0 0 [some (.int a0), some (.int a1), some (.int a2)] [] σ := by
  unfold P_M_reckoned at h
  refine zw_iload_n d_M_reckoned_0 rfl rfl ?_
  obtain ⟨hs0, hs1, hs2, hs3, hs4, hs5, hs6, hs7, hs8, hsd⟩ := h
  by_cases he0 : a0 = (0 : Int32)
  · have h := hs0 he0; clear hs0 hs1 hs2 hs3 hs4 hs5 hs6 hs7 hs8 hsd
    refine zw_tableIn (tgt := 52) d_M_reckoned_1 (by rw [he0]; decide) (by rw [he0]; decide) (by rw [he0]; rfl) rfl ?_
    refine zw_iload_n d_M_reckoned_52 rfl rfl ?_
    refine zw_iload_n d_M_reckoned_53 rfl rfl ?_
    refine zw_iadd d_M_reckoned_54 ?_
    exact zw_iret d_M_reckoned_55 hr h
  by_cases he1 : a0 = (1 : Int32)
  · have h := hs1 he1; clear hs0 hs1 hs2 hs3 hs4 hs5 hs6 hs7 hs8 hsd
    refine zw_tableIn (tgt := 56) d_M_reckoned_1 (by rw [he1]; decide) (by rw [he1]; decide) (by rw [he1]; rfl) rfl ?_
    refine zw_iload_n d_M_reckoned_56 rfl rfl ?_
    refine zw_iload_n d_M_reckoned_57 rfl rfl ?_
    refine zw_isub d_M_reckoned_58 ?_
    exact zw_iret d_M_reckoned_59 hr h
  by_cases he2 : a0 = (2 : Int32)
  · have h := hs2 he2; clear hs0 hs1 hs2 hs3 hs4 hs5 hs6 hs7 hs8 hsd
    refine zw_tableIn (tgt := 60) d_M_reckoned_1 (by rw [he2]; decide) (by rw [he2]; decide) (by rw [he2]; rfl) rfl ?_
    refine zw_iload_n d_M_reckoned_60 rfl rfl ?_
    refine zw_iload_n d_M_reckoned_61 rfl rfl ?_
    refine zw_imul d_M_reckoned_62 ?_
    exact zw_iret d_M_reckoned_63 hr h
  by_cases he3 : a0 = (3 : Int32)
  · have h := hs3 he3; clear hs0 hs1 hs2 hs3 hs4 hs5 hs6 hs7 hs8 hsd
    refine zw_tableIn (tgt := 64) d_M_reckoned_1 (by rw [he3]; decide) (by rw [he3]; decide) (by rw [he3]; rfl) rfl ?_
    refine zw_iload_n d_M_reckoned_64 rfl rfl ?_
    obtain ⟨ht, hf⟩ := h
    refine zw_if_ne (tgt := 72) d_M_reckoned_65 rfl (fun hc => ?_) (fun hc => ?_)
    · have h := ht hc; clear ht hf
      refine zw_iload_n d_M_reckoned_72 rfl rfl ?_
      refine zw_iload_n d_M_reckoned_73 rfl rfl ?_
      obtain ⟨q1, h⟩ := h
      refine zw_idiv d_M_reckoned_74 q1 ?_
      refine zw_le (ls' := [none, none, none]) (True.intro) ?_
      exact w_M_reckoned_75 hr h
    · have h := hf hc; clear ht hf
      refine zw_iconst (v := 0) d_M_reckoned_68 rfl ?_
      refine zw_goto (tgt := 75) d_M_reckoned_69 rfl ?_
      refine zw_le (ls' := [none, none, none]) (True.intro) ?_
      exact w_M_reckoned_75 hr h
  by_cases he4 : a0 = (4 : Int32)
  · have h := hs4 he4; clear hs0 hs1 hs2 hs3 hs4 hs5 hs6 hs7 hs8 hsd
    refine zw_tableIn (tgt := 76) d_M_reckoned_1 (by rw [he4]; decide) (by rw [he4]; decide) (by rw [he4]; rfl) rfl ?_
    refine zw_iload_n d_M_reckoned_76 rfl rfl ?_
    obtain ⟨ht, hf⟩ := h
    refine zw_if_ne (tgt := 84) d_M_reckoned_77 rfl (fun hc => ?_) (fun hc => ?_)
    · have h := ht hc; clear ht hf
      refine zw_iload_n d_M_reckoned_84 rfl rfl ?_
      refine zw_iload_n d_M_reckoned_85 rfl rfl ?_
      obtain ⟨q2, h⟩ := h
      refine zw_irem d_M_reckoned_86 q2 ?_
      refine zw_le (ls' := [none, none, none]) (True.intro) ?_
      exact w_M_reckoned_87 hr h
    · have h := hf hc; clear ht hf
      refine zw_iconst (v := 0) d_M_reckoned_80 rfl ?_
      refine zw_goto (tgt := 87) d_M_reckoned_81 rfl ?_
      refine zw_le (ls' := [none, none, none]) (True.intro) ?_
      exact w_M_reckoned_87 hr h
  by_cases he5 : a0 = (5 : Int32)
  · have h := hs5 he5; clear hs0 hs1 hs2 hs3 hs4 hs5 hs6 hs7 hs8 hsd
    refine zw_tableIn (tgt := 88) d_M_reckoned_1 (by rw [he5]; decide) (by rw [he5]; decide) (by rw [he5]; rfl) rfl ?_
    refine zw_iload_n d_M_reckoned_88 rfl rfl ?_
    refine zw_iload_n d_M_reckoned_89 rfl rfl ?_
    refine zw_iand d_M_reckoned_90 ?_
    exact zw_iret d_M_reckoned_91 hr h
  by_cases he6 : a0 = (6 : Int32)
  · have h := hs6 he6; clear hs0 hs1 hs2 hs3 hs4 hs5 hs6 hs7 hs8 hsd
    refine zw_tableIn (tgt := 92) d_M_reckoned_1 (by rw [he6]; decide) (by rw [he6]; decide) (by rw [he6]; rfl) rfl ?_
    refine zw_iload_n d_M_reckoned_92 rfl rfl ?_
    refine zw_iload_n d_M_reckoned_93 rfl rfl ?_
    refine zw_ior d_M_reckoned_94 ?_
    exact zw_iret d_M_reckoned_95 hr h
  by_cases he7 : a0 = (7 : Int32)
  · have h := hs7 he7; clear hs0 hs1 hs2 hs3 hs4 hs5 hs6 hs7 hs8 hsd
    refine zw_tableIn (tgt := 96) d_M_reckoned_1 (by rw [he7]; decide) (by rw [he7]; decide) (by rw [he7]; rfl) rfl ?_
    refine zw_iload_n d_M_reckoned_96 rfl rfl ?_
    refine zw_iload_n d_M_reckoned_97 rfl rfl ?_
    refine zw_ixor d_M_reckoned_98 ?_
    exact zw_iret d_M_reckoned_99 hr h
  by_cases he8 : a0 = (8 : Int32)
  · have h := hs8 he8; clear hs0 hs1 hs2 hs3 hs4 hs5 hs6 hs7 hs8 hsd
    refine zw_tableIn (tgt := 100) d_M_reckoned_1 (by rw [he8]; decide) (by rw [he8]; decide) (by rw [he8]; rfl) rfl ?_
    refine zw_iload_n d_M_reckoned_100 rfl rfl ?_
    refine zw_iload_n d_M_reckoned_101 rfl rfl ?_
    obtain ⟨ht, hf⟩ := h
    refine zw_icmp_ge (tgt := 109) d_M_reckoned_102 rfl (fun hc => ?_) (fun hc => ?_)
    · have h := ht hc; clear ht hf
      refine zw_iconst (v := 0) d_M_reckoned_109 rfl ?_
      refine zw_le (ls' := [none, none, none]) (True.intro) ?_
      exact w_M_reckoned_110 hr h
    · have h := hf hc; clear ht hf
      refine zw_iconst (v := 1) d_M_reckoned_105 rfl ?_
      refine zw_goto (tgt := 110) d_M_reckoned_106 rfl ?_
      refine zw_le (ls' := [none, none, none]) (True.intro) ?_
      exact w_M_reckoned_110 hr h
  have h := hsd he0 he1 he2 he3 he4 he5 he6 he7 he8; clear hs0 hs1 hs2 hs3 hs4 hs5 hs6 hs7 hs8 hsd
  refine zw_tableOut (tgt := 111) d_M_reckoned_1 (by have e0 := lv_neT he0 (a := 0) (by decide); have e1 := lv_neT he1 (a := 1) (by decide); have e2 := lv_neT he2 (a := 2) (by decide); have e3 := lv_neT he3 (a := 3) (by decide); have e4 := lv_neT he4 (a := 4) (by decide); have e5 := lv_neT he5 (a := 5) (by decide); have e6 := lv_neT he6 (a := 6) (by decide); have e7 := lv_neT he7 (a := 7) (by decide); have e8 := lv_neT he8 (a := 8) (by decide); omega) rfl ?_
  refine zw_iload_n d_M_reckoned_111 rfl rfl ?_
  refine zw_iload_n d_M_reckoned_112 rfl rfl ?_
  obtain ⟨ht, hf⟩ := h
  refine zw_icmp_ne (tgt := 120) d_M_reckoned_113 rfl (fun hc => ?_) (fun hc => ?_)
  · have h := ht hc; clear ht hf
    refine zw_iconst (v := 0) d_M_reckoned_120 rfl ?_
    refine zw_le (ls' := [none, none, none]) (True.intro) ?_
    exact w_M_reckoned_121 hr h
  · have h := hf hc; clear ht hf
    refine zw_iconst (v := 1) d_M_reckoned_116 rfl ?_
    refine zw_goto (tgt := 121) d_M_reckoned_117 rfl ?_
    refine zw_le (ls' := [none, none, none]) (True.intro) ?_
    exact w_M_reckoned_121 hr h
theorem c_M_reckoned {l : Launch} {D : va_G} {cA : Nat → ClassId} {base n : Nat} {ex : Bool} {Q : Int32 → zS → Prop} {a0 : Int32} {a1 : Int32} {a2 : Int32} {σ : zS} (h : P_M_reckoned n a0 a1 a2 σ Q) : zM l y_M_reckoned prog_9_method_23_code 3 (some .int) 1 0 0 (zA base) D cA base n n ex [.int a0, .int a1, .int a2] σ (zqi Q) :=
  zMet (by decide) rfl (Nat.le_of_ble_eq_true rfl) (fun p e s m args below meth c hr hnm => w_M_reckoned hr h)
def P_M_sortOf_14 (n : Nat) (Q : Int32 → zS → Prop) (b0 : Int32) (σ : zS) : Prop := Q b0 σ
set_option maxHeartbeats 1000000 in
set_option maxRecDepth 10000 in
theorem w_M_sortOf_14 {Q : Int32 → zS → Prop} (hr : meth.sig.returnType = some .int) {b0 : Int32} {σ : zS} (h : P_M_sortOf_14 n Q b0 σ) : zG p l e (zrm 1 0 0) s m args below meth c (MQ below (zQc (zA base) D cA base n ex (zqi Q)) args s 0 0 (zA base)) s.heap (zA base) base D cA 3 ex prog_9_method_24_code "ConstantFlowModel" n 0 0 14 [none, none, none] [.int b0] σ := by
  unfold P_M_sortOf_14 at h
  exact zw_iret d_M_sortOf_14 hr h
def P_M_sortOf (n : Nat) (a0 : Nat) (a1 : Int32) (a2 : Int32) (σ : zS) (Q : Int32 → zS → Prop) : Prop := ((¬ a1 = 0 → zk n a0 7 ∧ ∃ c2, zr σ a0 23 = some c2 ∧ za n c2 10 a2 ∧ P_M_sortOf_14 n Q (zi σ c2 a2.toNatClampNeg) σ) ∧ (a1 = 0 → P_M_sortOf_14 n Q (1 : Int32) σ))
set_option maxHeartbeats 1000000 in
set_option maxRecDepth 10000 in
theorem w_M_sortOf {Q : Int32 → zS → Prop} (hr : meth.sig.returnType = some .int) {a0 : Nat} {a1 : Int32} {a2 : Int32} {σ : zS} (h : P_M_sortOf n a0 a1 a2 σ Q) : zG p l e (zrm 1 0 0) s m args below meth c (MQ below (zQc (zA base) D cA base n ex (zqi Q)) args s 0 0 (zA base)) s.heap (zA base) base D cA 3 ex prog_9_method_24_code "ConstantFlowModel" n 0 0 0 [some (.ref a0), some (.int a1), some (.int a2)] [] σ := by
  unfold P_M_sortOf at h
  refine zw_iload_n d_M_sortOf_0 rfl rfl ?_
  obtain ⟨ht, hf⟩ := h
  refine zw_if_ne (tgt := 8) d_M_sortOf_1 rfl (fun hc => ?_) (fun hc => ?_)
  · have h := ht hc; clear ht hf
    refine zw_aload_n d_M_sortOf_8 rfl rfl ?_
    obtain ⟨q1, h⟩ := h
    obtain ⟨c2, q3, h⟩ := h
    refine zw_gfr (ci := 7) (j := 23) d_M_sortOf_9 mw_3_208 q1.1 q1.2 (by decide) (by decide) rfl q3 ?_
    refine zw_iload_n d_M_sortOf_12 rfl rfl ?_
    obtain ⟨q4, h⟩ := h
    refine zw_iald d_M_sortOf_13 q4.1 (zkd_eta q4.2.1) q4.2.2 ?_
    refine zw_le (ls' := [none, none, none]) (True.intro) ?_
    exact w_M_sortOf_14 hr h
  · have h := hf hc; clear ht hf
    refine zw_iconst (v := 1) d_M_sortOf_4 rfl ?_
    refine zw_goto (tgt := 14) d_M_sortOf_5 rfl ?_
    refine zw_le (ls' := [none, none, none]) (True.intro) ?_
    exact w_M_sortOf_14 hr h
theorem c_M_sortOf {l : Launch} {D : va_G} {cA : Nat → ClassId} {base n : Nat} {ex : Bool} {Q : Int32 → zS → Prop} {a0 : Nat} {a1 : Int32} {a2 : Int32} {σ : zS} (h : P_M_sortOf n a0 a1 a2 σ Q) : zM l y_M_sortOf prog_9_method_24_code 3 (some .int) 1 0 0 (zA base) D cA base n n ex [.ref a0, .int a1, .int a2] σ (zqi Q) :=
  zMet (by decide) rfl (Nat.le_of_ble_eq_true rfl) (fun p e s m args below meth c hr hnm => w_M_sortOf hr h)
def P_M_numberOf_14 (n : Nat) (Q : Int32 → zS → Prop) (b0 : Int32) (σ : zS) : Prop := Q b0 σ
set_option maxHeartbeats 1000000 in
set_option maxRecDepth 10000 in
theorem w_M_numberOf_14 {Q : Int32 → zS → Prop} (hr : meth.sig.returnType = some .int) {b0 : Int32} {σ : zS} (h : P_M_numberOf_14 n Q b0 σ) : zG p l e (zrm 1 0 0) s m args below meth c (MQ below (zQc (zA base) D cA base n ex (zqi Q)) args s 0 0 (zA base)) s.heap (zA base) base D cA 3 ex prog_9_method_25_code "ConstantFlowModel" n 0 0 14 [none, none, none] [.int b0] σ := by
  unfold P_M_numberOf_14 at h
  exact zw_iret d_M_numberOf_14 hr h
def P_M_numberOf (n : Nat) (a0 : Nat) (a1 : Int32) (a2 : Int32) (σ : zS) (Q : Int32 → zS → Prop) : Prop := ((¬ a1 = 0 → zk n a0 7 ∧ ∃ c2, zr σ a0 24 = some c2 ∧ za n c2 10 a2 ∧ P_M_numberOf_14 n Q (zi σ c2 a2.toNatClampNeg) σ) ∧ (a1 = 0 → P_M_numberOf_14 n Q a2 σ))
set_option maxHeartbeats 1000000 in
set_option maxRecDepth 10000 in
theorem w_M_numberOf {Q : Int32 → zS → Prop} (hr : meth.sig.returnType = some .int) {a0 : Nat} {a1 : Int32} {a2 : Int32} {σ : zS} (h : P_M_numberOf n a0 a1 a2 σ Q) : zG p l e (zrm 1 0 0) s m args below meth c (MQ below (zQc (zA base) D cA base n ex (zqi Q)) args s 0 0 (zA base)) s.heap (zA base) base D cA 3 ex prog_9_method_25_code "ConstantFlowModel" n 0 0 0 [some (.ref a0), some (.int a1), some (.int a2)] [] σ := by
  unfold P_M_numberOf at h
  refine zw_iload_n d_M_numberOf_0 rfl rfl ?_
  obtain ⟨ht, hf⟩ := h
  refine zw_if_ne (tgt := 8) d_M_numberOf_1 rfl (fun hc => ?_) (fun hc => ?_)
  · have h := ht hc; clear ht hf
    refine zw_aload_n d_M_numberOf_8 rfl rfl ?_
    obtain ⟨q1, h⟩ := h
    obtain ⟨c2, q3, h⟩ := h
    refine zw_gfr (ci := 7) (j := 24) d_M_numberOf_9 mw_3_209 q1.1 q1.2 (by decide) (by decide) rfl q3 ?_
    refine zw_iload_n d_M_numberOf_12 rfl rfl ?_
    obtain ⟨q4, h⟩ := h
    refine zw_iald d_M_numberOf_13 q4.1 (zkd_eta q4.2.1) q4.2.2 ?_
    refine zw_le (ls' := [none, none, none]) (True.intro) ?_
    exact w_M_numberOf_14 hr h
  · have h := hf hc; clear ht hf
    refine zw_iload_n d_M_numberOf_4 rfl rfl ?_
    refine zw_goto (tgt := 14) d_M_numberOf_5 rfl ?_
    refine zw_le (ls' := [none, none, none]) (True.intro) ?_
    exact w_M_numberOf_14 hr h
theorem c_M_numberOf {l : Launch} {D : va_G} {cA : Nat → ClassId} {base n : Nat} {ex : Bool} {Q : Int32 → zS → Prop} {a0 : Nat} {a1 : Int32} {a2 : Int32} {σ : zS} (h : P_M_numberOf n a0 a1 a2 σ Q) : zM l y_M_numberOf prog_9_method_25_code 3 (some .int) 1 0 0 (zA base) D cA base n n ex [.ref a0, .int a1, .int a2] σ (zqi Q) :=
  zMet (by decide) rfl (Nat.le_of_ble_eq_true rfl) (fun p e s m args below meth c hr hnm => w_M_numberOf hr h)
def P_M_beginBlock_2 (n : Nat) (Q : zS → Prop) : Nat → Nat → Int32 → Int32 → zS → Prop
  | 0, _, _, _, _ => False
  | f + 1, a0, a1, a2, σ => (((8 : Int32) ≤ a2 → Q σ) ∧ (¬ ((8 : Int32) ≤ a2) → zk n a0 7 ∧ ∃ c2, zr σ a0 23 = some c2 ∧ ∃ c4, zr σ a0 21 = some c4 ∧ za n c4 10 (((8 : Int32) * a1) + a2) ∧ za n c2 10 a2 ∧ ∃ c8, zr (zI σ c2 a2.toNatClampNeg (zi σ c4 (((8 : Int32) * a1) + a2).toNatClampNeg)) a0 24 = some c8 ∧ ∃ c10, zr (zI σ c2 a2.toNatClampNeg (zi σ c4 (((8 : Int32) * a1) + a2).toNatClampNeg)) a0 22 = some c10 ∧ za n c10 10 (((8 : Int32) * a1) + a2) ∧ za n c8 10 a2 ∧ P_M_beginBlock_2 n Q f a0 a1 (a2 + (1 : Int32)) (zI (zI σ c2 a2.toNatClampNeg (zi σ c4 (((8 : Int32) * a1) + a2).toNatClampNeg)) c8 a2.toNatClampNeg (zi (zI σ c2 a2.toNatClampNeg (zi σ c4 (((8 : Int32) * a1) + a2).toNatClampNeg)) c10 (((8 : Int32) * a1) + a2).toNatClampNeg))))
set_option maxHeartbeats 1000000 in
set_option maxRecDepth 10000 in
theorem w_M_beginBlock_2 {Q : zS → Prop} (hr : meth.sig.returnType = none) : ∀ (f : Nat) (a0 : Nat) (a1 : Int32) (a2 : Int32) (σ : zS), P_M_beginBlock_2 n Q f a0 a1 a2 σ → zG p l e (zrm 1 0 0) s m args below meth c (MQ below (zQc (zA base) D cA base n ex (zqv Q)) args s 0 0 (zA base)) s.heap (zA base) base D cA 3 ex prog_9_method_28_code "ConstantFlowModel" n 0 0 2 [some (.ref a0), some (.int a1), some (.int a2)] [] σ := by
  intro f
  induction f with
  | zero => intro a0 a1 a2 σ h; exact False.elim h
  | succ f ih =>
    intro a0 a1 a2 σ h
    refine zw_iload_n d_M_beginBlock_2 rfl rfl ?_
    refine zw_bipush (v := 8) d_M_beginBlock_3 rfl ?_
    obtain ⟨ht, hf⟩ := h
    refine zw_icmp_ge (tgt := 48) d_M_beginBlock_5 rfl (fun hc => ?_) (fun hc => ?_)
    · have h := ht hc; clear ht hf
      exact zw_vret d_M_beginBlock_48 hr h
    · have h := hf hc; clear ht hf
      refine zw_aload_n d_M_beginBlock_8 rfl rfl ?_
      obtain ⟨q1, h⟩ := h
      obtain ⟨c2, q3, h⟩ := h
      refine zw_gfr (ci := 7) (j := 23) d_M_beginBlock_9 mw_3_208 q1.1 q1.2 (by decide) (by decide) rfl q3 ?_
      refine zw_iload_n d_M_beginBlock_12 rfl rfl ?_
      refine zw_aload_n d_M_beginBlock_13 rfl rfl ?_
      obtain ⟨c4, q5, h⟩ := h
      refine zw_gfr (ci := 7) (j := 21) d_M_beginBlock_14 mw_3_206 q1.1 q1.2 (by decide) (by decide) rfl q5 ?_
      refine zw_bipush (v := 8) d_M_beginBlock_17 rfl ?_
      refine zw_iload_n d_M_beginBlock_19 rfl rfl ?_
      refine zw_imul d_M_beginBlock_20 ?_
      refine zw_iload_n d_M_beginBlock_21 rfl rfl ?_
      refine zw_iadd d_M_beginBlock_22 ?_
      obtain ⟨q6, h⟩ := h
      refine zw_iald d_M_beginBlock_23 q6.1 (zkd_eta q6.2.1) q6.2.2 ?_
      obtain ⟨q7, h⟩ := h
      refine zw_iast d_M_beginBlock_24 q7.1 (zkd_eta q7.2.1) q7.2.2 ?_
      refine zw_aload_n d_M_beginBlock_25 rfl rfl ?_
      obtain ⟨c8, q9, h⟩ := h
      refine zw_gfr (ci := 7) (j := 24) d_M_beginBlock_26 mw_3_209 q1.1 q1.2 (by decide) (by decide) rfl q9 ?_
      refine zw_iload_n d_M_beginBlock_29 rfl rfl ?_
      refine zw_aload_n d_M_beginBlock_30 rfl rfl ?_
      obtain ⟨c10, q11, h⟩ := h
      refine zw_gfr (ci := 7) (j := 22) d_M_beginBlock_31 mw_3_207 q1.1 q1.2 (by decide) (by decide) rfl q11 ?_
      refine zw_bipush (v := 8) d_M_beginBlock_34 rfl ?_
      refine zw_iload_n d_M_beginBlock_36 rfl rfl ?_
      refine zw_imul d_M_beginBlock_37 ?_
      refine zw_iload_n d_M_beginBlock_38 rfl rfl ?_
      refine zw_iadd d_M_beginBlock_39 ?_
      obtain ⟨q12, h⟩ := h
      refine zw_iald d_M_beginBlock_40 q12.1 (zkd_eta q12.2.1) q12.2.2 ?_
      obtain ⟨q13, h⟩ := h
      refine zw_iast d_M_beginBlock_41 q13.1 (zkd_eta q13.2.1) q13.2.2 ?_
      refine zw_iinc (v := (a2 + (1 : Int32))) d_M_beginBlock_42 rfl rfl (Nat.le_of_ble_eq_true rfl) rfl rfl ?_
      refine zw_goto (tgt := 2) d_M_beginBlock_45 rfl ?_
      exact ih _ _ _ _ h
def P_M_beginBlock (n : Nat) (a0 : Nat) (a1 : Int32) (σ : zS) (Q : zS → Prop) : Prop := ∃ g, P_M_beginBlock_2 n Q g a0 a1 (0 : Int32) σ
set_option maxHeartbeats 1000000 in
set_option maxRecDepth 10000 in
theorem w_M_beginBlock {Q : zS → Prop} (hr : meth.sig.returnType = none) {a0 : Nat} {a1 : Int32} {σ : zS} (h : P_M_beginBlock n a0 a1 σ Q) : zG p l e (zrm 1 0 0) s m args below meth c (MQ below (zQc (zA base) D cA base n ex (zqv Q)) args s 0 0 (zA base)) s.heap (zA base) base D cA 3 ex prog_9_method_28_code "ConstantFlowModel" n 0 0 0 [some (.ref a0), some (.int a1), none] [] σ := by
  unfold P_M_beginBlock at h
  refine zw_iconst (v := 0) d_M_beginBlock_0 rfl ?_
  refine zw_istore_n d_M_beginBlock_1 rfl (Nat.le_of_ble_eq_true rfl) rfl rfl ?_
  obtain ⟨g, h⟩ := h
  exact w_M_beginBlock_2 hr g _ _ _ _ h
theorem c_M_beginBlock {l : Launch} {D : va_G} {cA : Nat → ClassId} {base n : Nat} {ex : Bool} {Q : zS → Prop} {a0 : Nat} {a1 : Int32} {σ : zS} (h : P_M_beginBlock n a0 a1 σ Q) : zM l y_M_beginBlock prog_9_method_28_code 3 (none) 1 0 0 (zA base) D cA base n n ex [.ref a0, .int a1] σ (zqv Q) :=
  zMet (by decide) rfl (Nat.le_of_ble_eq_true rfl) (fun p e s m args below meth c hr hnm => w_M_beginBlock hr h)
def P_M_join_134 (n : Nat) (Q : Int32 → zS → Prop) (K24 : Nat → Int32 → Int32 → Int32 → zS → Prop) (a0 : Nat) (a1 : Int32) (a2 : Int32) (a3 : Int32) (σ : zS) : Prop := K24 a0 a1 a2 (a3 + (1 : Int32)) σ
set_option maxHeartbeats 1000000 in
set_option maxRecDepth 10000 in
theorem w_M_join_134 {Q : Int32 → zS → Prop} {K24 : Nat → Int32 → Int32 → Int32 → zS → Prop} (hr : meth.sig.returnType = some .boolean) (hK24 : ∀ (a0 : Nat) (a1 : Int32) (a2 : Int32) (a3 : Int32) (σ : zS), K24 a0 a1 a2 a3 σ → zG p l e (zrm 1 0 0) s m args below meth c (MQ below (zQc (zA base) D cA base n ex (zqi Q)) args s 0 0 (zA base)) s.heap (zA base) base D cA 5 ex prog_9_method_29_code "ConstantFlowModel" n 0 0 24 [some (.ref a0), some (.int a1), some (.int a2), some (.int a3), none] [] σ) {a0 : Nat} {a1 : Int32} {a2 : Int32} {a3 : Int32} {σ : zS} (h : P_M_join_134 n Q K24 a0 a1 a2 a3 σ) : zG p l e (zrm 1 0 0) s m args below meth c (MQ below (zQc (zA base) D cA base n ex (zqi Q)) args s 0 0 (zA base)) s.heap (zA base) base D cA 5 ex prog_9_method_29_code "ConstantFlowModel" n 0 0 134 [some (.ref a0), some (.int a1), some (.int a2), some (.int a3), none] [] σ := by
  unfold P_M_join_134 at h
  refine zw_iinc (v := (a3 + (1 : Int32))) d_M_join_134 rfl rfl (Nat.le_of_ble_eq_true rfl) rfl rfl ?_
  refine zw_goto (tgt := 24) d_M_join_137 rfl ?_
  exact hK24 _ _ _ _ _ h
def P_M_join_116 (n : Nat) (Q : Int32 → zS → Prop) (K24 : Nat → Int32 → Int32 → Int32 → zS → Prop) (a0 : Nat) (a1 : Int32) (a3 : Int32) (a4 : Int32) (σ : zS) : Prop := zk n a0 7 ∧ ∃ c2, zr σ a0 21 = some c2 ∧ za n c2 10 a4 ∧ ∃ c5, zr (zI σ c2 a4.toNatClampNeg (2 : Int32)) a0 22 = some c5 ∧ za n c5 10 a4 ∧ P_M_join_134 n Q K24 a0 a1 (1 : Int32) a3 (zI (zI σ c2 a4.toNatClampNeg (2 : Int32)) c5 a4.toNatClampNeg (0 : Int32))
set_option maxHeartbeats 1000000 in
set_option maxRecDepth 10000 in
theorem w_M_join_116 {Q : Int32 → zS → Prop} {K24 : Nat → Int32 → Int32 → Int32 → zS → Prop} (hr : meth.sig.returnType = some .boolean) (hK24 : ∀ (a0 : Nat) (a1 : Int32) (a2 : Int32) (a3 : Int32) (σ : zS), K24 a0 a1 a2 a3 σ → zG p l e (zrm 1 0 0) s m args below meth c (MQ below (zQc (zA base) D cA base n ex (zqi Q)) args s 0 0 (zA base)) s.heap (zA base) base D cA 5 ex prog_9_method_29_code "ConstantFlowModel" n 0 0 24 [some (.ref a0), some (.int a1), some (.int a2), some (.int a3), none] [] σ) {a0 : Nat} {a1 : Int32} {a3 : Int32} {a4 : Int32} {σ : zS} (h : P_M_join_116 n Q K24 a0 a1 a3 a4 σ) : zG p l e (zrm 1 0 0) s m args below meth c (MQ below (zQc (zA base) D cA base n ex (zqi Q)) args s 0 0 (zA base)) s.heap (zA base) base D cA 5 ex prog_9_method_29_code "ConstantFlowModel" n 0 0 116 [some (.ref a0), some (.int a1), none, some (.int a3), some (.int a4)] [] σ := by
  unfold P_M_join_116 at h
  refine zw_aload_n d_M_join_116 rfl rfl ?_
  obtain ⟨q1, h⟩ := h
  obtain ⟨c2, q3, h⟩ := h
  refine zw_gfr (ci := 7) (j := 21) d_M_join_117 mw_3_206 q1.1 q1.2 (by decide) (by decide) rfl q3 ?_
  refine zw_iload d_M_join_120 rfl ?_
  refine zw_iconst (v := 2) d_M_join_122 rfl ?_
  obtain ⟨q4, h⟩ := h
  refine zw_iast d_M_join_123 q4.1 (zkd_eta q4.2.1) q4.2.2 ?_
  refine zw_aload_n d_M_join_124 rfl rfl ?_
  obtain ⟨c5, q6, h⟩ := h
  refine zw_gfr (ci := 7) (j := 22) d_M_join_125 mw_3_207 q1.1 q1.2 (by decide) (by decide) rfl q6 ?_
  refine zw_iload d_M_join_128 rfl ?_
  refine zw_iconst (v := 0) d_M_join_130 rfl ?_
  obtain ⟨q7, h⟩ := h
  refine zw_iast d_M_join_131 q7.1 (zkd_eta q7.2.1) q7.2.2 ?_
  refine zw_iconst (v := 1) d_M_join_132 rfl ?_
  refine zw_istore_n d_M_join_133 rfl (Nat.le_of_ble_eq_true rfl) rfl rfl ?_
  refine zw_le (ls' := [some (.ref a0), some (.int a1), some (.int (1 : Int32)), some (.int a3), none]) (And.intro rfl (And.intro rfl (And.intro rfl (And.intro rfl True.intro)))) ?_
  exact w_M_join_134 hr hK24 h
def P_M_join_24 (n : Nat) (Q : Int32 → zS → Prop) : Nat → Nat → Int32 → Int32 → Int32 → zS → Prop
  | 0, _, _, _, _, _ => False
  | f + 1, a0, a1, a2, a3, σ => (((8 : Int32) ≤ a3 → (a2 = 0 ∨ a2 = 1) ∧ Q a2 σ) ∧ (¬ ((8 : Int32) ≤ a3) → zk n a0 7 ∧ ∃ c3, zr σ a0 21 = some c3 ∧ za n c3 10 (((8 : Int32) * a1) + a3) ∧ ((¬ (zi σ c3 (((8 : Int32) * a1) + a3).toNatClampNeg) = 0 → ∃ c6, zr σ a0 21 = some c6 ∧ za n c6 10 (((8 : Int32) * a1) + a3) ∧ ((¬ (zi σ c6 (((8 : Int32) * a1) + a3).toNatClampNeg) = (1 : Int32) → P_M_join_134 n Q (fun (a0 : Nat) (a1 : Int32) (a2 : Int32) (a3 : Int32) (σ : zS) => P_M_join_24 n Q f a0 a1 a2 a3 σ) a0 a1 a2 a3 σ) ∧ ((zi σ c6 (((8 : Int32) * a1) + a3).toNatClampNeg) = (1 : Int32) → ∃ c9, zr σ a0 23 = some c9 ∧ za n c9 10 a3 ∧ ((¬ (zi σ c9 a3.toNatClampNeg) = (1 : Int32) → P_M_join_116 n Q (fun (a0 : Nat) (a1 : Int32) (a2 : Int32) (a3 : Int32) (σ : zS) => P_M_join_24 n Q f a0 a1 a2 a3 σ) a0 a1 a3 (((8 : Int32) * a1) + a3) σ) ∧ ((zi σ c9 a3.toNatClampNeg) = (1 : Int32) → ∃ c12, zr σ a0 24 = some c12 ∧ za n c12 10 a3 ∧ ∃ c15, zr σ a0 22 = some c15 ∧ za n c15 10 (((8 : Int32) * a1) + a3) ∧ (((zi σ c12 a3.toNatClampNeg) = (zi σ c15 (((8 : Int32) * a1) + a3).toNatClampNeg) → P_M_join_134 n Q (fun (a0 : Nat) (a1 : Int32) (a2 : Int32) (a3 : Int32) (σ : zS) => P_M_join_24 n Q f a0 a1 a2 a3 σ) a0 a1 a2 a3 σ) ∧ (¬ ((zi σ c12 a3.toNatClampNeg) = (zi σ c15 (((8 : Int32) * a1) + a3).toNatClampNeg)) → P_M_join_116 n Q (fun (a0 : Nat) (a1 : Int32) (a2 : Int32) (a3 : Int32) (σ : zS) => P_M_join_24 n Q f a0 a1 a2 a3 σ) a0 a1 a3 (((8 : Int32) * a1) + a3) σ))))))) ∧ ((zi σ c3 (((8 : Int32) * a1) + a3).toNatClampNeg) = 0 → ∃ c18, zr σ a0 21 = some c18 ∧ ∃ c20, zr σ a0 23 = some c20 ∧ za n c20 10 a3 ∧ za n c18 10 (((8 : Int32) * a1) + a3) ∧ ∃ c24, zr (zI σ c18 (((8 : Int32) * a1) + a3).toNatClampNeg (zi σ c20 a3.toNatClampNeg)) a0 22 = some c24 ∧ ∃ c26, zr (zI σ c18 (((8 : Int32) * a1) + a3).toNatClampNeg (zi σ c20 a3.toNatClampNeg)) a0 24 = some c26 ∧ za n c26 10 a3 ∧ za n c24 10 (((8 : Int32) * a1) + a3) ∧ P_M_join_134 n Q (fun (a0 : Nat) (a1 : Int32) (a2 : Int32) (a3 : Int32) (σ : zS) => P_M_join_24 n Q f a0 a1 a2 a3 σ) a0 a1 (1 : Int32) a3 (zI (zI σ c18 (((8 : Int32) * a1) + a3).toNatClampNeg (zi σ c20 a3.toNatClampNeg)) c24 (((8 : Int32) * a1) + a3).toNatClampNeg (zi (zI σ c18 (((8 : Int32) * a1) + a3).toNatClampNeg (zi σ c20 a3.toNatClampNeg)) c26 a3.toNatClampNeg))))))
set_option maxHeartbeats 1000000 in
set_option maxRecDepth 10000 in
theorem w_M_join_24 {Q : Int32 → zS → Prop} (hr : meth.sig.returnType = some .boolean) : ∀ (f : Nat) (a0 : Nat) (a1 : Int32) (a2 : Int32) (a3 : Int32) (σ : zS), P_M_join_24 n Q f a0 a1 a2 a3 σ → zG p l e (zrm 1 0 0) s m args below meth c (MQ below (zQc (zA base) D cA base n ex (zqi Q)) args s 0 0 (zA base)) s.heap (zA base) base D cA 5 ex prog_9_method_29_code "ConstantFlowModel" n 0 0 24 [some (.ref a0), some (.int a1), some (.int a2), some (.int a3), none] [] σ := by
  intro f
  induction f with
  | zero => intro a0 a1 a2 a3 σ h; exact False.elim h
  | succ f ih =>
    intro a0 a1 a2 a3 σ h
    refine zw_iload_n d_M_join_24 rfl rfl ?_
    refine zw_bipush (v := 8) d_M_join_25 rfl ?_
    obtain ⟨ht, hf⟩ := h
    refine zw_icmp_ge (tgt := 140) d_M_join_27 rfl (fun hc => ?_) (fun hc => ?_)
    · have h := ht hc; clear ht hf
      refine zw_iload_n d_M_join_140 rfl rfl ?_
      obtain ⟨q1, h⟩ := h
      exact zw_zret d_M_join_141 hr q1 h
    · have h := hf hc; clear ht hf
      refine zw_bipush (v := 8) d_M_join_30 rfl ?_
      refine zw_iload_n d_M_join_32 rfl rfl ?_
      refine zw_imul d_M_join_33 ?_
      refine zw_iload_n d_M_join_34 rfl rfl ?_
      refine zw_iadd d_M_join_35 ?_
      refine zw_istore d_M_join_36 (Nat.le_of_ble_eq_true rfl) rfl rfl ?_
      refine zw_aload_n d_M_join_38 rfl rfl ?_
      obtain ⟨q2, h⟩ := h
      obtain ⟨c3, q4, h⟩ := h
      refine zw_gfr (ci := 7) (j := 21) d_M_join_39 mw_3_206 q2.1 q2.2 (by decide) (by decide) rfl q4 ?_
      refine zw_iload d_M_join_42 rfl ?_
      obtain ⟨q5, h⟩ := h
      refine zw_iald d_M_join_44 q5.1 (zkd_eta q5.2.1) q5.2.2 ?_
      obtain ⟨ht, hf⟩ := h
      refine zw_if_ne (tgt := 79) d_M_join_45 rfl (fun hc => ?_) (fun hc => ?_)
      · have h := ht hc; clear ht hf
        refine zw_aload_n d_M_join_79 rfl rfl ?_
        obtain ⟨c6, q7, h⟩ := h
        refine zw_gfr (ci := 7) (j := 21) d_M_join_80 mw_3_206 q2.1 q2.2 (by decide) (by decide) rfl q7 ?_
        refine zw_iload d_M_join_83 rfl ?_
        obtain ⟨q8, h⟩ := h
        refine zw_iald d_M_join_85 q8.1 (zkd_eta q8.2.1) q8.2.2 ?_
        refine zw_iconst (v := 1) d_M_join_86 rfl ?_
        obtain ⟨ht, hf⟩ := h
        refine zw_icmp_ne (tgt := 134) d_M_join_87 rfl (fun hc => ?_) (fun hc => ?_)
        · have h := ht hc; clear ht hf
          refine zw_le (ls' := [some (.ref a0), some (.int a1), some (.int a2), some (.int a3), none]) (And.intro rfl (And.intro rfl (And.intro rfl (And.intro rfl True.intro)))) ?_
          exact w_M_join_134 hr (fun a0 a1 a2 a3 σ hk => ih a0 a1 a2 a3 σ hk) h
        · have h := hf hc; clear ht hf
          refine zw_aload_n d_M_join_90 rfl rfl ?_
          obtain ⟨c9, q10, h⟩ := h
          refine zw_gfr (ci := 7) (j := 23) d_M_join_91 mw_3_208 q2.1 q2.2 (by decide) (by decide) rfl q10 ?_
          refine zw_iload_n d_M_join_94 rfl rfl ?_
          obtain ⟨q11, h⟩ := h
          refine zw_iald d_M_join_95 q11.1 (zkd_eta q11.2.1) q11.2.2 ?_
          refine zw_iconst (v := 1) d_M_join_96 rfl ?_
          obtain ⟨ht, hf⟩ := h
          refine zw_icmp_ne (tgt := 116) d_M_join_97 rfl (fun hc => ?_) (fun hc => ?_)
          · have h := ht hc; clear ht hf
            refine zw_le (ls' := [some (.ref a0), some (.int a1), none, some (.int a3), some (.int (((8 : Int32) * a1) + a3))]) (And.intro rfl (And.intro rfl (And.intro rfl (And.intro rfl True.intro)))) ?_
            exact w_M_join_116 hr (fun a0 a1 a2 a3 σ hk => ih a0 a1 a2 a3 σ hk) h
          · have h := hf hc; clear ht hf
            refine zw_aload_n d_M_join_100 rfl rfl ?_
            obtain ⟨c12, q13, h⟩ := h
            refine zw_gfr (ci := 7) (j := 24) d_M_join_101 mw_3_209 q2.1 q2.2 (by decide) (by decide) rfl q13 ?_
            refine zw_iload_n d_M_join_104 rfl rfl ?_
            obtain ⟨q14, h⟩ := h
            refine zw_iald d_M_join_105 q14.1 (zkd_eta q14.2.1) q14.2.2 ?_
            refine zw_aload_n d_M_join_106 rfl rfl ?_
            obtain ⟨c15, q16, h⟩ := h
            refine zw_gfr (ci := 7) (j := 22) d_M_join_107 mw_3_207 q2.1 q2.2 (by decide) (by decide) rfl q16 ?_
            refine zw_iload d_M_join_110 rfl ?_
            obtain ⟨q17, h⟩ := h
            refine zw_iald d_M_join_112 q17.1 (zkd_eta q17.2.1) q17.2.2 ?_
            obtain ⟨ht, hf⟩ := h
            refine zw_icmp_eq (tgt := 134) d_M_join_113 rfl (fun hc => ?_) (fun hc => ?_)
            · have h := ht hc; clear ht hf
              refine zw_le (ls' := [some (.ref a0), some (.int a1), some (.int a2), some (.int a3), none]) (And.intro rfl (And.intro rfl (And.intro rfl (And.intro rfl True.intro)))) ?_
              exact w_M_join_134 hr (fun a0 a1 a2 a3 σ hk => ih a0 a1 a2 a3 σ hk) h
            · have h := hf hc; clear ht hf
              refine zw_le (ls' := [some (.ref a0), some (.int a1), none, some (.int a3), some (.int (((8 : Int32) * a1) + a3))]) (And.intro rfl (And.intro rfl (And.intro rfl (And.intro rfl True.intro)))) ?_
              exact w_M_join_116 hr (fun a0 a1 a2 a3 σ hk => ih a0 a1 a2 a3 σ hk) h
      · have h := hf hc; clear ht hf
        refine zw_aload_n d_M_join_48 rfl rfl ?_
        obtain ⟨c18, q19, h⟩ := h
        refine zw_gfr (ci := 7) (j := 21) d_M_join_49 mw_3_206 q2.1 q2.2 (by decide) (by decide) rfl q19 ?_
        refine zw_iload d_M_join_52 rfl ?_
        refine zw_aload_n d_M_join_54 rfl rfl ?_
        obtain ⟨c20, q21, h⟩ := h
        refine zw_gfr (ci := 7) (j := 23) d_M_join_55 mw_3_208 q2.1 q2.2 (by decide) (by decide) rfl q21 ?_
        refine zw_iload_n d_M_join_58 rfl rfl ?_
        obtain ⟨q22, h⟩ := h
        refine zw_iald d_M_join_59 q22.1 (zkd_eta q22.2.1) q22.2.2 ?_
        obtain ⟨q23, h⟩ := h
        refine zw_iast d_M_join_60 q23.1 (zkd_eta q23.2.1) q23.2.2 ?_
        refine zw_aload_n d_M_join_61 rfl rfl ?_
        obtain ⟨c24, q25, h⟩ := h
        refine zw_gfr (ci := 7) (j := 22) d_M_join_62 mw_3_207 q2.1 q2.2 (by decide) (by decide) rfl q25 ?_
        refine zw_iload d_M_join_65 rfl ?_
        refine zw_aload_n d_M_join_67 rfl rfl ?_
        obtain ⟨c26, q27, h⟩ := h
        refine zw_gfr (ci := 7) (j := 24) d_M_join_68 mw_3_209 q2.1 q2.2 (by decide) (by decide) rfl q27 ?_
        refine zw_iload_n d_M_join_71 rfl rfl ?_
        obtain ⟨q28, h⟩ := h
        refine zw_iald d_M_join_72 q28.1 (zkd_eta q28.2.1) q28.2.2 ?_
        obtain ⟨q29, h⟩ := h
        refine zw_iast d_M_join_73 q29.1 (zkd_eta q29.2.1) q29.2.2 ?_
        refine zw_iconst (v := 1) d_M_join_74 rfl ?_
        refine zw_istore_n d_M_join_75 rfl (Nat.le_of_ble_eq_true rfl) rfl rfl ?_
        refine zw_goto (tgt := 134) d_M_join_76 rfl ?_
        refine zw_le (ls' := [some (.ref a0), some (.int a1), some (.int (1 : Int32)), some (.int a3), none]) (And.intro rfl (And.intro rfl (And.intro rfl (And.intro rfl True.intro)))) ?_
        exact w_M_join_134 hr (fun a0 a1 a2 a3 σ hk => ih a0 a1 a2 a3 σ hk) h
def P_M_join_14 (n : Nat) (Q : Int32 → zS → Prop) (a0 : Nat) (a1 : Int32) (b0 : Int32) (σ : zS) : Prop := zk n a0 7 ∧ ∃ c2, zr σ a0 20 = some c2 ∧ za n c2 11 a1 ∧ ∃ g, P_M_join_24 n Q g a0 a1 b0 (0 : Int32) (zI σ c2 a1.toNatClampNeg (vp_nar .boolean (1 : Int32)))
set_option maxHeartbeats 1000000 in
set_option maxRecDepth 10000 in
theorem w_M_join_14 {Q : Int32 → zS → Prop} (hr : meth.sig.returnType = some .boolean) {a0 : Nat} {a1 : Int32} {b0 : Int32} {σ : zS} (h : P_M_join_14 n Q a0 a1 b0 σ) : zG p l e (zrm 1 0 0) s m args below meth c (MQ below (zQc (zA base) D cA base n ex (zqi Q)) args s 0 0 (zA base)) s.heap (zA base) base D cA 5 ex prog_9_method_29_code "ConstantFlowModel" n 0 0 14 [some (.ref a0), some (.int a1), none, none, none] [.int b0] σ := by
  unfold P_M_join_14 at h
  refine zw_istore_n d_M_join_14 rfl (Nat.le_of_ble_eq_true rfl) rfl rfl ?_
  refine zw_aload_n d_M_join_15 rfl rfl ?_
  obtain ⟨q1, h⟩ := h
  obtain ⟨c2, q3, h⟩ := h
  refine zw_gfr (ci := 7) (j := 20) d_M_join_16 mw_3_205 q1.1 q1.2 (by decide) (by decide) rfl q3 ?_
  refine zw_iload_n d_M_join_19 rfl rfl ?_
  refine zw_iconst (v := 1) d_M_join_20 rfl ?_
  obtain ⟨q4, h⟩ := h
  refine zw_zast d_M_join_21 q4.1 (zkd_eta q4.2.1) q4.2.2 ?_
  refine zw_iconst (v := 0) d_M_join_22 rfl ?_
  refine zw_istore_n d_M_join_23 rfl (Nat.le_of_ble_eq_true rfl) rfl rfl ?_
  obtain ⟨g, h⟩ := h
  exact w_M_join_24 hr g _ _ _ _ _ h
def P_M_join (n : Nat) (a0 : Nat) (a1 : Int32) (σ : zS) (Q : Int32 → zS → Prop) : Prop := zk n a0 7 ∧ ∃ c2, zr σ a0 20 = some c2 ∧ za n c2 11 a1 ∧ ((¬ (zi σ c2 a1.toNatClampNeg) = 0 → P_M_join_14 n Q a0 a1 (0 : Int32) σ) ∧ ((zi σ c2 a1.toNatClampNeg) = 0 → P_M_join_14 n Q a0 a1 (1 : Int32) σ))
set_option maxHeartbeats 1000000 in
set_option maxRecDepth 10000 in
theorem w_M_join {Q : Int32 → zS → Prop} (hr : meth.sig.returnType = some .boolean) {a0 : Nat} {a1 : Int32} {σ : zS} (h : P_M_join n a0 a1 σ Q) : zG p l e (zrm 1 0 0) s m args below meth c (MQ below (zQc (zA base) D cA base n ex (zqi Q)) args s 0 0 (zA base)) s.heap (zA base) base D cA 5 ex prog_9_method_29_code "ConstantFlowModel" n 0 0 0 [some (.ref a0), some (.int a1), none, none, none] [] σ := by
  unfold P_M_join at h
  refine zw_aload_n d_M_join_0 rfl rfl ?_
  obtain ⟨q1, h⟩ := h
  obtain ⟨c2, q3, h⟩ := h
  refine zw_gfr (ci := 7) (j := 20) d_M_join_1 mw_3_205 q1.1 q1.2 (by decide) (by decide) rfl q3 ?_
  refine zw_iload_n d_M_join_4 rfl rfl ?_
  obtain ⟨q4, h⟩ := h
  refine zw_zald d_M_join_5 q4.1 (zkd_eta q4.2.1) q4.2.2 ?_
  obtain ⟨ht, hf⟩ := h
  refine zw_if_ne (tgt := 13) d_M_join_6 rfl (fun hc => ?_) (fun hc => ?_)
  · have h := ht hc; clear ht hf
    refine zw_iconst (v := 0) d_M_join_13 rfl ?_
    exact w_M_join_14 hr h
  · have h := hf hc; clear ht hf
    refine zw_iconst (v := 1) d_M_join_9 rfl ?_
    refine zw_goto (tgt := 14) d_M_join_10 rfl ?_
    exact w_M_join_14 hr h
theorem c_M_join {l : Launch} {D : va_G} {cA : Nat → ClassId} {base n : Nat} {ex : Bool} {Q : Int32 → zS → Prop} {a0 : Nat} {a1 : Int32} {σ : zS} (h : P_M_join n a0 a1 σ Q) : zM l y_M_join prog_9_method_29_code 5 (some .boolean) 1 0 0 (zA base) D cA base n n ex [.ref a0, .int a1] σ (zqi Q) :=
  zMet (by decide) rfl (Nat.le_of_ble_eq_true rfl) (fun p e s m args below meth c hr hnm => w_M_join hr h)
def P_M_thrown (n : Nat) (a0 : Nat) (σ : zS) (Q : Int32 → zS → Prop) : Prop := zk n a0 7 ∧ Q (zi σ a0 0) σ
set_option maxHeartbeats 1000000 in
set_option maxRecDepth 10000 in
theorem w_M_thrown {Q : Int32 → zS → Prop} (hr : meth.sig.returnType = some .int) {a0 : Nat} {σ : zS} (h : P_M_thrown n a0 σ Q) : zG p l e (zrm 1 0 0) s m args below meth c (MQ below (zQc (zA base) D cA base n ex (zqi Q)) args s 0 0 (zA base)) s.heap (zA base) base D cA 1 ex prog_9_method_2_code "ConstantFlowModel" n 0 0 0 [some (.ref a0)] [] σ := by
  unfold P_M_thrown at h
  refine zw_aload_n d_M_thrown_0 rfl rfl ?_
  obtain ⟨q1, h⟩ := h
  refine zw_gfi (ci := 7) (j := 0) d_M_thrown_1 mw_3_185 q1.1 q1.2 (by decide) (by decide) rfl ?_
  exact zw_iret d_M_thrown_4 hr h
theorem c_M_thrown {l : Launch} {D : va_G} {cA : Nat → ClassId} {base n : Nat} {ex : Bool} {Q : Int32 → zS → Prop} {a0 : Nat} {σ : zS} (h : P_M_thrown n a0 σ Q) : zM l y_M_thrown prog_9_method_2_code 1 (some .int) 1 0 0 (zA base) D cA base n n ex [.ref a0] σ (zqi Q) :=
  zMet (by decide) rfl (Nat.le_of_ble_eq_true rfl) (fun p e s m args below meth c hr hnm => w_M_thrown hr h)
def P_M_noBlock_17 (n : Nat) (Q : Int32 → zS → Prop) (b0 : Int32) (σ : zS) : Prop := (b0 = 0 ∨ b0 = 1) ∧ Q b0 σ
set_option maxHeartbeats 1000000 in
set_option maxRecDepth 10000 in
theorem w_M_noBlock_17 {Q : Int32 → zS → Prop} (hr : meth.sig.returnType = some .boolean) {b0 : Int32} {σ : zS} (h : P_M_noBlock_17 n Q b0 σ) : zG p l e (zrm 1 0 0) s m args below meth c (MQ below (zQc (zA base) D cA base n ex (zqi Q)) args s 0 0 (zA base)) s.heap (zA base) base D cA 2 ex prog_9_method_33_code "ConstantFlowModel" n 0 0 17 [none, none] [.int b0] σ := by
  unfold P_M_noBlock_17 at h
  obtain ⟨q1, h⟩ := h
  exact zw_zret d_M_noBlock_17 hr q1 h
def P_M_noBlock_12 (n : Nat) (Q : Int32 → zS → Prop) (σ : zS) : Prop := P_M_noBlock_17 n Q (1 : Int32) σ
set_option maxHeartbeats 1000000 in
set_option maxRecDepth 10000 in
theorem w_M_noBlock_12 {Q : Int32 → zS → Prop} (hr : meth.sig.returnType = some .boolean) {σ : zS} (h : P_M_noBlock_12 n Q σ) : zG p l e (zrm 1 0 0) s m args below meth c (MQ below (zQc (zA base) D cA base n ex (zqi Q)) args s 0 0 (zA base)) s.heap (zA base) base D cA 2 ex prog_9_method_33_code "ConstantFlowModel" n 0 0 12 [none, none] [] σ := by
  unfold P_M_noBlock_12 at h
  refine zw_iconst (v := 1) d_M_noBlock_12 rfl ?_
  refine zw_goto (tgt := 17) d_M_noBlock_13 rfl ?_
  exact w_M_noBlock_17 hr h
def P_M_noBlock (n : Nat) (a0 : Nat) (a1 : Int32) (σ : zS) (Q : Int32 → zS → Prop) : Prop := ((a1 < 0 → P_M_noBlock_12 n Q σ) ∧ (¬ (a1 < 0) → zk n a0 7 ∧ ((a1 < (zi σ a0 6) → P_M_noBlock_17 n Q (0 : Int32) σ) ∧ (¬ (a1 < (zi σ a0 6)) → P_M_noBlock_12 n Q σ))))
set_option maxHeartbeats 1000000 in
set_option maxRecDepth 10000 in
theorem w_M_noBlock {Q : Int32 → zS → Prop} (hr : meth.sig.returnType = some .boolean) {a0 : Nat} {a1 : Int32} {σ : zS} (h : P_M_noBlock n a0 a1 σ Q) : zG p l e (zrm 1 0 0) s m args below meth c (MQ below (zQc (zA base) D cA base n ex (zqi Q)) args s 0 0 (zA base)) s.heap (zA base) base D cA 2 ex prog_9_method_33_code "ConstantFlowModel" n 0 0 0 [some (.ref a0), some (.int a1)] [] σ := by
  unfold P_M_noBlock at h
  refine zw_iload_n d_M_noBlock_0 rfl rfl ?_
  obtain ⟨ht, hf⟩ := h
  refine zw_if_lt (tgt := 12) d_M_noBlock_1 rfl (fun hc => ?_) (fun hc => ?_)
  · have h := ht hc; clear ht hf
    refine zw_le (ls' := [none, none]) (True.intro) ?_
    exact w_M_noBlock_12 hr h
  · have h := hf hc; clear ht hf
    refine zw_iload_n d_M_noBlock_4 rfl rfl ?_
    refine zw_aload_n d_M_noBlock_5 rfl rfl ?_
    obtain ⟨q1, h⟩ := h
    refine zw_gfi (ci := 7) (j := 6) d_M_noBlock_6 mw_3_191 q1.1 q1.2 (by decide) (by decide) rfl ?_
    obtain ⟨ht, hf⟩ := h
    refine zw_icmp_lt (tgt := 16) d_M_noBlock_9 rfl (fun hc => ?_) (fun hc => ?_)
    · have h := ht hc; clear ht hf
      refine zw_iconst (v := 0) d_M_noBlock_16 rfl ?_
      refine zw_le (ls' := [none, none]) (True.intro) ?_
      exact w_M_noBlock_17 hr h
    · have h := hf hc; clear ht hf
      refine zw_le (ls' := [none, none]) (True.intro) ?_
      exact w_M_noBlock_12 hr h
theorem c_M_noBlock {l : Launch} {D : va_G} {cA : Nat → ClassId} {base n : Nat} {ex : Bool} {Q : Int32 → zS → Prop} {a0 : Nat} {a1 : Int32} {σ : zS} (h : P_M_noBlock n a0 a1 σ Q) : zM l y_M_noBlock prog_9_method_33_code 2 (some .boolean) 1 0 0 (zA base) D cA base n n ex [.ref a0, .int a1] σ (zqi Q) :=
  zMet (by decide) rfl (Nat.le_of_ble_eq_true rfl) (fun p e s m args below meth c hr hnm => w_M_noBlock hr h)
def P_M_put (n : Nat) (a0 : Nat) (a1 : Int32) (σ : zS) (Q : zS → Prop) : Prop := zk n a0 7 ∧ ∃ c2, zr σ a0 27 = some c2 ∧ za n c2 10 (zi σ a0 28) ∧ Q (zI (zI σ c2 (zi σ a0 28).toNatClampNeg a1) a0 28 ((zi (zI σ c2 (zi σ a0 28).toNatClampNeg a1) a0 28) + (1 : Int32)))
set_option maxHeartbeats 1000000 in
set_option maxRecDepth 10000 in
theorem w_M_put {Q : zS → Prop} (hr : meth.sig.returnType = none) {a0 : Nat} {a1 : Int32} {σ : zS} (h : P_M_put n a0 a1 σ Q) : zG p l e (zrm 1 0 0) s m args below meth c (MQ below (zQc (zA base) D cA base n ex (zqv Q)) args s 0 0 (zA base)) s.heap (zA base) base D cA 2 ex prog_9_method_39_code "ConstantFlowModel" n 0 0 0 [some (.ref a0), some (.int a1)] [] σ := by
  unfold P_M_put at h
  refine zw_aload_n d_M_put_0 rfl rfl ?_
  obtain ⟨q1, h⟩ := h
  obtain ⟨c2, q3, h⟩ := h
  refine zw_gfr (ci := 7) (j := 27) d_M_put_1 mw_3_212 q1.1 q1.2 (by decide) (by decide) rfl q3 ?_
  refine zw_aload_n d_M_put_4 rfl rfl ?_
  refine zw_gfi (ci := 7) (j := 28) d_M_put_5 mw_3_213 q1.1 q1.2 (by decide) (by decide) rfl ?_
  refine zw_iload_n d_M_put_8 rfl rfl ?_
  obtain ⟨q4, h⟩ := h
  refine zw_iast d_M_put_9 q4.1 (zkd_eta q4.2.1) q4.2.2 ?_
  refine zw_aload_n d_M_put_10 rfl rfl ?_
  refine zw_dup d_M_put_11 rfl ?_
  refine zw_gfi (ci := 7) (j := 28) d_M_put_12 mw_3_213 q1.1 q1.2 (by decide) (by decide) rfl ?_
  refine zw_iconst (v := 1) d_M_put_15 rfl ?_
  refine zw_iadd d_M_put_16 ?_
  refine zw_pfi (ci := 7) (j := 28) d_M_put_17 mw_3_213 q1.1 q1.2 (by decide) (by decide) rfl rfl rfl rfl ?_
  exact zw_vret d_M_put_20 hr h
theorem c_M_put {l : Launch} {D : va_G} {cA : Nat → ClassId} {base n : Nat} {ex : Bool} {Q : zS → Prop} {a0 : Nat} {a1 : Int32} {σ : zS} (h : P_M_put n a0 a1 σ Q) : zM l y_M_put prog_9_method_39_code 2 (none) 1 0 0 (zA base) D cA base n n ex [.ref a0, .int a1] σ (zqv Q) :=
  zMet (by decide) rfl (Nat.le_of_ble_eq_true rfl) (fun p e s m args below meth c hr hnm => w_M_put hr h)
def P_M_feed_46 (n : Nat) (Q : Int32 → zS → Prop) : Nat → Nat → Int32 → Int64 → Int32 → zS → Prop
  | 0, _, _, _, _, _ => False
  | f + 1, a0, a1, a2, a4, σ => ((a1 ≤ a4 → zk n a0 7 ∧ Q (zi σ a0 2) σ) ∧ (¬ (a1 ≤ a4) → zk n a0 7 ∧ ∃ c3, zr σ a0 1 = some c3 ∧ za n c3 10 (zi σ a0 2) ∧ P_M_feed_46 n Q f a0 a1 a2 (a4 + (1 : Int32)) (zI (zI σ c3 (zi σ a0 2).toNatClampNeg (Int64.toInt32 ((a2 >>> (((8 : Int32) * a4).toInt64 &&& 63)) &&& (255 : Int64)))) a0 2 ((zi (zI σ c3 (zi σ a0 2).toNatClampNeg (Int64.toInt32 ((a2 >>> (((8 : Int32) * a4).toInt64 &&& 63)) &&& (255 : Int64)))) a0 2) + (1 : Int32)))))
set_option maxHeartbeats 1000000 in
set_option maxRecDepth 10000 in
theorem w_M_feed_46 {Q : Int32 → zS → Prop} (hr : meth.sig.returnType = some .int) : ∀ (f : Nat) (a0 : Nat) (a1 : Int32) (a2 : Int64) (a4 : Int32) (σ : zS), P_M_feed_46 n Q f a0 a1 a2 a4 σ → zG p l e (zrm 1 0 0) s m args below meth c (MQ below (zQc (zA base) D cA base n ex (zqi Q)) args s 0 0 (zA base)) s.heap (zA base) base D cA 5 ex prog_9_method_3_code "ConstantFlowModel" n 0 0 46 [some (.ref a0), some (.int a1), some (.long a2), none, some (.int a4)] [] σ := by
  intro f
  induction f with
  | zero => intro a0 a1 a2 a4 σ h; exact False.elim h
  | succ f ih =>
    intro a0 a1 a2 a4 σ h
    refine zw_iload d_M_feed_46 rfl ?_
    refine zw_iload_n d_M_feed_48 rfl rfl ?_
    obtain ⟨ht, hf⟩ := h
    refine zw_icmp_ge (tgt := 89) d_M_feed_49 rfl (fun hc => ?_) (fun hc => ?_)
    · have h := ht hc; clear ht hf
      refine zw_aload_n d_M_feed_89 rfl rfl ?_
      obtain ⟨q1, h⟩ := h
      refine zw_gfi (ci := 7) (j := 2) d_M_feed_90 mw_3_187 q1.1 q1.2 (by decide) (by decide) rfl ?_
      exact zw_iret d_M_feed_93 hr h
    · have h := hf hc; clear ht hf
      refine zw_aload_n d_M_feed_52 rfl rfl ?_
      obtain ⟨q2, h⟩ := h
      obtain ⟨c3, q4, h⟩ := h
      refine zw_gfr (ci := 7) (j := 1) d_M_feed_53 mw_3_186 q2.1 q2.2 (by decide) (by decide) rfl q4 ?_
      refine zw_aload_n d_M_feed_56 rfl rfl ?_
      refine zw_gfi (ci := 7) (j := 2) d_M_feed_57 mw_3_187 q2.1 q2.2 (by decide) (by decide) rfl ?_
      refine zw_lload_n d_M_feed_60 rfl rfl ?_
      refine zw_bipush (v := 8) d_M_feed_61 rfl ?_
      refine zw_iload d_M_feed_63 rfl ?_
      refine zw_imul d_M_feed_65 ?_
      refine zw_lshr d_M_feed_66 ?_
      refine zw_ldc2 (v := 255) d_M_feed_67 mw_4_53 ?_
      refine zw_land d_M_feed_70 ?_
      refine zw_l2i d_M_feed_71 ?_
      obtain ⟨q5, h⟩ := h
      refine zw_iast d_M_feed_72 q5.1 (zkd_eta q5.2.1) q5.2.2 ?_
      refine zw_aload_n d_M_feed_73 rfl rfl ?_
      refine zw_dup d_M_feed_74 rfl ?_
      refine zw_gfi (ci := 7) (j := 2) d_M_feed_75 mw_3_187 q2.1 q2.2 (by decide) (by decide) rfl ?_
      refine zw_iconst (v := 1) d_M_feed_78 rfl ?_
      refine zw_iadd d_M_feed_79 ?_
      refine zw_pfi (ci := 7) (j := 2) d_M_feed_80 mw_3_187 q2.1 q2.2 (by decide) (by decide) rfl rfl rfl rfl ?_
      refine zw_iinc (v := (a4 + (1 : Int32))) d_M_feed_83 rfl rfl (Nat.le_of_ble_eq_true rfl) rfl rfl ?_
      refine zw_goto (tgt := 46) d_M_feed_86 rfl ?_
      exact ih _ _ _ _ _ h
def P_M_feed_17 (n : Nat) (Q : Int32 → zS → Prop) (a0 : Nat) (a1 : Int32) (a2 : Int64) (b0 : Nat) (b1 : Int32) (σ : zS) : Prop := zk n b0 7 ∧ zk n a0 7 ∧ (((zi (zI σ b0 0 b1) a0 0) ≤ 0 → ((((zi (zI σ b0 0 b1) a0 2) + a1) ≤ (700 : Int32) → ∃ g, P_M_feed_46 n Q g a0 a1 a2 (0 : Int32) (zI σ b0 0 b1)) ∧ (¬ (((zi (zI σ b0 0 b1) a0 2) + a1) ≤ (700 : Int32)) → Q (-1 : Int32) (zI σ b0 0 b1)))) ∧ (¬ ((zi (zI σ b0 0 b1) a0 0) ≤ 0) → Q (0 : Int32) (zI σ b0 0 b1)))
set_option maxHeartbeats 1000000 in
set_option maxRecDepth 10000 in
theorem w_M_feed_17 {Q : Int32 → zS → Prop} (hr : meth.sig.returnType = some .int) {a0 : Nat} {a1 : Int32} {a2 : Int64} {b0 : Nat} {b1 : Int32} {σ : zS} (h : P_M_feed_17 n Q a0 a1 a2 b0 b1 σ) : zG p l e (zrm 1 0 0) s m args below meth c (MQ below (zQc (zA base) D cA base n ex (zqi Q)) args s 0 0 (zA base)) s.heap (zA base) base D cA 5 ex prog_9_method_3_code "ConstantFlowModel" n 0 0 17 [some (.ref a0), some (.int a1), some (.long a2), none, none] [.int b1, .ref b0] σ := by
  unfold P_M_feed_17 at h
  obtain ⟨q1, h⟩ := h
  refine zw_pfi (ci := 7) (j := 0) d_M_feed_17 mw_3_185 q1.1 q1.2 (by decide) (by decide) rfl rfl rfl rfl ?_
  refine zw_aload_n d_M_feed_20 rfl rfl ?_
  obtain ⟨q2, h⟩ := h
  refine zw_gfi (ci := 7) (j := 0) d_M_feed_21 mw_3_185 q2.1 q2.2 (by decide) (by decide) rfl ?_
  obtain ⟨ht, hf⟩ := h
  refine zw_if_le (tgt := 29) d_M_feed_24 rfl (fun hc => ?_) (fun hc => ?_)
  · have h := ht hc; clear ht hf
    refine zw_aload_n d_M_feed_29 rfl rfl ?_
    refine zw_gfi (ci := 7) (j := 2) d_M_feed_30 mw_3_187 q2.1 q2.2 (by decide) (by decide) rfl ?_
    refine zw_iload_n d_M_feed_33 rfl rfl ?_
    refine zw_iadd d_M_feed_34 ?_
    refine zw_sipush (v := 700) d_M_feed_35 rfl ?_
    obtain ⟨ht, hf⟩ := h
    refine zw_icmp_le (tgt := 43) d_M_feed_38 rfl (fun hc => ?_) (fun hc => ?_)
    · have h := ht hc; clear ht hf
      refine zw_iconst (v := 0) d_M_feed_43 rfl ?_
      refine zw_istore d_M_feed_44 (Nat.le_of_ble_eq_true rfl) rfl rfl ?_
      obtain ⟨g, h⟩ := h
      exact w_M_feed_46 hr g _ _ _ _ _ h
    · have h := hf hc; clear ht hf
      refine zw_iconst (v := -1) d_M_feed_41 rfl ?_
      exact zw_iret d_M_feed_42 hr h
  · have h := hf hc; clear ht hf
    refine zw_iconst (v := 0) d_M_feed_27 rfl ?_
    exact zw_iret d_M_feed_28 hr h
def P_M_feed_12 (n : Nat) (Q : Int32 → zS → Prop) (a0 : Nat) (a1 : Int32) (a2 : Int64) (b0 : Nat) (σ : zS) : Prop := P_M_feed_17 n Q a0 a1 a2 b0 (1 : Int32) σ
set_option maxHeartbeats 1000000 in
set_option maxRecDepth 10000 in
theorem w_M_feed_12 {Q : Int32 → zS → Prop} (hr : meth.sig.returnType = some .int) {a0 : Nat} {a1 : Int32} {a2 : Int64} {b0 : Nat} {σ : zS} (h : P_M_feed_12 n Q a0 a1 a2 b0 σ) : zG p l e (zrm 1 0 0) s m args below meth c (MQ below (zQc (zA base) D cA base n ex (zqi Q)) args s 0 0 (zA base)) s.heap (zA base) base D cA 5 ex prog_9_method_3_code "ConstantFlowModel" n 0 0 12 [some (.ref a0), some (.int a1), some (.long a2), none, none] [.ref b0] σ := by
  unfold P_M_feed_12 at h
  refine zw_iconst (v := 1) d_M_feed_12 rfl ?_
  refine zw_goto (tgt := 17) d_M_feed_13 rfl ?_
  exact w_M_feed_17 hr h
def P_M_feed (n : Nat) (a0 : Nat) (a1 : Int32) (a2 : Int64) (σ : zS) (Q : Int32 → zS → Prop) : Prop := ((a1 < (1 : Int32) → P_M_feed_12 n Q a0 a1 a2 a0 σ) ∧ (¬ (a1 < (1 : Int32)) → ((a1 ≤ (8 : Int32) → P_M_feed_17 n Q a0 a1 a2 a0 (0 : Int32) σ) ∧ (¬ (a1 ≤ (8 : Int32)) → P_M_feed_12 n Q a0 a1 a2 a0 σ))))
set_option maxHeartbeats 1000000 in
set_option maxRecDepth 10000 in
theorem w_M_feed {Q : Int32 → zS → Prop} (hr : meth.sig.returnType = some .int) {a0 : Nat} {a1 : Int32} {a2 : Int64} {σ : zS} (h : P_M_feed n a0 a1 a2 σ Q) : zG p l e (zrm 1 0 0) s m args below meth c (MQ below (zQc (zA base) D cA base n ex (zqi Q)) args s 0 0 (zA base)) s.heap (zA base) base D cA 5 ex prog_9_method_3_code "ConstantFlowModel" n 0 0 0 [some (.ref a0), some (.int a1), some (.long a2), none, none] [] σ := by
  unfold P_M_feed at h
  refine zw_aload_n d_M_feed_0 rfl rfl ?_
  refine zw_iload_n d_M_feed_1 rfl rfl ?_
  refine zw_iconst (v := 1) d_M_feed_2 rfl ?_
  obtain ⟨ht, hf⟩ := h
  refine zw_icmp_lt (tgt := 12) d_M_feed_3 rfl (fun hc => ?_) (fun hc => ?_)
  · have h := ht hc; clear ht hf
    exact w_M_feed_12 hr h
  · have h := hf hc; clear ht hf
    refine zw_iload_n d_M_feed_6 rfl rfl ?_
    refine zw_bipush (v := 8) d_M_feed_7 rfl ?_
    obtain ⟨ht, hf⟩ := h
    refine zw_icmp_le (tgt := 16) d_M_feed_9 rfl (fun hc => ?_) (fun hc => ?_)
    · have h := ht hc; clear ht hf
      refine zw_iconst (v := 0) d_M_feed_16 rfl ?_
      exact w_M_feed_17 hr h
    · have h := hf hc; clear ht hf
      exact w_M_feed_12 hr h
theorem c_M_feed {l : Launch} {D : va_G} {cA : Nat → ClassId} {base n : Nat} {ex : Bool} {Q : Int32 → zS → Prop} {a0 : Nat} {a1 : Int32} {a2 : Int64} {σ : zS} (h : P_M_feed n a0 a1 a2 σ Q) : zM l y_M_feed prog_9_method_3_code 5 (some .int) 1 0 0 (zA base) D cA base n n ex [.ref a0, .int a1, .long a2] σ (zqi Q) :=
  zMet (by decide) rfl (Nat.le_of_ble_eq_true rfl) (fun p e s m args below meth c hr hnm => w_M_feed hr h)
def P_M_newNumber_25 (n : Nat) (Q : Int32 → zS → Prop) (K4 : Nat → Int32 → Int32 → Int32 → zS → Prop) (a0 : Nat) (a1 : Int32) (a3 : Int32) (b0 : Int32) (σ : zS) : Prop := K4 a0 a1 b0 (a3 + (1 : Int32)) σ
set_option maxHeartbeats 1000000 in
set_option maxRecDepth 10000 in
theorem w_M_newNumber_25 {Q : Int32 → zS → Prop} {K4 : Nat → Int32 → Int32 → Int32 → zS → Prop} (hr : meth.sig.returnType = some .int) (hK4 : ∀ (a0 : Nat) (a1 : Int32) (a2 : Int32) (a3 : Int32) (σ : zS), K4 a0 a1 a2 a3 σ → zG p l e (zrm 1 0 0) s m args below meth c (MQ below (zQc (zA base) D cA base n ex (zqi Q)) args s 0 0 (zA base)) s.heap (zA base) base D cA 4 ex prog_9_method_43_code "ConstantFlowModel" n 0 0 4 [some (.ref a0), some (.int a1), some (.int a2), some (.int a3)] [] σ) {a0 : Nat} {a1 : Int32} {a3 : Int32} {b0 : Int32} {σ : zS} (h : P_M_newNumber_25 n Q K4 a0 a1 a3 b0 σ) : zG p l e (zrm 1 0 0) s m args below meth c (MQ below (zQc (zA base) D cA base n ex (zqi Q)) args s 0 0 (zA base)) s.heap (zA base) base D cA 4 ex prog_9_method_43_code "ConstantFlowModel" n 0 0 25 [some (.ref a0), some (.int a1), none, some (.int a3)] [.int b0] σ := by
  unfold P_M_newNumber_25 at h
  refine zw_istore_n d_M_newNumber_25 rfl (Nat.le_of_ble_eq_true rfl) rfl rfl ?_
  refine zw_iinc (v := (a3 + (1 : Int32))) d_M_newNumber_26 rfl rfl (Nat.le_of_ble_eq_true rfl) rfl rfl ?_
  refine zw_goto (tgt := 4) d_M_newNumber_29 rfl ?_
  exact hK4 _ _ _ _ _ h
def P_M_newNumber_4 (n : Nat) (Q : Int32 → zS → Prop) : Nat → Nat → Int32 → Int32 → Int32 → zS → Prop
  | 0, _, _, _, _, _ => False
  | f + 1, a0, a1, a2, a3, σ => ((a1 ≤ a3 → Q a2 σ) ∧ (¬ (a1 ≤ a3) → zk n a0 7 ∧ ∃ c2, zr σ a0 20 = some c2 ∧ za n c2 11 a3 ∧ (((zi σ c2 a3.toNatClampNeg) = 0 → P_M_newNumber_25 n Q (fun (a0 : Nat) (a1 : Int32) (a2 : Int32) (a3 : Int32) (σ : zS) => P_M_newNumber_4 n Q f a0 a1 a2 a3 σ) a0 a1 a3 a2 σ) ∧ (¬ ((zi σ c2 a3.toNatClampNeg) = 0) → P_M_newNumber_25 n Q (fun (a0 : Nat) (a1 : Int32) (a2 : Int32) (a3 : Int32) (σ : zS) => P_M_newNumber_4 n Q f a0 a1 a2 a3 σ) a0 a1 a3 (a2 + (1 : Int32)) σ))))
set_option maxHeartbeats 1000000 in
set_option maxRecDepth 10000 in
theorem w_M_newNumber_4 {Q : Int32 → zS → Prop} (hr : meth.sig.returnType = some .int) : ∀ (f : Nat) (a0 : Nat) (a1 : Int32) (a2 : Int32) (a3 : Int32) (σ : zS), P_M_newNumber_4 n Q f a0 a1 a2 a3 σ → zG p l e (zrm 1 0 0) s m args below meth c (MQ below (zQc (zA base) D cA base n ex (zqi Q)) args s 0 0 (zA base)) s.heap (zA base) base D cA 4 ex prog_9_method_43_code "ConstantFlowModel" n 0 0 4 [some (.ref a0), some (.int a1), some (.int a2), some (.int a3)] [] σ := by
  intro f
  induction f with
  | zero => intro a0 a1 a2 a3 σ h; exact False.elim h
  | succ f ih =>
    intro a0 a1 a2 a3 σ h
    refine zw_iload_n d_M_newNumber_4 rfl rfl ?_
    refine zw_iload_n d_M_newNumber_5 rfl rfl ?_
    obtain ⟨ht, hf⟩ := h
    refine zw_icmp_ge (tgt := 32) d_M_newNumber_6 rfl (fun hc => ?_) (fun hc => ?_)
    · have h := ht hc; clear ht hf
      refine zw_iload_n d_M_newNumber_32 rfl rfl ?_
      exact zw_iret d_M_newNumber_33 hr h
    · have h := hf hc; clear ht hf
      refine zw_aload_n d_M_newNumber_9 rfl rfl ?_
      obtain ⟨q1, h⟩ := h
      obtain ⟨c2, q3, h⟩ := h
      refine zw_gfr (ci := 7) (j := 20) d_M_newNumber_10 mw_3_205 q1.1 q1.2 (by decide) (by decide) rfl q3 ?_
      refine zw_iload_n d_M_newNumber_13 rfl rfl ?_
      obtain ⟨q4, h⟩ := h
      refine zw_zald d_M_newNumber_14 q4.1 (zkd_eta q4.2.1) q4.2.2 ?_
      obtain ⟨ht, hf⟩ := h
      refine zw_if_eq (tgt := 24) d_M_newNumber_15 rfl (fun hc => ?_) (fun hc => ?_)
      · have h := ht hc; clear ht hf
        refine zw_iload_n d_M_newNumber_24 rfl rfl ?_
        refine zw_le (ls' := [some (.ref a0), some (.int a1), none, some (.int a3)]) (And.intro rfl (And.intro rfl (And.intro rfl True.intro))) ?_
        exact w_M_newNumber_25 hr (fun a0 a1 a2 a3 σ hk => ih a0 a1 a2 a3 σ hk) h
      · have h := hf hc; clear ht hf
        refine zw_iload_n d_M_newNumber_18 rfl rfl ?_
        refine zw_iconst (v := 1) d_M_newNumber_19 rfl ?_
        refine zw_iadd d_M_newNumber_20 ?_
        refine zw_goto (tgt := 25) d_M_newNumber_21 rfl ?_
        refine zw_le (ls' := [some (.ref a0), some (.int a1), none, some (.int a3)]) (And.intro rfl (And.intro rfl (And.intro rfl True.intro))) ?_
        exact w_M_newNumber_25 hr (fun a0 a1 a2 a3 σ hk => ih a0 a1 a2 a3 σ hk) h
def P_M_newNumber (n : Nat) (a0 : Nat) (a1 : Int32) (σ : zS) (Q : Int32 → zS → Prop) : Prop := ∃ g, P_M_newNumber_4 n Q g a0 a1 (0 : Int32) (0 : Int32) σ
set_option maxHeartbeats 1000000 in
set_option maxRecDepth 10000 in
theorem w_M_newNumber {Q : Int32 → zS → Prop} (hr : meth.sig.returnType = some .int) {a0 : Nat} {a1 : Int32} {σ : zS} (h : P_M_newNumber n a0 a1 σ Q) : zG p l e (zrm 1 0 0) s m args below meth c (MQ below (zQc (zA base) D cA base n ex (zqi Q)) args s 0 0 (zA base)) s.heap (zA base) base D cA 4 ex prog_9_method_43_code "ConstantFlowModel" n 0 0 0 [some (.ref a0), some (.int a1), none, none] [] σ := by
  unfold P_M_newNumber at h
  refine zw_iconst (v := 0) d_M_newNumber_0 rfl ?_
  refine zw_istore_n d_M_newNumber_1 rfl (Nat.le_of_ble_eq_true rfl) rfl rfl ?_
  refine zw_iconst (v := 0) d_M_newNumber_2 rfl ?_
  refine zw_istore_n d_M_newNumber_3 rfl (Nat.le_of_ble_eq_true rfl) rfl rfl ?_
  obtain ⟨g, h⟩ := h
  exact w_M_newNumber_4 hr g _ _ _ _ _ h
theorem c_M_newNumber {l : Launch} {D : va_G} {cA : Nat → ClassId} {base n : Nat} {ex : Bool} {Q : Int32 → zS → Prop} {a0 : Nat} {a1 : Int32} {σ : zS} (h : P_M_newNumber n a0 a1 σ Q) : zM l y_M_newNumber prog_9_method_43_code 4 (some .int) 1 0 0 (zA base) D cA base n n ex [.ref a0, .int a1] σ (zqi Q) :=
  zMet (by decide) rfl (Nat.le_of_ble_eq_true rfl) (fun p e s m args below meth c hr hnm => w_M_newNumber hr h)
end
