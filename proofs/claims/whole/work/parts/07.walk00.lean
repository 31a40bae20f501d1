section
variable {p : Program} {l : Launch} {e : Env} {s : State} {m : MethodId} {args : Array Value} {below : List Frame} {meth : Method} {c : Code} {base : Nat} {D : va_G} {cA : Nat → ClassId} {ex : Bool} {n : Nat}
def P_C_input (n : Nat) (a0 : Nat) (a1 : Int32) (σ : zS) (Q : Int32 → zS → Prop) : Prop := zk n a0 0 ∧ ∃ c2, zr σ a0 4 = some c2 ∧ zk n c2 5 ∧ (((zi σ c2 1) < (32 : Int32) → ∃ c5, zr σ a0 4 = some c5 ∧ zk n c5 5 ∧ ∃ c8, zr σ c5 0 = some c8 ∧ ∃ c10, zr σ a0 4 = some c10 ∧ zk n c10 5 ∧ za n c8 10 (zi σ c10 1) ∧ ∃ c14, zr (zI σ c8 (zi σ c10 1).toNatClampNeg a1) a0 4 = some c14 ∧ zk n c14 5 ∧ ∃ c17, zr (zI (zI σ c8 (zi σ c10 1).toNatClampNeg a1) c14 1 ((zi (zI σ c8 (zi σ c10 1).toNatClampNeg a1) c14 1) + (1 : Int32))) a0 4 = some c17 ∧ zk n c17 5 ∧ Q (zi (zI (zI σ c8 (zi σ c10 1).toNatClampNeg a1) c14 1 ((zi (zI σ c8 (zi σ c10 1).toNatClampNeg a1) c14 1) + (1 : Int32))) c17 1) (zI (zI σ c8 (zi σ c10 1).toNatClampNeg a1) c14 1 ((zi (zI σ c8 (zi σ c10 1).toNatClampNeg a1) c14 1) + (1 : Int32)))) ∧ (¬ ((zi σ c2 1) < (32 : Int32)) → Q (-1 : Int32) σ))
set_option maxHeartbeats 1000000 in
set_option maxRecDepth 10000 in
theorem w_C_input {Q : Int32 → zS → Prop} (hr : meth.sig.returnType = some .int) {a0 : Nat} {a1 : Int32} {σ : zS} (h : P_C_input n a0 a1 σ Q) : zG p l e (zrm 1 0 0) s m args below meth c (MQ below (zQc (zA base) D cA base n ex (zqi Q)) args s 0 0 (zA base)) s.heap (zA base) base D cA 2 ex prog_1_method_14_code "ConstantFlow" n 0 0 0 [some (.ref a0), some (.int a1)] [] σ := by
  unfold P_C_input at h
  refine zw_aload_n d_C_input_0 rfl rfl ?_
  obtain ⟨q1, h⟩ := h
  obtain ⟨c2, q3, h⟩ := h
  refine zw_gfr (ci := 0) (j := 4) d_C_input_1 mw_2_54 q1.1 q1.2 (by decide) (by decide) rfl q3 ?_
  obtain ⟨q4, h⟩ := h
  refine zw_gfiN (ci := 5) (j := 1) d_C_input_4 mw_1_131 q4.1 q4.2 (by decide) (by decide) rfl ?_
  refine zw_bipush (v := 32) d_C_input_7 rfl ?_
  obtain ⟨ht, hf⟩ := h
  refine zw_icmp_lt (tgt := 14) d_C_input_9 rfl (fun hc => ?_) (fun hc => ?_)
  · have h := ht hc; clear ht hf
    refine zw_aload_n d_C_input_14 rfl rfl ?_
    obtain ⟨c5, q6, h⟩ := h
    refine zw_gfr (ci := 0) (j := 4) d_C_input_15 mw_2_54 q1.1 q1.2 (by decide) (by decide) rfl q6 ?_
    obtain ⟨q7, h⟩ := h
    obtain ⟨c8, q9, h⟩ := h
    refine zw_gfrN (ci := 5) (j := 0) d_C_input_18 mw_1_129 q7.1 q7.2 (by decide) (by decide) rfl q9 ?_
    refine zw_aload_n d_C_input_21 rfl rfl ?_
    obtain ⟨c10, q11, h⟩ := h
    refine zw_gfr (ci := 0) (j := 4) d_C_input_22 mw_2_54 q1.1 q1.2 (by decide) (by decide) rfl q11 ?_
    obtain ⟨q12, h⟩ := h
    refine zw_gfiN (ci := 5) (j := 1) d_C_input_25 mw_1_131 q12.1 q12.2 (by decide) (by decide) rfl ?_
    refine zw_iload_n d_C_input_28 rfl rfl ?_
    obtain ⟨q13, h⟩ := h
    refine zw_iast d_C_input_29 q13.1 (zkd_eta q13.2.1) q13.2.2 ?_
    refine zw_aload_n d_C_input_30 rfl rfl ?_
    obtain ⟨c14, q15, h⟩ := h
    refine zw_gfr (ci := 0) (j := 4) d_C_input_31 mw_2_54 q1.1 q1.2 (by decide) (by decide) rfl q15 ?_
    refine zw_dup d_C_input_34 rfl ?_
    obtain ⟨q16, h⟩ := h
    refine zw_gfiN (ci := 5) (j := 1) d_C_input_35 mw_1_131 q16.1 q16.2 (by decide) (by decide) rfl ?_
    refine zw_iconst (v := 1) d_C_input_38 rfl ?_
    refine zw_iadd d_C_input_39 ?_
    refine zw_pfiN (ci := 5) (j := 1) d_C_input_40 mw_1_131 q16.1 q16.2 (by decide) (by decide) rfl rfl rfl rfl ?_
    refine zw_aload_n d_C_input_43 rfl rfl ?_
    obtain ⟨c17, q18, h⟩ := h
    refine zw_gfr (ci := 0) (j := 4) d_C_input_44 mw_2_54 q1.1 q1.2 (by decide) (by decide) rfl q18 ?_
    obtain ⟨q19, h⟩ := h
    refine zw_gfiN (ci := 5) (j := 1) d_C_input_47 mw_1_131 q19.1 q19.2 (by decide) (by decide) rfl ?_
    exact zw_iret d_C_input_50 hr h
  · have h := hf hc; clear ht hf
    refine zw_iconst (v := -1) d_C_input_12 rfl ?_
    exact zw_iret d_C_input_13 hr h
theorem c_C_input {l : Launch} {D : va_G} {cA : Nat → ClassId} {base n : Nat} {ex : Bool} {Q : Int32 → zS → Prop} {a0 : Nat} {a1 : Int32} {σ : zS} (h : P_C_input n a0 a1 σ Q) : zM l y_C_input prog_1_method_14_code 2 (some .int) 1 0 0 (zA base) D cA base n n ex [.ref a0, .int a1] σ (zqi Q) :=
  zMet (by decide) rfl (Nat.le_of_ble_eq_true rfl) (fun p e s m args below meth c hr hnm => w_C_input hr h)
def P_C_clear (n : Nat) (a0 : Nat) (σ : zS) (Q : Int32 → zS → Prop) : Prop := zk n a0 0 ∧ ∃ c2, zr σ a0 4 = some c2 ∧ zk n c2 5 ∧ ∃ c5, zr σ a0 4 = some c5 ∧ zk n c5 5 ∧ Q (zi σ c2 1) (zI σ c5 1 (0 : Int32))
set_option maxHeartbeats 1000000 in
set_option maxRecDepth 10000 in
theorem w_C_clear {Q : Int32 → zS → Prop} (hr : meth.sig.returnType = some .int) {a0 : Nat} {σ : zS} (h : P_C_clear n a0 σ Q) : zG p l e (zrm 1 0 0) s m args below meth c (MQ below (zQc (zA base) D cA base n ex (zqi Q)) args s 0 0 (zA base)) s.heap (zA base) base D cA 2 ex prog_1_method_15_code "ConstantFlow" n 0 0 0 [some (.ref a0), none] [] σ := by
  unfold P_C_clear at h
  refine zw_aload_n d_C_clear_0 rfl rfl ?_
  obtain ⟨q1, h⟩ := h
  obtain ⟨c2, q3, h⟩ := h
  refine zw_gfr (ci := 0) (j := 4) d_C_clear_1 mw_2_54 q1.1 q1.2 (by decide) (by decide) rfl q3 ?_
  obtain ⟨q4, h⟩ := h
  refine zw_gfiN (ci := 5) (j := 1) d_C_clear_4 mw_1_131 q4.1 q4.2 (by decide) (by decide) rfl ?_
  refine zw_istore_n d_C_clear_7 rfl (Nat.le_of_ble_eq_true rfl) rfl rfl ?_
  refine zw_aload_n d_C_clear_8 rfl rfl ?_
  obtain ⟨c5, q6, h⟩ := h
  refine zw_gfr (ci := 0) (j := 4) d_C_clear_9 mw_2_54 q1.1 q1.2 (by decide) (by decide) rfl q6 ?_
  refine zw_iconst (v := 0) d_C_clear_12 rfl ?_
  obtain ⟨q7, h⟩ := h
  refine zw_pfiN (ci := 5) (j := 1) d_C_clear_13 mw_1_131 q7.1 q7.2 (by decide) (by decide) rfl rfl rfl rfl ?_
  refine zw_iload_n d_C_clear_16 rfl rfl ?_
  exact zw_iret d_C_clear_17 hr h
theorem c_C_clear {l : Launch} {D : va_G} {cA : Nat → ClassId} {base n : Nat} {ex : Bool} {Q : Int32 → zS → Prop} {a0 : Nat} {σ : zS} (h : P_C_clear n a0 σ Q) : zM l y_C_clear prog_1_method_15_code 2 (some .int) 1 0 0 (zA base) D cA base n n ex [.ref a0] σ (zqi Q) :=
  zMet (by decide) rfl (Nat.le_of_ble_eq_true rfl) (fun p e s m args below meth c hr hnm => w_C_clear hr h)
def P_C_asked (n : Nat) (a0 : Nat) (σ : zS) (Q : Int32 → zS → Prop) : Prop := zk n a0 0 ∧ ∃ c2, zr σ a0 4 = some c2 ∧ zk n c2 5 ∧ Q (zi σ c2 3) σ
set_option maxHeartbeats 1000000 in
set_option maxRecDepth 10000 in
theorem w_C_asked {Q : Int32 → zS → Prop} (hr : meth.sig.returnType = some .int) {a0 : Nat} {σ : zS} (h : P_C_asked n a0 σ Q) : zG p l e (zrm 1 0 0) s m args below meth c (MQ below (zQc (zA base) D cA base n ex (zqi Q)) args s 0 0 (zA base)) s.heap (zA base) base D cA 1 ex prog_1_method_18_code "ConstantFlow" n 0 0 0 [some (.ref a0)] [] σ := by
  unfold P_C_asked at h
  refine zw_aload_n d_C_asked_0 rfl rfl ?_
  obtain ⟨q1, h⟩ := h
  obtain ⟨c2, q3, h⟩ := h
  refine zw_gfr (ci := 0) (j := 4) d_C_asked_1 mw_2_54 q1.1 q1.2 (by decide) (by decide) rfl q3 ?_
  obtain ⟨q4, h⟩ := h
  refine zw_gfiN (ci := 5) (j := 3) d_C_asked_4 mw_1_135 q4.1 q4.2 (by decide) (by decide) rfl ?_
  exact zw_iret d_C_asked_7 hr h
theorem c_C_asked {l : Launch} {D : va_G} {cA : Nat → ClassId} {base n : Nat} {ex : Bool} {Q : Int32 → zS → Prop} {a0 : Nat} {σ : zS} (h : P_C_asked n a0 σ Q) : zM l y_C_asked prog_1_method_18_code 1 (some .int) 1 0 0 (zA base) D cA base n n ex [.ref a0] σ (zqi Q) :=
  zMet (by decide) rfl (Nat.le_of_ble_eq_true rfl) (fun p e s m args below meth c hr hnm => w_C_asked hr h)
def P_C_isBlock_20 (n : Nat) (Q : Int32 → zS → Prop) (b0 : Int32) (σ : zS) : Prop := (b0 = 0 ∨ b0 = 1) ∧ Q b0 σ
set_option maxHeartbeats 1000000 in
set_option maxRecDepth 10000 in
theorem w_C_isBlock_20 {Q : Int32 → zS → Prop} (hr : meth.sig.returnType = some .boolean) {b0 : Int32} {σ : zS} (h : P_C_isBlock_20 n Q b0 σ) : zG p l e (zrm 1 0 0) s m args below meth c (MQ below (zQc (zA base) D cA base n ex (zqi Q)) args s 0 0 (zA base)) s.heap (zA base) base D cA 2 ex prog_1_method_19_code "ConstantFlow" n 0 0 20 [none, none] [.int b0] σ := by
  unfold P_C_isBlock_20 at h
  obtain ⟨q1, h⟩ := h
  exact zw_zret d_C_isBlock_20 hr q1 h
def P_C_isBlock_19 (n : Nat) (Q : Int32 → zS → Prop) (σ : zS) : Prop := P_C_isBlock_20 n Q (0 : Int32) σ
set_option maxHeartbeats 1000000 in
set_option maxRecDepth 10000 in
theorem w_C_isBlock_19 {Q : Int32 → zS → Prop} (hr : meth.sig.returnType = some .boolean) {σ : zS} (h : P_C_isBlock_19 n Q σ) : zG p l e (zrm 1 0 0) s m args below meth c (MQ below (zQc (zA base) D cA base n ex (zqi Q)) args s 0 0 (zA base)) s.heap (zA base) base D cA 2 ex prog_1_method_19_code "ConstantFlow" n 0 0 19 [none, none] [] σ := by
  unfold P_C_isBlock_19 at h
  refine zw_iconst (v := 0) d_C_isBlock_19 rfl ?_
  exact w_C_isBlock_20 hr h
def P_C_isBlock (n : Nat) (a0 : Nat) (a1 : Int32) (σ : zS) (Q : Int32 → zS → Prop) : Prop := ((a1 < 0 → P_C_isBlock_19 n Q σ) ∧ (¬ (a1 < 0) → zk n a0 0 ∧ ∃ c2, zr σ a0 5 = some c2 ∧ zk n c2 6 ∧ (((zi σ c2 0) ≤ a1 → P_C_isBlock_19 n Q σ) ∧ (¬ ((zi σ c2 0) ≤ a1) → P_C_isBlock_20 n Q (1 : Int32) σ))))
set_option maxHeartbeats 1000000 in
set_option maxRecDepth 10000 in
theorem w_C_isBlock {Q : Int32 → zS → Prop} (hr : meth.sig.returnType = some .boolean) {a0 : Nat} {a1 : Int32} {σ : zS} (h : P_C_isBlock n a0 a1 σ Q) : zG p l e (zrm 1 0 0) s m args below meth c (MQ below (zQc (zA base) D cA base n ex (zqi Q)) args s 0 0 (zA base)) s.heap (zA base) base D cA 2 ex prog_1_method_19_code "ConstantFlow" n 0 0 0 [some (.ref a0), some (.int a1)] [] σ := by
  unfold P_C_isBlock at h
  refine zw_iload_n d_C_isBlock_0 rfl rfl ?_
  obtain ⟨ht, hf⟩ := h
  refine zw_if_lt (tgt := 19) d_C_isBlock_1 rfl (fun hc => ?_) (fun hc => ?_)
  · have h := ht hc; clear ht hf
    refine zw_le (ls' := [none, none]) (True.intro) ?_
    exact w_C_isBlock_19 hr h
  · have h := hf hc; clear ht hf
    refine zw_iload_n d_C_isBlock_4 rfl rfl ?_
    refine zw_aload_n d_C_isBlock_5 rfl rfl ?_
    obtain ⟨q1, h⟩ := h
    obtain ⟨c2, q3, h⟩ := h
    refine zw_gfr (ci := 0) (j := 5) d_C_isBlock_6 mw_2_55 q1.1 q1.2 (by decide) (by decide) rfl q3 ?_
    obtain ⟨q4, h⟩ := h
    refine zw_gfiN (ci := 6) (j := 0) d_C_isBlock_9 mw_1_153 q4.1 q4.2 (by decide) (by decide) rfl ?_
    obtain ⟨ht, hf⟩ := h
    refine zw_icmp_ge (tgt := 19) d_C_isBlock_12 rfl (fun hc => ?_) (fun hc => ?_)
    · have h := ht hc; clear ht hf
      refine zw_le (ls' := [none, none]) (True.intro) ?_
      exact w_C_isBlock_19 hr h
    · have h := hf hc; clear ht hf
      refine zw_iconst (v := 1) d_C_isBlock_15 rfl ?_
      refine zw_goto (tgt := 20) d_C_isBlock_16 rfl ?_
      refine zw_le (ls' := [none, none]) (True.intro) ?_
      exact w_C_isBlock_20 hr h
theorem c_C_isBlock {l : Launch} {D : va_G} {cA : Nat → ClassId} {base n : Nat} {ex : Bool} {Q : Int32 → zS → Prop} {a0 : Nat} {a1 : Int32} {σ : zS} (h : P_C_isBlock n a0 a1 σ Q) : zM l y_C_isBlock prog_1_method_19_code 2 (some .boolean) 1 0 0 (zA base) D cA base n n ex [.ref a0, .int a1] σ (zqi Q) :=
  zMet (by decide) rfl (Nat.le_of_ble_eq_true rfl) (fun p e s m args below meth c hr hnm => w_C_isBlock hr h)
def P_C_isVariable_15 (n : Nat) (Q : Int32 → zS → Prop) (b0 : Int32) (σ : zS) : Prop := (b0 = 0 ∨ b0 = 1) ∧ Q b0 σ
set_option maxHeartbeats 1000000 in
set_option maxRecDepth 10000 in
theorem w_C_isVariable_15 {Q : Int32 → zS → Prop} (hr : meth.sig.returnType = some .boolean) {b0 : Int32} {σ : zS} (h : P_C_isVariable_15 n Q b0 σ) : zG p l e (zrm 1 0 0) s m args below meth c (MQ below (zQc (zA base) D cA base n ex (zqi Q)) args s 0 0 (zA base)) s.heap (zA base) base D cA 1 ex prog_1_method_20_code "ConstantFlow" n 0 0 15 [none] [.int b0] σ := by
  unfold P_C_isVariable_15 at h
  obtain ⟨q1, h⟩ := h
  exact zw_zret d_C_isVariable_15 hr q1 h
def P_C_isVariable_14 (n : Nat) (Q : Int32 → zS → Prop) (σ : zS) : Prop := P_C_isVariable_15 n Q (0 : Int32) σ
set_option maxHeartbeats 1000000 in
set_option maxRecDepth 10000 in
theorem w_C_isVariable_14 {Q : Int32 → zS → Prop} (hr : meth.sig.returnType = some .boolean) {σ : zS} (h : P_C_isVariable_14 n Q σ) : zG p l e (zrm 1 0 0) s m args below meth c (MQ below (zQc (zA base) D cA base n ex (zqi Q)) args s 0 0 (zA base)) s.heap (zA base) base D cA 1 ex prog_1_method_20_code "ConstantFlow" n 0 0 14 [none] [] σ := by
  unfold P_C_isVariable_14 at h
  refine zw_iconst (v := 0) d_C_isVariable_14 rfl ?_
  exact w_C_isVariable_15 hr h
def P_C_isVariable (n : Nat) (a0 : Int32) (σ : zS) (Q : Int32 → zS → Prop) : Prop := ((a0 < 0 → P_C_isVariable_14 n Q σ) ∧ (¬ (a0 < 0) → (((8 : Int32) ≤ a0 → P_C_isVariable_14 n Q σ) ∧ (¬ ((8 : Int32) ≤ a0) → P_C_isVariable_15 n Q (1 : Int32) σ))))
set_option maxHeartbeats 1000000 in
set_option maxRecDepth 10000 in
theorem w_C_isVariable {Q : Int32 → zS → Prop} (hr : meth.sig.returnType = some .boolean) {a0 : Int32} {σ : zS} (h : P_C_isVariable n a0 σ Q) : zG p l e (zrm 1 0 0) s m args below meth c (MQ below (zQc (zA base) D cA base n ex (zqi Q)) args s 0 0 (zA base)) s.heap (zA base) base D cA 1 ex prog_1_method_20_code "ConstantFlow" n 0 0 0 [some (.int a0)] [] σ := by
  unfold P_C_isVariable at h
  refine zw_iload_n d_C_isVariable_0 rfl rfl ?_
  obtain ⟨ht, hf⟩ := h
  refine zw_if_lt (tgt := 14) d_C_isVariable_1 rfl (fun hc => ?_) (fun hc => ?_)
  · have h := ht hc; clear ht hf
    refine zw_le (ls' := [none]) (True.intro) ?_
    exact w_C_isVariable_14 hr h
  · have h := hf hc; clear ht hf
    refine zw_iload_n d_C_isVariable_4 rfl rfl ?_
    refine zw_bipush (v := 8) d_C_isVariable_5 rfl ?_
    obtain ⟨ht, hf⟩ := h
    refine zw_icmp_ge (tgt := 14) d_C_isVariable_7 rfl (fun hc => ?_) (fun hc => ?_)
    · have h := ht hc; clear ht hf
      refine zw_le (ls' := [none]) (True.intro) ?_
      exact w_C_isVariable_14 hr h
    · have h := hf hc; clear ht hf
      refine zw_iconst (v := 1) d_C_isVariable_10 rfl ?_
      refine zw_goto (tgt := 15) d_C_isVariable_11 rfl ?_
      refine zw_le (ls' := [none]) (True.intro) ?_
      exact w_C_isVariable_15 hr h
theorem c_C_isVariable {l : Launch} {D : va_G} {cA : Nat → ClassId} {base n : Nat} {ex : Bool} {Q : Int32 → zS → Prop} {a0 : Int32} {σ : zS} (h : P_C_isVariable n a0 σ Q) : zM l y_C_isVariable prog_1_method_20_code 1 (some .boolean) 1 0 0 (zA base) D cA base n n ex [.int a0] σ (zqi Q) :=
  zMet (by decide) rfl (Nat.le_of_ble_eq_true rfl) (fun p e s m args below meth c hr hnm => w_C_isVariable hr h)
def P_C_isLetter_17 (n : Nat) (Q : Int32 → zS → Prop) (b0 : Int32) (σ : zS) : Prop := (b0 = 0 ∨ b0 = 1) ∧ Q b0 σ
set_option maxHeartbeats 1000000 in
set_option maxRecDepth 10000 in
theorem w_C_isLetter_17 {Q : Int32 → zS → Prop} (hr : meth.sig.returnType = some .boolean) {b0 : Int32} {σ : zS} (h : P_C_isLetter_17 n Q b0 σ) : zG p l e (zrm 1 0 0) s m args below meth c (MQ below (zQc (zA base) D cA base n ex (zqi Q)) args s 0 0 (zA base)) s.heap (zA base) base D cA 1 ex prog_1_method_21_code "ConstantFlow" n 0 0 17 [none] [.int b0] σ := by
  unfold P_C_isLetter_17 at h
  obtain ⟨q1, h⟩ := h
  exact zw_zret d_C_isLetter_17 hr q1 h
def P_C_isLetter_16 (n : Nat) (Q : Int32 → zS → Prop) (σ : zS) : Prop := P_C_isLetter_17 n Q (0 : Int32) σ
set_option maxHeartbeats 1000000 in
set_option maxRecDepth 10000 in
theorem w_C_isLetter_16 {Q : Int32 → zS → Prop} (hr : meth.sig.returnType = some .boolean) {σ : zS} (h : P_C_isLetter_16 n Q σ) : zG p l e (zrm 1 0 0) s m args below meth c (MQ below (zQc (zA base) D cA base n ex (zqi Q)) args s 0 0 (zA base)) s.heap (zA base) base D cA 1 ex prog_1_method_21_code "ConstantFlow" n 0 0 16 [none] [] σ := by
  unfold P_C_isLetter_16 at h
  refine zw_iconst (v := 0) d_C_isLetter_16 rfl ?_
  exact w_C_isLetter_17 hr h
def P_C_isLetter (n : Nat) (a0 : Int32) (σ : zS) (Q : Int32 → zS → Prop) : Prop := ((a0 < (97 : Int32) → P_C_isLetter_16 n Q σ) ∧ (¬ (a0 < (97 : Int32)) → (((105 : Int32) ≤ a0 → P_C_isLetter_16 n Q σ) ∧ (¬ ((105 : Int32) ≤ a0) → P_C_isLetter_17 n Q (1 : Int32) σ))))
set_option maxHeartbeats 1000000 in
set_option maxRecDepth 10000 in
theorem w_C_isLetter {Q : Int32 → zS → Prop} (hr : meth.sig.returnType = some .boolean) {a0 : Int32} {σ : zS} (h : P_C_isLetter n a0 σ Q) : zG p l e (zrm 1 0 0) s m args below meth c (MQ below (zQc (zA base) D cA base n ex (zqi Q)) args s 0 0 (zA base)) s.heap (zA base) base D cA 1 ex prog_1_method_21_code "ConstantFlow" n 0 0 0 [some (.int a0)] [] σ := by
  unfold P_C_isLetter at h
  refine zw_iload_n d_C_isLetter_0 rfl rfl ?_
  refine zw_bipush (v := 97) d_C_isLetter_1 rfl ?_
  obtain ⟨ht, hf⟩ := h
  refine zw_icmp_lt (tgt := 16) d_C_isLetter_3 rfl (fun hc => ?_) (fun hc => ?_)
  · have h := ht hc; clear ht hf
    refine zw_le (ls' := [none]) (True.intro) ?_
    exact w_C_isLetter_16 hr h
  · have h := hf hc; clear ht hf
    refine zw_iload_n d_C_isLetter_6 rfl rfl ?_
    refine zw_bipush (v := 105) d_C_isLetter_7 rfl ?_
    obtain ⟨ht, hf⟩ := h
    refine zw_icmp_ge (tgt := 16) d_C_isLetter_9 rfl (fun hc => ?_) (fun hc => ?_)
    · have h := ht hc; clear ht hf
      refine zw_le (ls' := [none]) (True.intro) ?_
      exact w_C_isLetter_16 hr h
    · have h := hf hc; clear ht hf
      refine zw_iconst (v := 1) d_C_isLetter_12 rfl ?_
      refine zw_goto (tgt := 17) d_C_isLetter_13 rfl ?_
      refine zw_le (ls' := [none]) (True.intro) ?_
      exact w_C_isLetter_17 hr h
theorem c_C_isLetter {l : Launch} {D : va_G} {cA : Nat → ClassId} {base n : Nat} {ex : Bool} {Q : Int32 → zS → Prop} {a0 : Int32} {σ : zS} (h : P_C_isLetter n a0 σ Q) : zM l y_C_isLetter prog_1_method_21_code 1 (some .boolean) 1 0 0 (zA base) D cA base n n ex [.int a0] σ (zqi Q) :=
  zMet (by decide) rfl (Nat.le_of_ble_eq_true rfl) (fun p e s m args below meth c hr hnm => w_C_isLetter hr h)
def P_C_isFigure_17 (n : Nat) (Q : Int32 → zS → Prop) (b0 : Int32) (σ : zS) : Prop := (b0 = 0 ∨ b0 = 1) ∧ Q b0 σ
set_option maxHeartbeats 1000000 in
set_option maxRecDepth 10000 in
theorem w_C_isFigure_17 {Q : Int32 → zS → Prop} (hr : meth.sig.returnType = some .boolean) {b0 : Int32} {σ : zS} (h : P_C_isFigure_17 n Q b0 σ) : zG p l e (zrm 1 0 0) s m args below meth c (MQ below (zQc (zA base) D cA base n ex (zqi Q)) args s 0 0 (zA base)) s.heap (zA base) base D cA 1 ex prog_1_method_22_code "ConstantFlow" n 0 0 17 [none] [.int b0] σ := by
  unfold P_C_isFigure_17 at h
  obtain ⟨q1, h⟩ := h
  exact zw_zret d_C_isFigure_17 hr q1 h
def P_C_isFigure_16 (n : Nat) (Q : Int32 → zS → Prop) (σ : zS) : Prop := P_C_isFigure_17 n Q (0 : Int32) σ
set_option maxHeartbeats 1000000 in
set_option maxRecDepth 10000 in
theorem w_C_isFigure_16 {Q : Int32 → zS → Prop} (hr : meth.sig.returnType = some .boolean) {σ : zS} (h : P_C_isFigure_16 n Q σ) : zG p l e (zrm 1 0 0) s m args below meth c (MQ below (zQc (zA base) D cA base n ex (zqi Q)) args s 0 0 (zA base)) s.heap (zA base) base D cA 1 ex prog_1_method_22_code "ConstantFlow" n 0 0 16 [none] [] σ := by
  unfold P_C_isFigure_16 at h
  refine zw_iconst (v := 0) d_C_isFigure_16 rfl ?_
  exact w_C_isFigure_17 hr h
def P_C_isFigure (n : Nat) (a0 : Int32) (σ : zS) (Q : Int32 → zS → Prop) : Prop := ((a0 < (48 : Int32) → P_C_isFigure_16 n Q σ) ∧ (¬ (a0 < (48 : Int32)) → (((57 : Int32) < a0 → P_C_isFigure_16 n Q σ) ∧ (¬ ((57 : Int32) < a0) → P_C_isFigure_17 n Q (1 : Int32) σ))))
set_option maxHeartbeats 1000000 in
set_option maxRecDepth 10000 in
theorem w_C_isFigure {Q : Int32 → zS → Prop} (hr : meth.sig.returnType = some .boolean) {a0 : Int32} {σ : zS} (h : P_C_isFigure n a0 σ Q) : zG p l e (zrm 1 0 0) s m args below meth c (MQ below (zQc (zA base) D cA base n ex (zqi Q)) args s 0 0 (zA base)) s.heap (zA base) base D cA 1 ex prog_1_method_22_code "ConstantFlow" n 0 0 0 [some (.int a0)] [] σ := by
  unfold P_C_isFigure at h
  refine zw_iload_n d_C_isFigure_0 rfl rfl ?_
  refine zw_bipush (v := 48) d_C_isFigure_1 rfl ?_
  obtain ⟨ht, hf⟩ := h
  refine zw_icmp_lt (tgt := 16) d_C_isFigure_3 rfl (fun hc => ?_) (fun hc => ?_)
  · have h := ht hc; clear ht hf
    refine zw_le (ls' := [none]) (True.intro) ?_
    exact w_C_isFigure_16 hr h
  · have h := hf hc; clear ht hf
    refine zw_iload_n d_C_isFigure_6 rfl rfl ?_
    refine zw_bipush (v := 57) d_C_isFigure_7 rfl ?_
    obtain ⟨ht, hf⟩ := h
    refine zw_icmp_gt (tgt := 16) d_C_isFigure_9 rfl (fun hc => ?_) (fun hc => ?_)
    · have h := ht hc; clear ht hf
      refine zw_le (ls' := [none]) (True.intro) ?_
      exact w_C_isFigure_16 hr h
    · have h := hf hc; clear ht hf
      refine zw_iconst (v := 1) d_C_isFigure_12 rfl ?_
      refine zw_goto (tgt := 17) d_C_isFigure_13 rfl ?_
      refine zw_le (ls' := [none]) (True.intro) ?_
      exact w_C_isFigure_17 hr h
theorem c_C_isFigure {l : Launch} {D : va_G} {cA : Nat → ClassId} {base n : Nat} {ex : Bool} {Q : Int32 → zS → Prop} {a0 : Int32} {σ : zS} (h : P_C_isFigure n a0 σ Q) : zM l y_C_isFigure prog_1_method_22_code 1 (some .boolean) 1 0 0 (zA base) D cA base n n ex [.int a0] σ (zqi Q) :=
  zMet (by decide) rfl (Nat.le_of_ble_eq_true rfl) (fun p e s m args below meth c hr hnm => w_C_isFigure hr h)
def P_C_isOperator_92 (n : Nat) (Q : Int32 → zS → Prop) (σ : zS) : Prop := ((1 : Int32) = 0 ∨ (1 : Int32) = 1) ∧ Q (1 : Int32) σ
set_option maxHeartbeats 1000000 in
set_option maxRecDepth 10000 in
theorem w_C_isOperator_92 {Q : Int32 → zS → Prop} (hr : meth.sig.returnType = some .boolean) {σ : zS} (h : P_C_isOperator_92 n Q σ) : zG p l e (zrm 1 0 0) s m args below meth c (MQ below (zQc (zA base) D cA base n ex (zqi Q)) args s 0 0 (zA base)) s.heap (zA base) base D cA 1 ex prog_1_method_23_code "ConstantFlow" n 0 0 92 [none] [] σ := by
  unfold P_C_isOperator_92 at h
  refine zw_iconst (v := 1) d_C_isOperator_92 rfl ?_
  obtain ⟨q1, h⟩ := h
  exact zw_zret d_C_isOperator_93 hr q1 h
def P_C_isOperator (n : Nat) (a0 : Int32) (σ : zS) (Q : Int32 → zS → Prop) : Prop := ((a0 = (37 : Int32) → P_C_isOperator_92 n Q σ) ∧ (a0 = (38 : Int32) → P_C_isOperator_92 n Q σ) ∧ (a0 = (42 : Int32) → P_C_isOperator_92 n Q σ) ∧ (a0 = (43 : Int32) → P_C_isOperator_92 n Q σ) ∧ (a0 = (45 : Int32) → P_C_isOperator_92 n Q σ) ∧ (a0 = (47 : Int32) → P_C_isOperator_92 n Q σ) ∧ (a0 = (60 : Int32) → P_C_isOperator_92 n Q σ) ∧ (a0 = (61 : Int32) → P_C_isOperator_92 n Q σ) ∧ (a0 = (94 : Int32) → P_C_isOperator_92 n Q σ) ∧ (a0 = (124 : Int32) → P_C_isOperator_92 n Q σ) ∧ (¬ a0 = (37 : Int32) → ¬ a0 = (38 : Int32) → ¬ a0 = (42 : Int32) → ¬ a0 = (43 : Int32) → ¬ a0 = (45 : Int32) → ¬ a0 = (47 : Int32) → ¬ a0 = (60 : Int32) → ¬ a0 = (61 : Int32) → ¬ a0 = (94 : Int32) → ¬ a0 = (124 : Int32) → ((0 : Int32) = 0 ∨ (0 : Int32) = 1) ∧ Q (0 : Int32) σ))
set_option maxHeartbeats 1000000 in
set_option maxRecDepth 10000 in
theorem w_C_isOperator {Q : Int32 → zS → Prop} (hr : meth.sig.returnType = some .boolean) {a0 : Int32} {σ : zS} (h : P_C_isOperator n a0 σ Q) : zG p l e (zrm 1 0 0) s m args below meth c (MQ below (zQc (zA base) D cA base n ex (zqi Q)) args s 0 0 (zA base)) s.heap (zA base) base D cA 1 ex prog_1_method_23_code "ConstantFlow" n 0 0 0 [some (.int a0)] [] σ := by
  unfold P_C_isOperator at h
  refine zw_iload_n d_C_isOperator_0 rfl rfl ?_
  obtain ⟨hs0, hs1, hs2, hs3, hs4, hs5, hs6, hs7, hs8, hs9, hsd⟩ := h
  by_cases he0 : a0 = (37 : Int32)
  · have h := hs0 he0; clear hs0 hs1 hs2 hs3 hs4 hs5 hs6 hs7 hs8 hs9 hsd
    refine zw_lookup (tgt := 92) d_C_isOperator_1 (by decide) (by rw [he0]) rfl ?_
    refine zw_le (ls' := [none]) (True.intro) ?_
    exact w_C_isOperator_92 hr h
  by_cases he1 : a0 = (38 : Int32)
  · have h := hs1 he1; clear hs0 hs1 hs2 hs3 hs4 hs5 hs6 hs7 hs8 hs9 hsd
    refine zw_lookup (tgt := 92) d_C_isOperator_1 (by decide) (by rw [he1]) rfl ?_
    refine zw_le (ls' := [none]) (True.intro) ?_
    exact w_C_isOperator_92 hr h
  by_cases he2 : a0 = (42 : Int32)
  · have h := hs2 he2; clear hs0 hs1 hs2 hs3 hs4 hs5 hs6 hs7 hs8 hs9 hsd
    refine zw_lookup (tgt := 92) d_C_isOperator_1 (by decide) (by rw [he2]) rfl ?_
    refine zw_le (ls' := [none]) (True.intro) ?_
    exact w_C_isOperator_92 hr h
  by_cases he3 : a0 = (43 : Int32)
  · have h := hs3 he3; clear hs0 hs1 hs2 hs3 hs4 hs5 hs6 hs7 hs8 hs9 hsd
    refine zw_lookup (tgt := 92) d_C_isOperator_1 (by decide) (by rw [he3]) rfl ?_
    refine zw_le (ls' := [none]) (True.intro) ?_
    exact w_C_isOperator_92 hr h
  by_cases he4 : a0 = (45 : Int32)
  · have h := hs4 he4; clear hs0 hs1 hs2 hs3 hs4 hs5 hs6 hs7 hs8 hs9 hsd
    refine zw_lookup (tgt := 92) d_C_isOperator_1 (by decide) (by rw [he4]) rfl ?_
    refine zw_le (ls' := [none]) (True.intro) ?_
    exact w_C_isOperator_92 hr h
  by_cases he5 : a0 = (47 : Int32)
  · have h := hs5 he5; clear hs0 hs1 hs2 hs3 hs4 hs5 hs6 hs7 hs8 hs9 hsd
    refine zw_lookup (tgt := 92) d_C_isOperator_1 (by decide) (by rw [he5]) rfl ?_
    refine zw_le (ls' := [none]) (True.intro) ?_
    exact w_C_isOperator_92 hr h
  by_cases he6 : a0 = (60 : Int32)
  · have h := hs6 he6; clear hs0 hs1 hs2 hs3 hs4 hs5 hs6 hs7 hs8 hs9 hsd
    refine zw_lookup (tgt := 92) d_C_isOperator_1 (by decide) (by rw [he6]) rfl ?_
    refine zw_le (ls' := [none]) (True.intro) ?_
    exact w_C_isOperator_92 hr h
  by_cases he7 : a0 = (61 : Int32)
  · have h := hs7 he7; clear hs0 hs1 hs2 hs3 hs4 hs5 hs6 hs7 hs8 hs9 hsd
    refine zw_lookup (tgt := 92) d_C_isOperator_1 (by decide) (by rw [he7]) rfl ?_
    refine zw_le (ls' := [none]) (True.intro) ?_
    exact w_C_isOperator_92 hr h
  by_cases he8 : a0 = (94 : Int32)
  · have h := hs8 he8; clear hs0 hs1 hs2 hs3 hs4 hs5 hs6 hs7 hs8 hs9 hsd
    refine zw_lookup (tgt := 92) d_C_isOperator_1 (by decide) (by rw [he8]) rfl ?_
    refine zw_le (ls' := [none]) (True.intro) ?_
    exact w_C_isOperator_92 hr h
  by_cases he9 : a0 = (124 : Int32)
  · have h := hs9 he9; clear hs0 hs1 hs2 hs3 hs4 hs5 hs6 hs7 hs8 hs9 hsd
    refine zw_lookup (tgt := 92) d_C_isOperator_1 (by decide) (by rw [he9]) rfl ?_
    refine zw_le (ls' := [none]) (True.intro) ?_
    exact w_C_isOperator_92 hr h
  have h := hsd he0 he1 he2 he3 he4 he5 he6 he7 he8 he9; clear hs0 hs1 hs2 hs3 hs4 hs5 hs6 hs7 hs8 hs9 hsd
  refine zw_lookup (tgt := 94) d_C_isOperator_1 (by decide) ((lv_osw he0 rfl).trans ((lv_osw he1 rfl).trans ((lv_osw he2 rfl).trans ((lv_osw he3 rfl).trans ((lv_osw he4 rfl).trans ((lv_osw he5 rfl).trans ((lv_osw he6 rfl).trans ((lv_osw he7 rfl).trans ((lv_osw he8 rfl).trans ((lv_osw he9 rfl).trans (rfl))))))))))) rfl ?_
  refine zw_iconst (v := 0) d_C_isOperator_94 rfl ?_
  obtain ⟨q1, h⟩ := h
  exact zw_zret d_C_isOperator_95 hr q1 h
theorem c_C_isOperator {l : Launch} {D : va_G} {cA : Nat → ClassId} {base n : Nat} {ex : Bool} {Q : Int32 → zS → Prop} {a0 : Int32} {σ : zS} (h : P_C_isOperator n a0 σ Q) : zM l y_C_isOperator prog_1_method_23_code 1 (some .boolean) 1 0 0 (zA base) D cA base n n ex [.int a0] σ (zqi Q) :=
  zMet (by decide) rfl (Nat.le_of_ble_eq_true rfl) (fun p e s m args below meth c hr hnm => w_C_isOperator hr h)
def P_C_reckon_127 (n : Nat) (Q : Int32 → zS → Prop) (b0 : Int32) (σ : zS) : Prop := Q b0 σ
set_option maxHeartbeats 1000000 in
set_option maxRecDepth 10000 in
theorem w_C_reckon_127 {Q : Int32 → zS → Prop} (hr : meth.sig.returnType = some .int) {b0 : Int32} {σ : zS} (h : P_C_reckon_127 n Q b0 σ) : zG p l e (zrm 1 0 0) s m args below meth c (MQ below (zQc (zA base) D cA base n ex (zqi Q)) args s 0 0 (zA base)) s.heap (zA base) base D cA 3 ex prog_1_method_24_code "ConstantFlow" n 0 0 127 [none, none, none] [.int b0] σ := by
  unfold P_C_reckon_127 at h
  exact zw_iret d_C_reckon_127 hr h
def P_C_reckon_115 (n : Nat) (Q : Int32 → zS → Prop) (b0 : Int32) (σ : zS) : Prop := Q b0 σ
set_option maxHeartbeats 1000000 in
set_option maxRecDepth 10000 in
theorem w_C_reckon_115 {Q : Int32 → zS → Prop} (hr : meth.sig.returnType = some .int) {b0 : Int32} {σ : zS} (h : P_C_reckon_115 n Q b0 σ) : zG p l e (zrm 1 0 0) s m args below meth c (MQ below (zQc (zA base) D cA base n ex (zqi Q)) args s 0 0 (zA base)) s.heap (zA base) base D cA 3 ex prog_1_method_24_code "ConstantFlow" n 0 0 115 [none, none, none] [.int b0] σ := by
  unfold P_C_reckon_115 at h
  exact zw_iret d_C_reckon_115 hr h
def P_C_reckon_150 (n : Nat) (Q : Int32 → zS → Prop) (b0 : Int32) (σ : zS) : Prop := Q b0 σ
set_option maxHeartbeats 1000000 in
set_option maxRecDepth 10000 in
theorem w_C_reckon_150 {Q : Int32 → zS → Prop} (hr : meth.sig.returnType = some .int) {b0 : Int32} {σ : zS} (h : P_C_reckon_150 n Q b0 σ) : zG p l e (zrm 1 0 0) s m args below meth c (MQ below (zQc (zA base) D cA base n ex (zqi Q)) args s 0 0 (zA base)) s.heap (zA base) base D cA 3 ex prog_1_method_24_code "ConstantFlow" n 0 0 150 [none, none, none] [.int b0] σ := by
  unfold P_C_reckon_150 at h
  exact zw_iret d_C_reckon_150 hr h
def P_C_reckon_161 (n : Nat) (Q : Int32 → zS → Prop) (b0 : Int32) (σ : zS) : Prop := Q b0 σ
set_option maxHeartbeats 1000000 in
set_option maxRecDepth 10000 in
theorem w_C_reckon_161 {Q : Int32 → zS → Prop} (hr : meth.sig.returnType = some .int) {b0 : Int32} {σ : zS} (h : P_C_reckon_161 n Q b0 σ) : zG p l e (zrm 1 0 0) s m args below meth c (MQ below (zQc (zA base) D cA base n ex (zqi Q)) args s 0 0 (zA base)) s.heap (zA base) base D cA 3 ex prog_1_method_24_code "ConstantFlow" n 0 0 161 [none, none, none] [.int b0] σ := by
  unfold P_C_reckon_161 at h
  exact zw_iret d_C_reckon_161 hr h
def P_C_reckon (n : Nat) (a0 : Int32) (a1 : Int32) (a2 : Int32) (σ : zS) (Q : Int32 → zS → Prop) : Prop := ((a0 = (37 : Int32) → ((¬ a2 = 0 → (¬ a2 = 0) ∧ P_C_reckon_127 n Q (a1 - a1 / a2 * a2) σ) ∧ (a2 = 0 → P_C_reckon_127 n Q (0 : Int32) σ))) ∧ (a0 = (38 : Int32) → Q (a1 &&& a2) σ) ∧ (a0 = (42 : Int32) → Q (a1 * a2) σ) ∧ (a0 = (43 : Int32) → Q (a1 + a2) σ) ∧ (a0 = (45 : Int32) → Q (a1 - a2) σ) ∧ (a0 = (47 : Int32) → ((¬ a2 = 0 → (¬ a2 = 0) ∧ P_C_reckon_115 n Q (a1 / a2) σ) ∧ (a2 = 0 → P_C_reckon_115 n Q (0 : Int32) σ))) ∧ (a0 = (60 : Int32) → ((a2 ≤ a1 → P_C_reckon_150 n Q (0 : Int32) σ) ∧ (¬ (a2 ≤ a1) → P_C_reckon_150 n Q (1 : Int32) σ))) ∧ (a0 = (61 : Int32) → ((¬ a1 = a2 → P_C_reckon_161 n Q (0 : Int32) σ) ∧ (a1 = a2 → P_C_reckon_161 n Q (1 : Int32) σ))) ∧ (a0 = (94 : Int32) → Q (a1 ^^^ a2) σ) ∧ (a0 = (124 : Int32) → Q (a1 ||| a2) σ) ∧ (¬ a0 = (37 : Int32) → ¬ a0 = (38 : Int32) → ¬ a0 = (42 : Int32) → ¬ a0 = (43 : Int32) → ¬ a0 = (45 : Int32) → ¬ a0 = (47 : Int32) → ¬ a0 = (60 : Int32) → ¬ a0 = (61 : Int32) → ¬ a0 = (94 : Int32) → ¬ a0 = (124 : Int32) → Q a1 σ))
set_option maxHeartbeats 1000000 in
set_option maxRecDepth 10000 in
theorem w_C_reckon {Q : Int32 → zS → Prop} (hr : meth.sig.returnType = some .int) {a0 : Int32} {a1 : Int32} {a2 : Int32} {σ : zS} (h : P_C_reckon n a0 a1 a2 σ Q) : zG p l e (zrm 1 0 0) s m args below meth c (MQ below (zQc (zA base) D cA base n ex (zqi Q)) args s 0 0 (zA base)) s.heap (zA base) base D cA 3 ex prog_1_method_24_code "ConstantFlow" n 0 0 0 [some (.int a0), some (.int a1), some (.int a2)] [] σ := by
  unfold P_C_reckon at h
  refine zw_iload_n d_C_reckon_0 rfl rfl ?_
  obtain ⟨hs0, hs1, hs2, hs3, hs4, hs5, hs6, hs7, hs8, hs9, hsd⟩ := h
  by_cases he0 : a0 = (37 : Int32)
  · have h := hs0 he0; clear hs0 hs1 hs2 hs3 hs4 hs5 hs6 hs7 hs8 hs9 hsd
    refine zw_lookup (tgt := 116) d_C_reckon_1 (by decide) (by rw [he0]) rfl ?_
    refine zw_iload_n d_C_reckon_116 rfl rfl ?_
    obtain ⟨ht, hf⟩ := h
    refine zw_if_ne (tgt := 124) d_C_reckon_117 rfl (fun hc => ?_) (fun hc => ?_)
    · have h := ht hc; clear ht hf
      refine zw_iload_n d_C_reckon_124 rfl rfl ?_
      refine zw_iload_n d_C_reckon_125 rfl rfl ?_
      obtain ⟨q1, h⟩ := h
      refine zw_irem d_C_reckon_126 q1 ?_
      refine zw_le (ls' := [none, none, none]) (True.intro) ?_
      exact w_C_reckon_127 hr h
    · have h := hf hc; clear ht hf
      refine zw_iconst (v := 0) d_C_reckon_120 rfl ?_
      refine zw_goto (tgt := 127) d_C_reckon_121 rfl ?_
      refine zw_le (ls' := [none, none, none]) (True.intro) ?_
      exact w_C_reckon_127 hr h
  by_cases he1 : a0 = (38 : Int32)
  · have h := hs1 he1; clear hs0 hs1 hs2 hs3 hs4 hs5 hs6 hs7 hs8 hs9 hsd
    refine zw_lookup (tgt := 128) d_C_reckon_1 (by decide) (by rw [he1]) rfl ?_
    refine zw_iload_n d_C_reckon_128 rfl rfl ?_
    refine zw_iload_n d_C_reckon_129 rfl rfl ?_
    refine zw_iand d_C_reckon_130 ?_
    exact zw_iret d_C_reckon_131 hr h
  by_cases he2 : a0 = (42 : Int32)
  · have h := hs2 he2; clear hs0 hs1 hs2 hs3 hs4 hs5 hs6 hs7 hs8 hs9 hsd
    refine zw_lookup (tgt := 100) d_C_reckon_1 (by decide) (by rw [he2]) rfl ?_
    refine zw_iload_n d_C_reckon_100 rfl rfl ?_
    refine zw_iload_n d_C_reckon_101 rfl rfl ?_
    refine zw_imul d_C_reckon_102 ?_
    exact zw_iret d_C_reckon_103 hr h
  by_cases he3 : a0 = (43 : Int32)
  · have h := hs3 he3; clear hs0 hs1 hs2 hs3 hs4 hs5 hs6 hs7 hs8 hs9 hsd
    refine zw_lookup (tgt := 92) d_C_reckon_1 (by decide) (by rw [he3]) rfl ?_
    refine zw_iload_n d_C_reckon_92 rfl rfl ?_
    refine zw_iload_n d_C_reckon_93 rfl rfl ?_
    refine zw_iadd d_C_reckon_94 ?_
    exact zw_iret d_C_reckon_95 hr h
  by_cases he4 : a0 = (45 : Int32)
  · have h := hs4 he4; clear hs0 hs1 hs2 hs3 hs4 hs5 hs6 hs7 hs8 hs9 hsd
    refine zw_lookup (tgt := 96) d_C_reckon_1 (by decide) (by rw [he4]) rfl ?_
    refine zw_iload_n d_C_reckon_96 rfl rfl ?_
    refine zw_iload_n d_C_reckon_97 rfl rfl ?_
    refine zw_isub d_C_reckon_98 ?_
    exact zw_iret d_C_reckon_99 hr h
  by_cases he5 : a0 = (47 : Int32)
  · have h := hs5 he5; clear hs0 hs1 hs2 hs3 hs4 hs5 hs6 hs7 hs8 hs9 hsd
    refine zw_lookup (tgt := 104) d_C_reckon_1 (by decide) (by rw [he5]) rfl ?_
    refine zw_iload_n d_C_reckon_104 rfl rfl ?_
    obtain ⟨ht, hf⟩ := h
    refine zw_if_ne (tgt := 112) d_C_reckon_105 rfl (fun hc => ?_) (fun hc => ?_)
    · have h := ht hc; clear ht hf
      refine zw_iload_n d_C_reckon_112 rfl rfl ?_
      refine zw_iload_n d_C_reckon_113 rfl rfl ?_
      obtain ⟨q2, h⟩ := h
      refine zw_idiv d_C_reckon_114 q2 ?_
      refine zw_le (ls' := [none, none, none]) (True.intro) ?_
      exact w_C_reckon_115 hr h
    · have h := hf hc; clear ht hf
      refine zw_iconst (v := 0) d_C_reckon_108 rfl ?_
      refine zw_goto (tgt := 115) d_C_reckon_109 rfl ?_
      refine zw_le (ls' := [none, none, none]) (True.intro) ?_
      exact w_C_reckon_115 hr h
  by_cases he6 : a0 = (60 : Int32)
  · have h := hs6 he6; clear hs0 hs1 hs2 hs3 hs4 hs5 hs6 hs7 hs8 hs9 hsd
    refine zw_lookup (tgt := 140) d_C_reckon_1 (by decide) (by rw [he6]) rfl ?_
    refine zw_iload_n d_C_reckon_140 rfl rfl ?_
    refine zw_iload_n d_C_reckon_141 rfl rfl ?_
    obtain ⟨ht, hf⟩ := h
    refine zw_icmp_ge (tgt := 149) d_C_reckon_142 rfl (fun hc => ?_) (fun hc => ?_)
    · have h := ht hc; clear ht hf
      refine zw_iconst (v := 0) d_C_reckon_149 rfl ?_
      refine zw_le (ls' := [none, none, none]) (True.intro) ?_
      exact w_C_reckon_150 hr h
    · have h := hf hc; clear ht hf
      refine zw_iconst (v := 1) d_C_reckon_145 rfl ?_
      refine zw_goto (tgt := 150) d_C_reckon_146 rfl ?_
      refine zw_le (ls' := [none, none, none]) (True.intro) ?_
      exact w_C_reckon_150 hr h
  by_cases he7 : a0 = (61 : Int32)
  · have h := hs7 he7; clear hs0 hs1 hs2 hs3 hs4 hs5 hs6 hs7 hs8 hs9 hsd
    refine zw_lookup (tgt := 151) d_C_reckon_1 (by decide) (by rw [he7]) rfl ?_
    refine zw_iload_n d_C_reckon_151 rfl rfl ?_
    refine zw_iload_n d_C_reckon_152 rfl rfl ?_
    obtain ⟨ht, hf⟩ := h
    refine zw_icmp_ne (tgt := 160) d_C_reckon_153 rfl (fun hc => ?_) (fun hc => ?_)
    · have h := ht hc; clear ht hf
      refine zw_iconst (v := 0) d_C_reckon_160 rfl ?_
      refine zw_le (ls' := [none, none, none]) (True.intro) ?_
      exact w_C_reckon_161 hr h
    · have h := hf hc; clear ht hf
      refine zw_iconst (v := 1) d_C_reckon_156 rfl ?_
      refine zw_goto (tgt := 161) d_C_reckon_157 rfl ?_
      refine zw_le (ls' := [none, none, none]) (True.intro) ?_
      exact w_C_reckon_161 hr h
  by_cases he8 : a0 = (94 : Int32)
  · have h := hs8 he8; clear hs0 hs1 hs2 hs3 hs4 hs5 hs6 hs7 hs8 hs9 hsd
    refine zw_lookup (tgt := 136) d_C_reckon_1 (by decide) (by rw [he8]) rfl ?_
    refine zw_iload_n d_C_reckon_136 rfl rfl ?_
    refine zw_iload_n d_C_reckon_137 rfl rfl ?_
    refine zw_ixor d_C_reckon_138 ?_
    exact zw_iret d_C_reckon_139 hr h
  by_cases he9 : a0 = (124 : Int32)
  · have h := hs9 he9; clear hs0 hs1 hs2 hs3 hs4 hs5 hs6 hs7 hs8 hs9 hsd
    refine zw_lookup (tgt := 132) d_C_reckon_1 (by decide) (by rw [he9]) rfl ?_
    refine zw_iload_n d_C_reckon_132 rfl rfl ?_
    refine zw_iload_n d_C_reckon_133 rfl rfl ?_
    refine zw_ior d_C_reckon_134 ?_
    exact zw_iret d_C_reckon_135 hr h
  have h := hsd he0 he1 he2 he3 he4 he5 he6 he7 he8 he9; clear hs0 hs1 hs2 hs3 hs4 hs5 hs6 hs7 hs8 hs9 hsd
  refine zw_lookup (tgt := 162) d_C_reckon_1 (by decide) ((lv_osw he0 rfl).trans ((lv_osw he1 rfl).trans ((lv_osw he2 rfl).trans ((lv_osw he3 rfl).trans ((lv_osw he4 rfl).trans ((lv_osw he5 rfl).trans ((lv_osw he6 rfl).trans ((lv_osw he7 rfl).trans ((lv_osw he8 rfl).trans ((lv_osw he9 rfl).trans (rfl))))))))))) rfl ?_
  refine zw_iload_n d_C_reckon_162 rfl rfl ?_
  exact zw_iret d_C_reckon_163 hr h
theorem c_C_reckon {l : Launch} {D : va_G} {cA : Nat → ClassId} {base n : Nat} {ex : Bool} {Q : Int32 → zS → Prop} {a0 : Int32} {a1 : Int32} {a2 : Int32} {σ : zS} (h : P_C_reckon n a0 a1 a2 σ Q) : zM l y_C_reckon prog_1_method_24_code 3 (some .int) 1 0 0 (zA base) D cA base n n ex [.int a0, .int a1, .int a2] σ (zqi Q) :=
  zMet (by decide) rfl (Nat.le_of_ble_eq_true rfl) (fun p e s m args below meth c hr hnm => w_C_reckon hr h)
def P_C_wipe (n : Nat) (a0 : Nat) (σ : zS) (Q : Int32 → zS → Prop) : Prop := zk n a0 0 ∧ ∃ c2, zr σ a0 0 = some c2 ∧ zk n c2 1 ∧ ∃ c5, zr σ a0 0 = some c5 ∧ zk n c5 1 ∧ Q (zi σ c2 1) (zI σ c5 1 (0 : Int32))
set_option maxHeartbeats 1000000 in
set_option maxRecDepth 10000 in
theorem w_C_wipe {Q : Int32 → zS → Prop} (hr : meth.sig.returnType = some .int) {a0 : Nat} {σ : zS} (h : P_C_wipe n a0 σ Q) : zG p l e (zrm 1 0 0) s m args below meth c (MQ below (zQc (zA base) D cA base n ex (zqi Q)) args s 0 0 (zA base)) s.heap (zA base) base D cA 2 ex prog_1_method_3_code "ConstantFlow" n 0 0 0 [some (.ref a0), none] [] σ := by
  unfold P_C_wipe at h
  refine zw_aload_n d_C_wipe_0 rfl rfl ?_
  obtain ⟨q1, h⟩ := h
  obtain ⟨c2, q3, h⟩ := h
  refine zw_gfr (ci := 0) (j := 0) d_C_wipe_1 mw_2_50 q1.1 q1.2 (by decide) (by decide) rfl q3 ?_
  obtain ⟨q4, h⟩ := h
  refine zw_gfiN (ci := 1) (j := 1) d_C_wipe_4 mw_1_32 q4.1 q4.2 (by decide) (by decide) rfl ?_
  refine zw_istore_n d_C_wipe_7 rfl (Nat.le_of_ble_eq_true rfl) rfl rfl ?_
  refine zw_aload_n d_C_wipe_8 rfl rfl ?_
  obtain ⟨c5, q6, h⟩ := h
  refine zw_gfr (ci := 0) (j := 0) d_C_wipe_9 mw_2_50 q1.1 q1.2 (by decide) (by decide) rfl q6 ?_
  refine zw_iconst (v := 0) d_C_wipe_12 rfl ?_
  obtain ⟨q7, h⟩ := h
  refine zw_pfiN (ci := 1) (j := 1) d_C_wipe_13 mw_1_32 q7.1 q7.2 (by decide) (by decide) rfl rfl rfl rfl ?_
  refine zw_iload_n d_C_wipe_16 rfl rfl ?_
  exact zw_iret d_C_wipe_17 hr h
theorem c_C_wipe {l : Launch} {D : va_G} {cA : Nat → ClassId} {base n : Nat} {ex : Bool} {Q : Int32 → zS → Prop} {a0 : Nat} {σ : zS} (h : P_C_wipe n a0 σ Q) : zM l y_C_wipe prog_1_method_3_code 2 (some .int) 1 0 0 (zA base) D cA base n n ex [.ref a0] σ (zqi Q) :=
  zMet (by decide) rfl (Nat.le_of_ble_eq_true rfl) (fun p e s m args below meth c hr hnm => w_C_wipe hr h)
def P_C_fault (n : Nat) (a0 : Nat) (σ : zS) (Q : Int32 → zS → Prop) : Prop := zk n a0 0 ∧ ∃ c2, zr σ a0 2 = some c2 ∧ zk n c2 2 ∧ Q (zi σ c2 5) σ
set_option maxHeartbeats 1000000 in
set_option maxRecDepth 10000 in
theorem w_C_fault {Q : Int32 → zS → Prop} (hr : meth.sig.returnType = some .int) {a0 : Nat} {σ : zS} (h : P_C_fault n a0 σ Q) : zG p l e (zrm 1 0 0) s m args below meth c (MQ below (zQc (zA base) D cA base n ex (zqi Q)) args s 0 0 (zA base)) s.heap (zA base) base D cA 1 ex prog_1_method_5_code "ConstantFlow" n 0 0 0 [some (.ref a0)] [] σ := by
  unfold P_C_fault at h
  refine zw_aload_n d_C_fault_0 rfl rfl ?_
  obtain ⟨q1, h⟩ := h
  obtain ⟨c2, q3, h⟩ := h
  refine zw_gfr (ci := 0) (j := 2) d_C_fault_1 mw_2_52 q1.1 q1.2 (by decide) (by decide) rfl q3 ?_
  obtain ⟨q4, h⟩ := h
  refine zw_gfiN (ci := 2) (j := 5) d_C_fault_4 mw_1_53 q4.1 q4.2 (by decide) (by decide) rfl ?_
  exact zw_iret d_C_fault_7 hr h
theorem c_C_fault {l : Launch} {D : va_G} {cA : Nat → ClassId} {base n : Nat} {ex : Bool} {Q : Int32 → zS → Prop} {a0 : Nat} {σ : zS} (h : P_C_fault n a0 σ Q) : zM l y_C_fault prog_1_method_5_code 1 (some .int) 1 0 0 (zA base) D cA base n n ex [.ref a0] σ (zqi Q) :=
  zMet (by decide) rfl (Nat.le_of_ble_eq_true rfl) (fun p e s m args below meth c hr hnm => w_C_fault hr h)
def P_C_place (n : Nat) (a0 : Nat) (σ : zS) (Q : Int32 → zS → Prop) : Prop := zk n a0 0 ∧ ∃ c2, zr σ a0 2 = some c2 ∧ zk n c2 2 ∧ Q (zi σ c2 6) σ
set_option maxHeartbeats 1000000 in
set_option maxRecDepth 10000 in
theorem w_C_place {Q : Int32 → zS → Prop} (hr : meth.sig.returnType = some .int) {a0 : Nat} {σ : zS} (h : P_C_place n a0 σ Q) : zG p l e (zrm 1 0 0) s m args below meth c (MQ below (zQc (zA base) D cA base n ex (zqi Q)) args s 0 0 (zA base)) s.heap (zA base) base D cA 1 ex prog_1_method_6_code "ConstantFlow" n 0 0 0 [some (.ref a0)] [] σ := by
  unfold P_C_place at h
  refine zw_aload_n d_C_place_0 rfl rfl ?_
  obtain ⟨q1, h⟩ := h
  obtain ⟨c2, q3, h⟩ := h
  refine zw_gfr (ci := 0) (j := 2) d_C_place_1 mw_2_52 q1.1 q1.2 (by decide) (by decide) rfl q3 ?_
  obtain ⟨q4, h⟩ := h
  refine zw_gfiN (ci := 2) (j := 6) d_C_place_4 mw_1_55 q4.1 q4.2 (by decide) (by decide) rfl ?_
  exact zw_iret d_C_place_7 hr h
theorem c_C_place {l : Launch} {D : va_G} {cA : Nat → ClassId} {base n : Nat} {ex : Bool} {Q : Int32 → zS → Prop} {a0 : Nat} {σ : zS} (h : P_C_place n a0 σ Q) : zM l y_C_place prog_1_method_6_code 1 (some .int) 1 0 0 (zA base) D cA base n n ex [.ref a0] σ (zqi Q) :=
  zMet (by decide) rfl (Nat.le_of_ble_eq_true rfl) (fun p e s m args below meth c hr hnm => w_C_place hr h)
def P_F_view_19 (n : Nat) (Q : Nat → zS → Prop) (b0 : Nat) (σ : zS) : Prop := Q b0 σ
set_option maxHeartbeats 1000000 in
set_option maxRecDepth 10000 in
theorem w_F_view_19 {Q : Nat → zS → Prop} (hr : meth.sig.returnType = some (.object "ConstantFlow$View")) {b0 : Nat} {σ : zS} (h : P_F_view_19 n Q b0 σ) : zG p l e (zrm 1 0 0) s m args below meth c (MQ below (zQc (zA base) D cA base n ex (zqr Q)) args s 0 0 (zA base)) s.heap (zA base) base D cA 3 ex prog_2_method_2_code "ConstantFlow$Facts" n 0 0 19 [none, none, none] [.ref b0] σ := by
  unfold P_F_view_19 at h
  exact zw_aret d_F_view_19 hr h
def P_F_view (n : Nat) (a0 : Nat) (a1 : Int32) (a2 : Int32) (σ : zS) (Q : Nat → zS → Prop) : Prop := ((a2 = 0 → zk n a0 3 ∧ ∃ c2, zr σ a0 2 = some c2 ∧ za n c2 13 a1 ∧ ∃ c5, zr σ c2 a1.toNatClampNeg = some c5 ∧ P_F_view_19 n Q c5 σ) ∧ (¬ (a2 = 0) → zk n a0 3 ∧ ∃ c8, zr σ a0 3 = some c8 ∧ za n c8 13 a1 ∧ ∃ c11, zr σ c8 a1.toNatClampNeg = some c11 ∧ P_F_view_19 n Q c11 σ))
set_option maxHeartbeats 1000000 in
set_option maxRecDepth 10000 in
theorem w_F_view {Q : Nat → zS → Prop} (hr : meth.sig.returnType = some (.object "ConstantFlow$View")) {a0 : Nat} {a1 : Int32} {a2 : Int32} {σ : zS} (h : P_F_view n a0 a1 a2 σ Q) : zG p l e (zrm 1 0 0) s m args below meth c (MQ below (zQc (zA base) D cA base n ex (zqr Q)) args s 0 0 (zA base)) s.heap (zA base) base D cA 3 ex prog_2_method_2_code "ConstantFlow$Facts" n 0 0 0 [some (.ref a0), some (.int a1), some (.int a2)] [] σ := by
  unfold P_F_view at h
  refine zw_iload_n d_F_view_0 rfl rfl ?_
  obtain ⟨ht, hf⟩ := h
  refine zw_if_eq (tgt := 13) d_F_view_1 rfl (fun hc => ?_) (fun hc => ?_)
  · have h := ht hc; clear ht hf
    refine zw_aload_n d_F_view_13 rfl rfl ?_
    obtain ⟨q1, h⟩ := h
    obtain ⟨c2, q3, h⟩ := h
    refine zw_gfr (ci := 3) (j := 2) d_F_view_14 mw_1_98 q1.1 q1.2 (by decide) (by decide) rfl q3 ?_
    refine zw_iload_n d_F_view_17 rfl rfl ?_
    obtain ⟨q4, h⟩ := h
    obtain ⟨c5, q6, h⟩ := h
    refine zw_aald d_F_view_18 q4.1 (zkd_eta q4.2.1) q4.2.2 q6 ?_
    refine zw_le (ls' := [none, none, none]) (True.intro) ?_
    exact w_F_view_19 hr h
  · have h := hf hc; clear ht hf
    refine zw_aload_n d_F_view_4 rfl rfl ?_
    obtain ⟨q7, h⟩ := h
    obtain ⟨c8, q9, h⟩ := h
    refine zw_gfr (ci := 3) (j := 3) d_F_view_5 mw_1_99 q7.1 q7.2 (by decide) (by decide) rfl q9 ?_
    refine zw_iload_n d_F_view_8 rfl rfl ?_
    obtain ⟨q10, h⟩ := h
    obtain ⟨c11, q12, h⟩ := h
    refine zw_aald d_F_view_9 q10.1 (zkd_eta q10.2.1) q10.2.2 q12 ?_
    refine zw_goto (tgt := 19) d_F_view_10 rfl ?_
    refine zw_le (ls' := [none, none, none]) (True.intro) ?_
    exact w_F_view_19 hr h
theorem c_F_view {l : Launch} {D : va_G} {cA : Nat → ClassId} {base n : Nat} {ex : Bool} {Q : Nat → zS → Prop} {a0 : Nat} {a1 : Int32} {a2 : Int32} {σ : zS} (h : P_F_view n a0 a1 a2 σ Q) : zM l y_F_view prog_2_method_2_code 3 (some (.object "ConstantFlow$View")) 1 0 0 (zA base) D cA base n n ex [.ref a0, .int a1, .int a2] σ (zqr Q) :=
  zMet (by decide) rfl (Nat.le_of_ble_eq_true rfl) (fun p e s m args below meth c hr hnm => w_F_view hr h)
def P_X_nextInput_24 (n : Nat) (Q : Int32 → zS → Prop) (a0 : Nat) (b0 : Int32) (σ : zS) : Prop := zk n a0 5 ∧ Q b0 (zI σ a0 3 ((zi σ a0 3) + (1 : Int32)))
set_option maxHeartbeats 1000000 in
set_option maxRecDepth 10000 in
theorem w_X_nextInput_24 {Q : Int32 → zS → Prop} (hr : meth.sig.returnType = some .int) {a0 : Nat} {b0 : Int32} {σ : zS} (h : P_X_nextInput_24 n Q a0 b0 σ) : zG p l e (zrm 1 0 0) s m args below meth c (MQ below (zQc (zA base) D cA base n ex (zqi Q)) args s 0 0 (zA base)) s.heap (zA base) base D cA 2 ex prog_3_method_4_code "ConstantFlow$Machine" n 0 0 24 [some (.ref a0), none] [.int b0] σ := by
  unfold P_X_nextInput_24 at h
  refine zw_istore_n d_X_nextInput_24 rfl (Nat.le_of_ble_eq_true rfl) rfl rfl ?_
  refine zw_aload_n d_X_nextInput_25 rfl rfl ?_
  refine zw_dup d_X_nextInput_26 rfl ?_
  obtain ⟨q1, h⟩ := h
  refine zw_gfi (ci := 5) (j := 3) d_X_nextInput_27 mw_1_134 q1.1 q1.2 (by decide) (by decide) rfl ?_
  refine zw_iconst (v := 1) d_X_nextInput_30 rfl ?_
  refine zw_iadd d_X_nextInput_31 ?_
  refine zw_pfi (ci := 5) (j := 3) d_X_nextInput_32 mw_1_134 q1.1 q1.2 (by decide) (by decide) rfl rfl rfl rfl ?_
  refine zw_iload_n d_X_nextInput_35 rfl rfl ?_
  exact zw_iret d_X_nextInput_36 hr h
def P_X_nextInput (n : Nat) (a0 : Nat) (σ : zS) (Q : Int32 → zS → Prop) : Prop := zk n a0 5 ∧ (((zi σ a0 1) ≤ (zi σ a0 3) → P_X_nextInput_24 n Q a0 (0 : Int32) σ) ∧ (¬ ((zi σ a0 1) ≤ (zi σ a0 3)) → ∃ c2, zr σ a0 0 = some c2 ∧ za n c2 10 (zi σ a0 3) ∧ P_X_nextInput_24 n Q a0 (zi σ c2 (zi σ a0 3).toNatClampNeg) σ))
set_option maxHeartbeats 1000000 in
set_option maxRecDepth 10000 in
theorem w_X_nextInput {Q : Int32 → zS → Prop} (hr : meth.sig.returnType = some .int) {a0 : Nat} {σ : zS} (h : P_X_nextInput n a0 σ Q) : zG p l e (zrm 1 0 0) s m args below meth c (MQ below (zQc (zA base) D cA base n ex (zqi Q)) args s 0 0 (zA base)) s.heap (zA base) base D cA 2 ex prog_3_method_4_code "ConstantFlow$Machine" n 0 0 0 [some (.ref a0), none] [] σ := by
  unfold P_X_nextInput at h
  refine zw_aload_n d_X_nextInput_0 rfl rfl ?_
  obtain ⟨q1, h⟩ := h
  refine zw_gfi (ci := 5) (j := 3) d_X_nextInput_1 mw_1_134 q1.1 q1.2 (by decide) (by decide) rfl ?_
  refine zw_aload_n d_X_nextInput_4 rfl rfl ?_
  refine zw_gfi (ci := 5) (j := 1) d_X_nextInput_5 mw_1_130 q1.1 q1.2 (by decide) (by decide) rfl ?_
  obtain ⟨ht, hf⟩ := h
  refine zw_icmp_ge (tgt := 23) d_X_nextInput_8 rfl (fun hc => ?_) (fun hc => ?_)
  · have h := ht hc; clear ht hf
    refine zw_iconst (v := 0) d_X_nextInput_23 rfl ?_
    exact w_X_nextInput_24 hr h
  · have h := hf hc; clear ht hf
    refine zw_aload_n d_X_nextInput_11 rfl rfl ?_
    obtain ⟨c2, q3, h⟩ := h
    refine zw_gfr (ci := 5) (j := 0) d_X_nextInput_12 mw_1_128 q1.1 q1.2 (by decide) (by decide) rfl q3 ?_
    refine zw_aload_n d_X_nextInput_15 rfl rfl ?_
    refine zw_gfi (ci := 5) (j := 3) d_X_nextInput_16 mw_1_134 q1.1 q1.2 (by decide) (by decide) rfl ?_
    obtain ⟨q4, h⟩ := h
    refine zw_iald d_X_nextInput_19 q4.1 (zkd_eta q4.2.1) q4.2.2 ?_
    refine zw_goto (tgt := 24) d_X_nextInput_20 rfl ?_
    exact w_X_nextInput_24 hr h
theorem c_X_nextInput {l : Launch} {D : va_G} {cA : Nat → ClassId} {base n : Nat} {ex : Bool} {Q : Int32 → zS → Prop} {a0 : Nat} {σ : zS} (h : P_X_nextInput n a0 σ Q) : zM l y_X_nextInput prog_3_method_4_code 2 (some .int) 1 0 0 (zA base) D cA base n n ex [.ref a0] σ (zqi Q) :=
  zMet (by decide) rfl (Nat.le_of_ble_eq_true rfl) (fun p e s m args below meth c hr hnm => w_X_nextInput hr h)
def P_X_operand_26 (n : Nat) (Q : Int32 → zS → Prop) (b0 : Int32) (σ : zS) : Prop := Q b0 σ
set_option maxHeartbeats 1000000 in
set_option maxRecDepth 10000 in
theorem w_X_operand_26 {Q : Int32 → zS → Prop} (hr : meth.sig.returnType = some .int) {b0 : Int32} {σ : zS} (h : P_X_operand_26 n Q b0 σ) : zG p l e (zrm 1 0 0) s m args below meth c (MQ below (zQc (zA base) D cA base n ex (zqi Q)) args s 0 0 (zA base)) s.heap (zA base) base D cA 4 ex prog_3_method_5_code "ConstantFlow$Machine" n 0 0 26 [none, none, none, none] [.int b0] σ := by
  unfold P_X_operand_26 at h
  exact zw_iret d_X_operand_26 hr h
def P_X_operand (n : Nat) (a0 : Nat) (a1 : Nat) (a2 : Int32) (σ : zS) (Q : Int32 → zS → Prop) : Prop := zk n a1 6 ∧ ∃ c2, zr σ a1 6 = some c2 ∧ za n c2 10 a2 ∧ ∃ c5, zr σ a1 5 = some c5 ∧ za n c5 11 a2 ∧ (((zi σ c5 a2.toNatClampNeg) = 0 → P_X_operand_26 n Q (zi σ c2 a2.toNatClampNeg) σ) ∧ (¬ ((zi σ c5 a2.toNatClampNeg) = 0) → zk n a0 5 ∧ ∃ c9, zr σ a0 2 = some c9 ∧ za n c9 10 (zi σ c2 a2.toNatClampNeg) ∧ P_X_operand_26 n Q (zi σ c9 (zi σ c2 a2.toNatClampNeg).toNatClampNeg) σ))
set_option maxHeartbeats 1000000 in
set_option maxRecDepth 10000 in
theorem w_X_operand {Q : Int32 → zS → Prop} (hr : meth.sig.returnType = some .int) {a0 : Nat} {a1 : Nat} {a2 : Int32} {σ : zS} (h : P_X_operand n a0 a1 a2 σ Q) : zG p l e (zrm 1 0 0) s m args below meth c (MQ below (zQc (zA base) D cA base n ex (zqi Q)) args s 0 0 (zA base)) s.heap (zA base) base D cA 4 ex prog_3_method_5_code "ConstantFlow$Machine" n 0 0 0 [some (.ref a0), some (.ref a1), some (.int a2), none] [] σ := by
  unfold P_X_operand at h
  refine zw_aload_n d_X_operand_0 rfl rfl ?_
  obtain ⟨q1, h⟩ := h
  obtain ⟨c2, q3, h⟩ := h
  refine zw_gfrN (ci := 6) (j := 6) d_X_operand_1 mw_1_176 q1.1 q1.2 (by decide) (by decide) rfl q3 ?_
  refine zw_iload_n d_X_operand_4 rfl rfl ?_
  obtain ⟨q4, h⟩ := h
  refine zw_iald d_X_operand_5 q4.1 (zkd_eta q4.2.1) q4.2.2 ?_
  refine zw_istore_n d_X_operand_6 rfl (Nat.le_of_ble_eq_true rfl) rfl rfl ?_
  refine zw_aload_n d_X_operand_7 rfl rfl ?_
  obtain ⟨c5, q6, h⟩ := h
  refine zw_gfrN (ci := 6) (j := 5) d_X_operand_8 mw_1_173 q1.1 q1.2 (by decide) (by decide) rfl q6 ?_
  refine zw_iload_n d_X_operand_11 rfl rfl ?_
  obtain ⟨q7, h⟩ := h
  refine zw_zald d_X_operand_12 q7.1 (zkd_eta q7.2.1) q7.2.2 ?_
  obtain ⟨ht, hf⟩ := h
  refine zw_if_eq (tgt := 25) d_X_operand_13 rfl (fun hc => ?_) (fun hc => ?_)
  · have h := ht hc; clear ht hf
    refine zw_iload_n d_X_operand_25 rfl rfl ?_
    refine zw_le (ls' := [none, none, none, none]) (True.intro) ?_
    exact w_X_operand_26 hr h
  · have h := hf hc; clear ht hf
    refine zw_aload_n d_X_operand_16 rfl rfl ?_
    obtain ⟨q8, h⟩ := h
    obtain ⟨c9, q10, h⟩ := h
    refine zw_gfr (ci := 5) (j := 2) d_X_operand_17 mw_1_132 q8.1 q8.2 (by decide) (by decide) rfl q10 ?_
    refine zw_iload_n d_X_operand_20 rfl rfl ?_
    obtain ⟨q11, h⟩ := h
    refine zw_iald d_X_operand_21 q11.1 (zkd_eta q11.2.1) q11.2.2 ?_
    refine zw_goto (tgt := 26) d_X_operand_22 rfl ?_
    refine zw_le (ls' := [none, none, none, none]) (True.intro) ?_
    exact w_X_operand_26 hr h
theorem c_X_operand {l : Launch} {D : va_G} {cA : Nat → ClassId} {base n : Nat} {ex : Bool} {Q : Int32 → zS → Prop} {a0 : Nat} {a1 : Nat} {a2 : Int32} {σ : zS} (h : P_X_operand n a0 a1 a2 σ Q) : zM l y_X_operand prog_3_method_5_code 4 (some .int) 1 0 0 (zA base) D cA base n n ex [.ref a0, .ref a1, .int a2] σ (zqi Q) :=
  zMet (by decide) rfl (Nat.le_of_ble_eq_true rfl) (fun p e s m args below meth c hr hnm => w_X_operand hr h)
def P_G_left (n : Nat) (a0 : Int32) (σ : zS) (Q : Int32 → zS → Prop) : Prop := Q ((2 : Int32) * a0) σ
set_option maxHeartbeats 1000000 in
set_option maxRecDepth 10000 in
theorem w_G_left {Q : Int32 → zS → Prop} (hr : meth.sig.returnType = some .int) {a0 : Int32} {σ : zS} (h : P_G_left n a0 σ Q) : zG p l e (zrm 1 0 0) s m args below meth c (MQ below (zQc (zA base) D cA base n ex (zqi Q)) args s 0 0 (zA base)) s.heap (zA base) base D cA 1 ex prog_4_method_2_code "ConstantFlow$Program" n 0 0 0 [some (.int a0)] [] σ := by
  unfold P_G_left at h
  refine zw_iconst (v := 2) d_G_left_0 rfl ?_
  refine zw_iload_n d_G_left_1 rfl rfl ?_
  refine zw_imul d_G_left_2 ?_
  exact zw_iret d_G_left_3 hr h
theorem c_G_left {l : Launch} {D : va_G} {cA : Nat → ClassId} {base n : Nat} {ex : Bool} {Q : Int32 → zS → Prop} {a0 : Int32} {σ : zS} (h : P_G_left n a0 σ Q) : zM l y_G_left prog_4_method_2_code 1 (some .int) 1 0 0 (zA base) D cA base n n ex [.int a0] σ (zqi Q) :=
  zMet (by decide) rfl (Nat.le_of_ble_eq_true rfl) (fun p e s m args below meth c hr hnm => w_G_left hr h)
def P_G_right (n : Nat) (a0 : Int32) (σ : zS) (Q : Int32 → zS → Prop) : Prop := Q (((2 : Int32) * a0) + (1 : Int32)) σ
set_option maxHeartbeats 1000000 in
set_option maxRecDepth 10000 in
theorem w_G_right {Q : Int32 → zS → Prop} (hr : meth.sig.returnType = some .int) {a0 : Int32} {σ : zS} (h : P_G_right n a0 σ Q) : zG p l e (zrm 1 0 0) s m args below meth c (MQ below (zQc (zA base) D cA base n ex (zqi Q)) args s 0 0 (zA base)) s.heap (zA base) base D cA 1 ex prog_4_method_3_code "ConstantFlow$Program" n 0 0 0 [some (.int a0)] [] σ := by
  unfold P_G_right at h
  refine zw_iconst (v := 2) d_G_right_0 rfl ?_
  refine zw_iload_n d_G_right_1 rfl rfl ?_
  refine zw_imul d_G_right_2 ?_
  refine zw_iconst (v := 1) d_G_right_3 rfl ?_
  refine zw_iadd d_G_right_4 ?_
  exact zw_iret d_G_right_5 hr h
theorem c_G_right {l : Launch} {D : va_G} {cA : Nat → ClassId} {base n : Nat} {ex : Bool} {Q : Int32 → zS → Prop} {a0 : Int32} {σ : zS} (h : P_G_right n a0 σ Q) : zM l y_G_right prog_4_method_3_code 1 (some .int) 1 0 0 (zA base) D cA base n n ex [.int a0] σ (zqi Q) :=
  zMet (by decide) rfl (Nat.le_of_ble_eq_true rfl) (fun p e s m args below meth c hr hnm => w_G_right hr h)
def P_G_ofEnd (n : Nat) (a0 : Int32) (σ : zS) (Q : Int32 → zS → Prop) : Prop := Q ((160 : Int32) + a0) σ
set_option maxHeartbeats 1000000 in
set_option maxRecDepth 10000 in
theorem w_G_ofEnd {Q : Int32 → zS → Prop} (hr : meth.sig.returnType = some .int) {a0 : Int32} {σ : zS} (h : P_G_ofEnd n a0 σ Q) : zG p l e (zrm 1 0 0) s m args below meth c (MQ below (zQc (zA base) D cA base n ex (zqi Q)) args s 0 0 (zA base)) s.heap (zA base) base D cA 1 ex prog_4_method_4_code "ConstantFlow$Program" n 0 0 0 [some (.int a0)] [] σ := by
  unfold P_G_ofEnd at h
  refine zw_sipush (v := 160) d_G_ofEnd_0 rfl ?_
  refine zw_iload_n d_G_ofEnd_3 rfl rfl ?_
  refine zw_iadd d_G_ofEnd_4 ?_
  exact zw_iret d_G_ofEnd_5 hr h
theorem c_G_ofEnd {l : Launch} {D : va_G} {cA : Nat → ClassId} {base n : Nat} {ex : Bool} {Q : Int32 → zS → Prop} {a0 : Int32} {σ : zS} (h : P_G_ofEnd n a0 σ Q) : zM l y_G_ofEnd prog_4_method_4_code 1 (some .int) 1 0 0 (zA base) D cA base n n ex [.int a0] σ (zqi Q) :=
  zMet (by decide) rfl (Nat.le_of_ble_eq_true rfl) (fun p e s m args below meth c hr hnm => w_G_ofEnd hr h)
def P_G_goalSlot (n : Nat) (a0 : Int32) (a1 : Int32) (σ : zS) (Q : Int32 → zS → Prop) : Prop := Q (((2 : Int32) * a0) + a1) σ
set_option maxHeartbeats 1000000 in
set_option maxRecDepth 10000 in
theorem w_G_goalSlot {Q : Int32 → zS → Prop} (hr : meth.sig.returnType = some .int) {a0 : Int32} {a1 : Int32} {σ : zS} (h : P_G_goalSlot n a0 a1 σ Q) : zG p l e (zrm 1 0 0) s m args below meth c (MQ below (zQc (zA base) D cA base n ex (zqi Q)) args s 0 0 (zA base)) s.heap (zA base) base D cA 2 ex prog_4_method_5_code "ConstantFlow$Program" n 0 0 0 [some (.int a0), some (.int a1)] [] σ := by
  unfold P_G_goalSlot at h
  refine zw_iconst (v := 2) d_G_goalSlot_0 rfl ?_
  refine zw_iload_n d_G_goalSlot_1 rfl rfl ?_
  refine zw_imul d_G_goalSlot_2 ?_
  refine zw_iload_n d_G_goalSlot_3 rfl rfl ?_
  refine zw_iadd d_G_goalSlot_4 ?_
  exact zw_iret d_G_goalSlot_5 hr h
theorem c_G_goalSlot {l : Launch} {D : va_G} {cA : Nat → ClassId} {base n : Nat} {ex : Bool} {Q : Int32 → zS → Prop} {a0 : Int32} {a1 : Int32} {σ : zS} (h : P_G_goalSlot n a0 a1 σ Q) : zM l y_G_goalSlot prog_4_method_5_code 2 (some .int) 1 0 0 (zA base) D cA base n n ex [.int a0, .int a1] σ (zqi Q) :=
  zMet (by decide) rfl (Nat.le_of_ble_eq_true rfl) (fun p e s m args below meth c hr hnm => w_G_goalSlot hr h)
def P_G_empty (n : Nat) (a0 : Nat) (σ : zS) (Q : zS → Prop) : Prop := zk n a0 6 ∧ Q (zI (zI σ a0 0 (0 : Int32)) a0 1 (0 : Int32))
set_option maxHeartbeats 1000000 in
set_option maxRecDepth 10000 in
theorem w_G_empty {Q : zS → Prop} (hr : meth.sig.returnType = none) {a0 : Nat} {σ : zS} (h : P_G_empty n a0 σ Q) : zG p l e (zrm 1 0 0) s m args below meth c (MQ below (zQc (zA base) D cA base n ex (zqv Q)) args s 0 0 (zA base)) s.heap (zA base) base D cA 1 ex prog_4_method_6_code "ConstantFlow$Program" n 0 0 0 [some (.ref a0)] [] σ := by
  unfold P_G_empty at h
  refine zw_aload_n d_G_empty_0 rfl rfl ?_
  refine zw_iconst (v := 0) d_G_empty_1 rfl ?_
  obtain ⟨q1, h⟩ := h
  refine zw_pfi (ci := 6) (j := 0) d_G_empty_2 mw_1_151 q1.1 q1.2 (by decide) (by decide) rfl rfl rfl rfl ?_
  refine zw_aload_n d_G_empty_5 rfl rfl ?_
  refine zw_iconst (v := 0) d_G_empty_6 rfl ?_
  refine zw_pfi (ci := 6) (j := 1) d_G_empty_7 mw_1_155 q1.1 q1.2 (by decide) (by decide) rfl rfl rfl rfl ?_
  exact zw_vret d_G_empty_10 hr h
theorem c_G_empty {l : Launch} {D : va_G} {cA : Nat → ClassId} {base n : Nat} {ex : Bool} {Q : zS → Prop} {a0 : Nat} {σ : zS} (h : P_G_empty n a0 σ Q) : zM l y_G_empty prog_4_method_6_code 1 (none) 1 0 0 (zA base) D cA base n n ex [.ref a0] σ (zqv Q) :=
  zMet (by decide) rfl (Nat.le_of_ble_eq_true rfl) (fun p e s m args below meth c hr hnm => w_G_empty hr h)
def P_G_setOperand (n : Nat) (a0 : Nat) (a1 : Int32) (a2 : Int32) (a3 : Int32) (σ : zS) (Q : zS → Prop) : Prop := zk n a0 6 ∧ ∃ c2, zr σ a0 5 = some c2 ∧ za n c2 11 a1 ∧ ∃ c5, zr (zI σ c2 a1.toNatClampNeg (vp_nar .boolean a2)) a0 6 = some c5 ∧ za n c5 10 a1 ∧ Q (zI (zI σ c2 a1.toNatClampNeg (vp_nar .boolean a2)) c5 a1.toNatClampNeg a3)
set_option maxHeartbeats 1000000 in
set_option maxRecDepth 10000 in
theorem w_G_setOperand {Q : zS → Prop} (hr : meth.sig.returnType = none) {a0 : Nat} {a1 : Int32} {a2 : Int32} {a3 : Int32} {σ : zS} (h : P_G_setOperand n a0 a1 a2 a3 σ Q) : zG p l e (zrm 1 0 0) s m args below meth c (MQ below (zQc (zA base) D cA base n ex (zqv Q)) args s 0 0 (zA base)) s.heap (zA base) base D cA 4 ex prog_4_method_7_code "ConstantFlow$Program" n 0 0 0 [some (.ref a0), some (.int a1), some (.int a2), some (.int a3)] [] σ := by
  unfold P_G_setOperand at h
  refine zw_aload_n d_G_setOperand_0 rfl rfl ?_
  obtain ⟨q1, h⟩ := h
  obtain ⟨c2, q3, h⟩ := h
  refine zw_gfr (ci := 6) (j := 5) d_G_setOperand_1 mw_1_171 q1.1 q1.2 (by decide) (by decide) rfl q3 ?_
  refine zw_iload_n d_G_setOperand_4 rfl rfl ?_
  refine zw_iload_n d_G_setOperand_5 rfl rfl ?_
  obtain ⟨q4, h⟩ := h
  refine zw_zast d_G_setOperand_6 q4.1 (zkd_eta q4.2.1) q4.2.2 ?_
  refine zw_aload_n d_G_setOperand_7 rfl rfl ?_
  obtain ⟨c5, q6, h⟩ := h
  refine zw_gfr (ci := 6) (j := 6) d_G_setOperand_8 mw_1_174 q1.1 q1.2 (by decide) (by decide) rfl q6 ?_
  refine zw_iload_n d_G_setOperand_11 rfl rfl ?_
  refine zw_iload_n d_G_setOperand_12 rfl rfl ?_
  obtain ⟨q7, h⟩ := h
  refine zw_iast d_G_setOperand_13 q7.1 (zkd_eta q7.2.1) q7.2.2 ?_
  exact zw_vret d_G_setOperand_14 hr h
theorem c_G_setOperand {l : Launch} {D : va_G} {cA : Nat → ClassId} {base n : Nat} {ex : Bool} {Q : zS → Prop} {a0 : Nat} {a1 : Int32} {a2 : Int32} {a3 : Int32} {σ : zS} (h : P_G_setOperand n a0 a1 a2 a3 σ Q) : zM l y_G_setOperand prog_4_method_7_code 4 (none) 1 0 0 (zA base) D cA base n n ex [.ref a0, .int a1, .int a2, .int a3] σ (zqv Q) :=
  zMet (by decide) rfl (Nat.le_of_ble_eq_true rfl) (fun p e s m args below meth c hr hnm => w_G_setOperand hr h)
def P_G_closeBlock (n : Nat) (a0 : Nat) (a1 : Int32) (σ : zS) (Q : zS → Prop) : Prop := zk n a0 6 ∧ ∃ c2, zr σ a0 7 = some c2 ∧ za n c2 10 (zi σ a0 0) ∧ ∃ c5, zr (zI (zI σ c2 (zi σ a0 0).toNatClampNeg a1) a0 0 ((zi (zI σ c2 (zi σ a0 0).toNatClampNeg a1) a0 0) + (1 : Int32))) a0 2 = some c5 ∧ za n c5 10 (zi (zI (zI σ c2 (zi σ a0 0).toNatClampNeg a1) a0 0 ((zi (zI σ c2 (zi σ a0 0).toNatClampNeg a1) a0 0) + (1 : Int32))) a0 0) ∧ Q (zI (zI (zI σ c2 (zi σ a0 0).toNatClampNeg a1) a0 0 ((zi (zI σ c2 (zi σ a0 0).toNatClampNeg a1) a0 0) + (1 : Int32))) c5 (zi (zI (zI σ c2 (zi σ a0 0).toNatClampNeg a1) a0 0 ((zi (zI σ c2 (zi σ a0 0).toNatClampNeg a1) a0 0) + (1 : Int32))) a0 0).toNatClampNeg (zi (zI (zI σ c2 (zi σ a0 0).toNatClampNeg a1) a0 0 ((zi (zI σ c2 (zi σ a0 0).toNatClampNeg a1) a0 0) + (1 : Int32))) a0 1))
set_option maxHeartbeats 1000000 in
set_option maxRecDepth 10000 in
theorem w_G_closeBlock {Q : zS → Prop} (hr : meth.sig.returnType = none) {a0 : Nat} {a1 : Int32} {σ : zS} (h : P_G_closeBlock n a0 a1 σ Q) : zG p l e (zrm 1 0 0) s m args below meth c (MQ below (zQc (zA base) D cA base n ex (zqv Q)) args s 0 0 (zA base)) s.heap (zA base) base D cA 2 ex prog_4_method_8_code "ConstantFlow$Program" n 0 0 0 [some (.ref a0), some (.int a1)] [] σ := by
  unfold P_G_closeBlock at h
  refine zw_aload_n d_G_closeBlock_0 rfl rfl ?_
  obtain ⟨q1, h⟩ := h
  obtain ⟨c2, q3, h⟩ := h
  refine zw_gfr (ci := 6) (j := 7) d_G_closeBlock_1 mw_1_178 q1.1 q1.2 (by decide) (by decide) rfl q3 ?_
  refine zw_aload_n d_G_closeBlock_4 rfl rfl ?_
  refine zw_gfi (ci := 6) (j := 0) d_G_closeBlock_5 mw_1_151 q1.1 q1.2 (by decide) (by decide) rfl ?_
  refine zw_iload_n d_G_closeBlock_8 rfl rfl ?_
  obtain ⟨q4, h⟩ := h
  refine zw_iast d_G_closeBlock_9 q4.1 (zkd_eta q4.2.1) q4.2.2 ?_
  refine zw_aload_n d_G_closeBlock_10 rfl rfl ?_
  refine zw_dup d_G_closeBlock_11 rfl ?_
  refine zw_gfi (ci := 6) (j := 0) d_G_closeBlock_12 mw_1_151 q1.1 q1.2 (by decide) (by decide) rfl ?_
  refine zw_iconst (v := 1) d_G_closeBlock_15 rfl ?_
  refine zw_iadd d_G_closeBlock_16 ?_
  refine zw_pfi (ci := 6) (j := 0) d_G_closeBlock_17 mw_1_151 q1.1 q1.2 (by decide) (by decide) rfl rfl rfl rfl ?_
  refine zw_aload_n d_G_closeBlock_20 rfl rfl ?_
  obtain ⟨c5, q6, h⟩ := h
  refine zw_gfr (ci := 6) (j := 2) d_G_closeBlock_21 mw_1_158 q1.1 q1.2 (by decide) (by decide) rfl q6 ?_
  refine zw_aload_n d_G_closeBlock_24 rfl rfl ?_
  refine zw_gfi (ci := 6) (j := 0) d_G_closeBlock_25 mw_1_151 q1.1 q1.2 (by decide) (by decide) rfl ?_
  refine zw_aload_n d_G_closeBlock_28 rfl rfl ?_
  refine zw_gfi (ci := 6) (j := 1) d_G_closeBlock_29 mw_1_155 q1.1 q1.2 (by decide) (by decide) rfl ?_
  obtain ⟨q7, h⟩ := h
  refine zw_iast d_G_closeBlock_32 q7.1 (zkd_eta q7.2.1) q7.2.2 ?_
  exact zw_vret d_G_closeBlock_33 hr h
theorem c_G_closeBlock {l : Launch} {D : va_G} {cA : Nat → ClassId} {base n : Nat} {ex : Bool} {Q : zS → Prop} {a0 : Nat} {a1 : Int32} {σ : zS} (h : P_G_closeBlock n a0 a1 σ Q) : zM l y_G_closeBlock prog_4_method_8_code 2 (none) 1 0 0 (zA base) D cA base n n ex [.ref a0, .int a1] σ (zqv Q) :=
  zMet (by decide) rfl (Nat.le_of_ble_eq_true rfl) (fun p e s m args below meth c hr hnm => w_G_closeBlock hr h)
def P_R_refuse (n : Nat) (a0 : Nat) (a1 : Int32) (a2 : Int32) (σ : zS) (Q : Int32 → zS → Prop) : Prop := zk n a0 2 ∧ ((0 : Int32) = 0 ∨ (0 : Int32) = 1) ∧ Q (0 : Int32) (zI (zI σ a0 5 a1) a0 6 a2)
set_option maxHeartbeats 1000000 in
set_option maxRecDepth 10000 in
theorem w_R_refuse {Q : Int32 → zS → Prop} (hr : meth.sig.returnType = some .boolean) {a0 : Nat} {a1 : Int32} {a2 : Int32} {σ : zS} (h : P_R_refuse n a0 a1 a2 σ Q) : zG p l e (zrm 1 0 0) s m args below meth c (MQ below (zQc (zA base) D cA base n ex (zqi Q)) args s 0 0 (zA base)) s.heap (zA base) base D cA 3 ex prog_5_method_3_code "ConstantFlow$Reader" n 0 0 0 [some (.ref a0), some (.int a1), some (.int a2)] [] σ := by
  unfold P_R_refuse at h
  refine zw_aload_n d_R_refuse_0 rfl rfl ?_
  refine zw_iload_n d_R_refuse_1 rfl rfl ?_
  obtain ⟨q1, h⟩ := h
  refine zw_pfi (ci := 2) (j := 5) d_R_refuse_2 mw_1_52 q1.1 q1.2 (by decide) (by decide) rfl rfl rfl rfl ?_
  refine zw_aload_n d_R_refuse_5 rfl rfl ?_
  refine zw_iload_n d_R_refuse_6 rfl rfl ?_
  refine zw_pfi (ci := 2) (j := 6) d_R_refuse_7 mw_1_54 q1.1 q1.2 (by decide) (by decide) rfl rfl rfl rfl ?_
  refine zw_iconst (v := 0) d_R_refuse_10 rfl ?_
  obtain ⟨q2, h⟩ := h
  exact zw_zret d_R_refuse_11 hr q2 h
theorem c_R_refuse {l : Launch} {D : va_G} {cA : Nat → ClassId} {base n : Nat} {ex : Bool} {Q : Int32 → zS → Prop} {a0 : Nat} {a1 : Int32} {a2 : Int32} {σ : zS} (h : P_R_refuse n a0 a1 a2 σ Q) : zM l y_R_refuse prog_5_method_3_code 3 (some .boolean) 1 0 0 (zA base) D cA base n n ex [.ref a0, .int a1, .int a2] σ (zqi Q) :=
  zMet (by decide) rfl (Nat.le_of_ble_eq_true rfl) (fun p e s m args below meth c hr hnm => w_R_refuse hr h)
def P_T_byteAt_31 (n : Nat) (Q : Int32 → zS → Prop) (b0 : Int32) (σ : zS) : Prop := Q b0 σ
set_option maxHeartbeats 1000000 in
set_option maxRecDepth 10000 in
theorem w_T_byteAt_31 {Q : Int32 → zS → Prop} (hr : meth.sig.returnType = some .int) {b0 : Int32} {σ : zS} (h : P_T_byteAt_31 n Q b0 σ) : zG p l e (zrm 1 0 0) s m args below meth c (MQ below (zQc (zA base) D cA base n ex (zqi Q)) args s 0 0 (zA base)) s.heap (zA base) base D cA 3 ex prog_6_method_2_code "ConstantFlow$Text" n 0 0 31 [none, none, none] [.int b0] σ := by
  unfold P_T_byteAt_31 at h
  exact zw_iret d_T_byteAt_31 hr h
def P_T_byteAt_30 (n : Nat) (Q : Int32 → zS → Prop) (σ : zS) : Prop := P_T_byteAt_31 n Q (-1 : Int32) σ
set_option maxHeartbeats 1000000 in
set_option maxRecDepth 10000 in
theorem w_T_byteAt_30 {Q : Int32 → zS → Prop} (hr : meth.sig.returnType = some .int) {σ : zS} (h : P_T_byteAt_30 n Q σ) : zG p l e (zrm 1 0 0) s m args below meth c (MQ below (zQc (zA base) D cA base n ex (zqi Q)) args s 0 0 (zA base)) s.heap (zA base) base D cA 3 ex prog_6_method_2_code "ConstantFlow$Text" n 0 0 30 [none, none, none] [] σ := by
  unfold P_T_byteAt_30 at h
  refine zw_iconst (v := -1) d_T_byteAt_30 rfl ?_
  exact w_T_byteAt_31 hr h
def P_T_byteAt (n : Nat) (a0 : Nat) (a1 : Int64) (σ : zS) (Q : Int32 → zS → Prop) : Prop := (((lg_cmp a1 (0 : Int64)) < 0 → P_T_byteAt_30 n Q σ) ∧ (¬ ((lg_cmp a1 (0 : Int64)) < 0) → zk n a0 1 ∧ ((0 ≤ (lg_cmp a1 (Int32.toInt64 (zi σ a0 1))) → P_T_byteAt_30 n Q σ) ∧ (¬ (0 ≤ (lg_cmp a1 (Int32.toInt64 (zi σ a0 1)))) → ∃ c2, zr σ a0 0 = some c2 ∧ za n c2 12 (Int64.toInt32 a1) ∧ P_T_byteAt_31 n Q ((zi σ c2 (Int64.toInt32 a1).toNatClampNeg) &&& (255 : Int32)) σ))))
set_option maxHeartbeats 1000000 in
set_option maxRecDepth 10000 in
theorem w_T_byteAt {Q : Int32 → zS → Prop} (hr : meth.sig.returnType = some .int) {a0 : Nat} {a1 : Int64} {σ : zS} (h : P_T_byteAt n a0 a1 σ Q) : zG p l e (zrm 1 0 0) s m args below meth c (MQ below (zQc (zA base) D cA base n ex (zqi Q)) args s 0 0 (zA base)) s.heap (zA base) base D cA 3 ex prog_6_method_2_code "ConstantFlow$Text" n 0 0 0 [some (.ref a0), some (.long a1), none] [] σ := by
  unfold P_T_byteAt at h
  refine zw_lload_n d_T_byteAt_0 rfl rfl ?_
  refine zw_lconst (v := 0) d_T_byteAt_1 rfl ?_
  refine zw_lcmp d_T_byteAt_2 ?_
  obtain ⟨ht, hf⟩ := h
  refine zw_if_lt (tgt := 30) d_T_byteAt_3 rfl (fun hc => ?_) (fun hc => ?_)
  · have h := ht hc; clear ht hf
    refine zw_le (ls' := [none, none, none]) (True.intro) ?_
    exact w_T_byteAt_30 hr h
  · have h := hf hc; clear ht hf
    refine zw_lload_n d_T_byteAt_6 rfl rfl ?_
    refine zw_aload_n d_T_byteAt_7 rfl rfl ?_
    obtain ⟨q1, h⟩ := h
    refine zw_gfi (ci := 1) (j := 1) d_T_byteAt_8 mw_1_31 q1.1 q1.2 (by decide) (by decide) rfl ?_
    refine zw_i2l d_T_byteAt_11 ?_
    refine zw_lcmp d_T_byteAt_12 ?_
    obtain ⟨ht, hf⟩ := h
    refine zw_if_ge (tgt := 30) d_T_byteAt_13 rfl (fun hc => ?_) (fun hc => ?_)
    · have h := ht hc; clear ht hf
      refine zw_le (ls' := [none, none, none]) (True.intro) ?_
      exact w_T_byteAt_30 hr h
    · have h := hf hc; clear ht hf
      refine zw_aload_n d_T_byteAt_16 rfl rfl ?_
      obtain ⟨c2, q3, h⟩ := h
      refine zw_gfr (ci := 1) (j := 0) d_T_byteAt_17 mw_1_30 q1.1 q1.2 (by decide) (by decide) rfl q3 ?_
      refine zw_lload_n d_T_byteAt_20 rfl rfl ?_
      refine zw_l2i d_T_byteAt_21 ?_
      obtain ⟨q4, h⟩ := h
      refine zw_bald d_T_byteAt_22 q4.1 (zkd_eta q4.2.1) q4.2.2 ?_
      refine zw_sipush (v := 255) d_T_byteAt_23 rfl ?_
      refine zw_iand d_T_byteAt_26 ?_
      refine zw_goto (tgt := 31) d_T_byteAt_27 rfl ?_
      refine zw_le (ls' := [none, none, none]) (True.intro) ?_
      exact w_T_byteAt_31 hr h
theorem c_T_byteAt {l : Launch} {D : va_G} {cA : Nat → ClassId} {base n : Nat} {ex : Bool} {Q : Int32 → zS → Prop} {a0 : Nat} {a1 : Int64} {σ : zS} (h : P_T_byteAt n a0 a1 σ Q) : zM l y_T_byteAt prog_6_method_2_code 3 (some .int) 1 0 0 (zA base) D cA base n n ex [.ref a0, .long a1] σ (zqi Q) :=
  zMet (by decide) rfl (Nat.le_of_ble_eq_true rfl) (fun p e s m args below meth c hr hnm => w_T_byteAt hr h)
def P_T_append_33 (n : Nat) (Q : zS → Prop) (σ : zS) : Prop := Q σ
set_option maxHeartbeats 1000000 in
set_option maxRecDepth 10000 in
theorem w_T_append_33 {Q : zS → Prop} (hr : meth.sig.returnType = none) {σ : zS} (h : P_T_append_33 n Q σ) : zG p l e (zrm 1 0 0) s m args below meth c (MQ below (zQc (zA base) D cA base n ex (zqv Q)) args s 0 0 (zA base)) s.heap (zA base) base D cA 2 ex prog_6_method_3_code "ConstantFlow$Text" n 0 0 33 [none, none] [] σ := by
  unfold P_T_append_33 at h
  exact zw_vret d_T_append_33 hr h
def P_T_append (n : Nat) (a0 : Nat) (a1 : Int32) (σ : zS) (Q : zS → Prop) : Prop := zk n a0 1 ∧ ∃ c2, zr σ a0 0 = some c2 ∧ (c2 < n ∧ (zkd c2).1 = 12) ∧ (((Int32.ofNat (zkd c2).2) ≤ (zi σ a0 1) → P_T_append_33 n Q σ) ∧ (¬ ((Int32.ofNat (zkd c2).2) ≤ (zi σ a0 1)) → ∃ c5, zr σ a0 0 = some c5 ∧ za n c5 12 (zi σ a0 1) ∧ P_T_append_33 n Q (zI (zI σ c5 (zi σ a0 1).toNatClampNeg (vp_nar .byte (Int8.toInt32 (Int32.toInt8 a1)))) a0 1 ((zi (zI σ c5 (zi σ a0 1).toNatClampNeg (vp_nar .byte (Int8.toInt32 (Int32.toInt8 a1)))) a0 1) + (1 : Int32)))))
set_option maxHeartbeats 1000000 in
set_option maxRecDepth 10000 in
theorem w_T_append {Q : zS → Prop} (hr : meth.sig.returnType = none) {a0 : Nat} {a1 : Int32} {σ : zS} (h : P_T_append n a0 a1 σ Q) : zG p l e (zrm 1 0 0) s m args below meth c (MQ below (zQc (zA base) D cA base n ex (zqv Q)) args s 0 0 (zA base)) s.heap (zA base) base D cA 2 ex prog_6_method_3_code "ConstantFlow$Text" n 0 0 0 [some (.ref a0), some (.int a1)] [] σ := by
  unfold P_T_append at h
  refine zw_aload_n d_T_append_0 rfl rfl ?_
  obtain ⟨q1, h⟩ := h
  refine zw_gfi (ci := 1) (j := 1) d_T_append_1 mw_1_31 q1.1 q1.2 (by decide) (by decide) rfl ?_
  refine zw_aload_n d_T_append_4 rfl rfl ?_
  obtain ⟨c2, q3, h⟩ := h
  refine zw_gfr (ci := 1) (j := 0) d_T_append_5 mw_1_30 q1.1 q1.2 (by decide) (by decide) rfl q3 ?_
  obtain ⟨q4, h⟩ := h
  refine zw_alen (t0 := 2) d_T_append_8 q4.1 (zkd_eta q4.2) (by decide) rfl rfl ?_
  obtain ⟨ht, hf⟩ := h
  refine zw_icmp_ge (tgt := 33) d_T_append_9 rfl (fun hc => ?_) (fun hc => ?_)
  · have h := ht hc; clear ht hf
    refine zw_le (ls' := [none, none]) (True.intro) ?_
    exact w_T_append_33 hr h
  · have h := hf hc; clear ht hf
    refine zw_aload_n d_T_append_12 rfl rfl ?_
    obtain ⟨c5, q6, h⟩ := h
    refine zw_gfr (ci := 1) (j := 0) d_T_append_13 mw_1_30 q1.1 q1.2 (by decide) (by decide) rfl q6 ?_
    refine zw_aload_n d_T_append_16 rfl rfl ?_
    refine zw_gfi (ci := 1) (j := 1) d_T_append_17 mw_1_31 q1.1 q1.2 (by decide) (by decide) rfl ?_
    refine zw_iload_n d_T_append_20 rfl rfl ?_
    refine zw_i2b d_T_append_21 ?_
    obtain ⟨q7, h⟩ := h
    refine zw_bast d_T_append_22 q7.1 (zkd_eta q7.2.1) q7.2.2 ?_
    refine zw_aload_n d_T_append_23 rfl rfl ?_
    refine zw_dup d_T_append_24 rfl ?_
    refine zw_gfi (ci := 1) (j := 1) d_T_append_25 mw_1_31 q1.1 q1.2 (by decide) (by decide) rfl ?_
    refine zw_iconst (v := 1) d_T_append_28 rfl ?_
    refine zw_iadd d_T_append_29 ?_
    refine zw_pfi (ci := 1) (j := 1) d_T_append_30 mw_1_31 q1.1 q1.2 (by decide) (by decide) rfl rfl rfl rfl ?_
    refine zw_le (ls' := [none, none]) (True.intro) ?_
    exact w_T_append_33 hr h
theorem c_T_append {l : Launch} {D : va_G} {cA : Nat → ClassId} {base n : Nat} {ex : Bool} {Q : zS → Prop} {a0 : Nat} {a1 : Int32} {σ : zS} (h : P_T_append n a0 a1 σ Q) : zM l y_T_append prog_6_method_3_code 2 (none) 1 0 0 (zA base) D cA base n n ex [.ref a0, .int a1] σ (zqv Q) :=
  zMet (by decide) rfl (Nat.le_of_ble_eq_true rfl) (fun p e s m args below meth c hr hnm => w_T_append hr h)
def P_V_become_2 (n : Nat) (Q : zS → Prop) : Nat → Nat → Nat → Int32 → zS → Prop
  | 0, _, _, _, _ => False
  | f + 1, a0, a1, a2, σ => (((8 : Int32) ≤ a2 → Q σ) ∧ (¬ ((8 : Int32) ≤ a2) → zk n a0 4 ∧ ∃ c2, zr σ a0 0 = some c2 ∧ zk n a1 4 ∧ ∃ c5, zr σ a1 0 = some c5 ∧ za n c5 11 a2 ∧ za n c2 11 a2 ∧ ∃ c9, zr (zI σ c2 a2.toNatClampNeg (vp_nar .boolean (zi σ c5 a2.toNatClampNeg))) a0 1 = some c9 ∧ ∃ c11, zr (zI σ c2 a2.toNatClampNeg (vp_nar .boolean (zi σ c5 a2.toNatClampNeg))) a1 1 = some c11 ∧ za n c11 10 a2 ∧ za n c9 10 a2 ∧ P_V_become_2 n Q f a0 a1 (a2 + (1 : Int32)) (zI (zI σ c2 a2.toNatClampNeg (vp_nar .boolean (zi σ c5 a2.toNatClampNeg))) c9 a2.toNatClampNeg (zi (zI σ c2 a2.toNatClampNeg (vp_nar .boolean (zi σ c5 a2.toNatClampNeg))) c11 a2.toNatClampNeg))))
set_option maxHeartbeats 1000000 in
set_option maxRecDepth 10000 in
theorem w_V_become_2 {Q : zS → Prop} (hr : meth.sig.returnType = none) : ∀ (f : Nat) (a0 : Nat) (a1 : Nat) (a2 : Int32) (σ : zS), P_V_become_2 n Q f a0 a1 a2 σ → zG p l e (zrm 1 0 0) s m args below meth c (MQ below (zQc (zA base) D cA base n ex (zqv Q)) args s 0 0 (zA base)) s.heap (zA base) base D cA 3 ex prog_7_method_2_code "ConstantFlow$View" n 0 0 2 [some (.ref a0), some (.ref a1), some (.int a2)] [] σ := by
  intro f
  induction f with
  | zero => intro a0 a1 a2 σ h; exact False.elim h
  | succ f ih =>
    intro a0 a1 a2 σ h
    refine zw_iload_n d_V_become_2 rfl rfl ?_
    refine zw_bipush (v := 8) d_V_become_3 rfl ?_
    obtain ⟨ht, hf⟩ := h
    refine zw_icmp_ge (tgt := 38) d_V_become_5 rfl (fun hc => ?_) (fun hc => ?_)
    · have h := ht hc; clear ht hf
      exact zw_vret d_V_become_38 hr h
    · have h := hf hc; clear ht hf
      refine zw_aload_n d_V_become_8 rfl rfl ?_
      obtain ⟨q1, h⟩ := h
      obtain ⟨c2, q3, h⟩ := h
      refine zw_gfr (ci := 4) (j := 0) d_V_become_9 mw_1_85 q1.1 q1.2 (by decide) (by decide) rfl q3 ?_
      refine zw_iload_n d_V_become_12 rfl rfl ?_
      refine zw_aload_n d_V_become_13 rfl rfl ?_
      obtain ⟨q4, h⟩ := h
      obtain ⟨c5, q6, h⟩ := h
      refine zw_gfr (ci := 4) (j := 0) d_V_become_14 mw_1_85 q4.1 q4.2 (by decide) (by decide) rfl q6 ?_
      refine zw_iload_n d_V_become_17 rfl rfl ?_
      obtain ⟨q7, h⟩ := h
      refine zw_zald d_V_become_18 q7.1 (zkd_eta q7.2.1) q7.2.2 ?_
      obtain ⟨q8, h⟩ := h
      refine zw_zast d_V_become_19 q8.1 (zkd_eta q8.2.1) q8.2.2 ?_
      refine zw_aload_n d_V_become_20 rfl rfl ?_
      obtain ⟨c9, q10, h⟩ := h
      refine zw_gfr (ci := 4) (j := 1) d_V_become_21 mw_1_87 q1.1 q1.2 (by decide) (by decide) rfl q10 ?_
      refine zw_iload_n d_V_become_24 rfl rfl ?_
      refine zw_aload_n d_V_become_25 rfl rfl ?_
      obtain ⟨c11, q12, h⟩ := h
      refine zw_gfr (ci := 4) (j := 1) d_V_become_26 mw_1_87 q4.1 q4.2 (by decide) (by decide) rfl q12 ?_
      refine zw_iload_n d_V_become_29 rfl rfl ?_
      obtain ⟨q13, h⟩ := h
      refine zw_iald d_V_become_30 q13.1 (zkd_eta q13.2.1) q13.2.2 ?_
      obtain ⟨q14, h⟩ := h
      refine zw_iast d_V_become_31 q14.1 (zkd_eta q14.2.1) q14.2.2 ?_
      refine zw_iinc (v := (a2 + (1 : Int32))) d_V_become_32 rfl rfl (Nat.le_of_ble_eq_true rfl) rfl rfl ?_
      refine zw_goto (tgt := 2) d_V_become_35 rfl ?_
      exact ih _ _ _ _ h
def P_V_become (n : Nat) (a0 : Nat) (a1 : Nat) (σ : zS) (Q : zS → Prop) : Prop := ∃ g, P_V_become_2 n Q g a0 a1 (0 : Int32) σ
set_option maxHeartbeats 1000000 in
set_option maxRecDepth 10000 in
theorem w_V_become {Q : zS → Prop} (hr : meth.sig.returnType = none) {a0 : Nat} {a1 : Nat} {σ : zS} (h : P_V_become n a0 a1 σ Q) : zG p l e (zrm 1 0 0) s m args below meth c (MQ below (zQc (zA base) D cA base n ex (zqv Q)) args s 0 0 (zA base)) s.heap (zA base) base D cA 3 ex prog_7_method_2_code "ConstantFlow$View" n 0 0 0 [some (.ref a0), some (.ref a1), none] [] σ := by
  unfold P_V_become at h
  refine zw_iconst (v := 0) d_V_become_0 rfl ?_
  refine zw_istore_n d_V_become_1 rfl (Nat.le_of_ble_eq_true rfl) rfl rfl ?_
  obtain ⟨g, h⟩ := h
  exact w_V_become_2 hr g _ _ _ _ h
theorem c_V_become {l : Launch} {D : va_G} {cA : Nat → ClassId} {base n : Nat} {ex : Bool} {Q : zS → Prop} {a0 : Nat} {a1 : Nat} {σ : zS} (h : P_V_become n a0 a1 σ Q) : zM l y_V_become prog_7_method_2_code 3 (none) 1 0 0 (zA base) D cA base n n ex [.ref a0, .ref a1] σ (zqv Q) :=
  zMet (by decide) rfl (Nat.le_of_ble_eq_true rfl) (fun p e s m args below meth c hr hnm => w_V_become hr h)
def P_V_join_52 (n : Nat) (Q : Int32 → zS → Prop) (K4 : Nat → Nat → Int32 → Int32 → zS → Prop) (a0 : Nat) (a1 : Nat) (a2 : Int32) (a3 : Int32) (σ : zS) : Prop := K4 a0 a1 a2 (a3 + (1 : Int32)) σ
set_option maxHeartbeats 1000000 in
set_option maxRecDepth 10000 in
theorem w_V_join_52 {Q : Int32 → zS → Prop} {K4 : Nat → Nat → Int32 → Int32 → zS → Prop} (hr : meth.sig.returnType = some .boolean) (hK4 : ∀ (a0 : Nat) (a1 : Nat) (a2 : Int32) (a3 : Int32) (σ : zS), K4 a0 a1 a2 a3 σ → zG p l e (zrm 1 0 0) s m args below meth c (MQ below (zQc (zA base) D cA base n ex (zqi Q)) args s 0 0 (zA base)) s.heap (zA base) base D cA 4 ex prog_7_method_3_code "ConstantFlow$View" n 0 0 4 [some (.ref a0), some (.ref a1), some (.int a2), some (.int a3)] [] σ) {a0 : Nat} {a1 : Nat} {a2 : Int32} {a3 : Int32} {σ : zS} (h : P_V_join_52 n Q K4 a0 a1 a2 a3 σ) : zG p l e (zrm 1 0 0) s m args below meth c (MQ below (zQc (zA base) D cA base n ex (zqi Q)) args s 0 0 (zA base)) s.heap (zA base) base D cA 4 ex prog_7_method_3_code "ConstantFlow$View" n 0 0 52 [some (.ref a0), some (.ref a1), some (.int a2), some (.int a3)] [] σ := by
  unfold P_V_join_52 at h
  refine zw_iinc (v := (a3 + (1 : Int32))) d_V_join_52 rfl rfl (Nat.le_of_ble_eq_true rfl) rfl rfl ?_
  refine zw_goto (tgt := 4) d_V_join_55 rfl ?_
  exact hK4 _ _ _ _ _ h
def P_V_join_43 (n : Nat) (Q : Int32 → zS → Prop) (K4 : Nat → Nat → Int32 → Int32 → zS → Prop) (a0 : Nat) (a1 : Nat) (a3 : Int32) (σ : zS) : Prop := zk n a0 4 ∧ ∃ c2, zr σ a0 0 = some c2 ∧ za n c2 11 a3 ∧ P_V_join_52 n Q K4 a0 a1 (1 : Int32) a3 (zI σ c2 a3.toNatClampNeg (vp_nar .boolean (1 : Int32)))
set_option maxHeartbeats 1000000 in
set_option maxRecDepth 10000 in
theorem w_V_join_43 {Q : Int32 → zS → Prop} {K4 : Nat → Nat → Int32 → Int32 → zS → Prop} (hr : meth.sig.returnType = some .boolean) (hK4 : ∀ (a0 : Nat) (a1 : Nat) (a2 : Int32) (a3 : Int32) (σ : zS), K4 a0 a1 a2 a3 σ → zG p l e (zrm 1 0 0) s m args below meth c (MQ below (zQc (zA base) D cA base n ex (zqi Q)) args s 0 0 (zA base)) s.heap (zA base) base D cA 4 ex prog_7_method_3_code "ConstantFlow$View" n 0 0 4 [some (.ref a0), some (.ref a1), some (.int a2), some (.int a3)] [] σ) {a0 : Nat} {a1 : Nat} {a3 : Int32} {σ : zS} (h : P_V_join_43 n Q K4 a0 a1 a3 σ) : zG p l e (zrm 1 0 0) s m args below meth c (MQ below (zQc (zA base) D cA base n ex (zqi Q)) args s 0 0 (zA base)) s.heap (zA base) base D cA 4 ex prog_7_method_3_code "ConstantFlow$View" n 0 0 43 [some (.ref a0), some (.ref a1), none, some (.int a3)] [] σ := by
  unfold P_V_join_43 at h
  refine zw_aload_n d_V_join_43 rfl rfl ?_
  obtain ⟨q1, h⟩ := h
  obtain ⟨c2, q3, h⟩ := h
  refine zw_gfr (ci := 4) (j := 0) d_V_join_44 mw_1_85 q1.1 q1.2 (by decide) (by decide) rfl q3 ?_
  refine zw_iload_n d_V_join_47 rfl rfl ?_
  refine zw_iconst (v := 1) d_V_join_48 rfl ?_
  obtain ⟨q4, h⟩ := h
  refine zw_zast d_V_join_49 q4.1 (zkd_eta q4.2.1) q4.2.2 ?_
  refine zw_iconst (v := 1) d_V_join_50 rfl ?_
  refine zw_istore_n d_V_join_51 rfl (Nat.le_of_ble_eq_true rfl) rfl rfl ?_
  exact w_V_join_52 hr hK4 h
def P_V_join_4 (n : Nat) (Q : Int32 → zS → Prop) : Nat → Nat → Nat → Int32 → Int32 → zS → Prop
  | 0, _, _, _, _, _ => False
  | f + 1, a0, a1, a2, a3, σ => (((8 : Int32) ≤ a3 → (a2 = 0 ∨ a2 = 1) ∧ Q a2 σ) ∧ (¬ ((8 : Int32) ≤ a3) → zk n a0 4 ∧ ∃ c3, zr σ a0 0 = some c3 ∧ za n c3 11 a3 ∧ ((¬ (zi σ c3 a3.toNatClampNeg) = 0 → P_V_join_52 n Q (fun (a0 : Nat) (a1 : Nat) (a2 : Int32) (a3 : Int32) (σ : zS) => P_V_join_4 n Q f a0 a1 a2 a3 σ) a0 a1 a2 a3 σ) ∧ ((zi σ c3 a3.toNatClampNeg) = 0 → zk n a1 4 ∧ ∃ c7, zr σ a1 0 = some c7 ∧ za n c7 11 a3 ∧ ((¬ (zi σ c7 a3.toNatClampNeg) = 0 → P_V_join_43 n Q (fun (a0 : Nat) (a1 : Nat) (a2 : Int32) (a3 : Int32) (σ : zS) => P_V_join_4 n Q f a0 a1 a2 a3 σ) a0 a1 a3 σ) ∧ ((zi σ c7 a3.toNatClampNeg) = 0 → ∃ c10, zr σ a1 1 = some c10 ∧ za n c10 10 a3 ∧ ∃ c13, zr σ a0 1 = some c13 ∧ za n c13 10 a3 ∧ (((zi σ c10 a3.toNatClampNeg) = (zi σ c13 a3.toNatClampNeg) → P_V_join_52 n Q (fun (a0 : Nat) (a1 : Nat) (a2 : Int32) (a3 : Int32) (σ : zS) => P_V_join_4 n Q f a0 a1 a2 a3 σ) a0 a1 a2 a3 σ) ∧ (¬ ((zi σ c10 a3.toNatClampNeg) = (zi σ c13 a3.toNatClampNeg)) → P_V_join_43 n Q (fun (a0 : Nat) (a1 : Nat) (a2 : Int32) (a3 : Int32) (σ : zS) => P_V_join_4 n Q f a0 a1 a2 a3 σ) a0 a1 a3 σ))))))))
set_option maxHeartbeats 1000000 in
set_option maxRecDepth 10000 in
theorem w_V_join_4 {Q : Int32 → zS → Prop} (hr : meth.sig.returnType = some .boolean) : ∀ (f : Nat) (a0 : Nat) (a1 : Nat) (a2 : Int32) (a3 : Int32) (σ : zS), P_V_join_4 n Q f a0 a1 a2 a3 σ → zG p l e (zrm 1 0 0) s m args below meth c (MQ below (zQc (zA base) D cA base n ex (zqi Q)) args s 0 0 (zA base)) s.heap (zA base) base D cA 4 ex prog_7_method_3_code "ConstantFlow$View" n 0 0 4 [some (.ref a0), some (.ref a1), some (.int a2), some (.int a3)] [] σ := by
  intro f
  induction f with
  | zero => intro a0 a1 a2 a3 σ h; exact False.elim h
  | succ f ih =>
    intro a0 a1 a2 a3 σ h
    refine zw_iload_n d_V_join_4 rfl rfl ?_
    refine zw_bipush (v := 8) d_V_join_5 rfl ?_
    obtain ⟨ht, hf⟩ := h
    refine zw_icmp_ge (tgt := 58) d_V_join_7 rfl (fun hc => ?_) (fun hc => ?_)
    · have h := ht hc; clear ht hf
      refine zw_iload_n d_V_join_58 rfl rfl ?_
      obtain ⟨q1, h⟩ := h
      exact zw_zret d_V_join_59 hr q1 h
    · have h := hf hc; clear ht hf
      refine zw_aload_n d_V_join_10 rfl rfl ?_
      obtain ⟨q2, h⟩ := h
      obtain ⟨c3, q4, h⟩ := h
      refine zw_gfr (ci := 4) (j := 0) d_V_join_11 mw_1_85 q2.1 q2.2 (by decide) (by decide) rfl q4 ?_
      refine zw_iload_n d_V_join_14 rfl rfl ?_
      obtain ⟨q5, h⟩ := h
      refine zw_zald d_V_join_15 q5.1 (zkd_eta q5.2.1) q5.2.2 ?_
      obtain ⟨ht, hf⟩ := h
      refine zw_if_ne (tgt := 52) d_V_join_16 rfl (fun hc => ?_) (fun hc => ?_)
      · have h := ht hc; clear ht hf
        exact w_V_join_52 hr (fun a0 a1 a2 a3 σ hk => ih a0 a1 a2 a3 σ hk) h
      · have h := hf hc; clear ht hf
        refine zw_aload_n d_V_join_19 rfl rfl ?_
        obtain ⟨q6, h⟩ := h
        obtain ⟨c7, q8, h⟩ := h
        refine zw_gfr (ci := 4) (j := 0) d_V_join_20 mw_1_85 q6.1 q6.2 (by decide) (by decide) rfl q8 ?_
        refine zw_iload_n d_V_join_23 rfl rfl ?_
        obtain ⟨q9, h⟩ := h
        refine zw_zald d_V_join_24 q9.1 (zkd_eta q9.2.1) q9.2.2 ?_
        obtain ⟨ht, hf⟩ := h
        refine zw_if_ne (tgt := 43) d_V_join_25 rfl (fun hc => ?_) (fun hc => ?_)
        · have h := ht hc; clear ht hf
          refine zw_le (ls' := [some (.ref a0), some (.ref a1), none, some (.int a3)]) (And.intro rfl (And.intro rfl (And.intro rfl True.intro))) ?_
          exact w_V_join_43 hr (fun a0 a1 a2 a3 σ hk => ih a0 a1 a2 a3 σ hk) h
        · have h := hf hc; clear ht hf
          refine zw_aload_n d_V_join_28 rfl rfl ?_
          obtain ⟨c10, q11, h⟩ := h
          refine zw_gfr (ci := 4) (j := 1) d_V_join_29 mw_1_87 q6.1 q6.2 (by decide) (by decide) rfl q11 ?_
          refine zw_iload_n d_V_join_32 rfl rfl ?_
          obtain ⟨q12, h⟩ := h
          refine zw_iald d_V_join_33 q12.1 (zkd_eta q12.2.1) q12.2.2 ?_
          refine zw_aload_n d_V_join_34 rfl rfl ?_
          obtain ⟨c13, q14, h⟩ := h
          refine zw_gfr (ci := 4) (j := 1) d_V_join_35 mw_1_87 q2.1 q2.2 (by decide) (by decide) rfl q14 ?_
          refine zw_iload_n d_V_join_38 rfl rfl ?_
          obtain ⟨q15, h⟩ := h
          refine zw_iald d_V_join_39 q15.1 (zkd_eta q15.2.1) q15.2.2 ?_
          obtain ⟨ht, hf⟩ := h
          refine zw_icmp_eq (tgt := 52) d_V_join_40 rfl (fun hc => ?_) (fun hc => ?_)
          · have h := ht hc; clear ht hf
            exact w_V_join_52 hr (fun a0 a1 a2 a3 σ hk => ih a0 a1 a2 a3 σ hk) h
          · have h := hf hc; clear ht hf
            refine zw_le (ls' := [some (.ref a0), some (.ref a1), none, some (.int a3)]) (And.intro rfl (And.intro rfl (And.intro rfl True.intro))) ?_
            exact w_V_join_43 hr (fun a0 a1 a2 a3 σ hk => ih a0 a1 a2 a3 σ hk) h
def P_V_join (n : Nat) (a0 : Nat) (a1 : Nat) (σ : zS) (Q : Int32 → zS → Prop) : Prop := ∃ g, P_V_join_4 n Q g a0 a1 (0 : Int32) (0 : Int32) σ
set_option maxHeartbeats 1000000 in
set_option maxRecDepth 10000 in
theorem w_V_join {Q : Int32 → zS → Prop} (hr : meth.sig.returnType = some .boolean) {a0 : Nat} {a1 : Nat} {σ : zS} (h : P_V_join n a0 a1 σ Q) : zG p l e (zrm 1 0 0) s m args below meth c (MQ below (zQc (zA base) D cA base n ex (zqi Q)) args s 0 0 (zA base)) s.heap (zA base) base D cA 4 ex prog_7_method_3_code "ConstantFlow$View" n 0 0 0 [some (.ref a0), some (.ref a1), none, none] [] σ := by
  unfold P_V_join at h
  refine zw_iconst (v := 0) d_V_join_0 rfl ?_
  refine zw_istore_n d_V_join_1 rfl (Nat.le_of_ble_eq_true rfl) rfl rfl ?_
  refine zw_iconst (v := 0) d_V_join_2 rfl ?_
  refine zw_istore_n d_V_join_3 rfl (Nat.le_of_ble_eq_true rfl) rfl rfl ?_
  obtain ⟨g, h⟩ := h
  exact w_V_join_4 hr g _ _ _ _ _ h
theorem c_V_join {l : Launch} {D : va_G} {cA : Nat → ClassId} {base n : Nat} {ex : Bool} {Q : Int32 → zS → Prop} {a0 : Nat} {a1 : Nat} {σ : zS} (h : P_V_join n a0 a1 σ Q) : zM l y_V_join prog_7_method_3_code 4 (some .boolean) 1 0 0 (zA base) D cA base n n ex [.ref a0, .ref a1] σ (zqi Q) :=
  zMet (by decide) rfl (Nat.le_of_ble_eq_true rfl) (fun p e s m args below meth c hr hnm => w_V_join hr h)
end
