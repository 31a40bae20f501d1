section
variable {p : Program} {l : Launch} {e : Env} {s : State} {m : MethodId} {args : Array Value} {below : List Frame} {meth : Method} {c : Code} {base : Nat} {D : va_G} {cA : Nat → ClassId} {ex : Bool} {n : Nat}
def P_X_init (n : Nat) (a0 : Nat) (σ : zS) (Q : zS → Prop) : Prop := zkd n = (10, 32) ∧ zk (n + 1) a0 5 ∧ zkd (n + 1) = (10, 8) ∧ zk (n + 2) a0 5 ∧ Q (zR (zN (zR (zN σ n) a0 0 (some n)) (n + 1)) a0 2 (some (n + 1)))
set_option maxHeartbeats 1000000 in
set_option maxRecDepth 10000 in
theorem w_X_init {Q : zS → Prop} (hr : meth.sig.returnType = none) (hex : ex = true) (hnm : meth.name = "<init>") {a0 : Nat} {σ : zS} (h : P_X_init n a0 σ Q) : zG p l e (zrm 2 2 40) s m args below meth c (MQ below (zQc (zA base) D cA base (n + 2) ex (zqv Q)) args s 2 40 (zA base)) s.heap (zA base) base D cA 1 ex prog_3_method_1_code "ConstantFlow$Machine" n 0 0 0 [some (.ref a0)] [] σ := by
  unfold P_X_init at h
  refine zw_aload_n d_X_init_0 rfl rfl ?_
  refine zw_oinit d_X_init_1 mw_1_127 mw_1_22 mw_1_23 (Nat.le_of_ble_eq_true rfl) (Nat.le_of_ble_eq_true rfl) ?_
  refine zw_aload_n d_X_init_4 rfl rfl ?_
  refine zw_bipush (v := 32) d_X_init_5 rfl ?_
  obtain ⟨q1, h⟩ := h
  refine zw_newa (tag := 10) (len := 32) (t0 := 0) d_X_init_7 mw_1_71 rfl rfl (by decide) (by decide) (fun h => h) (fun j => by unfold zv; simp [zi_N, zl_N]; try rfl) q1 (by decide) (by decide) (by decide) hex (Nat.le_of_ble_eq_true rfl) (Nat.le_of_ble_eq_true rfl) ?_
  obtain ⟨q2, h⟩ := h
  refine zw_pfrF (ci := 5) (j := 0) d_X_init_9 mw_1_128 hnm rfl q2.1 q2.2 (by decide) (by decide) rfl rfl (fun _ => rfl) (fun _ => rfl) ?_
  refine zw_aload_n d_X_init_12 rfl rfl ?_
  refine zw_bipush (v := 8) d_X_init_13 rfl ?_
  obtain ⟨q3, h⟩ := h
  refine zw_newa (tag := 10) (len := 8) (t0 := 0) d_X_init_15 mw_1_71 rfl rfl (by decide) (by decide) (fun h => h) (fun j => by unfold zv; simp [zi_N, zl_N]; try rfl) q3 (by decide) (by decide) (by decide) hex (Nat.le_of_ble_eq_true rfl) (Nat.le_of_ble_eq_true rfl) ?_
  obtain ⟨q4, h⟩ := h
  refine zw_pfrF (ci := 5) (j := 2) d_X_init_17 mw_1_132 hnm rfl q4.1 q4.2 (by decide) (by decide) rfl rfl (fun _ => rfl) (fun _ => rfl) ?_
  exact zw_vret d_X_init_20 hr h
theorem c_X_init {l : Launch} {D : va_G} {cA : Nat → ClassId} {base n : Nat} {ex : Bool} {Q : zS → Prop} (hex : ex = true) {a0 : Nat} {σ : zS} (h : P_X_init n a0 σ Q) : zM l y_X_init prog_3_method_1_code 1 (none) 2 2 40 (zA base) D cA base n (n + 2) ex [.ref a0] σ (zqv Q) :=
  zMet (by decide) rfl (Nat.le_of_ble_eq_true rfl) (fun p e s m args below meth c hr hnm => w_X_init hr hex hnm h)
def P_G_init (n : Nat) (a0 : Nat) (σ : zS) (Q : zS → Prop) : Prop := zkd n = (10, 25) ∧ zk (n + 1) a0 6 ∧ zkd (n + 1) = (10, 80) ∧ zk (n + 2) a0 6 ∧ zkd (n + 2) = (10, 80) ∧ zk (n + 3) a0 6 ∧ zkd (n + 3) = (11, 184) ∧ zk (n + 4) a0 6 ∧ zkd (n + 4) = (10, 184) ∧ zk (n + 5) a0 6 ∧ zkd (n + 5) = (10, 24) ∧ zk (n + 6) a0 6 ∧ zkd (n + 6) = (10, 48) ∧ zk (n + 7) a0 6 ∧ ∃ c15, zr (zI (zR (zN (zR (zN (zR (zN (zR (zN (zR (zN (zR (zN (zR (zN σ n) a0 2 (some n)) (n + 1)) a0 3 (some (n + 1))) (n + 2)) a0 4 (some (n + 2))) (n + 3)) a0 5 (some (n + 3))) (n + 4)) a0 6 (some (n + 4))) (n + 5)) a0 7 (some (n + 5))) (n + 6)) a0 8 (some (n + 6))) a0 0 (1 : Int32)) a0 7 = some c15 ∧ za (n + 7) c15 10 (0 : Int32) ∧ Q (zI (zI (zR (zN (zR (zN (zR (zN (zR (zN (zR (zN (zR (zN (zR (zN σ n) a0 2 (some n)) (n + 1)) a0 3 (some (n + 1))) (n + 2)) a0 4 (some (n + 2))) (n + 3)) a0 5 (some (n + 3))) (n + 4)) a0 6 (some (n + 4))) (n + 5)) a0 7 (some (n + 5))) (n + 6)) a0 8 (some (n + 6))) a0 0 (1 : Int32)) c15 (0 : Int32).toNatClampNeg (0 : Int32))
set_option maxHeartbeats 1000000 in
set_option maxRecDepth 10000 in
theorem w_G_init {Q : zS → Prop} (hr : meth.sig.returnType = none) (hex : ex = true) (hnm : meth.name = "<init>") {a0 : Nat} {σ : zS} (h : P_G_init n a0 σ Q) : zG p l e (zrm 2 7 625) s m args below meth c (MQ below (zQc (zA base) D cA base (n + 7) ex (zqv Q)) args s 7 625 (zA base)) s.heap (zA base) base D cA 1 ex prog_4_method_1_code "ConstantFlow$Program" n 0 0 0 [some (.ref a0)] [] σ := by
  unfold P_G_init at h
  refine zw_aload_n d_G_init_0 rfl rfl ?_
  refine zw_oinit d_G_init_1 mw_1_150 mw_1_22 mw_1_23 (Nat.le_of_ble_eq_true rfl) (Nat.le_of_ble_eq_true rfl) ?_
  refine zw_aload_n d_G_init_4 rfl rfl ?_
  refine zw_bipush (v := 25) d_G_init_5 rfl ?_
  obtain ⟨q1, h⟩ := h
  refine zw_newa (tag := 10) (len := 25) (t0 := 0) d_G_init_7 mw_1_71 rfl rfl (by decide) (by decide) (fun h => h) (fun j => by unfold zv; simp [zi_N, zl_N]; try rfl) q1 (by decide) (by decide) (by decide) hex (Nat.le_of_ble_eq_true rfl) (Nat.le_of_ble_eq_true rfl) ?_
  obtain ⟨q2, h⟩ := h
  refine zw_pfrF (ci := 6) (j := 2) d_G_init_9 mw_1_158 hnm rfl q2.1 q2.2 (by decide) (by decide) rfl rfl (fun _ => rfl) (fun _ => rfl) ?_
  refine zw_aload_n d_G_init_12 rfl rfl ?_
  refine zw_bipush (v := 80) d_G_init_13 rfl ?_
  obtain ⟨q3, h⟩ := h
  refine zw_newa (tag := 10) (len := 80) (t0 := 0) d_G_init_15 mw_1_71 rfl rfl (by decide) (by decide) (fun h => h) (fun j => by unfold zv; simp [zi_N, zl_N]; try rfl) q3 (by decide) (by decide) (by decide) hex (Nat.le_of_ble_eq_true rfl) (Nat.le_of_ble_eq_true rfl) ?_
  obtain ⟨q4, h⟩ := h
  refine zw_pfrF (ci := 6) (j := 3) d_G_init_17 mw_1_161 hnm rfl q4.1 q4.2 (by decide) (by decide) rfl rfl (fun _ => rfl) (fun _ => rfl) ?_
  refine zw_aload_n d_G_init_20 rfl rfl ?_
  refine zw_bipush (v := 80) d_G_init_21 rfl ?_
  obtain ⟨q5, h⟩ := h
  refine zw_newa (tag := 10) (len := 80) (t0 := 0) d_G_init_23 mw_1_71 rfl rfl (by decide) (by decide) (fun h => h) (fun j => by unfold zv; simp [zi_N, zl_N]; try rfl) q5 (by decide) (by decide) (by decide) hex (Nat.le_of_ble_eq_true rfl) (Nat.le_of_ble_eq_true rfl) ?_
  obtain ⟨q6, h⟩ := h
  refine zw_pfrF (ci := 6) (j := 4) d_G_init_25 mw_1_166 hnm rfl q6.1 q6.2 (by decide) (by decide) rfl rfl (fun _ => rfl) (fun _ => rfl) ?_
  refine zw_aload_n d_G_init_28 rfl rfl ?_
  refine zw_sipush (v := 184) d_G_init_29 rfl ?_
  obtain ⟨q7, h⟩ := h
  refine zw_newa (tag := 11) (len := 184) (t0 := 1) d_G_init_32 mw_1_94 rfl rfl (by decide) (by decide) (fun h => h) (fun j => by unfold zv; simp [zi_N, zl_N]; try rfl) q7 (by decide) (by decide) (by decide) hex (Nat.le_of_ble_eq_true rfl) (Nat.le_of_ble_eq_true rfl) ?_
  obtain ⟨q8, h⟩ := h
  refine zw_pfrF (ci := 6) (j := 5) d_G_init_34 mw_1_171 hnm rfl q8.1 q8.2 (by decide) (by decide) rfl rfl (fun _ => rfl) (fun _ => rfl) ?_
  refine zw_aload_n d_G_init_37 rfl rfl ?_
  refine zw_sipush (v := 184) d_G_init_38 rfl ?_
  obtain ⟨q9, h⟩ := h
  refine zw_newa (tag := 10) (len := 184) (t0 := 0) d_G_init_41 mw_1_71 rfl rfl (by decide) (by decide) (fun h => h) (fun j => by unfold zv; simp [zi_N, zl_N]; try rfl) q9 (by decide) (by decide) (by decide) hex (Nat.le_of_ble_eq_true rfl) (Nat.le_of_ble_eq_true rfl) ?_
  obtain ⟨q10, h⟩ := h
  refine zw_pfrF (ci := 6) (j := 6) d_G_init_43 mw_1_174 hnm rfl q10.1 q10.2 (by decide) (by decide) rfl rfl (fun _ => rfl) (fun _ => rfl) ?_
  refine zw_aload_n d_G_init_46 rfl rfl ?_
  refine zw_bipush (v := 24) d_G_init_47 rfl ?_
  obtain ⟨q11, h⟩ := h
  refine zw_newa (tag := 10) (len := 24) (t0 := 0) d_G_init_49 mw_1_71 rfl rfl (by decide) (by decide) (fun h => h) (fun j => by unfold zv; simp [zi_N, zl_N]; try rfl) q11 (by decide) (by decide) (by decide) hex (Nat.le_of_ble_eq_true rfl) (Nat.le_of_ble_eq_true rfl) ?_
  obtain ⟨q12, h⟩ := h
  refine zw_pfrF (ci := 6) (j := 7) d_G_init_51 mw_1_178 hnm rfl q12.1 q12.2 (by decide) (by decide) rfl rfl (fun _ => rfl) (fun _ => rfl) ?_
  refine zw_aload_n d_G_init_54 rfl rfl ?_
  refine zw_bipush (v := 48) d_G_init_55 rfl ?_
  obtain ⟨q13, h⟩ := h
  refine zw_newa (tag := 10) (len := 48) (t0 := 0) d_G_init_57 mw_1_71 rfl rfl (by decide) (by decide) (fun h => h) (fun j => by unfold zv; simp [zi_N, zl_N]; try rfl) q13 (by decide) (by decide) (by decide) hex (Nat.le_of_ble_eq_true rfl) (Nat.le_of_ble_eq_true rfl) ?_
  obtain ⟨q14, h⟩ := h
  refine zw_pfrF (ci := 6) (j := 8) d_G_init_59 mw_1_182 hnm rfl q14.1 q14.2 (by decide) (by decide) rfl rfl (fun _ => rfl) (fun _ => rfl) ?_
  refine zw_aload_n d_G_init_62 rfl rfl ?_
  refine zw_iconst (v := 1) d_G_init_63 rfl ?_
  refine zw_pfi (ci := 6) (j := 0) d_G_init_64 mw_1_151 q14.1 q14.2 (by decide) (by decide) rfl rfl rfl rfl ?_
  refine zw_aload_n d_G_init_67 rfl rfl ?_
  obtain ⟨c15, q16, h⟩ := h
  refine zw_gfr (ci := 6) (j := 7) d_G_init_68 mw_1_178 q14.1 q14.2 (by decide) (by decide) rfl q16 ?_
  refine zw_iconst (v := 0) d_G_init_71 rfl ?_
  refine zw_iconst (v := 0) d_G_init_72 rfl ?_
  obtain ⟨q17, h⟩ := h
  refine zw_iast d_G_init_73 q17.1 (zkd_eta q17.2.1) q17.2.2 ?_
  exact zw_vret d_G_init_74 hr h
theorem c_G_init {l : Launch} {D : va_G} {cA : Nat → ClassId} {base n : Nat} {ex : Bool} {Q : zS → Prop} (hex : ex = true) {a0 : Nat} {σ : zS} (h : P_G_init n a0 σ Q) : zM l y_G_init prog_4_method_1_code 1 (none) 2 7 625 (zA base) D cA base n (n + 7) ex [.ref a0] σ (zqv Q) :=
  zMet (by decide) rfl (Nat.le_of_ble_eq_true rfl) (fun p e s m args below meth c hr hnm => w_G_init hr hex hnm h)
def P_R_init (n : Nat) (a0 : Nat) (a1 : Nat) (σ : zS) (Q : zS → Prop) : Prop := zkd n = (10, 48) ∧ zk (n + 1) a0 2 ∧ Q (zR (zI (zR (zN σ n) a0 1 (some n)) a0 6 (-1 : Int32)) a0 0 (some a1))
set_option maxHeartbeats 1000000 in
set_option maxRecDepth 10000 in
theorem w_R_init {Q : zS → Prop} (hr : meth.sig.returnType = none) (hex : ex = true) (hnm : meth.name = "<init>") {a0 : Nat} {a1 : Nat} {σ : zS} (h : P_R_init n a0 a1 σ Q) : zG p l e (zrm 2 1 48) s m args below meth c (MQ below (zQc (zA base) D cA base (n + 1) ex (zqv Q)) args s 1 48 (zA base)) s.heap (zA base) base D cA 2 ex prog_5_method_1_code "ConstantFlow$Reader" n 0 0 0 [some (.ref a0), some (.ref a1)] [] σ := by
  unfold P_R_init at h
  refine zw_aload_n d_R_init_0 rfl rfl ?_
  refine zw_oinit d_R_init_1 mw_1_46 mw_1_22 mw_1_23 (Nat.le_of_ble_eq_true rfl) (Nat.le_of_ble_eq_true rfl) ?_
  refine zw_aload_n d_R_init_4 rfl rfl ?_
  refine zw_bipush (v := 48) d_R_init_5 rfl ?_
  obtain ⟨q1, h⟩ := h
  refine zw_newa (tag := 10) (len := 48) (t0 := 0) d_R_init_7 mw_1_71 rfl rfl (by decide) (by decide) (fun h => h) (fun j => by unfold zv; simp [zi_N, zl_N]; try rfl) q1 (by decide) (by decide) (by decide) hex (Nat.le_of_ble_eq_true rfl) (Nat.le_of_ble_eq_true rfl) ?_
  obtain ⟨q2, h⟩ := h
  refine zw_pfrF (ci := 2) (j := 1) d_R_init_9 mw_1_48 hnm rfl q2.1 q2.2 (by decide) (by decide) rfl rfl (fun _ => rfl) (fun _ => rfl) ?_
  refine zw_aload_n d_R_init_12 rfl rfl ?_
  refine zw_iconst (v := -1) d_R_init_13 rfl ?_
  refine zw_pfi (ci := 2) (j := 6) d_R_init_14 mw_1_54 q2.1 q2.2 (by decide) (by decide) rfl rfl rfl rfl ?_
  refine zw_aload_n d_R_init_17 rfl rfl ?_
  refine zw_aload_n d_R_init_18 rfl rfl ?_
  refine zw_pfrF (ci := 2) (j := 0) d_R_init_19 mw_1_47 hnm rfl q2.1 q2.2 (by decide) (by decide) rfl rfl (fun _ => rfl) (fun _ => rfl) ?_
  exact zw_vret d_R_init_22 hr h
theorem c_R_init {l : Launch} {D : va_G} {cA : Nat → ClassId} {base n : Nat} {ex : Bool} {Q : zS → Prop} (hex : ex = true) {a0 : Nat} {a1 : Nat} {σ : zS} (h : P_R_init n a0 a1 σ Q) : zM l y_R_init prog_5_method_1_code 2 (none) 2 1 48 (zA base) D cA base n (n + 1) ex [.ref a0, .ref a1] σ (zqv Q) :=
  zMet (by decide) rfl (Nat.le_of_ble_eq_true rfl) (fun p e s m args below meth c hr hnm => w_R_init hr hex hnm h)
def P_T_init (n : Nat) (a0 : Nat) (a1 : Int32) (σ : zS) (Q : zS → Prop) : Prop := (zkd n).1 = 12 ∧ ¬ a1 < 0 ∧ a1.toNatClampNeg = (zkd n).2 ∧ (zkd n).2 * 1 ≤ 536870912 ∧ zk (n + 1) a0 1 ∧ Q (zR (zN σ n) a0 0 (some n))
set_option maxHeartbeats 1000000 in
set_option maxRecDepth 10000 in
theorem w_T_init {Q : zS → Prop} (hr : meth.sig.returnType = none) (hex : ex = true) (hnm : meth.name = "<init>") {a0 : Nat} {a1 : Int32} {σ : zS} (h : P_T_init n a0 a1 σ Q) : zG p l e (zrm 2 1 (0 + (zkd n).2)) s m args below meth c (MQ below (zQc (zA base) D cA base (n + 1) ex (zqv Q)) args s 1 (0 + (zkd n).2) (zA base)) s.heap (zA base) base D cA 2 ex prog_6_method_1_code "ConstantFlow$Text" n 0 0 0 [some (.ref a0), some (.int a1)] [] σ := by
  unfold P_T_init at h
  refine zw_aload_n d_T_init_0 rfl rfl ?_
  refine zw_oinit d_T_init_1 mw_1_29 mw_1_22 mw_1_23 (Nat.le_of_ble_eq_true rfl) (Nat.le_of_ble_eq_true rfl) ?_
  refine zw_aload_n d_T_init_4 rfl rfl ?_
  refine zw_iload_n d_T_init_5 rfl rfl ?_
  obtain ⟨q2, q3, q4, q5, h⟩ := h
  refine zw_newa (tag := 12) (t0 := 2) d_T_init_6 mw_1_40 rfl rfl (by decide) (by decide) (fun h => h) (fun j => by unfold zv; simp [zi_N, zl_N]; try rfl) (zkd_eta q2) q3 q4 q5 hex (Nat.le_of_ble_eq_true rfl) (by simp [zrm]) ?_
  obtain ⟨q6, h⟩ := h
  refine zw_pfrF (ci := 1) (j := 0) d_T_init_8 mw_1_30 hnm rfl q6.1 q6.2 (by decide) (by decide) rfl rfl (fun _ => rfl) (fun _ => rfl) ?_
  exact zw_vret d_T_init_11 hr h
theorem c_T_init {l : Launch} {D : va_G} {cA : Nat → ClassId} {base n : Nat} {ex : Bool} {Q : zS → Prop} (hex : ex = true) {a0 : Nat} {a1 : Int32} {σ : zS} (h : P_T_init n a0 a1 σ Q) : zM l y_T_init prog_6_method_1_code 2 (none) 2 1 (0 + (zkd n).2) (zA base) D cA base n (n + 1) ex [.ref a0, .int a1] σ (zqv Q) :=
  zMet (by decide) rfl (Nat.le_of_ble_eq_true rfl) (fun p e s m args below meth c hr hnm => w_T_init hr hex hnm h)
def P_V_init (n : Nat) (a0 : Nat) (σ : zS) (Q : zS → Prop) : Prop := zkd n = (11, 8) ∧ zk (n + 1) a0 4 ∧ zkd (n + 1) = (10, 8) ∧ zk (n + 2) a0 4 ∧ Q (zR (zN (zR (zN σ n) a0 0 (some n)) (n + 1)) a0 1 (some (n + 1)))
set_option maxHeartbeats 1000000 in
set_option maxRecDepth 10000 in
theorem w_V_init {Q : zS → Prop} (hr : meth.sig.returnType = none) (hex : ex = true) (hnm : meth.name = "<init>") {a0 : Nat} {σ : zS} (h : P_V_init n a0 σ Q) : zG p l e (zrm 2 2 16) s m args below meth c (MQ below (zQc (zA base) D cA base (n + 2) ex (zqv Q)) args s 2 16 (zA base)) s.heap (zA base) base D cA 1 ex prog_7_method_1_code "ConstantFlow$View" n 0 0 0 [some (.ref a0)] [] σ := by
  unfold P_V_init at h
  refine zw_aload_n d_V_init_0 rfl rfl ?_
  refine zw_oinit d_V_init_1 mw_1_84 mw_1_22 mw_1_23 (Nat.le_of_ble_eq_true rfl) (Nat.le_of_ble_eq_true rfl) ?_
  refine zw_aload_n d_V_init_4 rfl rfl ?_
  refine zw_bipush (v := 8) d_V_init_5 rfl ?_
  obtain ⟨q1, h⟩ := h
  refine zw_newa (tag := 11) (len := 8) (t0 := 1) d_V_init_7 mw_1_94 rfl rfl (by decide) (by decide) (fun h => h) (fun j => by unfold zv; simp [zi_N, zl_N]; try rfl) q1 (by decide) (by decide) (by decide) hex (Nat.le_of_ble_eq_true rfl) (Nat.le_of_ble_eq_true rfl) ?_
  obtain ⟨q2, h⟩ := h
  refine zw_pfrF (ci := 4) (j := 0) d_V_init_9 mw_1_85 hnm rfl q2.1 q2.2 (by decide) (by decide) rfl rfl (fun _ => rfl) (fun _ => rfl) ?_
  refine zw_aload_n d_V_init_12 rfl rfl ?_
  refine zw_bipush (v := 8) d_V_init_13 rfl ?_
  obtain ⟨q3, h⟩ := h
  refine zw_newa (tag := 10) (len := 8) (t0 := 0) d_V_init_15 mw_1_71 rfl rfl (by decide) (by decide) (fun h => h) (fun j => by unfold zv; simp [zi_N, zl_N]; try rfl) q3 (by decide) (by decide) (by decide) hex (Nat.le_of_ble_eq_true rfl) (Nat.le_of_ble_eq_true rfl) ?_
  obtain ⟨q4, h⟩ := h
  refine zw_pfrF (ci := 4) (j := 1) d_V_init_17 mw_1_87 hnm rfl q4.1 q4.2 (by decide) (by decide) rfl rfl (fun _ => rfl) (fun _ => rfl) ?_
  exact zw_vret d_V_init_20 hr h
theorem c_V_init {l : Launch} {D : va_G} {cA : Nat → ClassId} {base n : Nat} {ex : Bool} {Q : zS → Prop} (hex : ex = true) {a0 : Nat} {σ : zS} (h : P_V_init n a0 σ Q) : zM l y_V_init prog_7_method_1_code 1 (none) 2 2 16 (zA base) D cA base n (n + 2) ex [.ref a0] σ (zqv Q) :=
  zMet (by decide) rfl (Nat.le_of_ble_eq_true rfl) (fun p e s m args below meth c hr hnm => w_V_init hr hex hnm h)
def P_M_init (n : Nat) (a0 : Nat) (σ : zS) (Q : zS → Prop) : Prop := zkd 184 = (10, 700) ∧ zk 185 a0 7 ∧ zkd 185 = (10, 560) ∧ zk 186 a0 7 ∧ zkd 186 = (10, 120) ∧ zk 187 a0 7 ∧ zkd 187 = (10, 25) ∧ zk 188 a0 7 ∧ zkd 188 = (10, 560) ∧ zk 189 a0 7 ∧ zkd 189 = (10, 120) ∧ zk 190 a0 7 ∧ zkd 190 = (10, 25) ∧ zk 191 a0 7 ∧ zkd 191 = (10, 48) ∧ zk 192 a0 7 ∧ zkd 192 = (11, 24) ∧ zk 193 a0 7 ∧ zkd 193 = (10, 192) ∧ zk 194 a0 7 ∧ zkd 194 = (10, 192) ∧ zk 195 a0 7 ∧ zkd 195 = (10, 8) ∧ zk 196 a0 7 ∧ zkd 196 = (10, 8) ∧ zk 197 a0 7 ∧ zkd 197 = (10, 1700) ∧ zk 198 a0 7 ∧ zkd 198 = (10, 32) ∧ zk 199 a0 7 ∧ zkd 199 = (10, 8) ∧ zk 200 a0 7 ∧ Q (zR (zN (zR (zN (zR (zN (zR (zN (zR (zN (zR (zN (zR (zN (zR (zN (zR (zN (zR (zN (zR (zN (zR (zN (zR (zN (zR (zN (zR (zN (zI (zI (zR (zN σ 184) a0 1 (some 184)) a0 4 (-1 : Int32)) a0 6 (1 : Int32)) 185) a0 8 (some 185)) 186) a0 9 (some 186)) 187) a0 10 (some 187)) 188) a0 13 (some 188)) 189) a0 14 (some 189)) 190) a0 15 (some 190)) 191) a0 16 (some 191)) 192) a0 20 (some 192)) 193) a0 21 (some 193)) 194) a0 22 (some 194)) 195) a0 23 (some 195)) 196) a0 24 (some 196)) 197) a0 27 (some 197)) 198) a0 29 (some 198)) 199) a0 31 (some 199))
set_option maxHeartbeats 1000000 in
set_option maxRecDepth 10000 in
theorem w_M_init {Q : zS → Prop} (hr : meth.sig.returnType = none) (hex : ex = true) (hnm : meth.name = "<init>") {a0 : Nat} {σ : zS} (h : P_M_init n a0 σ Q) : zG p l e (zrm 2 16 4322) s m args below meth c (MQ below (zQc (zA base) D cA base 200 ex (zqv Q)) args s 16 4322 (zA base)) s.heap (zA base) base D cA 1 ex prog_9_method_1_code "ConstantFlowModel" 184 0 0 0 [some (.ref a0)] [] σ := by
  unfold P_M_init at h
  refine zw_aload_n d_M_init_0 rfl rfl ?_
  refine zw_oinit d_M_init_1 mw_3_184 mw_1_22 mw_1_23 (Nat.le_of_ble_eq_true rfl) (Nat.le_of_ble_eq_true rfl) ?_
  refine zw_aload_n d_M_init_4 rfl rfl ?_
  refine zw_sipush (v := 700) d_M_init_5 rfl ?_
  obtain ⟨q1, h⟩ := h
  refine zw_newa (tag := 10) (len := 700) (t0 := 0) d_M_init_8 mw_1_71 rfl rfl (by decide) (by decide) (fun h => h) (fun j => by unfold zv; simp [zi_N, zl_N]; try rfl) q1 (by decide) (by decide) (by decide) hex (Nat.le_of_ble_eq_true rfl) (Nat.le_of_ble_eq_true rfl) ?_
  obtain ⟨q2, h⟩ := h
  refine zw_pfrF (ci := 7) (j := 1) d_M_init_10 mw_3_186 hnm rfl q2.1 q2.2 (by decide) (by decide) rfl rfl (fun _ => rfl) (fun _ => rfl) ?_
  refine zw_aload_n d_M_init_13 rfl rfl ?_
  refine zw_iconst (v := -1) d_M_init_14 rfl ?_
  refine zw_pfi (ci := 7) (j := 4) d_M_init_15 mw_3_189 q2.1 q2.2 (by decide) (by decide) rfl rfl rfl rfl ?_
  refine zw_aload_n d_M_init_18 rfl rfl ?_
  refine zw_iconst (v := 1) d_M_init_19 rfl ?_
  refine zw_pfi (ci := 7) (j := 6) d_M_init_20 mw_3_191 q2.1 q2.2 (by decide) (by decide) rfl rfl rfl rfl ?_
  refine zw_aload_n d_M_init_23 rfl rfl ?_
  refine zw_sipush (v := 560) d_M_init_24 rfl ?_
  obtain ⟨q3, h⟩ := h
  refine zw_newa (tag := 10) (len := 560) (t0 := 0) d_M_init_27 mw_1_71 rfl rfl (by decide) (by decide) (fun h => h) (fun j => by unfold zv; simp [zi_N, zl_N]; try rfl) q3 (by decide) (by decide) (by decide) hex (Nat.le_of_ble_eq_true rfl) (Nat.le_of_ble_eq_true rfl) ?_
  obtain ⟨q4, h⟩ := h
  refine zw_pfrF (ci := 7) (j := 8) d_M_init_29 mw_3_193 hnm rfl q4.1 q4.2 (by decide) (by decide) rfl rfl (fun _ => rfl) (fun _ => rfl) ?_
  refine zw_aload_n d_M_init_32 rfl rfl ?_
  refine zw_bipush (v := 120) d_M_init_33 rfl ?_
  obtain ⟨q5, h⟩ := h
  refine zw_newa (tag := 10) (len := 120) (t0 := 0) d_M_init_35 mw_1_71 rfl rfl (by decide) (by decide) (fun h => h) (fun j => by unfold zv; simp [zi_N, zl_N]; try rfl) q5 (by decide) (by decide) (by decide) hex (Nat.le_of_ble_eq_true rfl) (Nat.le_of_ble_eq_true rfl) ?_
  obtain ⟨q6, h⟩ := h
  refine zw_pfrF (ci := 7) (j := 9) d_M_init_37 mw_3_194 hnm rfl q6.1 q6.2 (by decide) (by decide) rfl rfl (fun _ => rfl) (fun _ => rfl) ?_
  refine zw_aload_n d_M_init_40 rfl rfl ?_
  refine zw_bipush (v := 25) d_M_init_41 rfl ?_
  obtain ⟨q7, h⟩ := h
  refine zw_newa (tag := 10) (len := 25) (t0 := 0) d_M_init_43 mw_1_71 rfl rfl (by decide) (by decide) (fun h => h) (fun j => by unfold zv; simp [zi_N, zl_N]; try rfl) q7 (by decide) (by decide) (by decide) hex (Nat.le_of_ble_eq_true rfl) (Nat.le_of_ble_eq_true rfl) ?_
  obtain ⟨q8, h⟩ := h
  refine zw_pfrF (ci := 7) (j := 10) d_M_init_45 mw_3_195 hnm rfl q8.1 q8.2 (by decide) (by decide) rfl rfl (fun _ => rfl) (fun _ => rfl) ?_
  refine zw_aload_n d_M_init_48 rfl rfl ?_
  refine zw_sipush (v := 560) d_M_init_49 rfl ?_
  obtain ⟨q9, h⟩ := h
  refine zw_newa (tag := 10) (len := 560) (t0 := 0) d_M_init_52 mw_1_71 rfl rfl (by decide) (by decide) (fun h => h) (fun j => by unfold zv; simp [zi_N, zl_N]; try rfl) q9 (by decide) (by decide) (by decide) hex (Nat.le_of_ble_eq_true rfl) (Nat.le_of_ble_eq_true rfl) ?_
  obtain ⟨q10, h⟩ := h
  refine zw_pfrF (ci := 7) (j := 13) d_M_init_54 mw_3_198 hnm rfl q10.1 q10.2 (by decide) (by decide) rfl rfl (fun _ => rfl) (fun _ => rfl) ?_
  refine zw_aload_n d_M_init_57 rfl rfl ?_
  refine zw_bipush (v := 120) d_M_init_58 rfl ?_
  obtain ⟨q11, h⟩ := h
  refine zw_newa (tag := 10) (len := 120) (t0 := 0) d_M_init_60 mw_1_71 rfl rfl (by decide) (by decide) (fun h => h) (fun j => by unfold zv; simp [zi_N, zl_N]; try rfl) q11 (by decide) (by decide) (by decide) hex (Nat.le_of_ble_eq_true rfl) (Nat.le_of_ble_eq_true rfl) ?_
  obtain ⟨q12, h⟩ := h
  refine zw_pfrF (ci := 7) (j := 14) d_M_init_62 mw_3_199 hnm rfl q12.1 q12.2 (by decide) (by decide) rfl rfl (fun _ => rfl) (fun _ => rfl) ?_
  refine zw_aload_n d_M_init_65 rfl rfl ?_
  refine zw_bipush (v := 25) d_M_init_66 rfl ?_
  obtain ⟨q13, h⟩ := h
  refine zw_newa (tag := 10) (len := 25) (t0 := 0) d_M_init_68 mw_1_71 rfl rfl (by decide) (by decide) (fun h => h) (fun j => by unfold zv; simp [zi_N, zl_N]; try rfl) q13 (by decide) (by decide) (by decide) hex (Nat.le_of_ble_eq_true rfl) (Nat.le_of_ble_eq_true rfl) ?_
  obtain ⟨q14, h⟩ := h
  refine zw_pfrF (ci := 7) (j := 15) d_M_init_70 mw_3_200 hnm rfl q14.1 q14.2 (by decide) (by decide) rfl rfl (fun _ => rfl) (fun _ => rfl) ?_
  refine zw_aload_n d_M_init_73 rfl rfl ?_
  refine zw_bipush (v := 48) d_M_init_74 rfl ?_
  obtain ⟨q15, h⟩ := h
  refine zw_newa (tag := 10) (len := 48) (t0 := 0) d_M_init_76 mw_1_71 rfl rfl (by decide) (by decide) (fun h => h) (fun j => by unfold zv; simp [zi_N, zl_N]; try rfl) q15 (by decide) (by decide) (by decide) hex (Nat.le_of_ble_eq_true rfl) (Nat.le_of_ble_eq_true rfl) ?_
  obtain ⟨q16, h⟩ := h
  refine zw_pfrF (ci := 7) (j := 16) d_M_init_78 mw_3_201 hnm rfl q16.1 q16.2 (by decide) (by decide) rfl rfl (fun _ => rfl) (fun _ => rfl) ?_
  refine zw_aload_n d_M_init_81 rfl rfl ?_
  refine zw_bipush (v := 24) d_M_init_82 rfl ?_
  obtain ⟨q17, h⟩ := h
  refine zw_newa (tag := 11) (len := 24) (t0 := 1) d_M_init_84 mw_1_94 rfl rfl (by decide) (by decide) (fun h => h) (fun j => by unfold zv; simp [zi_N, zl_N]; try rfl) q17 (by decide) (by decide) (by decide) hex (Nat.le_of_ble_eq_true rfl) (Nat.le_of_ble_eq_true rfl) ?_
  obtain ⟨q18, h⟩ := h
  refine zw_pfrF (ci := 7) (j := 20) d_M_init_86 mw_3_205 hnm rfl q18.1 q18.2 (by decide) (by decide) rfl rfl (fun _ => rfl) (fun _ => rfl) ?_
  refine zw_aload_n d_M_init_89 rfl rfl ?_
  refine zw_sipush (v := 192) d_M_init_90 rfl ?_
  obtain ⟨q19, h⟩ := h
  refine zw_newa (tag := 10) (len := 192) (t0 := 0) d_M_init_93 mw_1_71 rfl rfl (by decide) (by decide) (fun h => h) (fun j => by unfold zv; simp [zi_N, zl_N]; try rfl) q19 (by decide) (by decide) (by decide) hex (Nat.le_of_ble_eq_true rfl) (Nat.le_of_ble_eq_true rfl) ?_
  obtain ⟨q20, h⟩ := h
  refine zw_pfrF (ci := 7) (j := 21) d_M_init_95 mw_3_206 hnm rfl q20.1 q20.2 (by decide) (by decide) rfl rfl (fun _ => rfl) (fun _ => rfl) ?_
  refine zw_aload_n d_M_init_98 rfl rfl ?_
  refine zw_sipush (v := 192) d_M_init_99 rfl ?_
  obtain ⟨q21, h⟩ := h
  refine zw_newa (tag := 10) (len := 192) (t0 := 0) d_M_init_102 mw_1_71 rfl rfl (by decide) (by decide) (fun h => h) (fun j => by unfold zv; simp [zi_N, zl_N]; try rfl) q21 (by decide) (by decide) (by decide) hex (Nat.le_of_ble_eq_true rfl) (Nat.le_of_ble_eq_true rfl) ?_
  obtain ⟨q22, h⟩ := h
  refine zw_pfrF (ci := 7) (j := 22) d_M_init_104 mw_3_207 hnm rfl q22.1 q22.2 (by decide) (by decide) rfl rfl (fun _ => rfl) (fun _ => rfl) ?_
  refine zw_aload_n d_M_init_107 rfl rfl ?_
  refine zw_bipush (v := 8) d_M_init_108 rfl ?_
  obtain ⟨q23, h⟩ := h
  refine zw_newa (tag := 10) (len := 8) (t0 := 0) d_M_init_110 mw_1_71 rfl rfl (by decide) (by decide) (fun h => h) (fun j => by unfold zv; simp [zi_N, zl_N]; try rfl) q23 (by decide) (by decide) (by decide) hex (Nat.le_of_ble_eq_true rfl) (Nat.le_of_ble_eq_true rfl) ?_
  obtain ⟨q24, h⟩ := h
  refine zw_pfrF (ci := 7) (j := 23) d_M_init_112 mw_3_208 hnm rfl q24.1 q24.2 (by decide) (by decide) rfl rfl (fun _ => rfl) (fun _ => rfl) ?_
  refine zw_aload_n d_M_init_115 rfl rfl ?_
  refine zw_bipush (v := 8) d_M_init_116 rfl ?_
  obtain ⟨q25, h⟩ := h
  refine zw_newa (tag := 10) (len := 8) (t0 := 0) d_M_init_118 mw_1_71 rfl rfl (by decide) (by decide) (fun h => h) (fun j => by unfold zv; simp [zi_N, zl_N]; try rfl) q25 (by decide) (by decide) (by decide) hex (Nat.le_of_ble_eq_true rfl) (Nat.le_of_ble_eq_true rfl) ?_
  obtain ⟨q26, h⟩ := h
  refine zw_pfrF (ci := 7) (j := 24) d_M_init_120 mw_3_209 hnm rfl q26.1 q26.2 (by decide) (by decide) rfl rfl (fun _ => rfl) (fun _ => rfl) ?_
  refine zw_aload_n d_M_init_123 rfl rfl ?_
  refine zw_sipush (v := 1700) d_M_init_124 rfl ?_
  obtain ⟨q27, h⟩ := h
  refine zw_newa (tag := 10) (len := 1700) (t0 := 0) d_M_init_127 mw_1_71 rfl rfl (by decide) (by decide) (fun h => h) (fun j => by unfold zv; simp [zi_N, zl_N]; try rfl) q27 (by decide) (by decide) (by decide) hex (Nat.le_of_ble_eq_true rfl) (Nat.le_of_ble_eq_true rfl) ?_
  obtain ⟨q28, h⟩ := h
  refine zw_pfrF (ci := 7) (j := 27) d_M_init_129 mw_3_212 hnm rfl q28.1 q28.2 (by decide) (by decide) rfl rfl (fun _ => rfl) (fun _ => rfl) ?_
  refine zw_aload_n d_M_init_132 rfl rfl ?_
  refine zw_bipush (v := 32) d_M_init_133 rfl ?_
  obtain ⟨q29, h⟩ := h
  refine zw_newa (tag := 10) (len := 32) (t0 := 0) d_M_init_135 mw_1_71 rfl rfl (by decide) (by decide) (fun h => h) (fun j => by unfold zv; simp [zi_N, zl_N]; try rfl) q29 (by decide) (by decide) (by decide) hex (Nat.le_of_ble_eq_true rfl) (Nat.le_of_ble_eq_true rfl) ?_
  obtain ⟨q30, h⟩ := h
  refine zw_pfrF (ci := 7) (j := 29) d_M_init_137 mw_3_214 hnm rfl q30.1 q30.2 (by decide) (by decide) rfl rfl (fun _ => rfl) (fun _ => rfl) ?_
  refine zw_aload_n d_M_init_140 rfl rfl ?_
  refine zw_bipush (v := 8) d_M_init_141 rfl ?_
  obtain ⟨q31, h⟩ := h
  refine zw_newa (tag := 10) (len := 8) (t0 := 0) d_M_init_143 mw_1_71 rfl rfl (by decide) (by decide) (fun h => h) (fun j => by unfold zv; simp [zi_N, zl_N]; try rfl) q31 (by decide) (by decide) (by decide) hex (Nat.le_of_ble_eq_true rfl) (Nat.le_of_ble_eq_true rfl) ?_
  obtain ⟨q32, h⟩ := h
  refine zw_pfrF (ci := 7) (j := 31) d_M_init_145 mw_3_216 hnm rfl q32.1 q32.2 (by decide) (by decide) rfl rfl (fun _ => rfl) (fun _ => rfl) ?_
  exact zw_vret d_M_init_148 hr h
theorem c_M_init {l : Launch} {D : va_G} {cA : Nat → ClassId} {base n : Nat} {ex : Bool} {Q : zS → Prop} (hex : ex = true) {a0 : Nat} {σ : zS} (h : P_M_init n a0 σ Q) : zM l y_M_init prog_9_method_1_code 1 (none) 2 16 4322 (zA base) D cA base 184 200 ex [.ref a0] σ (zqv Q) :=
  zMet (by decide) rfl (Nat.le_of_ble_eq_true rfl) (fun p e s m args below meth c hr hnm => w_M_init hr hex hnm h)
def P_F_init_i24 (n : Nat) (Q : zS → Prop) (a0 : Nat) (σ : zS) : Prop := Q σ
set_option maxHeartbeats 1000000 in
set_option maxRecDepth 10000 in
theorem w_F_init_i24 {Q : zS → Prop} (hr : meth.sig.returnType = none) (hex : ex = true) (hnm : meth.name = "<init>") {a0 : Nat} {σ : zS} (h : P_F_init_i24 n Q a0 σ) : zG p l e (zrm 3 156 1027) s m args below meth c (MQ below (zQc (zA base) D cA base (n + 156) ex (zqv Q)) args s 156 1027 (zA base)) s.heap (zA base) base D cA 2 ex prog_2_method_1_code "ConstantFlow$Facts" (n + 156) 156 1027 78 [some (.ref a0), some (.int (24 : Int32))] [] σ := by
  unfold P_F_init_i24 at h
  refine zw_iload_n d_F_init_78 rfl rfl ?_
  refine zw_bipush (v := 24) d_F_init_79 rfl ?_
  refine zw_icmp_ge (tgt := 116) d_F_init_81 rfl (fun hc => ?_) (fun hc => absurd (by decide) hc)
  exact zw_vret d_F_init_116 hr h
def P_F_init_i23 (n : Nat) (Q : zS → Prop) (a0 : Nat) (σ : zS) : Prop := zk (n + 150) a0 3 ∧ ∃ c2, zr σ a0 2 = some c2 ∧ zkd (n + 150) = (4, 0) ∧ P_V_init (n + 151) (n + 150) (zN σ (n + 150)) (fun σ6 => za (n + 153) c2 13 (23 : Int32) ∧ zk (n + 153) (n + 150) 4 ∧ zk (n + 153) a0 3 ∧ ∃ c10, zr (zR σ6 c2 (23 : Int32).toNatClampNeg (some (n + 150))) a0 3 = some c10 ∧ zkd (n + 153) = (4, 0) ∧ P_V_init (n + 154) (n + 153) (zN (zR σ6 c2 (23 : Int32).toNatClampNeg (some (n + 150))) (n + 153)) (fun σ14 => za (n + 156) c10 13 (23 : Int32) ∧ zk (n + 156) (n + 153) 4 ∧ P_F_init_i24 n Q a0 (zR σ14 c10 (23 : Int32).toNatClampNeg (some (n + 153)))))
set_option maxHeartbeats 1000000 in
set_option maxRecDepth 10000 in
theorem w_F_init_i23 {Q : zS → Prop} (hr : meth.sig.returnType = none) (hex : ex = true) (hnm : meth.name = "<init>") {a0 : Nat} {σ : zS} (h : P_F_init_i23 n Q a0 σ) : zG p l e (zrm 3 156 1027) s m args below meth c (MQ below (zQc (zA base) D cA base (n + 156) ex (zqv Q)) args s 156 1027 (zA base)) s.heap (zA base) base D cA 2 ex prog_2_method_1_code "ConstantFlow$Facts" (n + 150) 150 991 78 [some (.ref a0), some (.int (23 : Int32))] [] σ := by
  unfold P_F_init_i23 at h
  refine zw_iload_n d_F_init_78 rfl rfl ?_
  refine zw_bipush (v := 24) d_F_init_79 rfl ?_
  refine zw_icmp_ge (tgt := 116) d_F_init_81 rfl (fun hc => absurd hc (by decide)) (fun hc => ?_)
  refine zw_aload_n d_F_init_84 rfl rfl ?_
  obtain ⟨q1, h⟩ := h
  obtain ⟨c2, q3, h⟩ := h
  refine zw_gfr (ci := 3) (j := 2) d_F_init_85 mw_1_98 q1.1 q1.2 (by decide) (by decide) rfl q3 ?_
  refine zw_iload_n d_F_init_88 rfl rfl ?_
  obtain ⟨q4, h⟩ := h
  refine zw_new (ci := 4) d_F_init_89 mw_1_78 mw_1_80 mw_1_5 (by decide) q4 hex (Nat.le_of_ble_eq_true rfl) (Nat.le_of_ble_eq_true rfl) ?_
  refine zw_dup d_F_init_92 rfl ?_
  refine zw_callIN (b := n + 150) (As := []) (r := [.ref (n + 150), .int (23 : Int32), .ref c2]) d_F_init_93 (c_V_init hex h) mw_1_81 mw_1_82 mw_1_5 mw_1_83 rfl hyS_V_init (Nat.le_of_ble_eq_true rfl) (Nat.le_of_ble_eq_true rfl) ⟨(Nat.le_of_ble_eq_true rfl), (Nat.le_of_ble_eq_true rfl)⟩ (Nat.le_of_ble_eq_true rfl) rfl (zk_v (fun σ6 h => ?_))
  obtain ⟨q7, h⟩ := h
  obtain ⟨q8, h⟩ := h
  refine zw_aast d_F_init_96 q7.1 (zkd_eta q7.2.1) q7.2.2 q8.1 q8.2 ?_
  refine zw_aload_n d_F_init_97 rfl rfl ?_
  obtain ⟨q9, h⟩ := h
  obtain ⟨c10, q11, h⟩ := h
  refine zw_gfr (ci := 3) (j := 3) d_F_init_98 mw_1_99 q9.1 q9.2 (by decide) (by decide) rfl q11 ?_
  refine zw_iload_n d_F_init_101 rfl rfl ?_
  obtain ⟨q12, h⟩ := h
  refine zw_new (ci := 4) d_F_init_102 mw_1_78 mw_1_80 mw_1_5 (by decide) q12 hex (Nat.le_of_ble_eq_true rfl) (Nat.le_of_ble_eq_true rfl) ?_
  refine zw_dup d_F_init_105 rfl ?_
  refine zw_callIN (b := n + 153) (As := []) (r := [.ref (n + 153), .int (23 : Int32), .ref c10]) d_F_init_106 (c_V_init hex h) mw_1_81 mw_1_82 mw_1_5 mw_1_83 rfl hyS_V_init (Nat.le_of_ble_eq_true rfl) (Nat.le_of_ble_eq_true rfl) ⟨(Nat.le_of_ble_eq_true rfl), (Nat.le_of_ble_eq_true rfl)⟩ (Nat.le_of_ble_eq_true rfl) rfl (zk_v (fun σ14 h => ?_))
  obtain ⟨q15, h⟩ := h
  obtain ⟨q16, h⟩ := h
  refine zw_aast d_F_init_109 q15.1 (zkd_eta q15.2.1) q15.2.2 q16.1 q16.2 ?_
  refine zw_iinc (v := (24 : Int32)) d_F_init_110 rfl rfl (Nat.le_of_ble_eq_true rfl) rfl rfl ?_
  refine zw_goto (tgt := 78) d_F_init_113 rfl ?_
  exact w_F_init_i24 hr hex hnm h
def P_F_init_i22 (n : Nat) (Q : zS → Prop) (a0 : Nat) (σ : zS) : Prop := zk (n + 144) a0 3 ∧ ∃ c2, zr σ a0 2 = some c2 ∧ zkd (n + 144) = (4, 0) ∧ P_V_init (n + 145) (n + 144) (zN σ (n + 144)) (fun σ6 => za (n + 147) c2 13 (22 : Int32) ∧ zk (n + 147) (n + 144) 4 ∧ zk (n + 147) a0 3 ∧ ∃ c10, zr (zR σ6 c2 (22 : Int32).toNatClampNeg (some (n + 144))) a0 3 = some c10 ∧ zkd (n + 147) = (4, 0) ∧ P_V_init (n + 148) (n + 147) (zN (zR σ6 c2 (22 : Int32).toNatClampNeg (some (n + 144))) (n + 147)) (fun σ14 => za (n + 150) c10 13 (22 : Int32) ∧ zk (n + 150) (n + 147) 4 ∧ P_F_init_i23 n Q a0 (zR σ14 c10 (22 : Int32).toNatClampNeg (some (n + 147)))))
set_option maxHeartbeats 1000000 in
set_option maxRecDepth 10000 in
theorem w_F_init_i22 {Q : zS → Prop} (hr : meth.sig.returnType = none) (hex : ex = true) (hnm : meth.name = "<init>") {a0 : Nat} {σ : zS} (h : P_F_init_i22 n Q a0 σ) : zG p l e (zrm 3 156 1027) s m args below meth c (MQ below (zQc (zA base) D cA base (n + 156) ex (zqv Q)) args s 156 1027 (zA base)) s.heap (zA base) base D cA 2 ex prog_2_method_1_code "ConstantFlow$Facts" (n + 144) 144 955 78 [some (.ref a0), some (.int (22 : Int32))] [] σ := by
  unfold P_F_init_i22 at h
  refine zw_iload_n d_F_init_78 rfl rfl ?_
  refine zw_bipush (v := 24) d_F_init_79 rfl ?_
  refine zw_icmp_ge (tgt := 116) d_F_init_81 rfl (fun hc => absurd hc (by decide)) (fun hc => ?_)
  refine zw_aload_n d_F_init_84 rfl rfl ?_
  obtain ⟨q1, h⟩ := h
  obtain ⟨c2, q3, h⟩ := h
  refine zw_gfr (ci := 3) (j := 2) d_F_init_85 mw_1_98 q1.1 q1.2 (by decide) (by decide) rfl q3 ?_
  refine zw_iload_n d_F_init_88 rfl rfl ?_
  obtain ⟨q4, h⟩ := h
  refine zw_new (ci := 4) d_F_init_89 mw_1_78 mw_1_80 mw_1_5 (by decide) q4 hex (Nat.le_of_ble_eq_true rfl) (Nat.le_of_ble_eq_true rfl) ?_
  refine zw_dup d_F_init_92 rfl ?_
  refine zw_callIN (b := n + 144) (As := []) (r := [.ref (n + 144), .int (22 : Int32), .ref c2]) d_F_init_93 (c_V_init hex h) mw_1_81 mw_1_82 mw_1_5 mw_1_83 rfl hyS_V_init (Nat.le_of_ble_eq_true rfl) (Nat.le_of_ble_eq_true rfl) ⟨(Nat.le_of_ble_eq_true rfl), (Nat.le_of_ble_eq_true rfl)⟩ (Nat.le_of_ble_eq_true rfl) rfl (zk_v (fun σ6 h => ?_))
  obtain ⟨q7, h⟩ := h
  obtain ⟨q8, h⟩ := h
  refine zw_aast d_F_init_96 q7.1 (zkd_eta q7.2.1) q7.2.2 q8.1 q8.2 ?_
  refine zw_aload_n d_F_init_97 rfl rfl ?_
  obtain ⟨q9, h⟩ := h
  obtain ⟨c10, q11, h⟩ := h
  refine zw_gfr (ci := 3) (j := 3) d_F_init_98 mw_1_99 q9.1 q9.2 (by decide) (by decide) rfl q11 ?_
  refine zw_iload_n d_F_init_101 rfl rfl ?_
  obtain ⟨q12, h⟩ := h
  refine zw_new (ci := 4) d_F_init_102 mw_1_78 mw_1_80 mw_1_5 (by decide) q12 hex (Nat.le_of_ble_eq_true rfl) (Nat.le_of_ble_eq_true rfl) ?_
  refine zw_dup d_F_init_105 rfl ?_
  refine zw_callIN (b := n + 147) (As := []) (r := [.ref (n + 147), .int (22 : Int32), .ref c10]) d_F_init_106 (c_V_init hex h) mw_1_81 mw_1_82 mw_1_5 mw_1_83 rfl hyS_V_init (Nat.le_of_ble_eq_true rfl) (Nat.le_of_ble_eq_true rfl) ⟨(Nat.le_of_ble_eq_true rfl), (Nat.le_of_ble_eq_true rfl)⟩ (Nat.le_of_ble_eq_true rfl) rfl (zk_v (fun σ14 h => ?_))
  obtain ⟨q15, h⟩ := h
  obtain ⟨q16, h⟩ := h
  refine zw_aast d_F_init_109 q15.1 (zkd_eta q15.2.1) q15.2.2 q16.1 q16.2 ?_
  refine zw_iinc (v := (23 : Int32)) d_F_init_110 rfl rfl (Nat.le_of_ble_eq_true rfl) rfl rfl ?_
  refine zw_goto (tgt := 78) d_F_init_113 rfl ?_
  exact w_F_init_i23 hr hex hnm h
def P_F_init_i21 (n : Nat) (Q : zS → Prop) (a0 : Nat) (σ : zS) : Prop := zk (n + 138) a0 3 ∧ ∃ c2, zr σ a0 2 = some c2 ∧ zkd (n + 138) = (4, 0) ∧ P_V_init (n + 139) (n + 138) (zN σ (n + 138)) (fun σ6 => za (n + 141) c2 13 (21 : Int32) ∧ zk (n + 141) (n + 138) 4 ∧ zk (n + 141) a0 3 ∧ ∃ c10, zr (zR σ6 c2 (21 : Int32).toNatClampNeg (some (n + 138))) a0 3 = some c10 ∧ zkd (n + 141) = (4, 0) ∧ P_V_init (n + 142) (n + 141) (zN (zR σ6 c2 (21 : Int32).toNatClampNeg (some (n + 138))) (n + 141)) (fun σ14 => za (n + 144) c10 13 (21 : Int32) ∧ zk (n + 144) (n + 141) 4 ∧ P_F_init_i22 n Q a0 (zR σ14 c10 (21 : Int32).toNatClampNeg (some (n + 141)))))
set_option maxHeartbeats 1000000 in
set_option maxRecDepth 10000 in
theorem w_F_init_i21 {Q : zS → Prop} (hr : meth.sig.returnType = none) (hex : ex = true) (hnm : meth.name = "<init>") {a0 : Nat} {σ : zS} (h : P_F_init_i21 n Q a0 σ) : zG p l e (zrm 3 156 1027) s m args below meth c (MQ below (zQc (zA base) D cA base (n + 156) ex (zqv Q)) args s 156 1027 (zA base)) s.heap (zA base) base D cA 2 ex prog_2_method_1_code "ConstantFlow$Facts" (n + 138) 138 919 78 [some (.ref a0), some (.int (21 : Int32))] [] σ := by
  unfold P_F_init_i21 at h
  refine zw_iload_n d_F_init_78 rfl rfl ?_
  refine zw_bipush (v := 24) d_F_init_79 rfl ?_
  refine zw_icmp_ge (tgt := 116) d_F_init_81 rfl (fun hc => absurd hc (by decide)) (fun hc => ?_)
  refine zw_aload_n d_F_init_84 rfl rfl ?_
  obtain ⟨q1, h⟩ := h
  obtain ⟨c2, q3, h⟩ := h
  refine zw_gfr (ci := 3) (j := 2) d_F_init_85 mw_1_98 q1.1 q1.2 (by decide) (by decide) rfl q3 ?_
  refine zw_iload_n d_F_init_88 rfl rfl ?_
  obtain ⟨q4, h⟩ := h
  refine zw_new (ci := 4) d_F_init_89 mw_1_78 mw_1_80 mw_1_5 (by decide) q4 hex (Nat.le_of_ble_eq_true rfl) (Nat.le_of_ble_eq_true rfl) ?_
  refine zw_dup d_F_init_92 rfl ?_
  refine zw_callIN (b := n + 138) (As := []) (r := [.ref (n + 138), .int (21 : Int32), .ref c2]) d_F_init_93 (c_V_init hex h) mw_1_81 mw_1_82 mw_1_5 mw_1_83 rfl hyS_V_init (Nat.le_of_ble_eq_true rfl) (Nat.le_of_ble_eq_true rfl) ⟨(Nat.le_of_ble_eq_true rfl), (Nat.le_of_ble_eq_true rfl)⟩ (Nat.le_of_ble_eq_true rfl) rfl (zk_v (fun σ6 h => ?_))
  obtain ⟨q7, h⟩ := h
  obtain ⟨q8, h⟩ := h
  refine zw_aast d_F_init_96 q7.1 (zkd_eta q7.2.1) q7.2.2 q8.1 q8.2 ?_
  refine zw_aload_n d_F_init_97 rfl rfl ?_
  obtain ⟨q9, h⟩ := h
  obtain ⟨c10, q11, h⟩ := h
  refine zw_gfr (ci := 3) (j := 3) d_F_init_98 mw_1_99 q9.1 q9.2 (by decide) (by decide) rfl q11 ?_
  refine zw_iload_n d_F_init_101 rfl rfl ?_
  obtain ⟨q12, h⟩ := h
  refine zw_new (ci := 4) d_F_init_102 mw_1_78 mw_1_80 mw_1_5 (by decide) q12 hex (Nat.le_of_ble_eq_true rfl) (Nat.le_of_ble_eq_true rfl) ?_
  refine zw_dup d_F_init_105 rfl ?_
  refine zw_callIN (b := n + 141) (As := []) (r := [.ref (n + 141), .int (21 : Int32), .ref c10]) d_F_init_106 (c_V_init hex h) mw_1_81 mw_1_82 mw_1_5 mw_1_83 rfl hyS_V_init (Nat.le_of_ble_eq_true rfl) (Nat.le_of_ble_eq_true rfl) ⟨(Nat.le_of_ble_eq_true rfl), (Nat.le_of_ble_eq_true rfl)⟩ (Nat.le_of_ble_eq_true rfl) rfl (zk_v (fun σ14 h => ?_))
  obtain ⟨q15, h⟩ := h
  obtain ⟨q16, h⟩ := h
  refine zw_aast d_F_init_109 q15.1 (zkd_eta q15.2.1) q15.2.2 q16.1 q16.2 ?_
  refine zw_iinc (v := (22 : Int32)) d_F_init_110 rfl rfl (Nat.le_of_ble_eq_true rfl) rfl rfl ?_
  refine zw_goto (tgt := 78) d_F_init_113 rfl ?_
  exact w_F_init_i22 hr hex hnm h
def P_F_init_i20 (n : Nat) (Q : zS → Prop) (a0 : Nat) (σ : zS) : Prop := zk (n + 132) a0 3 ∧ ∃ c2, zr σ a0 2 = some c2 ∧ zkd (n + 132) = (4, 0) ∧ P_V_init (n + 133) (n + 132) (zN σ (n + 132)) (fun σ6 => za (n + 135) c2 13 (20 : Int32) ∧ zk (n + 135) (n + 132) 4 ∧ zk (n + 135) a0 3 ∧ ∃ c10, zr (zR σ6 c2 (20 : Int32).toNatClampNeg (some (n + 132))) a0 3 = some c10 ∧ zkd (n + 135) = (4, 0) ∧ P_V_init (n + 136) (n + 135) (zN (zR σ6 c2 (20 : Int32).toNatClampNeg (some (n + 132))) (n + 135)) (fun σ14 => za (n + 138) c10 13 (20 : Int32) ∧ zk (n + 138) (n + 135) 4 ∧ P_F_init_i21 n Q a0 (zR σ14 c10 (20 : Int32).toNatClampNeg (some (n + 135)))))
set_option maxHeartbeats 1000000 in
set_option maxRecDepth 10000 in
theorem w_F_init_i20 {Q : zS → Prop} (hr : meth.sig.returnType = none) (hex : ex = true) (hnm : meth.name = "<init>") {a0 : Nat} {σ : zS} (h : P_F_init_i20 n Q a0 σ) : zG p l e (zrm 3 156 1027) s m args below meth c (MQ below (zQc (zA base) D cA base (n + 156) ex (zqv Q)) args s 156 1027 (zA base)) s.heap (zA base) base D cA 2 ex prog_2_method_1_code "ConstantFlow$Facts" (n + 132) 132 883 78 [some (.ref a0), some (.int (20 : Int32))] [] σ := by
  unfold P_F_init_i20 at h
  refine zw_iload_n d_F_init_78 rfl rfl ?_
  refine zw_bipush (v := 24) d_F_init_79 rfl ?_
  refine zw_icmp_ge (tgt := 116) d_F_init_81 rfl (fun hc => absurd hc (by decide)) (fun hc => ?_)
  refine zw_aload_n d_F_init_84 rfl rfl ?_
  obtain ⟨q1, h⟩ := h
  obtain ⟨c2, q3, h⟩ := h
  refine zw_gfr (ci := 3) (j := 2) d_F_init_85 mw_1_98 q1.1 q1.2 (by decide) (by decide) rfl q3 ?_
  refine zw_iload_n d_F_init_88 rfl rfl ?_
  obtain ⟨q4, h⟩ := h
  refine zw_new (ci := 4) d_F_init_89 mw_1_78 mw_1_80 mw_1_5 (by decide) q4 hex (Nat.le_of_ble_eq_true rfl) (Nat.le_of_ble_eq_true rfl) ?_
  refine zw_dup d_F_init_92 rfl ?_
  refine zw_callIN (b := n + 132) (As := []) (r := [.ref (n + 132), .int (20 : Int32), .ref c2]) d_F_init_93 (c_V_init hex h) mw_1_81 mw_1_82 mw_1_5 mw_1_83 rfl hyS_V_init (Nat.le_of_ble_eq_true rfl) (Nat.le_of_ble_eq_true rfl) ⟨(Nat.le_of_ble_eq_true rfl), (Nat.le_of_ble_eq_true rfl)⟩ (Nat.le_of_ble_eq_true rfl) rfl (zk_v (fun σ6 h => ?_))
  obtain ⟨q7, h⟩ := h
  obtain ⟨q8, h⟩ := h
  refine zw_aast d_F_init_96 q7.1 (zkd_eta q7.2.1) q7.2.2 q8.1 q8.2 ?_
  refine zw_aload_n d_F_init_97 rfl rfl ?_
  obtain ⟨q9, h⟩ := h
  obtain ⟨c10, q11, h⟩ := h
  refine zw_gfr (ci := 3) (j := 3) d_F_init_98 mw_1_99 q9.1 q9.2 (by decide) (by decide) rfl q11 ?_
  refine zw_iload_n d_F_init_101 rfl rfl ?_
  obtain ⟨q12, h⟩ := h
  refine zw_new (ci := 4) d_F_init_102 mw_1_78 mw_1_80 mw_1_5 (by decide) q12 hex (Nat.le_of_ble_eq_true rfl) (Nat.le_of_ble_eq_true rfl) ?_
  refine zw_dup d_F_init_105 rfl ?_
  refine zw_callIN (b := n + 135) (As := []) (r := [.ref (n + 135), .int (20 : Int32), .ref c10]) d_F_init_106 (c_V_init hex h) mw_1_81 mw_1_82 mw_1_5 mw_1_83 rfl hyS_V_init (Nat.le_of_ble_eq_true rfl) (Nat.le_of_ble_eq_true rfl) ⟨(Nat.le_of_ble_eq_true rfl), (Nat.le_of_ble_eq_true rfl)⟩ (Nat.le_of_ble_eq_true rfl) rfl (zk_v (fun σ14 h => ?_))
  obtain ⟨q15, h⟩ := h
  obtain ⟨q16, h⟩ := h
  refine zw_aast d_F_init_109 q15.1 (zkd_eta q15.2.1) q15.2.2 q16.1 q16.2 ?_
  refine zw_iinc (v := (21 : Int32)) d_F_init_110 rfl rfl (Nat.le_of_ble_eq_true rfl) rfl rfl ?_
  refine zw_goto (tgt := 78) d_F_init_113 rfl ?_
  exact w_F_init_i21 hr hex hnm h
def P_F_init_i19 (n : Nat) (Q : zS → Prop) (a0 : Nat) (σ : zS) : Prop := zk (n + 126) a0 3 ∧ ∃ c2, zr σ a0 2 = some c2 ∧ zkd (n + 126) = (4, 0) ∧ P_V_init (n + 127) (n + 126) (zN σ (n + 126)) (fun σ6 => za (n + 129) c2 13 (19 : Int32) ∧ zk (n + 129) (n + 126) 4 ∧ zk (n + 129) a0 3 ∧ ∃ c10, zr (zR σ6 c2 (19 : Int32).toNatClampNeg (some (n + 126))) a0 3 = some c10 ∧ zkd (n + 129) = (4, 0) ∧ P_V_init (n + 130) (n + 129) (zN (zR σ6 c2 (19 : Int32).toNatClampNeg (some (n + 126))) (n + 129)) (fun σ14 => za (n + 132) c10 13 (19 : Int32) ∧ zk (n + 132) (n + 129) 4 ∧ P_F_init_i20 n Q a0 (zR σ14 c10 (19 : Int32).toNatClampNeg (some (n + 129)))))
set_option maxHeartbeats 1000000 in
set_option maxRecDepth 10000 in
theorem w_F_init_i19 {Q : zS → Prop} (hr : meth.sig.returnType = none) (hex : ex = true) (hnm : meth.name = "<init>") {a0 : Nat} {σ : zS} (h : P_F_init_i19 n Q a0 σ) : zG p l e (zrm 3 156 1027) s m args below meth c (MQ below (zQc (zA base) D cA base (n + 156) ex (zqv Q)) args s 156 1027 (zA base)) s.heap (zA base) base D cA 2 ex prog_2_method_1_code "ConstantFlow$Facts" (n + 126) 126 847 78 [some (.ref a0), some (.int (19 : Int32))] [] σ := by
  unfold P_F_init_i19 at h
  refine zw_iload_n d_F_init_78 rfl rfl ?_
  refine zw_bipush (v := 24) d_F_init_79 rfl ?_
  refine zw_icmp_ge (tgt := 116) d_F_init_81 rfl (fun hc => absurd hc (by decide)) (fun hc => ?_)
  refine zw_aload_n d_F_init_84 rfl rfl ?_
  obtain ⟨q1, h⟩ := h
  obtain ⟨c2, q3, h⟩ := h
  refine zw_gfr (ci := 3) (j := 2) d_F_init_85 mw_1_98 q1.1 q1.2 (by decide) (by decide) rfl q3 ?_
  refine zw_iload_n d_F_init_88 rfl rfl ?_
  obtain ⟨q4, h⟩ := h
  refine zw_new (ci := 4) d_F_init_89 mw_1_78 mw_1_80 mw_1_5 (by decide) q4 hex (Nat.le_of_ble_eq_true rfl) (Nat.le_of_ble_eq_true rfl) ?_
  refine zw_dup d_F_init_92 rfl ?_
  refine zw_callIN (b := n + 126) (As := []) (r := [.ref (n + 126), .int (19 : Int32), .ref c2]) d_F_init_93 (c_V_init hex h) mw_1_81 mw_1_82 mw_1_5 mw_1_83 rfl hyS_V_init (Nat.le_of_ble_eq_true rfl) (Nat.le_of_ble_eq_true rfl) ⟨(Nat.le_of_ble_eq_true rfl), (Nat.le_of_ble_eq_true rfl)⟩ (Nat.le_of_ble_eq_true rfl) rfl (zk_v (fun σ6 h => ?_))
  obtain ⟨q7, h⟩ := h
  obtain ⟨q8, h⟩ := h
  refine zw_aast d_F_init_96 q7.1 (zkd_eta q7.2.1) q7.2.2 q8.1 q8.2 ?_
  refine zw_aload_n d_F_init_97 rfl rfl ?_
  obtain ⟨q9, h⟩ := h
  obtain ⟨c10, q11, h⟩ := h
  refine zw_gfr (ci := 3) (j := 3) d_F_init_98 mw_1_99 q9.1 q9.2 (by decide) (by decide) rfl q11 ?_
  refine zw_iload_n d_F_init_101 rfl rfl ?_
  obtain ⟨q12, h⟩ := h
  refine zw_new (ci := 4) d_F_init_102 mw_1_78 mw_1_80 mw_1_5 (by decide) q12 hex (Nat.le_of_ble_eq_true rfl) (Nat.le_of_ble_eq_true rfl) ?_
  refine zw_dup d_F_init_105 rfl ?_
  refine zw_callIN (b := n + 129) (As := []) (r := [.ref (n + 129), .int (19 : Int32), .ref c10]) d_F_init_106 (c_V_init hex h) mw_1_81 mw_1_82 mw_1_5 mw_1_83 rfl hyS_V_init (Nat.le_of_ble_eq_true rfl) (Nat.le_of_ble_eq_true rfl) ⟨(Nat.le_of_ble_eq_true rfl), (Nat.le_of_ble_eq_true rfl)⟩ (Nat.le_of_ble_eq_true rfl) rfl (zk_v (fun σ14 h => ?_))
  obtain ⟨q15, h⟩ := h
  obtain ⟨q16, h⟩ := h
  refine zw_aast d_F_init_109 q15.1 (zkd_eta q15.2.1) q15.2.2 q16.1 q16.2 ?_
  refine zw_iinc (v := (20 : Int32)) d_F_init_110 rfl rfl (Nat.le_of_ble_eq_true rfl) rfl rfl ?_
  refine zw_goto (tgt := 78) d_F_init_113 rfl ?_
  exact w_F_init_i20 hr hex hnm h
def P_F_init_i18 (n : Nat) (Q : zS → Prop) (a0 : Nat) (σ : zS) : Prop := zk (n + 120) a0 3 ∧ ∃ c2, zr σ a0 2 = some c2 ∧ zkd (n + 120) = (4, 0) ∧ P_V_init (n + 121) (n + 120) (zN σ (n + 120)) (fun σ6 => za (n + 123) c2 13 (18 : Int32) ∧ zk (n + 123) (n + 120) 4 ∧ zk (n + 123) a0 3 ∧ ∃ c10, zr (zR σ6 c2 (18 : Int32).toNatClampNeg (some (n + 120))) a0 3 = some c10 ∧ zkd (n + 123) = (4, 0) ∧ P_V_init (n + 124) (n + 123) (zN (zR σ6 c2 (18 : Int32).toNatClampNeg (some (n + 120))) (n + 123)) (fun σ14 => za (n + 126) c10 13 (18 : Int32) ∧ zk (n + 126) (n + 123) 4 ∧ P_F_init_i19 n Q a0 (zR σ14 c10 (18 : Int32).toNatClampNeg (some (n + 123)))))
set_option maxHeartbeats 1000000 in
set_option maxRecDepth 10000 in
theorem w_F_init_i18 {Q : zS → Prop} (hr : meth.sig.returnType = none) (hex : ex = true) (hnm : meth.name = "<init>") {a0 : Nat} {σ : zS} (h : P_F_init_i18 n Q a0 σ) : zG p l e (zrm 3 156 1027) s m args below meth c (MQ below (zQc (zA base) D cA base (n + 156) ex (zqv Q)) args s 156 1027 (zA base)) s.heap (zA base) base D cA 2 ex prog_2_method_1_code "ConstantFlow$Facts" (n + 120) 120 811 78 [some (.ref a0), some (.int (18 : Int32))] [] σ := by
  unfold P_F_init_i18 at h
  refine zw_iload_n d_F_init_78 rfl rfl ?_
  refine zw_bipush (v := 24) d_F_init_79 rfl ?_
  refine zw_icmp_ge (tgt := 116) d_F_init_81 rfl (fun hc => absurd hc (by decide)) (fun hc => ?_)
  refine zw_aload_n d_F_init_84 rfl rfl ?_
  obtain ⟨q1, h⟩ := h
  obtain ⟨c2, q3, h⟩ := h
  refine zw_gfr (ci := 3) (j := 2) d_F_init_85 mw_1_98 q1.1 q1.2 (by decide) (by decide) rfl q3 ?_
  refine zw_iload_n d_F_init_88 rfl rfl ?_
  obtain ⟨q4, h⟩ := h
  refine zw_new (ci := 4) d_F_init_89 mw_1_78 mw_1_80 mw_1_5 (by decide) q4 hex (Nat.le_of_ble_eq_true rfl) (Nat.le_of_ble_eq_true rfl) ?_
  refine zw_dup d_F_init_92 rfl ?_
  refine zw_callIN (b := n + 120) (As := []) (r := [.ref (n + 120), .int (18 : Int32), .ref c2]) d_F_init_93 (c_V_init hex h) mw_1_81 mw_1_82 mw_1_5 mw_1_83 rfl hyS_V_init (Nat.le_of_ble_eq_true rfl) (Nat.le_of_ble_eq_true rfl) ⟨(Nat.le_of_ble_eq_true rfl), (Nat.le_of_ble_eq_true rfl)⟩ (Nat.le_of_ble_eq_true rfl) rfl (zk_v (fun σ6 h => ?_))
  obtain ⟨q7, h⟩ := h
  obtain ⟨q8, h⟩ := h
  refine zw_aast d_F_init_96 q7.1 (zkd_eta q7.2.1) q7.2.2 q8.1 q8.2 ?_
  refine zw_aload_n d_F_init_97 rfl rfl ?_
  obtain ⟨q9, h⟩ := h
  obtain ⟨c10, q11, h⟩ := h
  refine zw_gfr (ci := 3) (j := 3) d_F_init_98 mw_1_99 q9.1 q9.2 (by decide) (by decide) rfl q11 ?_
  refine zw_iload_n d_F_init_101 rfl rfl ?_
  obtain ⟨q12, h⟩ := h
  refine zw_new (ci := 4) d_F_init_102 mw_1_78 mw_1_80 mw_1_5 (by decide) q12 hex (Nat.le_of_ble_eq_true rfl) (Nat.le_of_ble_eq_true rfl) ?_
  refine zw_dup d_F_init_105 rfl ?_
  refine zw_callIN (b := n + 123) (As := []) (r := [.ref (n + 123), .int (18 : Int32), .ref c10]) d_F_init_106 (c_V_init hex h) mw_1_81 mw_1_82 mw_1_5 mw_1_83 rfl hyS_V_init (Nat.le_of_ble_eq_true rfl) (Nat.le_of_ble_eq_true rfl) ⟨(Nat.le_of_ble_eq_true rfl), (Nat.le_of_ble_eq_true rfl)⟩ (Nat.le_of_ble_eq_true rfl) rfl (zk_v (fun σ14 h => ?_))
  obtain ⟨q15, h⟩ := h
  obtain ⟨q16, h⟩ := h
  refine zw_aast d_F_init_109 q15.1 (zkd_eta q15.2.1) q15.2.2 q16.1 q16.2 ?_
  refine zw_iinc (v := (19 : Int32)) d_F_init_110 rfl rfl (Nat.le_of_ble_eq_true rfl) rfl rfl ?_
  refine zw_goto (tgt := 78) d_F_init_113 rfl ?_
  exact w_F_init_i19 hr hex hnm h
def P_F_init_i17 (n : Nat) (Q : zS → Prop) (a0 : Nat) (σ : zS) : Prop := zk (n + 114) a0 3 ∧ ∃ c2, zr σ a0 2 = some c2 ∧ zkd (n + 114) = (4, 0) ∧ P_V_init (n + 115) (n + 114) (zN σ (n + 114)) (fun σ6 => za (n + 117) c2 13 (17 : Int32) ∧ zk (n + 117) (n + 114) 4 ∧ zk (n + 117) a0 3 ∧ ∃ c10, zr (zR σ6 c2 (17 : Int32).toNatClampNeg (some (n + 114))) a0 3 = some c10 ∧ zkd (n + 117) = (4, 0) ∧ P_V_init (n + 118) (n + 117) (zN (zR σ6 c2 (17 : Int32).toNatClampNeg (some (n + 114))) (n + 117)) (fun σ14 => za (n + 120) c10 13 (17 : Int32) ∧ zk (n + 120) (n + 117) 4 ∧ P_F_init_i18 n Q a0 (zR σ14 c10 (17 : Int32).toNatClampNeg (some (n + 117)))))
set_option maxHeartbeats 1000000 in
set_option maxRecDepth 10000 in
theorem w_F_init_i17 {Q : zS → Prop} (hr : meth.sig.returnType = none) (hex : ex = true) (hnm : meth.name = "<init>") {a0 : Nat} {σ : zS} (h : P_F_init_i17 n Q a0 σ) : zG p l e (zrm 3 156 1027) s m args below meth c (MQ below (zQc (zA base) D cA base (n + 156) ex (zqv Q)) args s 156 1027 (zA base)) s.heap (zA base) base D cA 2 ex prog_2_method_1_code "ConstantFlow$Facts" (n + 114) 114 775 78 [some (.ref a0), some (.int (17 : Int32))] [] σ := by
  unfold P_F_init_i17 at h
  refine zw_iload_n d_F_init_78 rfl rfl ?_
  refine zw_bipush (v := 24) d_F_init_79 rfl ?_
  refine zw_icmp_ge (tgt := 116) d_F_init_81 rfl (fun hc => absurd hc (by decide)) (fun hc => ?_)
  refine zw_aload_n d_F_init_84 rfl rfl ?_
  obtain ⟨q1, h⟩ := h
  obtain ⟨c2, q3, h⟩ := h
  refine zw_gfr (ci := 3) (j := 2) d_F_init_85 mw_1_98 q1.1 q1.2 (by decide) (by decide) rfl q3 ?_
  refine zw_iload_n d_F_init_88 rfl rfl ?_
  obtain ⟨q4, h⟩ := h
  refine zw_new (ci := 4) d_F_init_89 mw_1_78 mw_1_80 mw_1_5 (by decide) q4 hex (Nat.le_of_ble_eq_true rfl) (Nat.le_of_ble_eq_true rfl) ?_
  refine zw_dup d_F_init_92 rfl ?_
  refine zw_callIN (b := n + 114) (As := []) (r := [.ref (n + 114), .int (17 : Int32), .ref c2]) d_F_init_93 (c_V_init hex h) mw_1_81 mw_1_82 mw_1_5 mw_1_83 rfl hyS_V_init (Nat.le_of_ble_eq_true rfl) (Nat.le_of_ble_eq_true rfl) ⟨(Nat.le_of_ble_eq_true rfl), (Nat.le_of_ble_eq_true rfl)⟩ (Nat.le_of_ble_eq_true rfl) rfl (zk_v (fun σ6 h => ?_))
  obtain ⟨q7, h⟩ := h
  obtain ⟨q8, h⟩ := h
  refine zw_aast d_F_init_96 q7.1 (zkd_eta q7.2.1) q7.2.2 q8.1 q8.2 ?_
  refine zw_aload_n d_F_init_97 rfl rfl ?_
  obtain ⟨q9, h⟩ := h
  obtain ⟨c10, q11, h⟩ := h
  refine zw_gfr (ci := 3) (j := 3) d_F_init_98 mw_1_99 q9.1 q9.2 (by decide) (by decide) rfl q11 ?_
  refine zw_iload_n d_F_init_101 rfl rfl ?_
  obtain ⟨q12, h⟩ := h
  refine zw_new (ci := 4) d_F_init_102 mw_1_78 mw_1_80 mw_1_5 (by decide) q12 hex (Nat.le_of_ble_eq_true rfl) (Nat.le_of_ble_eq_true rfl) ?_
  refine zw_dup d_F_init_105 rfl ?_
  refine zw_callIN (b := n + 117) (As := []) (r := [.ref (n + 117), .int (17 : Int32), .ref c10]) d_F_init_106 (c_V_init hex h) mw_1_81 mw_1_82 mw_1_5 mw_1_83 rfl hyS_V_init (Nat.le_of_ble_eq_true rfl) (Nat.le_of_ble_eq_true rfl) ⟨(Nat.le_of_ble_eq_true rfl), (Nat.le_of_ble_eq_true rfl)⟩ (Nat.le_of_ble_eq_true rfl) rfl (zk_v (fun σ14 h => ?_))
  obtain ⟨q15, h⟩ := h
  obtain ⟨q16, h⟩ := h
  refine zw_aast d_F_init_109 q15.1 (zkd_eta q15.2.1) q15.2.2 q16.1 q16.2 ?_
  refine zw_iinc (v := (18 : Int32)) d_F_init_110 rfl rfl (Nat.le_of_ble_eq_true rfl) rfl rfl ?_
  refine zw_goto (tgt := 78) d_F_init_113 rfl ?_
  exact w_F_init_i18 hr hex hnm h
def P_F_init_i16 (n : Nat) (Q : zS → Prop) (a0 : Nat) (σ : zS) : Prop := zk (n + 108) a0 3 ∧ ∃ c2, zr σ a0 2 = some c2 ∧ zkd (n + 108) = (4, 0) ∧ P_V_init (n + 109) (n + 108) (zN σ (n + 108)) (fun σ6 => za (n + 111) c2 13 (16 : Int32) ∧ zk (n + 111) (n + 108) 4 ∧ zk (n + 111) a0 3 ∧ ∃ c10, zr (zR σ6 c2 (16 : Int32).toNatClampNeg (some (n + 108))) a0 3 = some c10 ∧ zkd (n + 111) = (4, 0) ∧ P_V_init (n + 112) (n + 111) (zN (zR σ6 c2 (16 : Int32).toNatClampNeg (some (n + 108))) (n + 111)) (fun σ14 => za (n + 114) c10 13 (16 : Int32) ∧ zk (n + 114) (n + 111) 4 ∧ P_F_init_i17 n Q a0 (zR σ14 c10 (16 : Int32).toNatClampNeg (some (n + 111)))))
set_option maxHeartbeats 1000000 in
set_option maxRecDepth 10000 in
theorem w_F_init_i16 {Q : zS → Prop} (hr : meth.sig.returnType = none) (hex : ex = true) (hnm : meth.name = "<init>") {a0 : Nat} {σ : zS} (h : P_F_init_i16 n Q a0 σ) : zG p l e (zrm 3 156 1027) s m args below meth c (MQ below (zQc (zA base) D cA base (n + 156) ex (zqv Q)) args s 156 1027 (zA base)) s.heap (zA base) base D cA 2 ex prog_2_method_1_code "ConstantFlow$Facts" (n + 108) 108 739 78 [some (.ref a0), some (.int (16 : Int32))] [] σ := by
  unfold P_F_init_i16 at h
  refine zw_iload_n d_F_init_78 rfl rfl ?_
  refine zw_bipush (v := 24) d_F_init_79 rfl ?_
  refine zw_icmp_ge (tgt := 116) d_F_init_81 rfl (fun hc => absurd hc (by decide)) (fun hc => ?_)
  refine zw_aload_n d_F_init_84 rfl rfl ?_
  obtain ⟨q1, h⟩ := h
  obtain ⟨c2, q3, h⟩ := h
  refine zw_gfr (ci := 3) (j := 2) d_F_init_85 mw_1_98 q1.1 q1.2 (by decide) (by decide) rfl q3 ?_
  refine zw_iload_n d_F_init_88 rfl rfl ?_
  obtain ⟨q4, h⟩ := h
  refine zw_new (ci := 4) d_F_init_89 mw_1_78 mw_1_80 mw_1_5 (by decide) q4 hex (Nat.le_of_ble_eq_true rfl) (Nat.le_of_ble_eq_true rfl) ?_
  refine zw_dup d_F_init_92 rfl ?_
  refine zw_callIN (b := n + 108) (As := []) (r := [.ref (n + 108), .int (16 : Int32), .ref c2]) d_F_init_93 (c_V_init hex h) mw_1_81 mw_1_82 mw_1_5 mw_1_83 rfl hyS_V_init (Nat.le_of_ble_eq_true rfl) (Nat.le_of_ble_eq_true rfl) ⟨(Nat.le_of_ble_eq_true rfl), (Nat.le_of_ble_eq_true rfl)⟩ (Nat.le_of_ble_eq_true rfl) rfl (zk_v (fun σ6 h => ?_))
  obtain ⟨q7, h⟩ := h
  obtain ⟨q8, h⟩ := h
  refine zw_aast d_F_init_96 q7.1 (zkd_eta q7.2.1) q7.2.2 q8.1 q8.2 ?_
  refine zw_aload_n d_F_init_97 rfl rfl ?_
  obtain ⟨q9, h⟩ := h
  obtain ⟨c10, q11, h⟩ := h
  refine zw_gfr (ci := 3) (j := 3) d_F_init_98 mw_1_99 q9.1 q9.2 (by decide) (by decide) rfl q11 ?_
  refine zw_iload_n d_F_init_101 rfl rfl ?_
  obtain ⟨q12, h⟩ := h
  refine zw_new (ci := 4) d_F_init_102 mw_1_78 mw_1_80 mw_1_5 (by decide) q12 hex (Nat.le_of_ble_eq_true rfl) (Nat.le_of_ble_eq_true rfl) ?_
  refine zw_dup d_F_init_105 rfl ?_
  refine zw_callIN (b := n + 111) (As := []) (r := [.ref (n + 111), .int (16 : Int32), .ref c10]) d_F_init_106 (c_V_init hex h) mw_1_81 mw_1_82 mw_1_5 mw_1_83 rfl hyS_V_init (Nat.le_of_ble_eq_true rfl) (Nat.le_of_ble_eq_true rfl) ⟨(Nat.le_of_ble_eq_true rfl), (Nat.le_of_ble_eq_true rfl)⟩ (Nat.le_of_ble_eq_true rfl) rfl (zk_v (fun σ14 h => ?_))
  obtain ⟨q15, h⟩ := h
  obtain ⟨q16, h⟩ := h
  refine zw_aast d_F_init_109 q15.1 (zkd_eta q15.2.1) q15.2.2 q16.1 q16.2 ?_
  refine zw_iinc (v := (17 : Int32)) d_F_init_110 rfl rfl (Nat.le_of_ble_eq_true rfl) rfl rfl ?_
  refine zw_goto (tgt := 78) d_F_init_113 rfl ?_
  exact w_F_init_i17 hr hex hnm h
def P_F_init_i15 (n : Nat) (Q : zS → Prop) (a0 : Nat) (σ : zS) : Prop := zk (n + 102) a0 3 ∧ ∃ c2, zr σ a0 2 = some c2 ∧ zkd (n + 102) = (4, 0) ∧ P_V_init (n + 103) (n + 102) (zN σ (n + 102)) (fun σ6 => za (n + 105) c2 13 (15 : Int32) ∧ zk (n + 105) (n + 102) 4 ∧ zk (n + 105) a0 3 ∧ ∃ c10, zr (zR σ6 c2 (15 : Int32).toNatClampNeg (some (n + 102))) a0 3 = some c10 ∧ zkd (n + 105) = (4, 0) ∧ P_V_init (n + 106) (n + 105) (zN (zR σ6 c2 (15 : Int32).toNatClampNeg (some (n + 102))) (n + 105)) (fun σ14 => za (n + 108) c10 13 (15 : Int32) ∧ zk (n + 108) (n + 105) 4 ∧ P_F_init_i16 n Q a0 (zR σ14 c10 (15 : Int32).toNatClampNeg (some (n + 105)))))
set_option maxHeartbeats 1000000 in
set_option maxRecDepth 10000 in
theorem w_F_init_i15 {Q : zS → Prop} (hr : meth.sig.returnType = none) (hex : ex = true) (hnm : meth.name = "<init>") {a0 : Nat} {σ : zS} (h : P_F_init_i15 n Q a0 σ) : zG p l e (zrm 3 156 1027) s m args below meth c (MQ below (zQc (zA base) D cA base (n + 156) ex (zqv Q)) args s 156 1027 (zA base)) s.heap (zA base) base D cA 2 ex prog_2_method_1_code "ConstantFlow$Facts" (n + 102) 102 703 78 [some (.ref a0), some (.int (15 : Int32))] [] σ := by
  unfold P_F_init_i15 at h
  refine zw_iload_n d_F_init_78 rfl rfl ?_
  refine zw_bipush (v := 24) d_F_init_79 rfl ?_
  refine zw_icmp_ge (tgt := 116) d_F_init_81 rfl (fun hc => absurd hc (by decide)) (fun hc => ?_)
  refine zw_aload_n d_F_init_84 rfl rfl ?_
  obtain ⟨q1, h⟩ := h
  obtain ⟨c2, q3, h⟩ := h
  refine zw_gfr (ci := 3) (j := 2) d_F_init_85 mw_1_98 q1.1 q1.2 (by decide) (by decide) rfl q3 ?_
  refine zw_iload_n d_F_init_88 rfl rfl ?_
  obtain ⟨q4, h⟩ := h
  refine zw_new (ci := 4) d_F_init_89 mw_1_78 mw_1_80 mw_1_5 (by decide) q4 hex (Nat.le_of_ble_eq_true rfl) (Nat.le_of_ble_eq_true rfl) ?_
  refine zw_dup d_F_init_92 rfl ?_
  refine zw_callIN (b := n + 102) (As := []) (r := [.ref (n + 102), .int (15 : Int32), .ref c2]) d_F_init_93 (c_V_init hex h) mw_1_81 mw_1_82 mw_1_5 mw_1_83 rfl hyS_V_init (Nat.le_of_ble_eq_true rfl) (Nat.le_of_ble_eq_true rfl) ⟨(Nat.le_of_ble_eq_true rfl), (Nat.le_of_ble_eq_true rfl)⟩ (Nat.le_of_ble_eq_true rfl) rfl (zk_v (fun σ6 h => ?_))
  obtain ⟨q7, h⟩ := h
  obtain ⟨q8, h⟩ := h
  refine zw_aast d_F_init_96 q7.1 (zkd_eta q7.2.1) q7.2.2 q8.1 q8.2 ?_
  refine zw_aload_n d_F_init_97 rfl rfl ?_
  obtain ⟨q9, h⟩ := h
  obtain ⟨c10, q11, h⟩ := h
  refine zw_gfr (ci := 3) (j := 3) d_F_init_98 mw_1_99 q9.1 q9.2 (by decide) (by decide) rfl q11 ?_
  refine zw_iload_n d_F_init_101 rfl rfl ?_
  obtain ⟨q12, h⟩ := h
  refine zw_new (ci := 4) d_F_init_102 mw_1_78 mw_1_80 mw_1_5 (by decide) q12 hex (Nat.le_of_ble_eq_true rfl) (Nat.le_of_ble_eq_true rfl) ?_
  refine zw_dup d_F_init_105 rfl ?_
  refine zw_callIN (b := n + 105) (As := []) (r := [.ref (n + 105), .int (15 : Int32), .ref c10]) d_F_init_106 (c_V_init hex h) mw_1_81 mw_1_82 mw_1_5 mw_1_83 rfl hyS_V_init (Nat.le_of_ble_eq_true rfl) (Nat.le_of_ble_eq_true rfl) ⟨(Nat.le_of_ble_eq_true rfl), (Nat.le_of_ble_eq_true rfl)⟩ (Nat.le_of_ble_eq_true rfl) rfl (zk_v (fun σ14 h => ?_))
  obtain ⟨q15, h⟩ := h
  obtain ⟨q16, h⟩ := h
  refine zw_aast d_F_init_109 q15.1 (zkd_eta q15.2.1) q15.2.2 q16.1 q16.2 ?_
  refine zw_iinc (v := (16 : Int32)) d_F_init_110 rfl rfl (Nat.le_of_ble_eq_true rfl) rfl rfl ?_
  refine zw_goto (tgt := 78) d_F_init_113 rfl ?_
  exact w_F_init_i16 hr hex hnm h
def P_F_init_i14 (n : Nat) (Q : zS → Prop) (a0 : Nat) (σ : zS) : Prop := zk (n + 96) a0 3 ∧ ∃ c2, zr σ a0 2 = some c2 ∧ zkd (n + 96) = (4, 0) ∧ P_V_init (n + 97) (n + 96) (zN σ (n + 96)) (fun σ6 => za (n + 99) c2 13 (14 : Int32) ∧ zk (n + 99) (n + 96) 4 ∧ zk (n + 99) a0 3 ∧ ∃ c10, zr (zR σ6 c2 (14 : Int32).toNatClampNeg (some (n + 96))) a0 3 = some c10 ∧ zkd (n + 99) = (4, 0) ∧ P_V_init (n + 100) (n + 99) (zN (zR σ6 c2 (14 : Int32).toNatClampNeg (some (n + 96))) (n + 99)) (fun σ14 => za (n + 102) c10 13 (14 : Int32) ∧ zk (n + 102) (n + 99) 4 ∧ P_F_init_i15 n Q a0 (zR σ14 c10 (14 : Int32).toNatClampNeg (some (n + 99)))))
set_option maxHeartbeats 1000000 in
set_option maxRecDepth 10000 in
theorem w_F_init_i14 {Q : zS → Prop} (hr : meth.sig.returnType = none) (hex : ex = true) (hnm : meth.name = "<init>") {a0 : Nat} {σ : zS} (h : P_F_init_i14 n Q a0 σ) : zG p l e (zrm 3 156 1027) s m args below meth c (MQ below (zQc (zA base) D cA base (n + 156) ex (zqv Q)) args s 156 1027 (zA base)) s.heap (zA base) base D cA 2 ex prog_2_method_1_code "ConstantFlow$Facts" (n + 96) 96 667 78 [some (.ref a0), some (.int (14 : Int32))] [] σ := by
  unfold P_F_init_i14 at h
  refine zw_iload_n d_F_init_78 rfl rfl ?_
  refine zw_bipush (v := 24) d_F_init_79 rfl ?_
  refine zw_icmp_ge (tgt := 116) d_F_init_81 rfl (fun hc => absurd hc (by decide)) (fun hc => ?_)
  refine zw_aload_n d_F_init_84 rfl rfl ?_
  obtain ⟨q1, h⟩ := h
  obtain ⟨c2, q3, h⟩ := h
  refine zw_gfr (ci := 3) (j := 2) d_F_init_85 mw_1_98 q1.1 q1.2 (by decide) (by decide) rfl q3 ?_
  refine zw_iload_n d_F_init_88 rfl rfl ?_
  obtain ⟨q4, h⟩ := h
  refine zw_new (ci := 4) d_F_init_89 mw_1_78 mw_1_80 mw_1_5 (by decide) q4 hex (Nat.le_of_ble_eq_true rfl) (Nat.le_of_ble_eq_true rfl) ?_
  refine zw_dup d_F_init_92 rfl ?_
  refine zw_callIN (b := n + 96) (As := []) (r := [.ref (n + 96), .int (14 : Int32), .ref c2]) d_F_init_93 (c_V_init hex h) mw_1_81 mw_1_82 mw_1_5 mw_1_83 rfl hyS_V_init (Nat.le_of_ble_eq_true rfl) (Nat.le_of_ble_eq_true rfl) ⟨(Nat.le_of_ble_eq_true rfl), (Nat.le_of_ble_eq_true rfl)⟩ (Nat.le_of_ble_eq_true rfl) rfl (zk_v (fun σ6 h => ?_))
  obtain ⟨q7, h⟩ := h
  obtain ⟨q8, h⟩ := h
  refine zw_aast d_F_init_96 q7.1 (zkd_eta q7.2.1) q7.2.2 q8.1 q8.2 ?_
  refine zw_aload_n d_F_init_97 rfl rfl ?_
  obtain ⟨q9, h⟩ := h
  obtain ⟨c10, q11, h⟩ := h
  refine zw_gfr (ci := 3) (j := 3) d_F_init_98 mw_1_99 q9.1 q9.2 (by decide) (by decide) rfl q11 ?_
  refine zw_iload_n d_F_init_101 rfl rfl ?_
  obtain ⟨q12, h⟩ := h
  refine zw_new (ci := 4) d_F_init_102 mw_1_78 mw_1_80 mw_1_5 (by decide) q12 hex (Nat.le_of_ble_eq_true rfl) (Nat.le_of_ble_eq_true rfl) ?_
  refine zw_dup d_F_init_105 rfl ?_
  refine zw_callIN (b := n + 99) (As := []) (r := [.ref (n + 99), .int (14 : Int32), .ref c10]) d_F_init_106 (c_V_init hex h) mw_1_81 mw_1_82 mw_1_5 mw_1_83 rfl hyS_V_init (Nat.le_of_ble_eq_true rfl) (Nat.le_of_ble_eq_true rfl) ⟨(Nat.le_of_ble_eq_true rfl), (Nat.le_of_ble_eq_true rfl)⟩ (Nat.le_of_ble_eq_true rfl) rfl (zk_v (fun σ14 h => ?_))
  obtain ⟨q15, h⟩ := h
  obtain ⟨q16, h⟩ := h
  refine zw_aast d_F_init_109 q15.1 (zkd_eta q15.2.1) q15.2.2 q16.1 q16.2 ?_
  refine zw_iinc (v := (15 : Int32)) d_F_init_110 rfl rfl (Nat.le_of_ble_eq_true rfl) rfl rfl ?_
  refine zw_goto (tgt := 78) d_F_init_113 rfl ?_
  exact w_F_init_i15 hr hex hnm h
def P_F_init_i13 (n : Nat) (Q : zS → Prop) (a0 : Nat) (σ : zS) : Prop := zk (n + 90) a0 3 ∧ ∃ c2, zr σ a0 2 = some c2 ∧ zkd (n + 90) = (4, 0) ∧ P_V_init (n + 91) (n + 90) (zN σ (n + 90)) (fun σ6 => za (n + 93) c2 13 (13 : Int32) ∧ zk (n + 93) (n + 90) 4 ∧ zk (n + 93) a0 3 ∧ ∃ c10, zr (zR σ6 c2 (13 : Int32).toNatClampNeg (some (n + 90))) a0 3 = some c10 ∧ zkd (n + 93) = (4, 0) ∧ P_V_init (n + 94) (n + 93) (zN (zR σ6 c2 (13 : Int32).toNatClampNeg (some (n + 90))) (n + 93)) (fun σ14 => za (n + 96) c10 13 (13 : Int32) ∧ zk (n + 96) (n + 93) 4 ∧ P_F_init_i14 n Q a0 (zR σ14 c10 (13 : Int32).toNatClampNeg (some (n + 93)))))
set_option maxHeartbeats 1000000 in
set_option maxRecDepth 10000 in
theorem w_F_init_i13 {Q : zS → Prop} (hr : meth.sig.returnType = none) (hex : ex = true) (hnm : meth.name = "<init>") {a0 : Nat} {σ : zS} (h : P_F_init_i13 n Q a0 σ) : zG p l e (zrm 3 156 1027) s m args below meth c (MQ below (zQc (zA base) D cA base (n + 156) ex (zqv Q)) args s 156 1027 (zA base)) s.heap (zA base) base D cA 2 ex prog_2_method_1_code "ConstantFlow$Facts" (n + 90) 90 631 78 [some (.ref a0), some (.int (13 : Int32))] [] σ := by
  unfold P_F_init_i13 at h
  refine zw_iload_n d_F_init_78 rfl rfl ?_
  refine zw_bipush (v := 24) d_F_init_79 rfl ?_
  refine zw_icmp_ge (tgt := 116) d_F_init_81 rfl (fun hc => absurd hc (by decide)) (fun hc => ?_)
  refine zw_aload_n d_F_init_84 rfl rfl ?_
  obtain ⟨q1, h⟩ := h
  obtain ⟨c2, q3, h⟩ := h
  refine zw_gfr (ci := 3) (j := 2) d_F_init_85 mw_1_98 q1.1 q1.2 (by decide) (by decide) rfl q3 ?_
  refine zw_iload_n d_F_init_88 rfl rfl ?_
  obtain ⟨q4, h⟩ := h
  refine zw_new (ci := 4) d_F_init_89 mw_1_78 mw_1_80 mw_1_5 (by decide) q4 hex (Nat.le_of_ble_eq_true rfl) (Nat.le_of_ble_eq_true rfl) ?_
  refine zw_dup d_F_init_92 rfl ?_
  refine zw_callIN (b := n + 90) (As := []) (r := [.ref (n + 90), .int (13 : Int32), .ref c2]) d_F_init_93 (c_V_init hex h) mw_1_81 mw_1_82 mw_1_5 mw_1_83 rfl hyS_V_init (Nat.le_of_ble_eq_true rfl) (Nat.le_of_ble_eq_true rfl) ⟨(Nat.le_of_ble_eq_true rfl), (Nat.le_of_ble_eq_true rfl)⟩ (Nat.le_of_ble_eq_true rfl) rfl (zk_v (fun σ6 h => ?_))
  obtain ⟨q7, h⟩ := h
  obtain ⟨q8, h⟩ := h
  refine zw_aast d_F_init_96 q7.1 (zkd_eta q7.2.1) q7.2.2 q8.1 q8.2 ?_
  refine zw_aload_n d_F_init_97 rfl rfl ?_
  obtain ⟨q9, h⟩ := h
  obtain ⟨c10, q11, h⟩ := h
  refine zw_gfr (ci := 3) (j := 3) d_F_init_98 mw_1_99 q9.1 q9.2 (by decide) (by decide) rfl q11 ?_
  refine zw_iload_n d_F_init_101 rfl rfl ?_
  obtain ⟨q12, h⟩ := h
  refine zw_new (ci := 4) d_F_init_102 mw_1_78 mw_1_80 mw_1_5 (by decide) q12 hex (Nat.le_of_ble_eq_true rfl) (Nat.le_of_ble_eq_true rfl) ?_
  refine zw_dup d_F_init_105 rfl ?_
  refine zw_callIN (b := n + 93) (As := []) (r := [.ref (n + 93), .int (13 : Int32), .ref c10]) d_F_init_106 (c_V_init hex h) mw_1_81 mw_1_82 mw_1_5 mw_1_83 rfl hyS_V_init (Nat.le_of_ble_eq_true rfl) (Nat.le_of_ble_eq_true rfl) ⟨(Nat.le_of_ble_eq_true rfl), (Nat.le_of_ble_eq_true rfl)⟩ (Nat.le_of_ble_eq_true rfl) rfl (zk_v (fun σ14 h => ?_))
  obtain ⟨q15, h⟩ := h
  obtain ⟨q16, h⟩ := h
  refine zw_aast d_F_init_109 q15.1 (zkd_eta q15.2.1) q15.2.2 q16.1 q16.2 ?_
  refine zw_iinc (v := (14 : Int32)) d_F_init_110 rfl rfl (Nat.le_of_ble_eq_true rfl) rfl rfl ?_
  refine zw_goto (tgt := 78) d_F_init_113 rfl ?_
  exact w_F_init_i14 hr hex hnm h
def P_F_init_i12 (n : Nat) (Q : zS → Prop) (a0 : Nat) (σ : zS) : Prop := zk (n + 84) a0 3 ∧ ∃ c2, zr σ a0 2 = some c2 ∧ zkd (n + 84) = (4, 0) ∧ P_V_init (n + 85) (n + 84) (zN σ (n + 84)) (fun σ6 => za (n + 87) c2 13 (12 : Int32) ∧ zk (n + 87) (n + 84) 4 ∧ zk (n + 87) a0 3 ∧ ∃ c10, zr (zR σ6 c2 (12 : Int32).toNatClampNeg (some (n + 84))) a0 3 = some c10 ∧ zkd (n + 87) = (4, 0) ∧ P_V_init (n + 88) (n + 87) (zN (zR σ6 c2 (12 : Int32).toNatClampNeg (some (n + 84))) (n + 87)) (fun σ14 => za (n + 90) c10 13 (12 : Int32) ∧ zk (n + 90) (n + 87) 4 ∧ P_F_init_i13 n Q a0 (zR σ14 c10 (12 : Int32).toNatClampNeg (some (n + 87)))))
set_option maxHeartbeats 1000000 in
set_option maxRecDepth 10000 in
theorem w_F_init_i12 {Q : zS → Prop} (hr : meth.sig.returnType = none) (hex : ex = true) (hnm : meth.name = "<init>") {a0 : Nat} {σ : zS} (h : P_F_init_i12 n Q a0 σ) : zG p l e (zrm 3 156 1027) s m args below meth c (MQ below (zQc (zA base) D cA base (n + 156) ex (zqv Q)) args s 156 1027 (zA base)) s.heap (zA base) base D cA 2 ex prog_2_method_1_code "ConstantFlow$Facts" (n + 84) 84 595 78 [some (.ref a0), some (.int (12 : Int32))] [] σ := by
  unfold P_F_init_i12 at h
  refine zw_iload_n d_F_init_78 rfl rfl ?_
  refine zw_bipush (v := 24) d_F_init_79 rfl ?_
  refine zw_icmp_ge (tgt := 116) d_F_init_81 rfl (fun hc => absurd hc (by decide)) (fun hc => ?_)
  refine zw_aload_n d_F_init_84 rfl rfl ?_
  obtain ⟨q1, h⟩ := h
  obtain ⟨c2, q3, h⟩ := h
  refine zw_gfr (ci := 3) (j := 2) d_F_init_85 mw_1_98 q1.1 q1.2 (by decide) (by decide) rfl q3 ?_
  refine zw_iload_n d_F_init_88 rfl rfl ?_
  obtain ⟨q4, h⟩ := h
  refine zw_new (ci := 4) d_F_init_89 mw_1_78 mw_1_80 mw_1_5 (by decide) q4 hex (Nat.le_of_ble_eq_true rfl) (Nat.le_of_ble_eq_true rfl) ?_
  refine zw_dup d_F_init_92 rfl ?_
  refine zw_callIN (b := n + 84) (As := []) (r := [.ref (n + 84), .int (12 : Int32), .ref c2]) d_F_init_93 (c_V_init hex h) mw_1_81 mw_1_82 mw_1_5 mw_1_83 rfl hyS_V_init (Nat.le_of_ble_eq_true rfl) (Nat.le_of_ble_eq_true rfl) ⟨(Nat.le_of_ble_eq_true rfl), (Nat.le_of_ble_eq_true rfl)⟩ (Nat.le_of_ble_eq_true rfl) rfl (zk_v (fun σ6 h => ?_))
  obtain ⟨q7, h⟩ := h
  obtain ⟨q8, h⟩ := h
  refine zw_aast d_F_init_96 q7.1 (zkd_eta q7.2.1) q7.2.2 q8.1 q8.2 ?_
  refine zw_aload_n d_F_init_97 rfl rfl ?_
  obtain ⟨q9, h⟩ := h
  obtain ⟨c10, q11, h⟩ := h
  refine zw_gfr (ci := 3) (j := 3) d_F_init_98 mw_1_99 q9.1 q9.2 (by decide) (by decide) rfl q11 ?_
  refine zw_iload_n d_F_init_101 rfl rfl ?_
  obtain ⟨q12, h⟩ := h
  refine zw_new (ci := 4) d_F_init_102 mw_1_78 mw_1_80 mw_1_5 (by decide) q12 hex (Nat.le_of_ble_eq_true rfl) (Nat.le_of_ble_eq_true rfl) ?_
  refine zw_dup d_F_init_105 rfl ?_
  refine zw_callIN (b := n + 87) (As := []) (r := [.ref (n + 87), .int (12 : Int32), .ref c10]) d_F_init_106 (c_V_init hex h) mw_1_81 mw_1_82 mw_1_5 mw_1_83 rfl hyS_V_init (Nat.le_of_ble_eq_true rfl) (Nat.le_of_ble_eq_true rfl) ⟨(Nat.le_of_ble_eq_true rfl), (Nat.le_of_ble_eq_true rfl)⟩ (Nat.le_of_ble_eq_true rfl) rfl (zk_v (fun σ14 h => ?_))
  obtain ⟨q15, h⟩ := h
  obtain ⟨q16, h⟩ := h
  refine zw_aast d_F_init_109 q15.1 (zkd_eta q15.2.1) q15.2.2 q16.1 q16.2 ?_
  refine zw_iinc (v := (13 : Int32)) d_F_init_110 rfl rfl (Nat.le_of_ble_eq_true rfl) rfl rfl ?_
  refine zw_goto (tgt := 78) d_F_init_113 rfl ?_
  exact w_F_init_i13 hr hex hnm h
def P_F_init_i11 (n : Nat) (Q : zS → Prop) (a0 : Nat) (σ : zS) : Prop := zk (n + 78) a0 3 ∧ ∃ c2, zr σ a0 2 = some c2 ∧ zkd (n + 78) = (4, 0) ∧ P_V_init (n + 79) (n + 78) (zN σ (n + 78)) (fun σ6 => za (n + 81) c2 13 (11 : Int32) ∧ zk (n + 81) (n + 78) 4 ∧ zk (n + 81) a0 3 ∧ ∃ c10, zr (zR σ6 c2 (11 : Int32).toNatClampNeg (some (n + 78))) a0 3 = some c10 ∧ zkd (n + 81) = (4, 0) ∧ P_V_init (n + 82) (n + 81) (zN (zR σ6 c2 (11 : Int32).toNatClampNeg (some (n + 78))) (n + 81)) (fun σ14 => za (n + 84) c10 13 (11 : Int32) ∧ zk (n + 84) (n + 81) 4 ∧ P_F_init_i12 n Q a0 (zR σ14 c10 (11 : Int32).toNatClampNeg (some (n + 81)))))
set_option maxHeartbeats 1000000 in
set_option maxRecDepth 10000 in
theorem w_F_init_i11 {Q : zS → Prop} (hr : meth.sig.returnType = none) (hex : ex = true) (hnm : meth.name = "<init>") {a0 : Nat} {σ : zS} (h : P_F_init_i11 n Q a0 σ) : zG p l e (zrm 3 156 1027) s m args below meth c (MQ below (zQc (zA base) D cA base (n + 156) ex (zqv Q)) args s 156 1027 (zA base)) s.heap (zA base) base D cA 2 ex prog_2_method_1_code "ConstantFlow$Facts" (n + 78) 78 559 78 [some (.ref a0), some (.int (11 : Int32))] [] σ := by
  unfold P_F_init_i11 at h
  refine zw_iload_n d_F_init_78 rfl rfl ?_
  refine zw_bipush (v := 24) d_F_init_79 rfl ?_
  refine zw_icmp_ge (tgt := 116) d_F_init_81 rfl (fun hc => absurd hc (by decide)) (fun hc => ?_)
  refine zw_aload_n d_F_init_84 rfl rfl ?_
  obtain ⟨q1, h⟩ := h
  obtain ⟨c2, q3, h⟩ := h
  refine zw_gfr (ci := 3) (j := 2) d_F_init_85 mw_1_98 q1.1 q1.2 (by decide) (by decide) rfl q3 ?_
  refine zw_iload_n d_F_init_88 rfl rfl ?_
  obtain ⟨q4, h⟩ := h
  refine zw_new (ci := 4) d_F_init_89 mw_1_78 mw_1_80 mw_1_5 (by decide) q4 hex (Nat.le_of_ble_eq_true rfl) (Nat.le_of_ble_eq_true rfl) ?_
  refine zw_dup d_F_init_92 rfl ?_
  refine zw_callIN (b := n + 78) (As := []) (r := [.ref (n + 78), .int (11 : Int32), .ref c2]) d_F_init_93 (c_V_init hex h) mw_1_81 mw_1_82 mw_1_5 mw_1_83 rfl hyS_V_init (Nat.le_of_ble_eq_true rfl) (Nat.le_of_ble_eq_true rfl) ⟨(Nat.le_of_ble_eq_true rfl), (Nat.le_of_ble_eq_true rfl)⟩ (Nat.le_of_ble_eq_true rfl) rfl (zk_v (fun σ6 h => ?_))
  obtain ⟨q7, h⟩ := h
  obtain ⟨q8, h⟩ := h
  refine zw_aast d_F_init_96 q7.1 (zkd_eta q7.2.1) q7.2.2 q8.1 q8.2 ?_
  refine zw_aload_n d_F_init_97 rfl rfl ?_
  obtain ⟨q9, h⟩ := h
  obtain ⟨c10, q11, h⟩ := h
  refine zw_gfr (ci := 3) (j := 3) d_F_init_98 mw_1_99 q9.1 q9.2 (by decide) (by decide) rfl q11 ?_
  refine zw_iload_n d_F_init_101 rfl rfl ?_
  obtain ⟨q12, h⟩ := h
  refine zw_new (ci := 4) d_F_init_102 mw_1_78 mw_1_80 mw_1_5 (by decide) q12 hex (Nat.le_of_ble_eq_true rfl) (Nat.le_of_ble_eq_true rfl) ?_
  refine zw_dup d_F_init_105 rfl ?_
  refine zw_callIN (b := n + 81) (As := []) (r := [.ref (n + 81), .int (11 : Int32), .ref c10]) d_F_init_106 (c_V_init hex h) mw_1_81 mw_1_82 mw_1_5 mw_1_83 rfl hyS_V_init (Nat.le_of_ble_eq_true rfl) (Nat.le_of_ble_eq_true rfl) ⟨(Nat.le_of_ble_eq_true rfl), (Nat.le_of_ble_eq_true rfl)⟩ (Nat.le_of_ble_eq_true rfl) rfl (zk_v (fun σ14 h => ?_))
  obtain ⟨q15, h⟩ := h
  obtain ⟨q16, h⟩ := h
  refine zw_aast d_F_init_109 q15.1 (zkd_eta q15.2.1) q15.2.2 q16.1 q16.2 ?_
  refine zw_iinc (v := (12 : Int32)) d_F_init_110 rfl rfl (Nat.le_of_ble_eq_true rfl) rfl rfl ?_
  refine zw_goto (tgt := 78) d_F_init_113 rfl ?_
  exact w_F_init_i12 hr hex hnm h
def P_F_init_i10 (n : Nat) (Q : zS → Prop) (a0 : Nat) (σ : zS) : Prop := zk (n + 72) a0 3 ∧ ∃ c2, zr σ a0 2 = some c2 ∧ zkd (n + 72) = (4, 0) ∧ P_V_init (n + 73) (n + 72) (zN σ (n + 72)) (fun σ6 => za (n + 75) c2 13 (10 : Int32) ∧ zk (n + 75) (n + 72) 4 ∧ zk (n + 75) a0 3 ∧ ∃ c10, zr (zR σ6 c2 (10 : Int32).toNatClampNeg (some (n + 72))) a0 3 = some c10 ∧ zkd (n + 75) = (4, 0) ∧ P_V_init (n + 76) (n + 75) (zN (zR σ6 c2 (10 : Int32).toNatClampNeg (some (n + 72))) (n + 75)) (fun σ14 => za (n + 78) c10 13 (10 : Int32) ∧ zk (n + 78) (n + 75) 4 ∧ P_F_init_i11 n Q a0 (zR σ14 c10 (10 : Int32).toNatClampNeg (some (n + 75)))))
set_option maxHeartbeats 1000000 in
set_option maxRecDepth 10000 in
theorem w_F_init_i10 {Q : zS → Prop} (hr : meth.sig.returnType = none) (hex : ex = true) (hnm : meth.name = "<init>") {a0 : Nat} {σ : zS} (h : P_F_init_i10 n Q a0 σ) : zG p l e (zrm 3 156 1027) s m args below meth c (MQ below (zQc (zA base) D cA base (n + 156) ex (zqv Q)) args s 156 1027 (zA base)) s.heap (zA base) base D cA 2 ex prog_2_method_1_code "ConstantFlow$Facts" (n + 72) 72 523 78 [some (.ref a0), some (.int (10 : Int32))] [] σ := by
  unfold P_F_init_i10 at h
  refine zw_iload_n d_F_init_78 rfl rfl ?_
  refine zw_bipush (v := 24) d_F_init_79 rfl ?_
  refine zw_icmp_ge (tgt := 116) d_F_init_81 rfl (fun hc => absurd hc (by decide)) (fun hc => ?_)
  refine zw_aload_n d_F_init_84 rfl rfl ?_
  obtain ⟨q1, h⟩ := h
  obtain ⟨c2, q3, h⟩ := h
  refine zw_gfr (ci := 3) (j := 2) d_F_init_85 mw_1_98 q1.1 q1.2 (by decide) (by decide) rfl q3 ?_
  refine zw_iload_n d_F_init_88 rfl rfl ?_
  obtain ⟨q4, h⟩ := h
  refine zw_new (ci := 4) d_F_init_89 mw_1_78 mw_1_80 mw_1_5 (by decide) q4 hex (Nat.le_of_ble_eq_true rfl) (Nat.le_of_ble_eq_true rfl) ?_
  refine zw_dup d_F_init_92 rfl ?_
  refine zw_callIN (b := n + 72) (As := []) (r := [.ref (n + 72), .int (10 : Int32), .ref c2]) d_F_init_93 (c_V_init hex h) mw_1_81 mw_1_82 mw_1_5 mw_1_83 rfl hyS_V_init (Nat.le_of_ble_eq_true rfl) (Nat.le_of_ble_eq_true rfl) ⟨(Nat.le_of_ble_eq_true rfl), (Nat.le_of_ble_eq_true rfl)⟩ (Nat.le_of_ble_eq_true rfl) rfl (zk_v (fun σ6 h => ?_))
  obtain ⟨q7, h⟩ := h
  obtain ⟨q8, h⟩ := h
  refine zw_aast d_F_init_96 q7.1 (zkd_eta q7.2.1) q7.2.2 q8.1 q8.2 ?_
  refine zw_aload_n d_F_init_97 rfl rfl ?_
  obtain ⟨q9, h⟩ := h
  obtain ⟨c10, q11, h⟩ := h
  refine zw_gfr (ci := 3) (j := 3) d_F_init_98 mw_1_99 q9.1 q9.2 (by decide) (by decide) rfl q11 ?_
  refine zw_iload_n d_F_init_101 rfl rfl ?_
  obtain ⟨q12, h⟩ := h
  refine zw_new (ci := 4) d_F_init_102 mw_1_78 mw_1_80 mw_1_5 (by decide) q12 hex (Nat.le_of_ble_eq_true rfl) (Nat.le_of_ble_eq_true rfl) ?_
  refine zw_dup d_F_init_105 rfl ?_
  refine zw_callIN (b := n + 75) (As := []) (r := [.ref (n + 75), .int (10 : Int32), .ref c10]) d_F_init_106 (c_V_init hex h) mw_1_81 mw_1_82 mw_1_5 mw_1_83 rfl hyS_V_init (Nat.le_of_ble_eq_true rfl) (Nat.le_of_ble_eq_true rfl) ⟨(Nat.le_of_ble_eq_true rfl), (Nat.le_of_ble_eq_true rfl)⟩ (Nat.le_of_ble_eq_true rfl) rfl (zk_v (fun σ14 h => ?_))
  obtain ⟨q15, h⟩ := h
  obtain ⟨q16, h⟩ := h
  refine zw_aast d_F_init_109 q15.1 (zkd_eta q15.2.1) q15.2.2 q16.1 q16.2 ?_
  refine zw_iinc (v := (11 : Int32)) d_F_init_110 rfl rfl (Nat.le_of_ble_eq_true rfl) rfl rfl ?_
  refine zw_goto (tgt := 78) d_F_init_113 rfl ?_
  exact w_F_init_i11 hr hex hnm h
def P_F_init_i9 (n : Nat) (Q : zS → Prop) (a0 : Nat) (σ : zS) : Prop := zk (n + 66) a0 3 ∧ ∃ c2, zr σ a0 2 = some c2 ∧ zkd (n + 66) = (4, 0) ∧ P_V_init (n + 67) (n + 66) (zN σ (n + 66)) (fun σ6 => za (n + 69) c2 13 (9 : Int32) ∧ zk (n + 69) (n + 66) 4 ∧ zk (n + 69) a0 3 ∧ ∃ c10, zr (zR σ6 c2 (9 : Int32).toNatClampNeg (some (n + 66))) a0 3 = some c10 ∧ zkd (n + 69) = (4, 0) ∧ P_V_init (n + 70) (n + 69) (zN (zR σ6 c2 (9 : Int32).toNatClampNeg (some (n + 66))) (n + 69)) (fun σ14 => za (n + 72) c10 13 (9 : Int32) ∧ zk (n + 72) (n + 69) 4 ∧ P_F_init_i10 n Q a0 (zR σ14 c10 (9 : Int32).toNatClampNeg (some (n + 69)))))
set_option maxHeartbeats 1000000 in
set_option maxRecDepth 10000 in
theorem w_F_init_i9 {Q : zS → Prop} (hr : meth.sig.returnType = none) (hex : ex = true) (hnm : meth.name = "<init>") {a0 : Nat} {σ : zS} (h : P_F_init_i9 n Q a0 σ) : zG p l e (zrm 3 156 1027) s m args below meth c (MQ below (zQc (zA base) D cA base (n + 156) ex (zqv Q)) args s 156 1027 (zA base)) s.heap (zA base) base D cA 2 ex prog_2_method_1_code "ConstantFlow$Facts" (n + 66) 66 487 78 [some (.ref a0), some (.int (9 : Int32))] [] σ := by
  unfold P_F_init_i9 at h
  refine zw_iload_n d_F_init_78 rfl rfl ?_
  refine zw_bipush (v := 24) d_F_init_79 rfl ?_
  refine zw_icmp_ge (tgt := 116) d_F_init_81 rfl (fun hc => absurd hc (by decide)) (fun hc => ?_)
  refine zw_aload_n d_F_init_84 rfl rfl ?_
  obtain ⟨q1, h⟩ := h
  obtain ⟨c2, q3, h⟩ := h
  refine zw_gfr (ci := 3) (j := 2) d_F_init_85 mw_1_98 q1.1 q1.2 (by decide) (by decide) rfl q3 ?_
  refine zw_iload_n d_F_init_88 rfl rfl ?_
  obtain ⟨q4, h⟩ := h
  refine zw_new (ci := 4) d_F_init_89 mw_1_78 mw_1_80 mw_1_5 (by decide) q4 hex (Nat.le_of_ble_eq_true rfl) (Nat.le_of_ble_eq_true rfl) ?_
  refine zw_dup d_F_init_92 rfl ?_
  refine zw_callIN (b := n + 66) (As := []) (r := [.ref (n + 66), .int (9 : Int32), .ref c2]) d_F_init_93 (c_V_init hex h) mw_1_81 mw_1_82 mw_1_5 mw_1_83 rfl hyS_V_init (Nat.le_of_ble_eq_true rfl) (Nat.le_of_ble_eq_true rfl) ⟨(Nat.le_of_ble_eq_true rfl), (Nat.le_of_ble_eq_true rfl)⟩ (Nat.le_of_ble_eq_true rfl) rfl (zk_v (fun σ6 h => ?_))
  obtain ⟨q7, h⟩ := h
  obtain ⟨q8, h⟩ := h
  refine zw_aast d_F_init_96 q7.1 (zkd_eta q7.2.1) q7.2.2 q8.1 q8.2 ?_
  refine zw_aload_n d_F_init_97 rfl rfl ?_
  obtain ⟨q9, h⟩ := h
  obtain ⟨c10, q11, h⟩ := h
  refine zw_gfr (ci := 3) (j := 3) d_F_init_98 mw_1_99 q9.1 q9.2 (by decide) (by decide) rfl q11 ?_
  refine zw_iload_n d_F_init_101 rfl rfl ?_
  obtain ⟨q12, h⟩ := h
  refine zw_new (ci := 4) d_F_init_102 mw_1_78 mw_1_80 mw_1_5 (by decide) q12 hex (Nat.le_of_ble_eq_true rfl) (Nat.le_of_ble_eq_true rfl) ?_
  refine zw_dup d_F_init_105 rfl ?_
  refine zw_callIN (b := n + 69) (As := []) (r := [.ref (n + 69), .int (9 : Int32), .ref c10]) d_F_init_106 (c_V_init hex h) mw_1_81 mw_1_82 mw_1_5 mw_1_83 rfl hyS_V_init (Nat.le_of_ble_eq_true rfl) (Nat.le_of_ble_eq_true rfl) ⟨(Nat.le_of_ble_eq_true rfl), (Nat.le_of_ble_eq_true rfl)⟩ (Nat.le_of_ble_eq_true rfl) rfl (zk_v (fun σ14 h => ?_))
  obtain ⟨q15, h⟩ := h
  obtain ⟨q16, h⟩ := h
  refine zw_aast d_F_init_109 q15.1 (zkd_eta q15.2.1) q15.2.2 q16.1 q16.2 ?_
  refine zw_iinc (v := (10 : Int32)) d_F_init_110 rfl rfl (Nat.le_of_ble_eq_true rfl) rfl rfl ?_
  refine zw_goto (tgt := 78) d_F_init_113 rfl ?_
  exact w_F_init_i10 hr hex hnm h
def P_F_init_i8 (n : Nat) (Q : zS → Prop) (a0 : Nat) (σ : zS) : Prop := zk (n + 60) a0 3 ∧ ∃ c2, zr σ a0 2 = some c2 ∧ zkd (n + 60) = (4, 0) ∧ P_V_init (n + 61) (n + 60) (zN σ (n + 60)) (fun σ6 => za (n + 63) c2 13 (8 : Int32) ∧ zk (n + 63) (n + 60) 4 ∧ zk (n + 63) a0 3 ∧ ∃ c10, zr (zR σ6 c2 (8 : Int32).toNatClampNeg (some (n + 60))) a0 3 = some c10 ∧ zkd (n + 63) = (4, 0) ∧ P_V_init (n + 64) (n + 63) (zN (zR σ6 c2 (8 : Int32).toNatClampNeg (some (n + 60))) (n + 63)) (fun σ14 => za (n + 66) c10 13 (8 : Int32) ∧ zk (n + 66) (n + 63) 4 ∧ P_F_init_i9 n Q a0 (zR σ14 c10 (8 : Int32).toNatClampNeg (some (n + 63)))))
set_option maxHeartbeats 1000000 in
set_option maxRecDepth 10000 in
theorem w_F_init_i8 {Q : zS → Prop} (hr : meth.sig.returnType = none) (hex : ex = true) (hnm : meth.name = "<init>") {a0 : Nat} {σ : zS} (h : P_F_init_i8 n Q a0 σ) : zG p l e (zrm 3 156 1027) s m args below meth c (MQ below (zQc (zA base) D cA base (n + 156) ex (zqv Q)) args s 156 1027 (zA base)) s.heap (zA base) base D cA 2 ex prog_2_method_1_code "ConstantFlow$Facts" (n + 60) 60 451 78 [some (.ref a0), some (.int (8 : Int32))] [] σ := by
  unfold P_F_init_i8 at h
  refine zw_iload_n d_F_init_78 rfl rfl ?_
  refine zw_bipush (v := 24) d_F_init_79 rfl ?_
  refine zw_icmp_ge (tgt := 116) d_F_init_81 rfl (fun hc => absurd hc (by decide)) (fun hc => ?_)
  refine zw_aload_n d_F_init_84 rfl rfl ?_
  obtain ⟨q1, h⟩ := h
  obtain ⟨c2, q3, h⟩ := h
  refine zw_gfr (ci := 3) (j := 2) d_F_init_85 mw_1_98 q1.1 q1.2 (by decide) (by decide) rfl q3 ?_
  refine zw_iload_n d_F_init_88 rfl rfl ?_
  obtain ⟨q4, h⟩ := h
  refine zw_new (ci := 4) d_F_init_89 mw_1_78 mw_1_80 mw_1_5 (by decide) q4 hex (Nat.le_of_ble_eq_true rfl) (Nat.le_of_ble_eq_true rfl) ?_
  refine zw_dup d_F_init_92 rfl ?_
  refine zw_callIN (b := n + 60) (As := []) (r := [.ref (n + 60), .int (8 : Int32), .ref c2]) d_F_init_93 (c_V_init hex h) mw_1_81 mw_1_82 mw_1_5 mw_1_83 rfl hyS_V_init (Nat.le_of_ble_eq_true rfl) (Nat.le_of_ble_eq_true rfl) ⟨(Nat.le_of_ble_eq_true rfl), (Nat.le_of_ble_eq_true rfl)⟩ (Nat.le_of_ble_eq_true rfl) rfl (zk_v (fun σ6 h => ?_))
  obtain ⟨q7, h⟩ := h
  obtain ⟨q8, h⟩ := h
  refine zw_aast d_F_init_96 q7.1 (zkd_eta q7.2.1) q7.2.2 q8.1 q8.2 ?_
  refine zw_aload_n d_F_init_97 rfl rfl ?_
  obtain ⟨q9, h⟩ := h
  obtain ⟨c10, q11, h⟩ := h
  refine zw_gfr (ci := 3) (j := 3) d_F_init_98 mw_1_99 q9.1 q9.2 (by decide) (by decide) rfl q11 ?_
  refine zw_iload_n d_F_init_101 rfl rfl ?_
  obtain ⟨q12, h⟩ := h
  refine zw_new (ci := 4) d_F_init_102 mw_1_78 mw_1_80 mw_1_5 (by decide) q12 hex (Nat.le_of_ble_eq_true rfl) (Nat.le_of_ble_eq_true rfl) ?_
  refine zw_dup d_F_init_105 rfl ?_
  refine zw_callIN (b := n + 63) (As := []) (r := [.ref (n + 63), .int (8 : Int32), .ref c10]) d_F_init_106 (c_V_init hex h) mw_1_81 mw_1_82 mw_1_5 mw_1_83 rfl hyS_V_init (Nat.le_of_ble_eq_true rfl) (Nat.le_of_ble_eq_true rfl) ⟨(Nat.le_of_ble_eq_true rfl), (Nat.le_of_ble_eq_true rfl)⟩ (Nat.le_of_ble_eq_true rfl) rfl (zk_v (fun σ14 h => ?_))
  obtain ⟨q15, h⟩ := h
  obtain ⟨q16, h⟩ := h
  refine zw_aast d_F_init_109 q15.1 (zkd_eta q15.2.1) q15.2.2 q16.1 q16.2 ?_
  refine zw_iinc (v := (9 : Int32)) d_F_init_110 rfl rfl (Nat.le_of_ble_eq_true rfl) rfl rfl ?_
  refine zw_goto (tgt := 78) d_F_init_113 rfl ?_
  exact w_F_init_i9 hr hex hnm h
def P_F_init_i7 (n : Nat) (Q : zS → Prop) (a0 : Nat) (σ : zS) : Prop := zk (n + 54) a0 3 ∧ ∃ c2, zr σ a0 2 = some c2 ∧ zkd (n + 54) = (4, 0) ∧ P_V_init (n + 55) (n + 54) (zN σ (n + 54)) (fun σ6 => za (n + 57) c2 13 (7 : Int32) ∧ zk (n + 57) (n + 54) 4 ∧ zk (n + 57) a0 3 ∧ ∃ c10, zr (zR σ6 c2 (7 : Int32).toNatClampNeg (some (n + 54))) a0 3 = some c10 ∧ zkd (n + 57) = (4, 0) ∧ P_V_init (n + 58) (n + 57) (zN (zR σ6 c2 (7 : Int32).toNatClampNeg (some (n + 54))) (n + 57)) (fun σ14 => za (n + 60) c10 13 (7 : Int32) ∧ zk (n + 60) (n + 57) 4 ∧ P_F_init_i8 n Q a0 (zR σ14 c10 (7 : Int32).toNatClampNeg (some (n + 57)))))
set_option maxHeartbeats 1000000 in
set_option maxRecDepth 10000 in
theorem w_F_init_i7 {Q : zS → Prop} (hr : meth.sig.returnType = none) (hex : ex = true) (hnm : meth.name = "<init>") {a0 : Nat} {σ : zS} (h : P_F_init_i7 n Q a0 σ) : zG p l e (zrm 3 156 1027) s m args below meth c (MQ below (zQc (zA base) D cA base (n + 156) ex (zqv Q)) args s 156 1027 (zA base)) s.heap (zA base) base D cA 2 ex prog_2_method_1_code "ConstantFlow$Facts" (n + 54) 54 415 78 [some (.ref a0), some (.int (7 : Int32))] [] σ := by
  unfold P_F_init_i7 at h
  refine zw_iload_n d_F_init_78 rfl rfl ?_
  refine zw_bipush (v := 24) d_F_init_79 rfl ?_
  refine zw_icmp_ge (tgt := 116) d_F_init_81 rfl (fun hc => absurd hc (by decide)) (fun hc => ?_)
  refine zw_aload_n d_F_init_84 rfl rfl ?_
  obtain ⟨q1, h⟩ := h
  obtain ⟨c2, q3, h⟩ := h
  refine zw_gfr (ci := 3) (j := 2) d_F_init_85 mw_1_98 q1.1 q1.2 (by decide) (by decide) rfl q3 ?_
  refine zw_iload_n d_F_init_88 rfl rfl ?_
  obtain ⟨q4, h⟩ := h
  refine zw_new (ci := 4) d_F_init_89 mw_1_78 mw_1_80 mw_1_5 (by decide) q4 hex (Nat.le_of_ble_eq_true rfl) (Nat.le_of_ble_eq_true rfl) ?_
  refine zw_dup d_F_init_92 rfl ?_
  refine zw_callIN (b := n + 54) (As := []) (r := [.ref (n + 54), .int (7 : Int32), .ref c2]) d_F_init_93 (c_V_init hex h) mw_1_81 mw_1_82 mw_1_5 mw_1_83 rfl hyS_V_init (Nat.le_of_ble_eq_true rfl) (Nat.le_of_ble_eq_true rfl) ⟨(Nat.le_of_ble_eq_true rfl), (Nat.le_of_ble_eq_true rfl)⟩ (Nat.le_of_ble_eq_true rfl) rfl (zk_v (fun σ6 h => ?_))
  obtain ⟨q7, h⟩ := h
  obtain ⟨q8, h⟩ := h
  refine zw_aast d_F_init_96 q7.1 (zkd_eta q7.2.1) q7.2.2 q8.1 q8.2 ?_
  refine zw_aload_n d_F_init_97 rfl rfl ?_
  obtain ⟨q9, h⟩ := h
  obtain ⟨c10, q11, h⟩ := h
  refine zw_gfr (ci := 3) (j := 3) d_F_init_98 mw_1_99 q9.1 q9.2 (by decide) (by decide) rfl q11 ?_
  refine zw_iload_n d_F_init_101 rfl rfl ?_
  obtain ⟨q12, h⟩ := h
  refine zw_new (ci := 4) d_F_init_102 mw_1_78 mw_1_80 mw_1_5 (by decide) q12 hex (Nat.le_of_ble_eq_true rfl) (Nat.le_of_ble_eq_true rfl) ?_
  refine zw_dup d_F_init_105 rfl ?_
  refine zw_callIN (b := n + 57) (As := []) (r := [.ref (n + 57), .int (7 : Int32), .ref c10]) d_F_init_106 (c_V_init hex h) mw_1_81 mw_1_82 mw_1_5 mw_1_83 rfl hyS_V_init (Nat.le_of_ble_eq_true rfl) (Nat.le_of_ble_eq_true rfl) ⟨(Nat.le_of_ble_eq_true rfl), (Nat.le_of_ble_eq_true rfl)⟩ (Nat.le_of_ble_eq_true rfl) rfl (zk_v (fun σ14 h => ?_))
  obtain ⟨q15, h⟩ := h
  obtain ⟨q16, h⟩ := h
  refine zw_aast d_F_init_109 q15.1 (zkd_eta q15.2.1) q15.2.2 q16.1 q16.2 ?_
  refine zw_iinc (v := (8 : Int32)) d_F_init_110 rfl rfl (Nat.le_of_ble_eq_true rfl) rfl rfl ?_
  refine zw_goto (tgt := 78) d_F_init_113 rfl ?_
  exact w_F_init_i8 hr hex hnm h
def P_F_init_i6 (n : Nat) (Q : zS → Prop) (a0 : Nat) (σ : zS) : Prop := zk (n + 48) a0 3 ∧ ∃ c2, zr σ a0 2 = some c2 ∧ zkd (n + 48) = (4, 0) ∧ P_V_init (n + 49) (n + 48) (zN σ (n + 48)) (fun σ6 => za (n + 51) c2 13 (6 : Int32) ∧ zk (n + 51) (n + 48) 4 ∧ zk (n + 51) a0 3 ∧ ∃ c10, zr (zR σ6 c2 (6 : Int32).toNatClampNeg (some (n + 48))) a0 3 = some c10 ∧ zkd (n + 51) = (4, 0) ∧ P_V_init (n + 52) (n + 51) (zN (zR σ6 c2 (6 : Int32).toNatClampNeg (some (n + 48))) (n + 51)) (fun σ14 => za (n + 54) c10 13 (6 : Int32) ∧ zk (n + 54) (n + 51) 4 ∧ P_F_init_i7 n Q a0 (zR σ14 c10 (6 : Int32).toNatClampNeg (some (n + 51)))))
set_option maxHeartbeats 1000000 in
set_option maxRecDepth 10000 in
theorem w_F_init_i6 {Q : zS → Prop} (hr : meth.sig.returnType = none) (hex : ex = true) (hnm : meth.name = "<init>") {a0 : Nat} {σ : zS} (h : P_F_init_i6 n Q a0 σ) : zG p l e (zrm 3 156 1027) s m args below meth c (MQ below (zQc (zA base) D cA base (n + 156) ex (zqv Q)) args s 156 1027 (zA base)) s.heap (zA base) base D cA 2 ex prog_2_method_1_code "ConstantFlow$Facts" (n + 48) 48 379 78 [some (.ref a0), some (.int (6 : Int32))] [] σ := by
  unfold P_F_init_i6 at h
  refine zw_iload_n d_F_init_78 rfl rfl ?_
  refine zw_bipush (v := 24) d_F_init_79 rfl ?_
  refine zw_icmp_ge (tgt := 116) d_F_init_81 rfl (fun hc => absurd hc (by decide)) (fun hc => ?_)
  refine zw_aload_n d_F_init_84 rfl rfl ?_
  obtain ⟨q1, h⟩ := h
  obtain ⟨c2, q3, h⟩ := h
  refine zw_gfr (ci := 3) (j := 2) d_F_init_85 mw_1_98 q1.1 q1.2 (by decide) (by decide) rfl q3 ?_
  refine zw_iload_n d_F_init_88 rfl rfl ?_
  obtain ⟨q4, h⟩ := h
  refine zw_new (ci := 4) d_F_init_89 mw_1_78 mw_1_80 mw_1_5 (by decide) q4 hex (Nat.le_of_ble_eq_true rfl) (Nat.le_of_ble_eq_true rfl) ?_
  refine zw_dup d_F_init_92 rfl ?_
  refine zw_callIN (b := n + 48) (As := []) (r := [.ref (n + 48), .int (6 : Int32), .ref c2]) d_F_init_93 (c_V_init hex h) mw_1_81 mw_1_82 mw_1_5 mw_1_83 rfl hyS_V_init (Nat.le_of_ble_eq_true rfl) (Nat.le_of_ble_eq_true rfl) ⟨(Nat.le_of_ble_eq_true rfl), (Nat.le_of_ble_eq_true rfl)⟩ (Nat.le_of_ble_eq_true rfl) rfl (zk_v (fun σ6 h => ?_))
  obtain ⟨q7, h⟩ := h
  obtain ⟨q8, h⟩ := h
  refine zw_aast d_F_init_96 q7.1 (zkd_eta q7.2.1) q7.2.2 q8.1 q8.2 ?_
  refine zw_aload_n d_F_init_97 rfl rfl ?_
  obtain ⟨q9, h⟩ := h
  obtain ⟨c10, q11, h⟩ := h
  refine zw_gfr (ci := 3) (j := 3) d_F_init_98 mw_1_99 q9.1 q9.2 (by decide) (by decide) rfl q11 ?_
  refine zw_iload_n d_F_init_101 rfl rfl ?_
  obtain ⟨q12, h⟩ := h
  refine zw_new (ci := 4) d_F_init_102 mw_1_78 mw_1_80 mw_1_5 (by decide) q12 hex (Nat.le_of_ble_eq_true rfl) (Nat.le_of_ble_eq_true rfl) ?_
  refine zw_dup d_F_init_105 rfl ?_
  refine zw_callIN (b := n + 51) (As := []) (r := [.ref (n + 51), .int (6 : Int32), .ref c10]) d_F_init_106 (c_V_init hex h) mw_1_81 mw_1_82 mw_1_5 mw_1_83 rfl hyS_V_init (Nat.le_of_ble_eq_true rfl) (Nat.le_of_ble_eq_true rfl) ⟨(Nat.le_of_ble_eq_true rfl), (Nat.le_of_ble_eq_true rfl)⟩ (Nat.le_of_ble_eq_true rfl) rfl (zk_v (fun σ14 h => ?_))
  obtain ⟨q15, h⟩ := h
  obtain ⟨q16, h⟩ := h
  refine zw_aast d_F_init_109 q15.1 (zkd_eta q15.2.1) q15.2.2 q16.1 q16.2 ?_
  refine zw_iinc (v := (7 : Int32)) d_F_init_110 rfl rfl (Nat.le_of_ble_eq_true rfl) rfl rfl ?_
  refine zw_goto (tgt := 78) d_F_init_113 rfl ?_
  exact w_F_init_i7 hr hex hnm h
def P_F_init_i5 (n : Nat) (Q : zS → Prop) (a0 : Nat) (σ : zS) : Prop := zk (n + 42) a0 3 ∧ ∃ c2, zr σ a0 2 = some c2 ∧ zkd (n + 42) = (4, 0) ∧ P_V_init (n + 43) (n + 42) (zN σ (n + 42)) (fun σ6 => za (n + 45) c2 13 (5 : Int32) ∧ zk (n + 45) (n + 42) 4 ∧ zk (n + 45) a0 3 ∧ ∃ c10, zr (zR σ6 c2 (5 : Int32).toNatClampNeg (some (n + 42))) a0 3 = some c10 ∧ zkd (n + 45) = (4, 0) ∧ P_V_init (n + 46) (n + 45) (zN (zR σ6 c2 (5 : Int32).toNatClampNeg (some (n + 42))) (n + 45)) (fun σ14 => za (n + 48) c10 13 (5 : Int32) ∧ zk (n + 48) (n + 45) 4 ∧ P_F_init_i6 n Q a0 (zR σ14 c10 (5 : Int32).toNatClampNeg (some (n + 45)))))
set_option maxHeartbeats 1000000 in
set_option maxRecDepth 10000 in
theorem w_F_init_i5 {Q : zS → Prop} (hr : meth.sig.returnType = none) (hex : ex = true) (hnm : meth.name = "<init>") {a0 : Nat} {σ : zS} (h : P_F_init_i5 n Q a0 σ) : zG p l e (zrm 3 156 1027) s m args below meth c (MQ below (zQc (zA base) D cA base (n + 156) ex (zqv Q)) args s 156 1027 (zA base)) s.heap (zA base) base D cA 2 ex prog_2_method_1_code "ConstantFlow$Facts" (n + 42) 42 343 78 [some (.ref a0), some (.int (5 : Int32))] [] σ := by
  unfold P_F_init_i5 at h
  refine zw_iload_n d_F_init_78 rfl rfl ?_
  refine zw_bipush (v := 24) d_F_init_79 rfl ?_
  refine zw_icmp_ge (tgt := 116) d_F_init_81 rfl (fun hc => absurd hc (by decide)) (fun hc => ?_)
  refine zw_aload_n d_F_init_84 rfl rfl ?_
  obtain ⟨q1, h⟩ := h
  obtain ⟨c2, q3, h⟩ := h
  refine zw_gfr (ci := 3) (j := 2) d_F_init_85 mw_1_98 q1.1 q1.2 (by decide) (by decide) rfl q3 ?_
  refine zw_iload_n d_F_init_88 rfl rfl ?_
  obtain ⟨q4, h⟩ := h
  refine zw_new (ci := 4) d_F_init_89 mw_1_78 mw_1_80 mw_1_5 (by decide) q4 hex (Nat.le_of_ble_eq_true rfl) (Nat.le_of_ble_eq_true rfl) ?_
  refine zw_dup d_F_init_92 rfl ?_
  refine zw_callIN (b := n + 42) (As := []) (r := [.ref (n + 42), .int (5 : Int32), .ref c2]) d_F_init_93 (c_V_init hex h) mw_1_81 mw_1_82 mw_1_5 mw_1_83 rfl hyS_V_init (Nat.le_of_ble_eq_true rfl) (Nat.le_of_ble_eq_true rfl) ⟨(Nat.le_of_ble_eq_true rfl), (Nat.le_of_ble_eq_true rfl)⟩ (Nat.le_of_ble_eq_true rfl) rfl (zk_v (fun σ6 h => ?_))
  obtain ⟨q7, h⟩ := h
  obtain ⟨q8, h⟩ := h
  refine zw_aast d_F_init_96 q7.1 (zkd_eta q7.2.1) q7.2.2 q8.1 q8.2 ?_
  refine zw_aload_n d_F_init_97 rfl rfl ?_
  obtain ⟨q9, h⟩ := h
  obtain ⟨c10, q11, h⟩ := h
  refine zw_gfr (ci := 3) (j := 3) d_F_init_98 mw_1_99 q9.1 q9.2 (by decide) (by decide) rfl q11 ?_
  refine zw_iload_n d_F_init_101 rfl rfl ?_
  obtain ⟨q12, h⟩ := h
  refine zw_new (ci := 4) d_F_init_102 mw_1_78 mw_1_80 mw_1_5 (by decide) q12 hex (Nat.le_of_ble_eq_true rfl) (Nat.le_of_ble_eq_true rfl) ?_
  refine zw_dup d_F_init_105 rfl ?_
  refine zw_callIN (b := n + 45) (As := []) (r := [.ref (n + 45), .int (5 : Int32), .ref c10]) d_F_init_106 (c_V_init hex h) mw_1_81 mw_1_82 mw_1_5 mw_1_83 rfl hyS_V_init (Nat.le_of_ble_eq_true rfl) (Nat.le_of_ble_eq_true rfl) ⟨(Nat.le_of_ble_eq_true rfl), (Nat.le_of_ble_eq_true rfl)⟩ (Nat.le_of_ble_eq_true rfl) rfl (zk_v (fun σ14 h => ?_))
  obtain ⟨q15, h⟩ := h
  obtain ⟨q16, h⟩ := h
  refine zw_aast d_F_init_109 q15.1 (zkd_eta q15.2.1) q15.2.2 q16.1 q16.2 ?_
  refine zw_iinc (v := (6 : Int32)) d_F_init_110 rfl rfl (Nat.le_of_ble_eq_true rfl) rfl rfl ?_
  refine zw_goto (tgt := 78) d_F_init_113 rfl ?_
  exact w_F_init_i6 hr hex hnm h
def P_F_init_i4 (n : Nat) (Q : zS → Prop) (a0 : Nat) (σ : zS) : Prop := zk (n + 36) a0 3 ∧ ∃ c2, zr σ a0 2 = some c2 ∧ zkd (n + 36) = (4, 0) ∧ P_V_init (n + 37) (n + 36) (zN σ (n + 36)) (fun σ6 => za (n + 39) c2 13 (4 : Int32) ∧ zk (n + 39) (n + 36) 4 ∧ zk (n + 39) a0 3 ∧ ∃ c10, zr (zR σ6 c2 (4 : Int32).toNatClampNeg (some (n + 36))) a0 3 = some c10 ∧ zkd (n + 39) = (4, 0) ∧ P_V_init (n + 40) (n + 39) (zN (zR σ6 c2 (4 : Int32).toNatClampNeg (some (n + 36))) (n + 39)) (fun σ14 => za (n + 42) c10 13 (4 : Int32) ∧ zk (n + 42) (n + 39) 4 ∧ P_F_init_i5 n Q a0 (zR σ14 c10 (4 : Int32).toNatClampNeg (some (n + 39)))))
set_option maxHeartbeats 1000000 in
set_option maxRecDepth 10000 in
theorem w_F_init_i4 {Q : zS → Prop} (hr : meth.sig.returnType = none) (hex : ex = true) (hnm : meth.name = "<init>") {a0 : Nat} {σ : zS} (h : P_F_init_i4 n Q a0 σ) : zG p l e (zrm 3 156 1027) s m args below meth c (MQ below (zQc (zA base) D cA base (n + 156) ex (zqv Q)) args s 156 1027 (zA base)) s.heap (zA base) base D cA 2 ex prog_2_method_1_code "ConstantFlow$Facts" (n + 36) 36 307 78 [some (.ref a0), some (.int (4 : Int32))] [] σ := by
  unfold P_F_init_i4 at h
  refine zw_iload_n d_F_init_78 rfl rfl ?_
  refine zw_bipush (v := 24) d_F_init_79 rfl ?_
  refine zw_icmp_ge (tgt := 116) d_F_init_81 rfl (fun hc => absurd hc (by decide)) (fun hc => ?_)
  refine zw_aload_n d_F_init_84 rfl rfl ?_
  obtain ⟨q1, h⟩ := h
  obtain ⟨c2, q3, h⟩ := h
  refine zw_gfr (ci := 3) (j := 2) d_F_init_85 mw_1_98 q1.1 q1.2 (by decide) (by decide) rfl q3 ?_
  refine zw_iload_n d_F_init_88 rfl rfl ?_
  obtain ⟨q4, h⟩ := h
  refine zw_new (ci := 4) d_F_init_89 mw_1_78 mw_1_80 mw_1_5 (by decide) q4 hex (Nat.le_of_ble_eq_true rfl) (Nat.le_of_ble_eq_true rfl) ?_
  refine zw_dup d_F_init_92 rfl ?_
  refine zw_callIN (b := n + 36) (As := []) (r := [.ref (n + 36), .int (4 : Int32), .ref c2]) d_F_init_93 (c_V_init hex h) mw_1_81 mw_1_82 mw_1_5 mw_1_83 rfl hyS_V_init (Nat.le_of_ble_eq_true rfl) (Nat.le_of_ble_eq_true rfl) ⟨(Nat.le_of_ble_eq_true rfl), (Nat.le_of_ble_eq_true rfl)⟩ (Nat.le_of_ble_eq_true rfl) rfl (zk_v (fun σ6 h => ?_))
  obtain ⟨q7, h⟩ := h
  obtain ⟨q8, h⟩ := h
  refine zw_aast d_F_init_96 q7.1 (zkd_eta q7.2.1) q7.2.2 q8.1 q8.2 ?_
  refine zw_aload_n d_F_init_97 rfl rfl ?_
  obtain ⟨q9, h⟩ := h
  obtain ⟨c10, q11, h⟩ := h
  refine zw_gfr (ci := 3) (j := 3) d_F_init_98 mw_1_99 q9.1 q9.2 (by decide) (by decide) rfl q11 ?_
  refine zw_iload_n d_F_init_101 rfl rfl ?_
  obtain ⟨q12, h⟩ := h
  refine zw_new (ci := 4) d_F_init_102 mw_1_78 mw_1_80 mw_1_5 (by decide) q12 hex (Nat.le_of_ble_eq_true rfl) (Nat.le_of_ble_eq_true rfl) ?_
  refine zw_dup d_F_init_105 rfl ?_
  refine zw_callIN (b := n + 39) (As := []) (r := [.ref (n + 39), .int (4 : Int32), .ref c10]) d_F_init_106 (c_V_init hex h) mw_1_81 mw_1_82 mw_1_5 mw_1_83 rfl hyS_V_init (Nat.le_of_ble_eq_true rfl) (Nat.le_of_ble_eq_true rfl) ⟨(Nat.le_of_ble_eq_true rfl), (Nat.le_of_ble_eq_true rfl)⟩ (Nat.le_of_ble_eq_true rfl) rfl (zk_v (fun σ14 h => ?_))
  obtain ⟨q15, h⟩ := h
  obtain ⟨q16, h⟩ := h
  refine zw_aast d_F_init_109 q15.1 (zkd_eta q15.2.1) q15.2.2 q16.1 q16.2 ?_
  refine zw_iinc (v := (5 : Int32)) d_F_init_110 rfl rfl (Nat.le_of_ble_eq_true rfl) rfl rfl ?_
  refine zw_goto (tgt := 78) d_F_init_113 rfl ?_
  exact w_F_init_i5 hr hex hnm h
def P_F_init_i3 (n : Nat) (Q : zS → Prop) (a0 : Nat) (σ : zS) : Prop := zk (n + 30) a0 3 ∧ ∃ c2, zr σ a0 2 = some c2 ∧ zkd (n + 30) = (4, 0) ∧ P_V_init (n + 31) (n + 30) (zN σ (n + 30)) (fun σ6 => za (n + 33) c2 13 (3 : Int32) ∧ zk (n + 33) (n + 30) 4 ∧ zk (n + 33) a0 3 ∧ ∃ c10, zr (zR σ6 c2 (3 : Int32).toNatClampNeg (some (n + 30))) a0 3 = some c10 ∧ zkd (n + 33) = (4, 0) ∧ P_V_init (n + 34) (n + 33) (zN (zR σ6 c2 (3 : Int32).toNatClampNeg (some (n + 30))) (n + 33)) (fun σ14 => za (n + 36) c10 13 (3 : Int32) ∧ zk (n + 36) (n + 33) 4 ∧ P_F_init_i4 n Q a0 (zR σ14 c10 (3 : Int32).toNatClampNeg (some (n + 33)))))
set_option maxHeartbeats 1000000 in
set_option maxRecDepth 10000 in
theorem w_F_init_i3 {Q : zS → Prop} (hr : meth.sig.returnType = none) (hex : ex = true) (hnm : meth.name = "<init>") {a0 : Nat} {σ : zS} (h : P_F_init_i3 n Q a0 σ) : zG p l e (zrm 3 156 1027) s m args below meth c (MQ below (zQc (zA base) D cA base (n + 156) ex (zqv Q)) args s 156 1027 (zA base)) s.heap (zA base) base D cA 2 ex prog_2_method_1_code "ConstantFlow$Facts" (n + 30) 30 271 78 [some (.ref a0), some (.int (3 : Int32))] [] σ := by
  unfold P_F_init_i3 at h
  refine zw_iload_n d_F_init_78 rfl rfl ?_
  refine zw_bipush (v := 24) d_F_init_79 rfl ?_
  refine zw_icmp_ge (tgt := 116) d_F_init_81 rfl (fun hc => absurd hc (by decide)) (fun hc => ?_)
  refine zw_aload_n d_F_init_84 rfl rfl ?_
  obtain ⟨q1, h⟩ := h
  obtain ⟨c2, q3, h⟩ := h
  refine zw_gfr (ci := 3) (j := 2) d_F_init_85 mw_1_98 q1.1 q1.2 (by decide) (by decide) rfl q3 ?_
  refine zw_iload_n d_F_init_88 rfl rfl ?_
  obtain ⟨q4, h⟩ := h
  refine zw_new (ci := 4) d_F_init_89 mw_1_78 mw_1_80 mw_1_5 (by decide) q4 hex (Nat.le_of_ble_eq_true rfl) (Nat.le_of_ble_eq_true rfl) ?_
  refine zw_dup d_F_init_92 rfl ?_
  refine zw_callIN (b := n + 30) (As := []) (r := [.ref (n + 30), .int (3 : Int32), .ref c2]) d_F_init_93 (c_V_init hex h) mw_1_81 mw_1_82 mw_1_5 mw_1_83 rfl hyS_V_init (Nat.le_of_ble_eq_true rfl) (Nat.le_of_ble_eq_true rfl) ⟨(Nat.le_of_ble_eq_true rfl), (Nat.le_of_ble_eq_true rfl)⟩ (Nat.le_of_ble_eq_true rfl) rfl (zk_v (fun σ6 h => ?_))
  obtain ⟨q7, h⟩ := h
  obtain ⟨q8, h⟩ := h
  refine zw_aast d_F_init_96 q7.1 (zkd_eta q7.2.1) q7.2.2 q8.1 q8.2 ?_
  refine zw_aload_n d_F_init_97 rfl rfl ?_
  obtain ⟨q9, h⟩ := h
  obtain ⟨c10, q11, h⟩ := h
  refine zw_gfr (ci := 3) (j := 3) d_F_init_98 mw_1_99 q9.1 q9.2 (by decide) (by decide) rfl q11 ?_
  refine zw_iload_n d_F_init_101 rfl rfl ?_
  obtain ⟨q12, h⟩ := h
  refine zw_new (ci := 4) d_F_init_102 mw_1_78 mw_1_80 mw_1_5 (by decide) q12 hex (Nat.le_of_ble_eq_true rfl) (Nat.le_of_ble_eq_true rfl) ?_
  refine zw_dup d_F_init_105 rfl ?_
  refine zw_callIN (b := n + 33) (As := []) (r := [.ref (n + 33), .int (3 : Int32), .ref c10]) d_F_init_106 (c_V_init hex h) mw_1_81 mw_1_82 mw_1_5 mw_1_83 rfl hyS_V_init (Nat.le_of_ble_eq_true rfl) (Nat.le_of_ble_eq_true rfl) ⟨(Nat.le_of_ble_eq_true rfl), (Nat.le_of_ble_eq_true rfl)⟩ (Nat.le_of_ble_eq_true rfl) rfl (zk_v (fun σ14 h => ?_))
  obtain ⟨q15, h⟩ := h
  obtain ⟨q16, h⟩ := h
  refine zw_aast d_F_init_109 q15.1 (zkd_eta q15.2.1) q15.2.2 q16.1 q16.2 ?_
  refine zw_iinc (v := (4 : Int32)) d_F_init_110 rfl rfl (Nat.le_of_ble_eq_true rfl) rfl rfl ?_
  refine zw_goto (tgt := 78) d_F_init_113 rfl ?_
  exact w_F_init_i4 hr hex hnm h
def P_F_init_i2 (n : Nat) (Q : zS → Prop) (a0 : Nat) (σ : zS) : Prop := zk (n + 24) a0 3 ∧ ∃ c2, zr σ a0 2 = some c2 ∧ zkd (n + 24) = (4, 0) ∧ P_V_init (n + 25) (n + 24) (zN σ (n + 24)) (fun σ6 => za (n + 27) c2 13 (2 : Int32) ∧ zk (n + 27) (n + 24) 4 ∧ zk (n + 27) a0 3 ∧ ∃ c10, zr (zR σ6 c2 (2 : Int32).toNatClampNeg (some (n + 24))) a0 3 = some c10 ∧ zkd (n + 27) = (4, 0) ∧ P_V_init (n + 28) (n + 27) (zN (zR σ6 c2 (2 : Int32).toNatClampNeg (some (n + 24))) (n + 27)) (fun σ14 => za (n + 30) c10 13 (2 : Int32) ∧ zk (n + 30) (n + 27) 4 ∧ P_F_init_i3 n Q a0 (zR σ14 c10 (2 : Int32).toNatClampNeg (some (n + 27)))))
set_option maxHeartbeats 1000000 in
set_option maxRecDepth 10000 in
theorem w_F_init_i2 {Q : zS → Prop} (hr : meth.sig.returnType = none) (hex : ex = true) (hnm : meth.name = "<init>") {a0 : Nat} {σ : zS} (h : P_F_init_i2 n Q a0 σ) : zG p l e (zrm 3 156 1027) s m args below meth c (MQ below (zQc (zA base) D cA base (n + 156) ex (zqv Q)) args s 156 1027 (zA base)) s.heap (zA base) base D cA 2 ex prog_2_method_1_code "ConstantFlow$Facts" (n + 24) 24 235 78 [some (.ref a0), some (.int (2 : Int32))] [] σ := by
  unfold P_F_init_i2 at h
  refine zw_iload_n d_F_init_78 rfl rfl ?_
  refine zw_bipush (v := 24) d_F_init_79 rfl ?_
  refine zw_icmp_ge (tgt := 116) d_F_init_81 rfl (fun hc => absurd hc (by decide)) (fun hc => ?_)
  refine zw_aload_n d_F_init_84 rfl rfl ?_
  obtain ⟨q1, h⟩ := h
  obtain ⟨c2, q3, h⟩ := h
  refine zw_gfr (ci := 3) (j := 2) d_F_init_85 mw_1_98 q1.1 q1.2 (by decide) (by decide) rfl q3 ?_
  refine zw_iload_n d_F_init_88 rfl rfl ?_
  obtain ⟨q4, h⟩ := h
  refine zw_new (ci := 4) d_F_init_89 mw_1_78 mw_1_80 mw_1_5 (by decide) q4 hex (Nat.le_of_ble_eq_true rfl) (Nat.le_of_ble_eq_true rfl) ?_
  refine zw_dup d_F_init_92 rfl ?_
  refine zw_callIN (b := n + 24) (As := []) (r := [.ref (n + 24), .int (2 : Int32), .ref c2]) d_F_init_93 (c_V_init hex h) mw_1_81 mw_1_82 mw_1_5 mw_1_83 rfl hyS_V_init (Nat.le_of_ble_eq_true rfl) (Nat.le_of_ble_eq_true rfl) ⟨(Nat.le_of_ble_eq_true rfl), (Nat.le_of_ble_eq_true rfl)⟩ (Nat.le_of_ble_eq_true rfl) rfl (zk_v (fun σ6 h => ?_))
  obtain ⟨q7, h⟩ := h
  obtain ⟨q8, h⟩ := h
  refine zw_aast d_F_init_96 q7.1 (zkd_eta q7.2.1) q7.2.2 q8.1 q8.2 ?_
  refine zw_aload_n d_F_init_97 rfl rfl ?_
  obtain ⟨q9, h⟩ := h
  obtain ⟨c10, q11, h⟩ := h
  refine zw_gfr (ci := 3) (j := 3) d_F_init_98 mw_1_99 q9.1 q9.2 (by decide) (by decide) rfl q11 ?_
  refine zw_iload_n d_F_init_101 rfl rfl ?_
  obtain ⟨q12, h⟩ := h
  refine zw_new (ci := 4) d_F_init_102 mw_1_78 mw_1_80 mw_1_5 (by decide) q12 hex (Nat.le_of_ble_eq_true rfl) (Nat.le_of_ble_eq_true rfl) ?_
  refine zw_dup d_F_init_105 rfl ?_
  refine zw_callIN (b := n + 27) (As := []) (r := [.ref (n + 27), .int (2 : Int32), .ref c10]) d_F_init_106 (c_V_init hex h) mw_1_81 mw_1_82 mw_1_5 mw_1_83 rfl hyS_V_init (Nat.le_of_ble_eq_true rfl) (Nat.le_of_ble_eq_true rfl) ⟨(Nat.le_of_ble_eq_true rfl), (Nat.le_of_ble_eq_true rfl)⟩ (Nat.le_of_ble_eq_true rfl) rfl (zk_v (fun σ14 h => ?_))
  obtain ⟨q15, h⟩ := h
  obtain ⟨q16, h⟩ := h
  refine zw_aast d_F_init_109 q15.1 (zkd_eta q15.2.1) q15.2.2 q16.1 q16.2 ?_
  refine zw_iinc (v := (3 : Int32)) d_F_init_110 rfl rfl (Nat.le_of_ble_eq_true rfl) rfl rfl ?_
  refine zw_goto (tgt := 78) d_F_init_113 rfl ?_
  exact w_F_init_i3 hr hex hnm h
def P_F_init_i1 (n : Nat) (Q : zS → Prop) (a0 : Nat) (σ : zS) : Prop := zk (n + 18) a0 3 ∧ ∃ c2, zr σ a0 2 = some c2 ∧ zkd (n + 18) = (4, 0) ∧ P_V_init (n + 19) (n + 18) (zN σ (n + 18)) (fun σ6 => za (n + 21) c2 13 (1 : Int32) ∧ zk (n + 21) (n + 18) 4 ∧ zk (n + 21) a0 3 ∧ ∃ c10, zr (zR σ6 c2 (1 : Int32).toNatClampNeg (some (n + 18))) a0 3 = some c10 ∧ zkd (n + 21) = (4, 0) ∧ P_V_init (n + 22) (n + 21) (zN (zR σ6 c2 (1 : Int32).toNatClampNeg (some (n + 18))) (n + 21)) (fun σ14 => za (n + 24) c10 13 (1 : Int32) ∧ zk (n + 24) (n + 21) 4 ∧ P_F_init_i2 n Q a0 (zR σ14 c10 (1 : Int32).toNatClampNeg (some (n + 21)))))
set_option maxHeartbeats 1000000 in
set_option maxRecDepth 10000 in
theorem w_F_init_i1 {Q : zS → Prop} (hr : meth.sig.returnType = none) (hex : ex = true) (hnm : meth.name = "<init>") {a0 : Nat} {σ : zS} (h : P_F_init_i1 n Q a0 σ) : zG p l e (zrm 3 156 1027) s m args below meth c (MQ below (zQc (zA base) D cA base (n + 156) ex (zqv Q)) args s 156 1027 (zA base)) s.heap (zA base) base D cA 2 ex prog_2_method_1_code "ConstantFlow$Facts" (n + 18) 18 199 78 [some (.ref a0), some (.int (1 : Int32))] [] σ := by
  unfold P_F_init_i1 at h
  refine zw_iload_n d_F_init_78 rfl rfl ?_
  refine zw_bipush (v := 24) d_F_init_79 rfl ?_
  refine zw_icmp_ge (tgt := 116) d_F_init_81 rfl (fun hc => absurd hc (by decide)) (fun hc => ?_)
  refine zw_aload_n d_F_init_84 rfl rfl ?_
  obtain ⟨q1, h⟩ := h
  obtain ⟨c2, q3, h⟩ := h
  refine zw_gfr (ci := 3) (j := 2) d_F_init_85 mw_1_98 q1.1 q1.2 (by decide) (by decide) rfl q3 ?_
  refine zw_iload_n d_F_init_88 rfl rfl ?_
  obtain ⟨q4, h⟩ := h
  refine zw_new (ci := 4) d_F_init_89 mw_1_78 mw_1_80 mw_1_5 (by decide) q4 hex (Nat.le_of_ble_eq_true rfl) (Nat.le_of_ble_eq_true rfl) ?_
  refine zw_dup d_F_init_92 rfl ?_
  refine zw_callIN (b := n + 18) (As := []) (r := [.ref (n + 18), .int (1 : Int32), .ref c2]) d_F_init_93 (c_V_init hex h) mw_1_81 mw_1_82 mw_1_5 mw_1_83 rfl hyS_V_init (Nat.le_of_ble_eq_true rfl) (Nat.le_of_ble_eq_true rfl) ⟨(Nat.le_of_ble_eq_true rfl), (Nat.le_of_ble_eq_true rfl)⟩ (Nat.le_of_ble_eq_true rfl) rfl (zk_v (fun σ6 h => ?_))
  obtain ⟨q7, h⟩ := h
  obtain ⟨q8, h⟩ := h
  refine zw_aast d_F_init_96 q7.1 (zkd_eta q7.2.1) q7.2.2 q8.1 q8.2 ?_
  refine zw_aload_n d_F_init_97 rfl rfl ?_
  obtain ⟨q9, h⟩ := h
  obtain ⟨c10, q11, h⟩ := h
  refine zw_gfr (ci := 3) (j := 3) d_F_init_98 mw_1_99 q9.1 q9.2 (by decide) (by decide) rfl q11 ?_
  refine zw_iload_n d_F_init_101 rfl rfl ?_
  obtain ⟨q12, h⟩ := h
  refine zw_new (ci := 4) d_F_init_102 mw_1_78 mw_1_80 mw_1_5 (by decide) q12 hex (Nat.le_of_ble_eq_true rfl) (Nat.le_of_ble_eq_true rfl) ?_
  refine zw_dup d_F_init_105 rfl ?_
  refine zw_callIN (b := n + 21) (As := []) (r := [.ref (n + 21), .int (1 : Int32), .ref c10]) d_F_init_106 (c_V_init hex h) mw_1_81 mw_1_82 mw_1_5 mw_1_83 rfl hyS_V_init (Nat.le_of_ble_eq_true rfl) (Nat.le_of_ble_eq_true rfl) ⟨(Nat.le_of_ble_eq_true rfl), (Nat.le_of_ble_eq_true rfl)⟩ (Nat.le_of_ble_eq_true rfl) rfl (zk_v (fun σ14 h => ?_))
  obtain ⟨q15, h⟩ := h
  obtain ⟨q16, h⟩ := h
  refine zw_aast d_F_init_109 q15.1 (zkd_eta q15.2.1) q15.2.2 q16.1 q16.2 ?_
  refine zw_iinc (v := (2 : Int32)) d_F_init_110 rfl rfl (Nat.le_of_ble_eq_true rfl) rfl rfl ?_
  refine zw_goto (tgt := 78) d_F_init_113 rfl ?_
  exact w_F_init_i2 hr hex hnm h
def P_F_init_i0 (n : Nat) (Q : zS → Prop) (a0 : Nat) (σ : zS) : Prop := zk (n + 12) a0 3 ∧ ∃ c2, zr σ a0 2 = some c2 ∧ zkd (n + 12) = (4, 0) ∧ P_V_init (n + 13) (n + 12) (zN σ (n + 12)) (fun σ6 => za (n + 15) c2 13 (0 : Int32) ∧ zk (n + 15) (n + 12) 4 ∧ zk (n + 15) a0 3 ∧ ∃ c10, zr (zR σ6 c2 (0 : Int32).toNatClampNeg (some (n + 12))) a0 3 = some c10 ∧ zkd (n + 15) = (4, 0) ∧ P_V_init (n + 16) (n + 15) (zN (zR σ6 c2 (0 : Int32).toNatClampNeg (some (n + 12))) (n + 15)) (fun σ14 => za (n + 18) c10 13 (0 : Int32) ∧ zk (n + 18) (n + 15) 4 ∧ P_F_init_i1 n Q a0 (zR σ14 c10 (0 : Int32).toNatClampNeg (some (n + 15)))))
set_option maxHeartbeats 1000000 in
set_option maxRecDepth 10000 in
theorem w_F_init_i0 {Q : zS → Prop} (hr : meth.sig.returnType = none) (hex : ex = true) (hnm : meth.name = "<init>") {a0 : Nat} {σ : zS} (h : P_F_init_i0 n Q a0 σ) : zG p l e (zrm 3 156 1027) s m args below meth c (MQ below (zQc (zA base) D cA base (n + 156) ex (zqv Q)) args s 156 1027 (zA base)) s.heap (zA base) base D cA 2 ex prog_2_method_1_code "ConstantFlow$Facts" (n + 12) 12 163 78 [some (.ref a0), some (.int (0 : Int32))] [] σ := by
  unfold P_F_init_i0 at h
  refine zw_iload_n d_F_init_78 rfl rfl ?_
  refine zw_bipush (v := 24) d_F_init_79 rfl ?_
  refine zw_icmp_ge (tgt := 116) d_F_init_81 rfl (fun hc => absurd hc (by decide)) (fun hc => ?_)
  refine zw_aload_n d_F_init_84 rfl rfl ?_
  obtain ⟨q1, h⟩ := h
  obtain ⟨c2, q3, h⟩ := h
  refine zw_gfr (ci := 3) (j := 2) d_F_init_85 mw_1_98 q1.1 q1.2 (by decide) (by decide) rfl q3 ?_
  refine zw_iload_n d_F_init_88 rfl rfl ?_
  obtain ⟨q4, h⟩ := h
  refine zw_new (ci := 4) d_F_init_89 mw_1_78 mw_1_80 mw_1_5 (by decide) q4 hex (Nat.le_of_ble_eq_true rfl) (Nat.le_of_ble_eq_true rfl) ?_
  refine zw_dup d_F_init_92 rfl ?_
  refine zw_callIN (b := n + 12) (As := []) (r := [.ref (n + 12), .int (0 : Int32), .ref c2]) d_F_init_93 (c_V_init hex h) mw_1_81 mw_1_82 mw_1_5 mw_1_83 rfl hyS_V_init (Nat.le_of_ble_eq_true rfl) (Nat.le_of_ble_eq_true rfl) ⟨(Nat.le_of_ble_eq_true rfl), (Nat.le_of_ble_eq_true rfl)⟩ (Nat.le_of_ble_eq_true rfl) rfl (zk_v (fun σ6 h => ?_))
  obtain ⟨q7, h⟩ := h
  obtain ⟨q8, h⟩ := h
  refine zw_aast d_F_init_96 q7.1 (zkd_eta q7.2.1) q7.2.2 q8.1 q8.2 ?_
  refine zw_aload_n d_F_init_97 rfl rfl ?_
  obtain ⟨q9, h⟩ := h
  obtain ⟨c10, q11, h⟩ := h
  refine zw_gfr (ci := 3) (j := 3) d_F_init_98 mw_1_99 q9.1 q9.2 (by decide) (by decide) rfl q11 ?_
  refine zw_iload_n d_F_init_101 rfl rfl ?_
  obtain ⟨q12, h⟩ := h
  refine zw_new (ci := 4) d_F_init_102 mw_1_78 mw_1_80 mw_1_5 (by decide) q12 hex (Nat.le_of_ble_eq_true rfl) (Nat.le_of_ble_eq_true rfl) ?_
  refine zw_dup d_F_init_105 rfl ?_
  refine zw_callIN (b := n + 15) (As := []) (r := [.ref (n + 15), .int (0 : Int32), .ref c10]) d_F_init_106 (c_V_init hex h) mw_1_81 mw_1_82 mw_1_5 mw_1_83 rfl hyS_V_init (Nat.le_of_ble_eq_true rfl) (Nat.le_of_ble_eq_true rfl) ⟨(Nat.le_of_ble_eq_true rfl), (Nat.le_of_ble_eq_true rfl)⟩ (Nat.le_of_ble_eq_true rfl) rfl (zk_v (fun σ14 h => ?_))
  obtain ⟨q15, h⟩ := h
  obtain ⟨q16, h⟩ := h
  refine zw_aast d_F_init_109 q15.1 (zkd_eta q15.2.1) q15.2.2 q16.1 q16.2 ?_
  refine zw_iinc (v := (1 : Int32)) d_F_init_110 rfl rfl (Nat.le_of_ble_eq_true rfl) rfl rfl ?_
  refine zw_goto (tgt := 78) d_F_init_113 rfl ?_
  exact w_F_init_i1 hr hex hnm h
def P_F_init (n : Nat) (a0 : Nat) (σ : zS) (Q : zS → Prop) : Prop := zkd n = (11, 24) ∧ zk (n + 1) a0 3 ∧ zkd (n + 1) = (11, 24) ∧ zk (n + 2) a0 3 ∧ zkd (n + 2) = (13, 24) ∧ zk (n + 3) a0 3 ∧ zkd (n + 3) = (13, 24) ∧ zk (n + 4) a0 3 ∧ zkd (n + 4) = (4, 0) ∧ P_V_init (n + 5) (n + 4) (zN (zR (zN (zR (zN (zR (zN (zR (zN σ n) a0 0 (some n)) (n + 1)) a0 1 (some (n + 1))) (n + 2)) a0 2 (some (n + 2))) (n + 3)) a0 3 (some (n + 3))) (n + 4)) (fun σ11 => zk (n + 7) a0 3 ∧ zkd (n + 7) = (4, 0) ∧ P_V_init (n + 8) (n + 7) (zN (zR σ11 a0 4 (some (n + 4))) (n + 7)) (fun σ15 => zk (n + 10) a0 3 ∧ zkd (n + 10) = (10, 24) ∧ zk (n + 11) a0 3 ∧ zkd (n + 11) = (10, 7) ∧ zk (n + 12) a0 3 ∧ P_F_init_i0 n Q a0 (zR (zN (zR (zN (zR σ15 a0 5 (some (n + 7))) (n + 10)) a0 6 (some (n + 10))) (n + 11)) a0 7 (some (n + 11)))))
set_option maxHeartbeats 1000000 in
set_option maxRecDepth 10000 in
theorem w_F_init {Q : zS → Prop} (hr : meth.sig.returnType = none) (hex : ex = true) (hnm : meth.name = "<init>") {a0 : Nat} {σ : zS} (h : P_F_init n a0 σ Q) : zG p l e (zrm 3 156 1027) s m args below meth c (MQ below (zQc (zA base) D cA base (n + 156) ex (zqv Q)) args s 156 1027 (zA base)) s.heap (zA base) base D cA 2 ex prog_2_method_1_code "ConstantFlow$Facts" n 0 0 0 [some (.ref a0), none] [] σ := by
  unfold P_F_init at h
  refine zw_aload_n d_F_init_0 rfl rfl ?_
  refine zw_oinit d_F_init_1 mw_1_77 mw_1_22 mw_1_23 (Nat.le_of_ble_eq_true rfl) (Nat.le_of_ble_eq_true rfl) ?_
  refine zw_aload_n d_F_init_4 rfl rfl ?_
  refine zw_bipush (v := 24) d_F_init_5 rfl ?_
  obtain ⟨q1, h⟩ := h
  refine zw_newa (tag := 11) (len := 24) (t0 := 1) d_F_init_7 mw_1_94 rfl rfl (by decide) (by decide) (fun h => h) (fun j => by unfold zv; simp [zi_N, zl_N]; try rfl) q1 (by decide) (by decide) (by decide) hex (Nat.le_of_ble_eq_true rfl) (Nat.le_of_ble_eq_true rfl) ?_
  obtain ⟨q2, h⟩ := h
  refine zw_pfrF (ci := 3) (j := 0) d_F_init_9 mw_1_95 hnm rfl q2.1 q2.2 (by decide) (by decide) rfl rfl (fun _ => rfl) (fun _ => rfl) ?_
  refine zw_aload_n d_F_init_12 rfl rfl ?_
  refine zw_bipush (v := 24) d_F_init_13 rfl ?_
  obtain ⟨q3, h⟩ := h
  refine zw_newa (tag := 11) (len := 24) (t0 := 1) d_F_init_15 mw_1_94 rfl rfl (by decide) (by decide) (fun h => h) (fun j => by unfold zv; simp [zi_N, zl_N]; try rfl) q3 (by decide) (by decide) (by decide) hex (Nat.le_of_ble_eq_true rfl) (Nat.le_of_ble_eq_true rfl) ?_
  obtain ⟨q4, h⟩ := h
  refine zw_pfrF (ci := 3) (j := 1) d_F_init_17 mw_1_97 hnm rfl q4.1 q4.2 (by decide) (by decide) rfl rfl (fun _ => rfl) (fun _ => rfl) ?_
  refine zw_aload_n d_F_init_20 rfl rfl ?_
  refine zw_bipush (v := 24) d_F_init_21 rfl ?_
  obtain ⟨q5, h⟩ := h
  refine zw_newq (len := 24) d_F_init_23 mw_1_78 mw_1_79 q5 (by decide) (by decide) (by decide) hex (Nat.le_of_ble_eq_true rfl) (Nat.le_of_ble_eq_true rfl) ?_
  obtain ⟨q6, h⟩ := h
  refine zw_pfrF (ci := 3) (j := 2) d_F_init_26 mw_1_98 hnm rfl q6.1 q6.2 (by decide) (by decide) rfl rfl (fun _ => rfl) (fun _ => rfl) ?_
  refine zw_aload_n d_F_init_29 rfl rfl ?_
  refine zw_bipush (v := 24) d_F_init_30 rfl ?_
  obtain ⟨q7, h⟩ := h
  refine zw_newq (len := 24) d_F_init_32 mw_1_78 mw_1_79 q7 (by decide) (by decide) (by decide) hex (Nat.le_of_ble_eq_true rfl) (Nat.le_of_ble_eq_true rfl) ?_
  obtain ⟨q8, h⟩ := h
  refine zw_pfrF (ci := 3) (j := 3) d_F_init_35 mw_1_99 hnm rfl q8.1 q8.2 (by decide) (by decide) rfl rfl (fun _ => rfl) (fun _ => rfl) ?_
  refine zw_aload_n d_F_init_38 rfl rfl ?_
  obtain ⟨q9, h⟩ := h
  refine zw_new (ci := 4) d_F_init_39 mw_1_78 mw_1_80 mw_1_5 (by decide) q9 hex (Nat.le_of_ble_eq_true rfl) (Nat.le_of_ble_eq_true rfl) ?_
  refine zw_dup d_F_init_42 rfl ?_
  refine zw_callIN (b := n + 4) (As := []) (r := [.ref (n + 4), .ref a0]) d_F_init_43 (c_V_init hex h) mw_1_81 mw_1_82 mw_1_5 mw_1_83 rfl hyS_V_init (Nat.le_of_ble_eq_true rfl) (Nat.le_of_ble_eq_true rfl) ⟨(Nat.le_of_ble_eq_true rfl), (Nat.le_of_ble_eq_true rfl)⟩ (Nat.le_of_ble_eq_true rfl) rfl (zk_v (fun σ11 h => ?_))
  obtain ⟨q12, h⟩ := h
  refine zw_pfrF (ci := 3) (j := 4) d_F_init_46 mw_1_100 hnm rfl q12.1 q12.2 (by decide) (by decide) rfl rfl (fun _ => rfl) (fun _ => rfl) ?_
  refine zw_aload_n d_F_init_49 rfl rfl ?_
  obtain ⟨q13, h⟩ := h
  refine zw_new (ci := 4) d_F_init_50 mw_1_78 mw_1_80 mw_1_5 (by decide) q13 hex (Nat.le_of_ble_eq_true rfl) (Nat.le_of_ble_eq_true rfl) ?_
  refine zw_dup d_F_init_53 rfl ?_
  refine zw_callIN (b := n + 7) (As := []) (r := [.ref (n + 7), .ref a0]) d_F_init_54 (c_V_init hex h) mw_1_81 mw_1_82 mw_1_5 mw_1_83 rfl hyS_V_init (Nat.le_of_ble_eq_true rfl) (Nat.le_of_ble_eq_true rfl) ⟨(Nat.le_of_ble_eq_true rfl), (Nat.le_of_ble_eq_true rfl)⟩ (Nat.le_of_ble_eq_true rfl) rfl (zk_v (fun σ15 h => ?_))
  obtain ⟨q16, h⟩ := h
  refine zw_pfrF (ci := 3) (j := 5) d_F_init_57 mw_1_101 hnm rfl q16.1 q16.2 (by decide) (by decide) rfl rfl (fun _ => rfl) (fun _ => rfl) ?_
  refine zw_aload_n d_F_init_60 rfl rfl ?_
  refine zw_bipush (v := 24) d_F_init_61 rfl ?_
  obtain ⟨q17, h⟩ := h
  refine zw_newa (tag := 10) (len := 24) (t0 := 0) d_F_init_63 mw_1_71 rfl rfl (by decide) (by decide) (fun h => h) (fun j => by unfold zv; simp [zi_N, zl_N]; try rfl) q17 (by decide) (by decide) (by decide) hex (Nat.le_of_ble_eq_true rfl) (Nat.le_of_ble_eq_true rfl) ?_
  obtain ⟨q18, h⟩ := h
  refine zw_pfrF (ci := 3) (j := 6) d_F_init_65 mw_1_102 hnm rfl q18.1 q18.2 (by decide) (by decide) rfl rfl (fun _ => rfl) (fun _ => rfl) ?_
  refine zw_aload_n d_F_init_68 rfl rfl ?_
  refine zw_bipush (v := 7) d_F_init_69 rfl ?_
  obtain ⟨q19, h⟩ := h
  refine zw_newa (tag := 10) (len := 7) (t0 := 0) d_F_init_71 mw_1_71 rfl rfl (by decide) (by decide) (fun h => h) (fun j => by unfold zv; simp [zi_N, zl_N]; try rfl) q19 (by decide) (by decide) (by decide) hex (Nat.le_of_ble_eq_true rfl) (Nat.le_of_ble_eq_true rfl) ?_
  obtain ⟨q20, h⟩ := h
  refine zw_pfrF (ci := 3) (j := 7) d_F_init_73 mw_1_103 hnm rfl q20.1 q20.2 (by decide) (by decide) rfl rfl (fun _ => rfl) (fun _ => rfl) ?_
  refine zw_iconst (v := 0) d_F_init_76 rfl ?_
  refine zw_istore_n d_F_init_77 rfl (Nat.le_of_ble_eq_true rfl) rfl rfl ?_
  exact w_F_init_i0 hr hex hnm h
theorem c_F_init {l : Launch} {D : va_G} {cA : Nat → ClassId} {base n : Nat} {ex : Bool} {Q : zS → Prop} (hex : ex = true) {a0 : Nat} {σ : zS} (h : P_F_init n a0 σ Q) : zM l y_F_init prog_2_method_1_code 2 (none) 3 156 1027 (zA base) D cA base n (n + 156) ex [.ref a0] σ (zqv Q) :=
  zMet (by decide) rfl (Nat.le_of_ble_eq_true rfl) (fun p e s m args below meth c hr hnm => w_F_init hr hex hnm h)
def P_C_init (n : Nat) (a0 : Nat) (σ : zS) (Q : zS → Prop) : Prop := zkd 1 = (1, 0) ∧ P_T_init 2 1 (700 : Int32) (zN σ 1) (fun σ3 => zk 3 a0 0 ∧ zkd 3 = (1, 0) ∧ P_T_init 4 3 (1448 : Int32) (zN (zR σ3 a0 0 (some 1)) 3) (fun σ7 => zk 5 a0 0 ∧ zkd 5 = (2, 0) ∧ zk 6 a0 0 ∧ ∃ c11, zr (zN (zR σ7 a0 1 (some 3)) 5) a0 0 = some c11 ∧ P_R_init 6 5 c11 (zN (zR σ7 a0 1 (some 3)) 5) (fun σ14 => zk 7 a0 0 ∧ zkd 7 = (3, 0) ∧ P_F_init 8 7 (zN (zR σ14 a0 2 (some 5)) 7) (fun σ18 => zk 164 a0 0 ∧ zkd 164 = (5, 0) ∧ P_X_init 165 164 (zN (zR σ18 a0 3 (some 7)) 164) (fun σ22 => zk 167 a0 0 ∧ zkd 167 = (6, 0) ∧ P_G_init 168 167 (zN (zR σ22 a0 4 (some 164)) 167) (fun σ26 => zk 175 a0 0 ∧ zkd 175 = (6, 0) ∧ P_G_init 176 175 (zN (zR σ26 a0 5 (some 167)) 175) (fun σ30 => zk 183 a0 0 ∧ ∃ c32, zr (zR σ30 a0 6 (some 175)) a0 3 = some c32 ∧ ∃ c34, zr (zR σ30 a0 6 (some 175)) a0 5 = some c34 ∧ zk 183 c32 3 ∧ P_F_find 183 c32 c34 (zR σ30 a0 6 (some 175)) (fun σ37 => Q σ37))))))))
set_option maxHeartbeats 1000000 in
set_option maxRecDepth 10000 in
theorem w_C_init {Q : zS → Prop} (hr : meth.sig.returnType = none) (hex : ex = true) (hnm : meth.name = "<init>") {a0 : Nat} {σ : zS} (h : P_C_init n a0 σ Q) : zG p l e (zrm 8 182 4554) s m args below meth c (MQ below (zQc (zA base) D cA base 183 ex (zqv Q)) args s 182 4554 (zA base)) s.heap (zA base) base D cA 1 ex prog_1_method_1_code "ConstantFlow" 1 0 0 0 [some (.ref a0)] [] σ := by
  unfold P_C_init at h
  refine zw_aload_n d_C_init_0 rfl rfl ?_
  refine zw_oinit d_C_init_1 mw_1_21 mw_1_22 mw_1_23 (Nat.le_of_ble_eq_true rfl) (Nat.le_of_ble_eq_true rfl) ?_
  refine zw_aload_n d_C_init_4 rfl rfl ?_
  obtain ⟨q1, h⟩ := h
  refine zw_new (ci := 1) d_C_init_5 mw_1_24 mw_1_25 mw_1_2 (by decide) q1 hex (Nat.le_of_ble_eq_true rfl) (Nat.le_of_ble_eq_true rfl) ?_
  refine zw_dup d_C_init_8 rfl ?_
  refine zw_sipush (v := 700) d_C_init_9 rfl ?_
  refine zw_callI (b := 1) (As := [.int (700 : Int32)]) (r := [.ref 1, .ref a0]) d_C_init_12 (c_T_init hex h) mw_1_26 mw_1_27 mw_1_2 mw_1_28 rfl hyS_T_init (Nat.le_of_ble_eq_true rfl) (Nat.le_of_ble_eq_true rfl) ⟨(Nat.le_of_ble_eq_true rfl), (Nat.le_of_ble_eq_true rfl)⟩ (Nat.le_of_ble_eq_true rfl) rfl (zk_v (fun σ3 h => ?_))
  obtain ⟨q4, h⟩ := h
  refine zw_pfrF (ci := 0) (j := 0) d_C_init_15 mw_2_50 hnm rfl q4.1 q4.2 (by decide) (by decide) rfl rfl (fun _ => rfl) (fun _ => rfl) ?_
  refine zw_aload_n d_C_init_18 rfl rfl ?_
  obtain ⟨q5, h⟩ := h
  refine zw_new (ci := 1) d_C_init_19 mw_1_24 mw_1_25 mw_1_2 (by decide) q5 hex (Nat.le_of_ble_eq_true rfl) (Nat.le_of_ble_eq_true rfl) ?_
  refine zw_dup d_C_init_22 rfl ?_
  refine zw_sipush (v := 1448) d_C_init_23 rfl ?_
  refine zw_callI (b := 3) (As := [.int (1448 : Int32)]) (r := [.ref 3, .ref a0]) d_C_init_26 (c_T_init hex h) mw_1_26 mw_1_27 mw_1_2 mw_1_28 rfl hyS_T_init (Nat.le_of_ble_eq_true rfl) (Nat.le_of_ble_eq_true rfl) ⟨(Nat.le_of_ble_eq_true rfl), (Nat.le_of_ble_eq_true rfl)⟩ (Nat.le_of_ble_eq_true rfl) rfl (zk_v (fun σ7 h => ?_))
  obtain ⟨q8, h⟩ := h
  refine zw_pfrF (ci := 0) (j := 1) d_C_init_29 mw_2_51 hnm rfl q8.1 q8.2 (by decide) (by decide) rfl rfl (fun _ => rfl) (fun _ => rfl) ?_
  refine zw_aload_n d_C_init_32 rfl rfl ?_
  obtain ⟨q9, h⟩ := h
  refine zw_new (ci := 2) d_C_init_33 mw_1_41 mw_1_42 mw_1_3 (by decide) q9 hex (Nat.le_of_ble_eq_true rfl) (Nat.le_of_ble_eq_true rfl) ?_
  refine zw_dup d_C_init_36 rfl ?_
  refine zw_aload_n d_C_init_37 rfl rfl ?_
  obtain ⟨q10, h⟩ := h
  obtain ⟨c11, q12, h⟩ := h
  refine zw_gfr (ci := 0) (j := 0) d_C_init_38 mw_2_50 q10.1 q10.2 (by decide) (by decide) rfl q12 ?_
  refine zw_callI (b := 5) (As := [.ref c11]) (r := [.ref 5, .ref a0]) d_C_init_41 (c_R_init hex h) mw_1_43 mw_1_44 mw_1_3 mw_1_45 rfl hyS_R_init (Nat.le_of_ble_eq_true rfl) (Nat.le_of_ble_eq_true rfl) ⟨(Nat.le_of_ble_eq_true rfl), (Nat.le_of_ble_eq_true rfl)⟩ (Nat.le_of_ble_eq_true rfl) rfl (zk_v (fun σ14 h => ?_))
  obtain ⟨q15, h⟩ := h
  refine zw_pfrF (ci := 0) (j := 2) d_C_init_44 mw_2_52 hnm rfl q15.1 q15.2 (by decide) (by decide) rfl rfl (fun _ => rfl) (fun _ => rfl) ?_
  refine zw_aload_n d_C_init_47 rfl rfl ?_
  obtain ⟨q16, h⟩ := h
  refine zw_new (ci := 3) d_C_init_48 mw_1_72 mw_1_73 mw_1_4 (by decide) q16 hex (Nat.le_of_ble_eq_true rfl) (Nat.le_of_ble_eq_true rfl) ?_
  refine zw_dup d_C_init_51 rfl ?_
  refine zw_callI (b := 7) (As := []) (r := [.ref 7, .ref a0]) d_C_init_52 (c_F_init hex h) mw_1_74 mw_1_75 mw_1_4 mw_1_76 rfl hyS_F_init (Nat.le_of_ble_eq_true rfl) (Nat.le_of_ble_eq_true rfl) ⟨(Nat.le_of_ble_eq_true rfl), (Nat.le_of_ble_eq_true rfl)⟩ (Nat.le_of_ble_eq_true rfl) rfl (zk_v (fun σ18 h => ?_))
  obtain ⟨q19, h⟩ := h
  refine zw_pfrF (ci := 0) (j := 3) d_C_init_55 mw_2_53 hnm rfl q19.1 q19.2 (by decide) (by decide) rfl rfl (fun _ => rfl) (fun _ => rfl) ?_
  refine zw_aload_n d_C_init_58 rfl rfl ?_
  obtain ⟨q20, h⟩ := h
  refine zw_new (ci := 5) d_C_init_59 mw_1_122 mw_1_123 mw_1_6 (by decide) q20 hex (Nat.le_of_ble_eq_true rfl) (Nat.le_of_ble_eq_true rfl) ?_
  refine zw_dup d_C_init_62 rfl ?_
  refine zw_callIN (b := 164) (As := []) (r := [.ref 164, .ref a0]) d_C_init_63 (c_X_init hex h) mw_1_124 mw_1_125 mw_1_6 mw_1_126 rfl hyS_X_init (Nat.le_of_ble_eq_true rfl) (Nat.le_of_ble_eq_true rfl) ⟨(Nat.le_of_ble_eq_true rfl), (Nat.le_of_ble_eq_true rfl)⟩ (Nat.le_of_ble_eq_true rfl) rfl (zk_v (fun σ22 h => ?_))
  obtain ⟨q23, h⟩ := h
  refine zw_pfrF (ci := 0) (j := 4) d_C_init_66 mw_2_54 hnm rfl q23.1 q23.2 (by decide) (by decide) rfl rfl (fun _ => rfl) (fun _ => rfl) ?_
  refine zw_aload_n d_C_init_69 rfl rfl ?_
  obtain ⟨q24, h⟩ := h
  refine zw_new (ci := 6) d_C_init_70 mw_1_145 mw_1_146 mw_1_7 (by decide) q24 hex (Nat.le_of_ble_eq_true rfl) (Nat.le_of_ble_eq_true rfl) ?_
  refine zw_dup d_C_init_73 rfl ?_
  refine zw_callI (b := 167) (As := []) (r := [.ref 167, .ref a0]) d_C_init_74 (c_G_init hex h) mw_1_147 mw_1_148 mw_1_7 mw_1_149 rfl hyS_G_init (Nat.le_of_ble_eq_true rfl) (Nat.le_of_ble_eq_true rfl) ⟨(Nat.le_of_ble_eq_true rfl), (Nat.le_of_ble_eq_true rfl)⟩ (Nat.le_of_ble_eq_true rfl) rfl (zk_v (fun σ26 h => ?_))
  obtain ⟨q27, h⟩ := h
  refine zw_pfr (ci := 0) (j := 5) d_C_init_77 mw_2_55 q27.1 q27.2 (by decide) (by decide) rfl rfl (fun _ => rfl) (fun _ => rfl) ?_
  refine zw_aload_n d_C_init_80 rfl rfl ?_
  obtain ⟨q28, h⟩ := h
  refine zw_new (ci := 6) d_C_init_81 mw_1_145 mw_1_146 mw_1_7 (by decide) q28 hex (Nat.le_of_ble_eq_true rfl) (Nat.le_of_ble_eq_true rfl) ?_
  refine zw_dup d_C_init_84 rfl ?_
  refine zw_callI (b := 175) (As := []) (r := [.ref 175, .ref a0]) d_C_init_85 (c_G_init hex h) mw_1_147 mw_1_148 mw_1_7 mw_1_149 rfl hyS_G_init (Nat.le_of_ble_eq_true rfl) (Nat.le_of_ble_eq_true rfl) ⟨(Nat.le_of_ble_eq_true rfl), (Nat.le_of_ble_eq_true rfl)⟩ (Nat.le_of_ble_eq_true rfl) rfl (zk_v (fun σ30 h => ?_))
  obtain ⟨q31, h⟩ := h
  refine zw_pfr (ci := 0) (j := 6) d_C_init_88 mw_2_56 q31.1 q31.2 (by decide) (by decide) rfl rfl (fun _ => rfl) (fun _ => rfl) ?_
  refine zw_aload_n d_C_init_91 rfl rfl ?_
  obtain ⟨c32, q33, h⟩ := h
  refine zw_gfr (ci := 0) (j := 3) d_C_init_92 mw_2_53 q31.1 q31.2 (by decide) (by decide) rfl q33 ?_
  refine zw_aload_n d_C_init_95 rfl rfl ?_
  obtain ⟨c34, q35, h⟩ := h
  refine zw_gfr (ci := 0) (j := 5) d_C_init_96 mw_2_55 q31.1 q31.2 (by decide) (by decide) rfl q35 ?_
  obtain ⟨q38, h⟩ := h
  refine zw_callV (ci := 3) (b := c32) (As := [.ref c34]) (r := []) d_C_init_99 (c_F_find h) mw_1_203 mw_1_204 mw_1_205 mw_1_4 mw_1_206 (by decide) q38.1 q38.2 hyV_F_find (Nat.le_of_ble_eq_true rfl) (Nat.le_of_ble_eq_true rfl) ⟨(Nat.le_of_ble_eq_true rfl), (Nat.le_of_ble_eq_true rfl)⟩ (Nat.le_of_ble_eq_true rfl) rfl (zk_v (fun σ37 h => ?_))
  exact zw_vret d_C_init_102 hr h
theorem c_C_init {l : Launch} {D : va_G} {cA : Nat → ClassId} {base n : Nat} {ex : Bool} {Q : zS → Prop} (hex : ex = true) {a0 : Nat} {σ : zS} (h : P_C_init n a0 σ Q) : zM l y_C_init prog_1_method_1_code 1 (none) 8 182 4554 (zA base) D cA base 1 183 ex [.ref a0] σ (zqv Q) :=
  zMet (by decide) rfl (Nat.le_of_ble_eq_true rfl) (fun p e s m args below meth c hr hnm => w_C_init hr hex hnm h)
end
