section
variable {p : Program} {l : Launch} {e : Env} {s : State} {m : MethodId} {args : Array Value} {below : List Frame} {meth : Method} {c : Code} {base : Nat} {D : va_G} {cA : Nat → ClassId} {ex : Bool} {n : Nat}
def P_C_feed_11 (n : Nat) (Q : Int32 → zS → Prop) (σ : zS) : Prop := False
set_option maxHeartbeats 1000000 in
set_option maxRecDepth 10000 in
theorem w_C_feed_11 {Q : Int32 → zS → Prop} (hr : meth.sig.returnType = some .int) {σ : zS} (h : P_C_feed_11 n Q σ) : zG p l e (zrm 6 0 0) s m args below meth c (MQ below (zQc (zA base) D cA base n ex (zqi Q)) args s 0 0 (zA base)) s.heap (zA base) base D cA 5 ex prog_1_method_2_code "ConstantFlow" n 0 0 11 [none, none, none, none, none] [] σ := by
  unfold P_C_feed_11 at h
  exact False.elim h
def P_C_feed_41 (n : Nat) (Q : Int32 → zS → Prop) : Nat → Nat → Int32 → Int64 → Int32 → zS → Prop
  | 0, _, _, _, _, _ => False
  | f + 1, a0, a1, a2, a4, σ => ((a1 ≤ a4 → zk n a0 0 ∧ ∃ c2, zr σ a0 0 = some c2 ∧ zk n c2 1 ∧ Q (zi σ c2 1) σ) ∧ (¬ (a1 ≤ a4) → zk n a0 0 ∧ ∃ c6, zr σ a0 0 = some c6 ∧ zk n c6 1 ∧ P_T_append n c6 (Int64.toInt32 ((a2.toUInt64 >>> (((8 : Int32) * a4).toInt64.toUInt64 &&& Int64.toUInt64 63)).toInt64)) σ (fun σ9 => P_C_feed_41 n Q f a0 a1 a2 (a4 + (1 : Int32)) σ9)))
set_option maxHeartbeats 1000000 in
set_option maxRecDepth 10000 in
theorem w_C_feed_41 {Q : Int32 → zS → Prop} (hr : meth.sig.returnType = some .int) : ∀ (f : Nat) (a0 : Nat) (a1 : Int32) (a2 : Int64) (a4 : Int32) (σ : zS), P_C_feed_41 n Q f a0 a1 a2 a4 σ → zG p l e (zrm 6 0 0) s m args below meth c (MQ below (zQc (zA base) D cA base n ex (zqi Q)) args s 0 0 (zA base)) s.heap (zA base) base D cA 5 ex prog_1_method_2_code "ConstantFlow" n 0 0 41 [some (.ref a0), some (.int a1), some (.long a2), none, some (.int a4)] [] σ := by
  intro f
  induction f with
  | zero => intro a0 a1 a2 a4 σ h; exact False.elim h
  | succ f ih =>
    intro a0 a1 a2 a4 σ h
    refine zw_iload d_C_feed_41 rfl ?_
    refine zw_iload_n d_C_feed_43 rfl rfl ?_
    obtain ⟨ht, hf⟩ := h
    refine zw_icmp_ge (tgt := 68) d_C_feed_44 rfl (fun hc => ?_) (fun hc => ?_)
    · have h := ht hc; clear ht hf
      refine zw_aload_n d_C_feed_68 rfl rfl ?_
      obtain ⟨q1, h⟩ := h
      obtain ⟨c2, q3, h⟩ := h
      refine zw_gfr (ci := 0) (j := 0) d_C_feed_69 mw_2_50 q1.1 q1.2 (by decide) (by decide) rfl q3 ?_
      obtain ⟨q4, h⟩ := h
      refine zw_gfiN (ci := 1) (j := 1) d_C_feed_72 mw_1_32 q4.1 q4.2 (by decide) (by decide) rfl ?_
      exact zw_iret d_C_feed_75 hr h
    · have h := hf hc; clear ht hf
      refine zw_aload_n d_C_feed_47 rfl rfl ?_
      obtain ⟨q5, h⟩ := h
      obtain ⟨c6, q7, h⟩ := h
      refine zw_gfr (ci := 0) (j := 0) d_C_feed_48 mw_2_50 q5.1 q5.2 (by decide) (by decide) rfl q7 ?_
      refine zw_lload_n d_C_feed_51 rfl rfl ?_
      refine zw_bipush (v := 8) d_C_feed_52 rfl ?_
      refine zw_iload d_C_feed_54 rfl ?_
      refine zw_imul d_C_feed_56 ?_
      refine zw_lushr d_C_feed_57 ?_
      refine zw_l2i d_C_feed_58 ?_
      obtain ⟨q10, h⟩ := h
      refine zw_callV (ci := 1) (b := c6) (As := [.int (Int64.toInt32 ((a2.toUInt64 >>> (((8 : Int32) * a4).toInt64.toUInt64 &&& Int64.toUInt64 63)).toInt64))]) (r := []) d_C_feed_59 (c_T_append h) mw_2_219 mw_2_181 mw_2_182 mw_1_2 mw_2_183 (by decide) q10.1 q10.2 hyV_T_append (Nat.le_of_ble_eq_true rfl) (Nat.le_of_ble_eq_true rfl) ⟨(Nat.le_of_ble_eq_true rfl), (Nat.le_of_ble_eq_true rfl)⟩ (Nat.le_of_ble_eq_true rfl) rfl (zk_v (fun σ9 h => ?_))
      refine zw_iinc (v := (a4 + (1 : Int32))) d_C_feed_62 rfl rfl (Nat.le_of_ble_eq_true rfl) rfl rfl ?_
      refine zw_goto (tgt := 41) d_C_feed_65 rfl ?_
      exact ih _ _ _ _ _ h
def P_C_feed (n : Nat) (a0 : Nat) (a1 : Int32) (a2 : Int64) (σ : zS) (Q : Int32 → zS → Prop) : Prop := ((a1 < (1 : Int32) → False) ∧ (¬ (a1 < (1 : Int32)) → ((a1 ≤ (8 : Int32) → zk n a0 0 ∧ ∃ c2, zr σ a0 0 = some c2 ∧ zk n c2 1 ∧ ((((zi σ c2 1) + a1) ≤ (700 : Int32) → ∃ g, P_C_feed_41 n Q g a0 a1 a2 (0 : Int32) σ) ∧ (¬ (((zi σ c2 1) + a1) ≤ (700 : Int32)) → Q (-1 : Int32) σ))) ∧ (¬ (a1 ≤ (8 : Int32)) → False))))
set_option maxHeartbeats 1000000 in
set_option maxRecDepth 10000 in
theorem w_C_feed {Q : Int32 → zS → Prop} (hr : meth.sig.returnType = some .int) {a0 : Nat} {a1 : Int32} {a2 : Int64} {σ : zS} (h : P_C_feed n a0 a1 a2 σ Q) : zG p l e (zrm 6 0 0) s m args below meth c (MQ below (zQc (zA base) D cA base n ex (zqi Q)) args s 0 0 (zA base)) s.heap (zA base) base D cA 5 ex prog_1_method_2_code "ConstantFlow" n 0 0 0 [some (.ref a0), some (.int a1), some (.long a2), none, none] [] σ := by
  unfold P_C_feed at h
  refine zw_iload_n d_C_feed_0 rfl rfl ?_
  refine zw_iconst (v := 1) d_C_feed_1 rfl ?_
  obtain ⟨ht, hf⟩ := h
  refine zw_icmp_lt (tgt := 11) d_C_feed_2 rfl (fun hc => ?_) (fun hc => ?_)
  · have h := ht hc; clear ht hf
    exact False.elim h
  · have h := hf hc; clear ht hf
    refine zw_iload_n d_C_feed_5 rfl rfl ?_
    refine zw_bipush (v := 8) d_C_feed_6 rfl ?_
    obtain ⟨ht, hf⟩ := h
    refine zw_icmp_le (tgt := 21) d_C_feed_8 rfl (fun hc => ?_) (fun hc => ?_)
    · have h := ht hc; clear ht hf
      refine zw_aload_n d_C_feed_21 rfl rfl ?_
      obtain ⟨q1, h⟩ := h
      obtain ⟨c2, q3, h⟩ := h
      refine zw_gfr (ci := 0) (j := 0) d_C_feed_22 mw_2_50 q1.1 q1.2 (by decide) (by decide) rfl q3 ?_
      obtain ⟨q4, h⟩ := h
      refine zw_gfiN (ci := 1) (j := 1) d_C_feed_25 mw_1_32 q4.1 q4.2 (by decide) (by decide) rfl ?_
      refine zw_iload_n d_C_feed_28 rfl rfl ?_
      refine zw_iadd d_C_feed_29 ?_
      refine zw_sipush (v := 700) d_C_feed_30 rfl ?_
      obtain ⟨ht, hf⟩ := h
      refine zw_icmp_le (tgt := 38) d_C_feed_33 rfl (fun hc => ?_) (fun hc => ?_)
      · have h := ht hc; clear ht hf
        refine zw_iconst (v := 0) d_C_feed_38 rfl ?_
        refine zw_istore d_C_feed_39 (Nat.le_of_ble_eq_true rfl) rfl rfl ?_
        obtain ⟨g, h⟩ := h
        exact w_C_feed_41 hr g _ _ _ _ _ h
      · have h := hf hc; clear ht hf
        refine zw_iconst (v := -1) d_C_feed_36 rfl ?_
        exact zw_iret d_C_feed_37 hr h
    · have h := hf hc; clear ht hf
      exact False.elim h
theorem c_C_feed {l : Launch} {D : va_G} {cA : Nat → ClassId} {base n : Nat} {ex : Bool} {Q : Int32 → zS → Prop} {a0 : Nat} {a1 : Int32} {a2 : Int64} {σ : zS} (h : P_C_feed n a0 a1 a2 σ Q) : zM l y_C_feed prog_1_method_2_code 5 (some .int) 6 0 0 (zA base) D cA base n n ex [.ref a0, .int a1, .long a2] σ (zqi Q) :=
  zMet (by decide) rfl (Nat.le_of_ble_eq_true rfl) (fun p e s m args below meth c hr hnm => w_C_feed hr h)
def PT_C_feed_11 (n : Nat) (T : String → zS → Prop) (σ : zS) : Prop := T "java/lang/IllegalArgumentException" σ
set_option maxHeartbeats 1000000 in
set_option maxRecDepth 10000 in
theorem tw_C_feed_11 {T : String → zS → Prop} (hfl : l.flags = pinnedFlags ++ [noTraceFlag]) (hnoh : c.exceptionTable.isEmpty = true) (hTh : zTh base s) {σ : zS} (h : PT_C_feed_11 n T σ) : zG p l e (zrm 6 1 6) s m args below meth c (zTQ below s D cA base n 1 6 T) s.heap (fun _ => False) base D cA 5 false prog_1_method_2_code "ConstantFlow" n 0 0 11 [none, none, none, none, none] [] σ := by
  unfold PT_C_feed_11 at h
  exact zw_throw (names := ["java/lang/RuntimeException", "java/lang/Exception"]) hfl hnoh d_C_feed_11 d_C_feed_14 d_C_feed_15 d_C_feed_17 d_C_feed_20 mx_3_0 mx_3_1 mx_1_12 (hTh.2.2.1 60 "n is not 1 to 8" (zt3 (List.mem_of_getElem? (i := 41) rfl))) (zat_IAE hTh) (by decide) (by decide) (Nat.le_of_ble_eq_true rfl) (Nat.le_of_ble_eq_true rfl) (Nat.le_of_ble_eq_true rfl) (Nat.le_of_ble_eq_true rfl) h
def PT_C_feed (n : Nat) (a0 : Nat) (a1 : Int32) (a2 : Int64) (σ : zS) (T : String → zS → Prop) : Prop := ((a1 < (1 : Int32) → T "java/lang/IllegalArgumentException" σ) ∧ (¬ (a1 < (1 : Int32)) → ((a1 ≤ (8 : Int32) → False) ∧ (¬ (a1 ≤ (8 : Int32)) → T "java/lang/IllegalArgumentException" σ))))
set_option maxHeartbeats 1000000 in
set_option maxRecDepth 10000 in
theorem tw_C_feed {T : String → zS → Prop} (hfl : l.flags = pinnedFlags ++ [noTraceFlag]) (hnoh : c.exceptionTable.isEmpty = true) (hTh : zTh base s) {a0 : Nat} {a1 : Int32} {a2 : Int64} {σ : zS} (h : PT_C_feed n a0 a1 a2 σ T) : zG p l e (zrm 6 1 6) s m args below meth c (zTQ below s D cA base n 1 6 T) s.heap (fun _ => False) base D cA 5 false prog_1_method_2_code "ConstantFlow" n 0 0 0 [some (.ref a0), some (.int a1), some (.long a2), none, none] [] σ := by
  unfold PT_C_feed at h
  refine zw_iload_n d_C_feed_0 rfl rfl ?_
  refine zw_iconst (v := 1) d_C_feed_1 rfl ?_
  obtain ⟨ht, hf⟩ := h
  refine zw_icmp_lt (tgt := 11) d_C_feed_2 rfl (fun hc => ?_) (fun hc => ?_)
  · have h := ht hc; clear ht hf
    exact zw_throw (names := ["java/lang/RuntimeException", "java/lang/Exception"]) hfl hnoh d_C_feed_11 d_C_feed_14 d_C_feed_15 d_C_feed_17 d_C_feed_20 mx_3_0 mx_3_1 mx_1_12 (hTh.2.2.1 60 "n is not 1 to 8" (zt3 (List.mem_of_getElem? (i := 41) rfl))) (zat_IAE hTh) (by decide) (by decide) (Nat.le_of_ble_eq_true rfl) (Nat.le_of_ble_eq_true rfl) (Nat.le_of_ble_eq_true rfl) (Nat.le_of_ble_eq_true rfl) h
  · have h := hf hc; clear ht hf
    refine zw_iload_n d_C_feed_5 rfl rfl ?_
    refine zw_bipush (v := 8) d_C_feed_6 rfl ?_
    obtain ⟨ht, hf⟩ := h
    refine zw_icmp_le (tgt := 21) d_C_feed_8 rfl (fun hc => ?_) (fun hc => ?_)
    · have h := ht hc; clear ht hf
      exact False.elim h
    · have h := hf hc; clear ht hf
      exact zw_throw (names := ["java/lang/RuntimeException", "java/lang/Exception"]) hfl hnoh d_C_feed_11 d_C_feed_14 d_C_feed_15 d_C_feed_17 d_C_feed_20 mx_3_0 mx_3_1 mx_1_12 (hTh.2.2.1 60 "n is not 1 to 8" (zt3 (List.mem_of_getElem? (i := 41) rfl))) (zat_IAE hTh) (by decide) (by decide) (Nat.le_of_ble_eq_true rfl) (Nat.le_of_ble_eq_true rfl) (Nat.le_of_ble_eq_true rfl) (Nat.le_of_ble_eq_true rfl) h
theorem ct_C_feed {l : Launch} {D : va_G} {cA : Nat → ClassId} {base n : Nat} {T : String → zS → Prop} (hfl : l.flags = pinnedFlags ++ [noTraceFlag]) {a0 : Nat} {a1 : Int32} {a2 : Int64} {σ : zS} (h : PT_C_feed n a0 a1 a2 σ T) : zMT l y_C_feed prog_1_method_2_code 5 (some .int) 6 D cA base n [.ref a0, .int a1, .long a2] σ T :=
  zMetT (by decide) rfl (Nat.le_of_ble_eq_true rfl) (fun p e s m args below meth c hnoh hTh => tw_C_feed hfl hnoh hTh h)
def P_C_comes (n : Nat) (a0 : Nat) (a1 : Int32) (σ : zS) (Q : Int32 → zS → Prop) : Prop := zk n a0 0 ∧ P_C_isBlock n a0 a1 σ (fun x1 σ2 => ((¬ x1 = 0 → ∃ c4, zr σ2 a0 3 = some c4 ∧ zk n c4 3 ∧ ∃ c7, zr σ2 c4 0 = some c7 ∧ za n c7 11 a1 ∧ ((zi σ2 c7 a1.toNatClampNeg) = 0 ∨ (zi σ2 c7 a1.toNatClampNeg) = 1) ∧ Q (zi σ2 c7 a1.toNatClampNeg) σ2) ∧ (x1 = 0 → False)))
set_option maxHeartbeats 1000000 in
set_option maxRecDepth 10000 in
theorem w_C_comes {Q : Int32 → zS → Prop} (hr : meth.sig.returnType = some .boolean) {a0 : Nat} {a1 : Int32} {σ : zS} (h : P_C_comes n a0 a1 σ Q) : zG p l e (zrm 6 0 0) s m args below meth c (MQ below (zQc (zA base) D cA base n ex (zqi Q)) args s 0 0 (zA base)) s.heap (zA base) base D cA 2 ex prog_1_method_7_code "ConstantFlow" n 0 0 0 [some (.ref a0), some (.int a1)] [] σ := by
  unfold P_C_comes at h
  refine zw_aload_n d_C_comes_0 rfl rfl ?_
  refine zw_iload_n d_C_comes_1 rfl rfl ?_
  obtain ⟨q3, h⟩ := h
  refine zw_callV (ci := 0) (b := a0) (As := [.int a1]) (r := []) d_C_comes_2 (c_C_isBlock h) mx_3_75 mx_3_77 mp_2_6 mw_1_1 mx_3_78 (by decide) q3.1 q3.2 hyV_C_isBlock (Nat.le_of_ble_eq_true rfl) (Nat.le_of_ble_eq_true rfl) ⟨(Nat.le_of_ble_eq_true rfl), (Nat.le_of_ble_eq_true rfl)⟩ (Nat.le_of_ble_eq_true rfl) rfl (zk_i (fun x1 σ2 h => ?_))
  obtain ⟨ht, hf⟩ := h
  refine zw_if_ne (tgt := 18) d_C_comes_5 rfl (fun hc => ?_) (fun hc => ?_)
  · have h := ht hc; clear ht hf
    refine zw_aload_n d_C_comes_18 rfl rfl ?_
    obtain ⟨c4, q5, h⟩ := h
    refine zw_gfr (ci := 0) (j := 3) d_C_comes_19 mw_2_53 q3.1 q3.2 (by decide) (by decide) rfl q5 ?_
    obtain ⟨q6, h⟩ := h
    obtain ⟨c7, q8, h⟩ := h
    refine zw_gfrN (ci := 3) (j := 0) d_C_comes_22 mx_1_96 q6.1 q6.2 (by decide) (by decide) rfl q8 ?_
    refine zw_iload_n d_C_comes_25 rfl rfl ?_
    obtain ⟨q9, h⟩ := h
    refine zw_zald d_C_comes_26 q9.1 (zkd_eta q9.2.1) q9.2.2 ?_
    obtain ⟨q10, h⟩ := h
    exact zw_zret d_C_comes_27 hr q10 h
  · have h := hf hc; clear ht hf
    exact False.elim h
theorem c_C_comes {l : Launch} {D : va_G} {cA : Nat → ClassId} {base n : Nat} {ex : Bool} {Q : Int32 → zS → Prop} {a0 : Nat} {a1 : Int32} {σ : zS} (h : P_C_comes n a0 a1 σ Q) : zM l y_C_comes prog_1_method_7_code 2 (some .boolean) 6 0 0 (zA base) D cA base n n ex [.ref a0, .int a1] σ (zqi Q) :=
  zMet (by decide) rfl (Nat.le_of_ble_eq_true rfl) (fun p e s m args below meth c hr hnm => w_C_comes hr h)
def PT_C_comes (n : Nat) (a0 : Nat) (a1 : Int32) (σ : zS) (T : String → zS → Prop) : Prop := zk n a0 0 ∧ P_C_isBlock n a0 a1 σ (fun x1 σ2 => ((¬ x1 = 0 → False) ∧ (x1 = 0 → T "java/lang/IndexOutOfBoundsException" σ2)))
set_option maxHeartbeats 1000000 in
set_option maxRecDepth 10000 in
theorem tw_C_comes {T : String → zS → Prop} (hfl : l.flags = pinnedFlags ++ [noTraceFlag]) (hnoh : c.exceptionTable.isEmpty = true) (hTh : zTh base s) {a0 : Nat} {a1 : Int32} {σ : zS} (h : PT_C_comes n a0 a1 σ T) : zG p l e (zrm 6 1 6) s m args below meth c (zTQ below s D cA base n 1 6 T) s.heap (fun _ => False) base D cA 2 false prog_1_method_7_code "ConstantFlow" n 0 0 0 [some (.ref a0), some (.int a1)] [] σ := by
  unfold PT_C_comes at h
  refine zw_aload_n d_C_comes_0 rfl rfl ?_
  refine zw_iload_n d_C_comes_1 rfl rfl ?_
  obtain ⟨q3, h⟩ := h
  refine zw_callV (ci := 0) (b := a0) (As := [.int a1]) (r := []) d_C_comes_2 (c_r_C_isBlock h) mx_3_75 mx_3_77 mp_2_6 mw_1_1 mx_3_78 (by decide) q3.1 q3.2 hyV_C_isBlock (Nat.le_of_ble_eq_true rfl) (Nat.le_of_ble_eq_true rfl) ⟨(Nat.le_of_ble_eq_true rfl), (Nat.le_of_ble_eq_true rfl)⟩ (Nat.le_of_ble_eq_true rfl) rfl (zk_i (fun x1 σ2 h => ?_))
  obtain ⟨ht, hf⟩ := h
  refine zw_if_ne (tgt := 18) d_C_comes_5 rfl (fun hc => ?_) (fun hc => ?_)
  · have h := ht hc; clear ht hf
    exact False.elim h
  · have h := hf hc; clear ht hf
    exact zw_throw (names := ["java/lang/RuntimeException", "java/lang/Exception"]) hfl hnoh d_C_comes_8 d_C_comes_11 d_C_comes_12 d_C_comes_14 d_C_comes_17 mx_3_79 mx_3_80 mx_1_14 (hTh.2.2.1 91 "there is no such block" (zt3 (List.mem_of_getElem? (i := 88) rfl))) (zat_IOE hTh) (by decide) (by decide) (Nat.le_of_ble_eq_true rfl) (Nat.le_of_ble_eq_true rfl) (Nat.le_of_ble_eq_true rfl) (Nat.le_of_ble_eq_true rfl) h
theorem ct_C_comes {l : Launch} {D : va_G} {cA : Nat → ClassId} {base n : Nat} {T : String → zS → Prop} (hfl : l.flags = pinnedFlags ++ [noTraceFlag]) {a0 : Nat} {a1 : Int32} {σ : zS} (h : PT_C_comes n a0 a1 σ T) : zMT l y_C_comes prog_1_method_7_code 2 (some .boolean) 6 D cA base n [.ref a0, .int a1] σ T :=
  zMetT (by decide) rfl (Nat.le_of_ble_eq_true rfl) (fun p e s m args below meth c hnoh hTh => tw_C_comes hfl hnoh hTh h)
def P_C_known_15 (n : Nat) (Q : Int32 → zS → Prop) (σ : zS) : Prop := False
set_option maxHeartbeats 1000000 in
set_option maxRecDepth 10000 in
theorem w_C_known_15 {Q : Int32 → zS → Prop} (hr : meth.sig.returnType = some .int) {σ : zS} (h : P_C_known_15 n Q σ) : zG p l e (zrm 6 0 0) s m args below meth c (MQ below (zQc (zA base) D cA base n ex (zqi Q)) args s 0 0 (zA base)) s.heap (zA base) base D cA 4 ex prog_1_method_8_code "ConstantFlow" n 0 0 15 [none, none, none, none] [] σ := by
  unfold P_C_known_15 at h
  exact False.elim h
def P_C_known_61 (n : Nat) (Q : Int32 → zS → Prop) (b0 : Int32) (σ : zS) : Prop := Q b0 σ
set_option maxHeartbeats 1000000 in
set_option maxRecDepth 10000 in
theorem w_C_known_61 {Q : Int32 → zS → Prop} (hr : meth.sig.returnType = some .int) {b0 : Int32} {σ : zS} (h : P_C_known_61 n Q b0 σ) : zG p l e (zrm 6 0 0) s m args below meth c (MQ below (zQc (zA base) D cA base n ex (zqi Q)) args s 0 0 (zA base)) s.heap (zA base) base D cA 4 ex prog_1_method_8_code "ConstantFlow" n 0 0 61 [none, none, none, none] [.int b0] σ := by
  unfold P_C_known_61 at h
  exact zw_iret d_C_known_61 hr h
def P_C_known (n : Nat) (a0 : Nat) (a1 : Int32) (a2 : Int32) (a3 : Int32) (σ : zS) (Q : Int32 → zS → Prop) : Prop := zk n a0 0 ∧ P_C_isBlock n a0 a1 σ (fun x1 σ2 => ((x1 = 0 → False) ∧ (¬ (x1 = 0) → P_C_isVariable n a2 σ2 (fun x4 σ5 => ((¬ x4 = 0 → ∃ c6, zr σ5 a0 3 = some c6 ∧ zk n c6 3 ∧ ∃ c9, zr σ5 c6 0 = some c9 ∧ za n c9 11 a1 ∧ ((¬ (zi σ5 c9 a1.toNatClampNeg) = 0 → ∃ c12, zr σ5 a0 3 = some c12 ∧ zk n c12 3 ∧ P_F_view n c12 a1 a3 σ5 (fun x14 σ15 => zk n x14 4 ∧ ∃ c18, zr σ15 x14 0 = some c18 ∧ za n c18 11 a2 ∧ (((zi σ15 c18 a2.toNatClampNeg) = 0 → P_C_known_61 n Q (1 : Int32) σ15) ∧ (¬ ((zi σ15 c18 a2.toNatClampNeg) = 0) → P_C_known_61 n Q (2 : Int32) σ15)))) ∧ ((zi σ5 c9 a1.toNatClampNeg) = 0 → Q (0 : Int32) σ5))) ∧ (x4 = 0 → False))))))
set_option maxHeartbeats 1000000 in
set_option maxRecDepth 10000 in
theorem w_C_known {Q : Int32 → zS → Prop} (hr : meth.sig.returnType = some .int) {a0 : Nat} {a1 : Int32} {a2 : Int32} {a3 : Int32} {σ : zS} (h : P_C_known n a0 a1 a2 a3 σ Q) : zG p l e (zrm 6 0 0) s m args below meth c (MQ below (zQc (zA base) D cA base n ex (zqi Q)) args s 0 0 (zA base)) s.heap (zA base) base D cA 4 ex prog_1_method_8_code "ConstantFlow" n 0 0 0 [some (.ref a0), some (.int a1), some (.int a2), some (.int a3)] [] σ := by
  unfold P_C_known at h
  refine zw_aload_n d_C_known_0 rfl rfl ?_
  refine zw_iload_n d_C_known_1 rfl rfl ?_
  obtain ⟨q3, h⟩ := h
  refine zw_callV (ci := 0) (b := a0) (As := [.int a1]) (r := []) d_C_known_2 (c_C_isBlock h) mx_3_75 mx_3_77 mp_2_6 mw_1_1 mx_3_78 (by decide) q3.1 q3.2 hyV_C_isBlock (Nat.le_of_ble_eq_true rfl) (Nat.le_of_ble_eq_true rfl) ⟨(Nat.le_of_ble_eq_true rfl), (Nat.le_of_ble_eq_true rfl)⟩ (Nat.le_of_ble_eq_true rfl) rfl (zk_i (fun x1 σ2 h => ?_))
  obtain ⟨ht, hf⟩ := h
  refine zw_if_eq (tgt := 15) d_C_known_5 rfl (fun hc => ?_) (fun hc => ?_)
  · have h := ht hc; clear ht hf
    exact False.elim h
  · have h := hf hc; clear ht hf
    refine zw_iload_n d_C_known_8 rfl rfl ?_
    refine zw_callS (As := [.int a2]) (r := []) d_C_known_9 (c_C_isVariable h) mx_3_102 mx_3_103 mw_1_1 mx_3_104 hyS_C_isVariable (Nat.le_of_ble_eq_true rfl) (Nat.le_of_ble_eq_true rfl) ⟨(Nat.le_of_ble_eq_true rfl), (Nat.le_of_ble_eq_true rfl)⟩ (Nat.le_of_ble_eq_true rfl) rfl (zk_i (fun x4 σ5 h => ?_))
    obtain ⟨ht, hf⟩ := h
    refine zw_if_ne (tgt := 25) d_C_known_12 rfl (fun hc => ?_) (fun hc => ?_)
    · have h := ht hc; clear ht hf
      refine zw_aload_n d_C_known_25 rfl rfl ?_
      obtain ⟨c6, q7, h⟩ := h
      refine zw_gfr (ci := 0) (j := 3) d_C_known_26 mw_2_53 q3.1 q3.2 (by decide) (by decide) rfl q7 ?_
      obtain ⟨q8, h⟩ := h
      obtain ⟨c9, q10, h⟩ := h
      refine zw_gfrN (ci := 3) (j := 0) d_C_known_29 mx_1_96 q8.1 q8.2 (by decide) (by decide) rfl q10 ?_
      refine zw_iload_n d_C_known_32 rfl rfl ?_
      obtain ⟨q11, h⟩ := h
      refine zw_zald d_C_known_33 q11.1 (zkd_eta q11.2.1) q11.2.2 ?_
      obtain ⟨ht, hf⟩ := h
      refine zw_if_ne (tgt := 39) d_C_known_34 rfl (fun hc => ?_) (fun hc => ?_)
      · have h := ht hc; clear ht hf
        refine zw_aload_n d_C_known_39 rfl rfl ?_
        obtain ⟨c12, q13, h⟩ := h
        refine zw_gfr (ci := 0) (j := 3) d_C_known_40 mw_2_53 q3.1 q3.2 (by decide) (by decide) rfl q13 ?_
        refine zw_iload_n d_C_known_43 rfl rfl ?_
        refine zw_iload_n d_C_known_44 rfl rfl ?_
        obtain ⟨q16, h⟩ := h
        refine zw_callV (ci := 3) (b := c12) (As := [.int a1, .int a3]) (r := []) d_C_known_45 (c_F_view h) mx_3_106 mx_3_107 mx_3_108 mw_1_4 mx_3_109 (by decide) q16.1 q16.2 hyV_F_view (Nat.le_of_ble_eq_true rfl) (Nat.le_of_ble_eq_true rfl) ⟨(Nat.le_of_ble_eq_true rfl), (Nat.le_of_ble_eq_true rfl)⟩ (Nat.le_of_ble_eq_true rfl) rfl (zk_r (fun x14 σ15 h => ?_))
        obtain ⟨q17, h⟩ := h
        obtain ⟨c18, q19, h⟩ := h
        refine zw_gfrN (ci := 4) (j := 0) d_C_known_48 mx_1_86 q17.1 q17.2 (by decide) (by decide) rfl q19 ?_
        refine zw_iload_n d_C_known_51 rfl rfl ?_
        obtain ⟨q20, h⟩ := h
        refine zw_zald d_C_known_52 q20.1 (zkd_eta q20.2.1) q20.2.2 ?_
        obtain ⟨ht, hf⟩ := h
        refine zw_if_eq (tgt := 60) d_C_known_53 rfl (fun hc => ?_) (fun hc => ?_)
        · have h := ht hc; clear ht hf
          refine zw_iconst (v := 1) d_C_known_60 rfl ?_
          refine zw_le (ls' := [none, none, none, none]) (True.intro) ?_
          exact w_C_known_61 hr h
        · have h := hf hc; clear ht hf
          refine zw_iconst (v := 2) d_C_known_56 rfl ?_
          refine zw_goto (tgt := 61) d_C_known_57 rfl ?_
          refine zw_le (ls' := [none, none, none, none]) (True.intro) ?_
          exact w_C_known_61 hr h
      · have h := hf hc; clear ht hf
        refine zw_iconst (v := 0) d_C_known_37 rfl ?_
        exact zw_iret d_C_known_38 hr h
    · have h := hf hc; clear ht hf
      exact False.elim h
theorem c_C_known {l : Launch} {D : va_G} {cA : Nat → ClassId} {base n : Nat} {ex : Bool} {Q : Int32 → zS → Prop} {a0 : Nat} {a1 : Int32} {a2 : Int32} {a3 : Int32} {σ : zS} (h : P_C_known n a0 a1 a2 a3 σ Q) : zM l y_C_known prog_1_method_8_code 4 (some .int) 6 0 0 (zA base) D cA base n n ex [.ref a0, .int a1, .int a2, .int a3] σ (zqi Q) :=
  zMet (by decide) rfl (Nat.le_of_ble_eq_true rfl) (fun p e s m args below meth c hr hnm => w_C_known hr h)
def PT_C_known_15 (n : Nat) (T : String → zS → Prop) (σ : zS) : Prop := T "java/lang/IndexOutOfBoundsException" σ
set_option maxHeartbeats 1000000 in
set_option maxRecDepth 10000 in
theorem tw_C_known_15 {T : String → zS → Prop} (hfl : l.flags = pinnedFlags ++ [noTraceFlag]) (hnoh : c.exceptionTable.isEmpty = true) (hTh : zTh base s) {σ : zS} (h : PT_C_known_15 n T σ) : zG p l e (zrm 6 1 6) s m args below meth c (zTQ below s D cA base n 1 6 T) s.heap (fun _ => False) base D cA 4 false prog_1_method_8_code "ConstantFlow" n 0 0 15 [none, none, none, none] [] σ := by
  unfold PT_C_known_15 at h
  exact zw_throw (names := ["java/lang/RuntimeException", "java/lang/Exception"]) hfl hnoh d_C_known_15 d_C_known_18 d_C_known_19 d_C_known_21 d_C_known_24 mx_3_79 mx_3_80 mx_1_14 (hTh.2.2.1 101 "there is no such block or variable" (zt3 (List.mem_of_getElem? (i := 105) rfl))) (zat_IOE hTh) (by decide) (by decide) (Nat.le_of_ble_eq_true rfl) (Nat.le_of_ble_eq_true rfl) (Nat.le_of_ble_eq_true rfl) (Nat.le_of_ble_eq_true rfl) h
def PT_C_known (n : Nat) (a0 : Nat) (a1 : Int32) (a2 : Int32) (a3 : Int32) (σ : zS) (T : String → zS → Prop) : Prop := zk n a0 0 ∧ P_C_isBlock n a0 a1 σ (fun x1 σ2 => ((x1 = 0 → T "java/lang/IndexOutOfBoundsException" σ2) ∧ (¬ (x1 = 0) → P_C_isVariable n a2 σ2 (fun x4 σ5 => ((¬ x4 = 0 → False) ∧ (x4 = 0 → T "java/lang/IndexOutOfBoundsException" σ5))))))
set_option maxHeartbeats 1000000 in
set_option maxRecDepth 10000 in
theorem tw_C_known {T : String → zS → Prop} (hfl : l.flags = pinnedFlags ++ [noTraceFlag]) (hnoh : c.exceptionTable.isEmpty = true) (hTh : zTh base s) {a0 : Nat} {a1 : Int32} {a2 : Int32} {a3 : Int32} {σ : zS} (h : PT_C_known n a0 a1 a2 a3 σ T) : zG p l e (zrm 6 1 6) s m args below meth c (zTQ below s D cA base n 1 6 T) s.heap (fun _ => False) base D cA 4 false prog_1_method_8_code "ConstantFlow" n 0 0 0 [some (.ref a0), some (.int a1), some (.int a2), some (.int a3)] [] σ := by
  unfold PT_C_known at h
  refine zw_aload_n d_C_known_0 rfl rfl ?_
  refine zw_iload_n d_C_known_1 rfl rfl ?_
  obtain ⟨q3, h⟩ := h
  refine zw_callV (ci := 0) (b := a0) (As := [.int a1]) (r := []) d_C_known_2 (c_r_C_isBlock h) mx_3_75 mx_3_77 mp_2_6 mw_1_1 mx_3_78 (by decide) q3.1 q3.2 hyV_C_isBlock (Nat.le_of_ble_eq_true rfl) (Nat.le_of_ble_eq_true rfl) ⟨(Nat.le_of_ble_eq_true rfl), (Nat.le_of_ble_eq_true rfl)⟩ (Nat.le_of_ble_eq_true rfl) rfl (zk_i (fun x1 σ2 h => ?_))
  obtain ⟨ht, hf⟩ := h
  refine zw_if_eq (tgt := 15) d_C_known_5 rfl (fun hc => ?_) (fun hc => ?_)
  · have h := ht hc; clear ht hf
    exact zw_throw (names := ["java/lang/RuntimeException", "java/lang/Exception"]) hfl hnoh d_C_known_15 d_C_known_18 d_C_known_19 d_C_known_21 d_C_known_24 mx_3_79 mx_3_80 mx_1_14 (hTh.2.2.1 101 "there is no such block or variable" (zt3 (List.mem_of_getElem? (i := 105) rfl))) (zat_IOE hTh) (by decide) (by decide) (Nat.le_of_ble_eq_true rfl) (Nat.le_of_ble_eq_true rfl) (Nat.le_of_ble_eq_true rfl) (Nat.le_of_ble_eq_true rfl) h
  · have h := hf hc; clear ht hf
    refine zw_iload_n d_C_known_8 rfl rfl ?_
    refine zw_callS (As := [.int a2]) (r := []) d_C_known_9 (c_r_C_isVariable h) mx_3_102 mx_3_103 mw_1_1 mx_3_104 hyS_C_isVariable (Nat.le_of_ble_eq_true rfl) (Nat.le_of_ble_eq_true rfl) ⟨(Nat.le_of_ble_eq_true rfl), (Nat.le_of_ble_eq_true rfl)⟩ (Nat.le_of_ble_eq_true rfl) rfl (zk_i (fun x4 σ5 h => ?_))
    obtain ⟨ht, hf⟩ := h
    refine zw_if_ne (tgt := 25) d_C_known_12 rfl (fun hc => ?_) (fun hc => ?_)
    · have h := ht hc; clear ht hf
      exact False.elim h
    · have h := hf hc; clear ht hf
      exact zw_throw (names := ["java/lang/RuntimeException", "java/lang/Exception"]) hfl hnoh d_C_known_15 d_C_known_18 d_C_known_19 d_C_known_21 d_C_known_24 mx_3_79 mx_3_80 mx_1_14 (hTh.2.2.1 101 "there is no such block or variable" (zt3 (List.mem_of_getElem? (i := 105) rfl))) (zat_IOE hTh) (by decide) (by decide) (Nat.le_of_ble_eq_true rfl) (Nat.le_of_ble_eq_true rfl) (Nat.le_of_ble_eq_true rfl) (Nat.le_of_ble_eq_true rfl) h
theorem ct_C_known {l : Launch} {D : va_G} {cA : Nat → ClassId} {base n : Nat} {T : String → zS → Prop} (hfl : l.flags = pinnedFlags ++ [noTraceFlag]) {a0 : Nat} {a1 : Int32} {a2 : Int32} {a3 : Int32} {σ : zS} (h : PT_C_known n a0 a1 a2 a3 σ T) : zMT l y_C_known prog_1_method_8_code 4 (some .int) 6 D cA base n [.ref a0, .int a1, .int a2, .int a3] σ T :=
  zMetT (by decide) rfl (Nat.le_of_ble_eq_true rfl) (fun p e s m args below meth c hnoh hTh => tw_C_known hfl hnoh hTh h)
def P_C_number_15 (n : Nat) (Q : Int32 → zS → Prop) (σ : zS) : Prop := False
set_option maxHeartbeats 1000000 in
set_option maxRecDepth 10000 in
theorem w_C_number_15 {Q : Int32 → zS → Prop} (hr : meth.sig.returnType = some .int) {σ : zS} (h : P_C_number_15 n Q σ) : zG p l e (zrm 6 0 0) s m args below meth c (MQ below (zQc (zA base) D cA base n ex (zqi Q)) args s 0 0 (zA base)) s.heap (zA base) base D cA 4 ex prog_1_method_9_code "ConstantFlow" n 0 0 15 [none, none, none, none] [] σ := by
  unfold P_C_number_15 at h
  exact False.elim h
def P_C_number_54 (n : Nat) (Q : Int32 → zS → Prop) (σ : zS) : Prop := False
set_option maxHeartbeats 1000000 in
set_option maxRecDepth 10000 in
theorem w_C_number_54 {Q : Int32 → zS → Prop} (hr : meth.sig.returnType = some .int) {σ : zS} (h : P_C_number_54 n Q σ) : zG p l e (zrm 6 0 0) s m args below meth c (MQ below (zQc (zA base) D cA base n ex (zqi Q)) args s 0 0 (zA base)) s.heap (zA base) base D cA 4 ex prog_1_method_9_code "ConstantFlow" n 0 0 54 [none, none, none, none] [] σ := by
  unfold P_C_number_54 at h
  exact False.elim h
def P_C_number (n : Nat) (a0 : Nat) (a1 : Int32) (a2 : Int32) (a3 : Int32) (σ : zS) (Q : Int32 → zS → Prop) : Prop := zk n a0 0 ∧ P_C_isBlock n a0 a1 σ (fun x1 σ2 => ((x1 = 0 → False) ∧ (¬ (x1 = 0) → P_C_isVariable n a2 σ2 (fun x4 σ5 => ((¬ x4 = 0 → ∃ c6, zr σ5 a0 3 = some c6 ∧ zk n c6 3 ∧ ∃ c9, zr σ5 c6 0 = some c9 ∧ za n c9 11 a1 ∧ (((zi σ5 c9 a1.toNatClampNeg) = 0 → False) ∧ (¬ ((zi σ5 c9 a1.toNatClampNeg) = 0) → ∃ c12, zr σ5 a0 3 = some c12 ∧ zk n c12 3 ∧ P_F_view n c12 a1 a3 σ5 (fun x14 σ15 => zk n x14 4 ∧ ∃ c18, zr σ15 x14 0 = some c18 ∧ za n c18 11 a2 ∧ (((zi σ15 c18 a2.toNatClampNeg) = 0 → ∃ c21, zr σ15 a0 3 = some c21 ∧ zk n c21 3 ∧ P_F_view n c21 a1 a3 σ15 (fun x23 σ24 => zk n x23 4 ∧ ∃ c27, zr σ24 x23 1 = some c27 ∧ za n c27 10 a2 ∧ Q (zi σ24 c27 a2.toNatClampNeg) σ24)) ∧ (¬ ((zi σ15 c18 a2.toNatClampNeg) = 0) → False)))))) ∧ (x4 = 0 → False))))))
set_option maxHeartbeats 1000000 in
set_option maxRecDepth 10000 in
theorem w_C_number {Q : Int32 → zS → Prop} (hr : meth.sig.returnType = some .int) {a0 : Nat} {a1 : Int32} {a2 : Int32} {a3 : Int32} {σ : zS} (h : P_C_number n a0 a1 a2 a3 σ Q) : zG p l e (zrm 6 0 0) s m args below meth c (MQ below (zQc (zA base) D cA base n ex (zqi Q)) args s 0 0 (zA base)) s.heap (zA base) base D cA 4 ex prog_1_method_9_code "ConstantFlow" n 0 0 0 [some (.ref a0), some (.int a1), some (.int a2), some (.int a3)] [] σ := by
  unfold P_C_number at h
  refine zw_aload_n d_C_number_0 rfl rfl ?_
  refine zw_iload_n d_C_number_1 rfl rfl ?_
  obtain ⟨q3, h⟩ := h
  refine zw_callV (ci := 0) (b := a0) (As := [.int a1]) (r := []) d_C_number_2 (c_C_isBlock h) mx_3_75 mx_3_77 mp_2_6 mw_1_1 mx_3_78 (by decide) q3.1 q3.2 hyV_C_isBlock (Nat.le_of_ble_eq_true rfl) (Nat.le_of_ble_eq_true rfl) ⟨(Nat.le_of_ble_eq_true rfl), (Nat.le_of_ble_eq_true rfl)⟩ (Nat.le_of_ble_eq_true rfl) rfl (zk_i (fun x1 σ2 h => ?_))
  obtain ⟨ht, hf⟩ := h
  refine zw_if_eq (tgt := 15) d_C_number_5 rfl (fun hc => ?_) (fun hc => ?_)
  · have h := ht hc; clear ht hf
    exact False.elim h
  · have h := hf hc; clear ht hf
    refine zw_iload_n d_C_number_8 rfl rfl ?_
    refine zw_callS (As := [.int a2]) (r := []) d_C_number_9 (c_C_isVariable h) mx_3_102 mx_3_103 mw_1_1 mx_3_104 hyS_C_isVariable (Nat.le_of_ble_eq_true rfl) (Nat.le_of_ble_eq_true rfl) ⟨(Nat.le_of_ble_eq_true rfl), (Nat.le_of_ble_eq_true rfl)⟩ (Nat.le_of_ble_eq_true rfl) rfl (zk_i (fun x4 σ5 h => ?_))
    obtain ⟨ht, hf⟩ := h
    refine zw_if_ne (tgt := 25) d_C_number_12 rfl (fun hc => ?_) (fun hc => ?_)
    · have h := ht hc; clear ht hf
      refine zw_aload_n d_C_number_25 rfl rfl ?_
      obtain ⟨c6, q7, h⟩ := h
      refine zw_gfr (ci := 0) (j := 3) d_C_number_26 mw_2_53 q3.1 q3.2 (by decide) (by decide) rfl q7 ?_
      obtain ⟨q8, h⟩ := h
      obtain ⟨c9, q10, h⟩ := h
      refine zw_gfrN (ci := 3) (j := 0) d_C_number_29 mx_1_96 q8.1 q8.2 (by decide) (by decide) rfl q10 ?_
      refine zw_iload_n d_C_number_32 rfl rfl ?_
      obtain ⟨q11, h⟩ := h
      refine zw_zald d_C_number_33 q11.1 (zkd_eta q11.2.1) q11.2.2 ?_
      obtain ⟨ht, hf⟩ := h
      refine zw_if_eq (tgt := 54) d_C_number_34 rfl (fun hc => ?_) (fun hc => ?_)
      · have h := ht hc; clear ht hf
        exact False.elim h
      · have h := hf hc; clear ht hf
        refine zw_aload_n d_C_number_37 rfl rfl ?_
        obtain ⟨c12, q13, h⟩ := h
        refine zw_gfr (ci := 0) (j := 3) d_C_number_38 mw_2_53 q3.1 q3.2 (by decide) (by decide) rfl q13 ?_
        refine zw_iload_n d_C_number_41 rfl rfl ?_
        refine zw_iload_n d_C_number_42 rfl rfl ?_
        obtain ⟨q16, h⟩ := h
        refine zw_callV (ci := 3) (b := c12) (As := [.int a1, .int a3]) (r := []) d_C_number_43 (c_F_view h) mx_3_106 mx_3_107 mx_3_108 mw_1_4 mx_3_109 (by decide) q16.1 q16.2 hyV_F_view (Nat.le_of_ble_eq_true rfl) (Nat.le_of_ble_eq_true rfl) ⟨(Nat.le_of_ble_eq_true rfl), (Nat.le_of_ble_eq_true rfl)⟩ (Nat.le_of_ble_eq_true rfl) rfl (zk_r (fun x14 σ15 h => ?_))
        obtain ⟨q17, h⟩ := h
        obtain ⟨c18, q19, h⟩ := h
        refine zw_gfrN (ci := 4) (j := 0) d_C_number_46 mx_1_86 q17.1 q17.2 (by decide) (by decide) rfl q19 ?_
        refine zw_iload_n d_C_number_49 rfl rfl ?_
        obtain ⟨q20, h⟩ := h
        refine zw_zald d_C_number_50 q20.1 (zkd_eta q20.2.1) q20.2.2 ?_
        obtain ⟨ht, hf⟩ := h
        refine zw_if_eq (tgt := 64) d_C_number_51 rfl (fun hc => ?_) (fun hc => ?_)
        · have h := ht hc; clear ht hf
          refine zw_aload_n d_C_number_64 rfl rfl ?_
          obtain ⟨c21, q22, h⟩ := h
          refine zw_gfr (ci := 0) (j := 3) d_C_number_65 mw_2_53 q3.1 q3.2 (by decide) (by decide) rfl q22 ?_
          refine zw_iload_n d_C_number_68 rfl rfl ?_
          refine zw_iload_n d_C_number_69 rfl rfl ?_
          obtain ⟨q25, h⟩ := h
          refine zw_callV (ci := 3) (b := c21) (As := [.int a1, .int a3]) (r := []) d_C_number_70 (c_F_view h) mx_3_106 mx_3_107 mx_3_108 mw_1_4 mx_3_109 (by decide) q25.1 q25.2 hyV_F_view (Nat.le_of_ble_eq_true rfl) (Nat.le_of_ble_eq_true rfl) ⟨(Nat.le_of_ble_eq_true rfl), (Nat.le_of_ble_eq_true rfl)⟩ (Nat.le_of_ble_eq_true rfl) rfl (zk_r (fun x23 σ24 h => ?_))
          obtain ⟨q26, h⟩ := h
          obtain ⟨c27, q28, h⟩ := h
          refine zw_gfrN (ci := 4) (j := 1) d_C_number_73 mx_1_88 q26.1 q26.2 (by decide) (by decide) rfl q28 ?_
          refine zw_iload_n d_C_number_76 rfl rfl ?_
          obtain ⟨q29, h⟩ := h
          refine zw_iald d_C_number_77 q29.1 (zkd_eta q29.2.1) q29.2.2 ?_
          exact zw_iret d_C_number_78 hr h
        · have h := hf hc; clear ht hf
          exact False.elim h
    · have h := hf hc; clear ht hf
      exact False.elim h
theorem c_C_number {l : Launch} {D : va_G} {cA : Nat → ClassId} {base n : Nat} {ex : Bool} {Q : Int32 → zS → Prop} {a0 : Nat} {a1 : Int32} {a2 : Int32} {a3 : Int32} {σ : zS} (h : P_C_number n a0 a1 a2 a3 σ Q) : zM l y_C_number prog_1_method_9_code 4 (some .int) 6 0 0 (zA base) D cA base n n ex [.ref a0, .int a1, .int a2, .int a3] σ (zqi Q) :=
  zMet (by decide) rfl (Nat.le_of_ble_eq_true rfl) (fun p e s m args below meth c hr hnm => w_C_number hr h)
def PT_C_number_15 (n : Nat) (T : String → zS → Prop) (σ : zS) : Prop := T "java/lang/IndexOutOfBoundsException" σ
set_option maxHeartbeats 1000000 in
set_option maxRecDepth 10000 in
theorem tw_C_number_15 {T : String → zS → Prop} (hfl : l.flags = pinnedFlags ++ [noTraceFlag]) (hnoh : c.exceptionTable.isEmpty = true) (hTh : zTh base s) {σ : zS} (h : PT_C_number_15 n T σ) : zG p l e (zrm 6 1 6) s m args below meth c (zTQ below s D cA base n 1 6 T) s.heap (fun _ => False) base D cA 4 false prog_1_method_9_code "ConstantFlow" n 0 0 15 [none, none, none, none] [] σ := by
  unfold PT_C_number_15 at h
  exact zw_throw (names := ["java/lang/RuntimeException", "java/lang/Exception"]) hfl hnoh d_C_number_15 d_C_number_18 d_C_number_19 d_C_number_21 d_C_number_24 mx_3_79 mx_3_80 mx_1_14 (hTh.2.2.1 101 "there is no such block or variable" (zt3 (List.mem_of_getElem? (i := 105) rfl))) (zat_IOE hTh) (by decide) (by decide) (Nat.le_of_ble_eq_true rfl) (Nat.le_of_ble_eq_true rfl) (Nat.le_of_ble_eq_true rfl) (Nat.le_of_ble_eq_true rfl) h
def PT_C_number_54 (n : Nat) (T : String → zS → Prop) (σ : zS) : Prop := T "java/lang/IllegalStateException" σ
set_option maxHeartbeats 1000000 in
set_option maxRecDepth 10000 in
theorem tw_C_number_54 {T : String → zS → Prop} (hfl : l.flags = pinnedFlags ++ [noTraceFlag]) (hnoh : c.exceptionTable.isEmpty = true) (hTh : zTh base s) {σ : zS} (h : PT_C_number_54 n T σ) : zG p l e (zrm 6 1 6) s m args below meth c (zTQ below s D cA base n 1 6 T) s.heap (fun _ => False) base D cA 4 false prog_1_method_9_code "ConstantFlow" n 0 0 54 [none, none, none, none] [] σ := by
  unfold PT_C_number_54 at h
  exact zw_throw (names := ["java/lang/RuntimeException", "java/lang/Exception"]) hfl hnoh d_C_number_54 d_C_number_57 d_C_number_58 d_C_number_60 d_C_number_63 mx_3_118 mx_3_119 mx_1_15 (hTh.2.2.1 114 "it is no number" (zt3 (List.mem_of_getElem? (i := 127) rfl))) (zat_ISE hTh) (by decide) (by decide) (Nat.le_of_ble_eq_true rfl) (Nat.le_of_ble_eq_true rfl) (Nat.le_of_ble_eq_true rfl) (Nat.le_of_ble_eq_true rfl) h
def PT_C_number (n : Nat) (a0 : Nat) (a1 : Int32) (a2 : Int32) (a3 : Int32) (σ : zS) (T : String → zS → Prop) : Prop := zk n a0 0 ∧ P_C_isBlock n a0 a1 σ (fun x1 σ2 => ((x1 = 0 → T "java/lang/IndexOutOfBoundsException" σ2) ∧ (¬ (x1 = 0) → P_C_isVariable n a2 σ2 (fun x4 σ5 => ((¬ x4 = 0 → ∃ c6, zr σ5 a0 3 = some c6 ∧ zk n c6 3 ∧ ∃ c9, zr σ5 c6 0 = some c9 ∧ za n c9 11 a1 ∧ (((zi σ5 c9 a1.toNatClampNeg) = 0 → T "java/lang/IllegalStateException" σ5) ∧ (¬ ((zi σ5 c9 a1.toNatClampNeg) = 0) → ∃ c12, zr σ5 a0 3 = some c12 ∧ zk n c12 3 ∧ P_F_view n c12 a1 a3 σ5 (fun x14 σ15 => zk n x14 4 ∧ ∃ c18, zr σ15 x14 0 = some c18 ∧ za n c18 11 a2 ∧ (((zi σ15 c18 a2.toNatClampNeg) = 0 → False) ∧ (¬ ((zi σ15 c18 a2.toNatClampNeg) = 0) → T "java/lang/IllegalStateException" σ15)))))) ∧ (x4 = 0 → T "java/lang/IndexOutOfBoundsException" σ5))))))
set_option maxHeartbeats 1000000 in
set_option maxRecDepth 10000 in
theorem tw_C_number {T : String → zS → Prop} (hfl : l.flags = pinnedFlags ++ [noTraceFlag]) (hnoh : c.exceptionTable.isEmpty = true) (hTh : zTh base s) {a0 : Nat} {a1 : Int32} {a2 : Int32} {a3 : Int32} {σ : zS} (h : PT_C_number n a0 a1 a2 a3 σ T) : zG p l e (zrm 6 1 6) s m args below meth c (zTQ below s D cA base n 1 6 T) s.heap (fun _ => False) base D cA 4 false prog_1_method_9_code "ConstantFlow" n 0 0 0 [some (.ref a0), some (.int a1), some (.int a2), some (.int a3)] [] σ := by
  unfold PT_C_number at h
  refine zw_aload_n d_C_number_0 rfl rfl ?_
  refine zw_iload_n d_C_number_1 rfl rfl ?_
  obtain ⟨q3, h⟩ := h
  refine zw_callV (ci := 0) (b := a0) (As := [.int a1]) (r := []) d_C_number_2 (c_r_C_isBlock h) mx_3_75 mx_3_77 mp_2_6 mw_1_1 mx_3_78 (by decide) q3.1 q3.2 hyV_C_isBlock (Nat.le_of_ble_eq_true rfl) (Nat.le_of_ble_eq_true rfl) ⟨(Nat.le_of_ble_eq_true rfl), (Nat.le_of_ble_eq_true rfl)⟩ (Nat.le_of_ble_eq_true rfl) rfl (zk_i (fun x1 σ2 h => ?_))
  obtain ⟨ht, hf⟩ := h
  refine zw_if_eq (tgt := 15) d_C_number_5 rfl (fun hc => ?_) (fun hc => ?_)
  · have h := ht hc; clear ht hf
    exact zw_throw (names := ["java/lang/RuntimeException", "java/lang/Exception"]) hfl hnoh d_C_number_15 d_C_number_18 d_C_number_19 d_C_number_21 d_C_number_24 mx_3_79 mx_3_80 mx_1_14 (hTh.2.2.1 101 "there is no such block or variable" (zt3 (List.mem_of_getElem? (i := 105) rfl))) (zat_IOE hTh) (by decide) (by decide) (Nat.le_of_ble_eq_true rfl) (Nat.le_of_ble_eq_true rfl) (Nat.le_of_ble_eq_true rfl) (Nat.le_of_ble_eq_true rfl) h
  · have h := hf hc; clear ht hf
    refine zw_iload_n d_C_number_8 rfl rfl ?_
    refine zw_callS (As := [.int a2]) (r := []) d_C_number_9 (c_r_C_isVariable h) mx_3_102 mx_3_103 mw_1_1 mx_3_104 hyS_C_isVariable (Nat.le_of_ble_eq_true rfl) (Nat.le_of_ble_eq_true rfl) ⟨(Nat.le_of_ble_eq_true rfl), (Nat.le_of_ble_eq_true rfl)⟩ (Nat.le_of_ble_eq_true rfl) rfl (zk_i (fun x4 σ5 h => ?_))
    obtain ⟨ht, hf⟩ := h
    refine zw_if_ne (tgt := 25) d_C_number_12 rfl (fun hc => ?_) (fun hc => ?_)
    · have h := ht hc; clear ht hf
      refine zw_aload_n d_C_number_25 rfl rfl ?_
      obtain ⟨c6, q7, h⟩ := h
      refine zw_gfr (ci := 0) (j := 3) d_C_number_26 mw_2_53 q3.1 q3.2 (by decide) (by decide) rfl q7 ?_
      obtain ⟨q8, h⟩ := h
      obtain ⟨c9, q10, h⟩ := h
      refine zw_gfrN (ci := 3) (j := 0) d_C_number_29 mx_1_96 q8.1 q8.2 (by decide) (by decide) rfl q10 ?_
      refine zw_iload_n d_C_number_32 rfl rfl ?_
      obtain ⟨q11, h⟩ := h
      refine zw_zald d_C_number_33 q11.1 (zkd_eta q11.2.1) q11.2.2 ?_
      obtain ⟨ht, hf⟩ := h
      refine zw_if_eq (tgt := 54) d_C_number_34 rfl (fun hc => ?_) (fun hc => ?_)
      · have h := ht hc; clear ht hf
        exact zw_throw (names := ["java/lang/RuntimeException", "java/lang/Exception"]) hfl hnoh d_C_number_54 d_C_number_57 d_C_number_58 d_C_number_60 d_C_number_63 mx_3_118 mx_3_119 mx_1_15 (hTh.2.2.1 114 "it is no number" (zt3 (List.mem_of_getElem? (i := 127) rfl))) (zat_ISE hTh) (by decide) (by decide) (Nat.le_of_ble_eq_true rfl) (Nat.le_of_ble_eq_true rfl) (Nat.le_of_ble_eq_true rfl) (Nat.le_of_ble_eq_true rfl) h
      · have h := hf hc; clear ht hf
        refine zw_aload_n d_C_number_37 rfl rfl ?_
        obtain ⟨c12, q13, h⟩ := h
        refine zw_gfr (ci := 0) (j := 3) d_C_number_38 mw_2_53 q3.1 q3.2 (by decide) (by decide) rfl q13 ?_
        refine zw_iload_n d_C_number_41 rfl rfl ?_
        refine zw_iload_n d_C_number_42 rfl rfl ?_
        obtain ⟨q16, h⟩ := h
        refine zw_callV (ci := 3) (b := c12) (As := [.int a1, .int a3]) (r := []) d_C_number_43 (c_r_F_view h) mx_3_106 mx_3_107 mx_3_108 mw_1_4 mx_3_109 (by decide) q16.1 q16.2 hyV_F_view (Nat.le_of_ble_eq_true rfl) (Nat.le_of_ble_eq_true rfl) ⟨(Nat.le_of_ble_eq_true rfl), (Nat.le_of_ble_eq_true rfl)⟩ (Nat.le_of_ble_eq_true rfl) rfl (zk_r (fun x14 σ15 h => ?_))
        obtain ⟨q17, h⟩ := h
        obtain ⟨c18, q19, h⟩ := h
        refine zw_gfrN (ci := 4) (j := 0) d_C_number_46 mx_1_86 q17.1 q17.2 (by decide) (by decide) rfl q19 ?_
        refine zw_iload_n d_C_number_49 rfl rfl ?_
        obtain ⟨q20, h⟩ := h
        refine zw_zald d_C_number_50 q20.1 (zkd_eta q20.2.1) q20.2.2 ?_
        obtain ⟨ht, hf⟩ := h
        refine zw_if_eq (tgt := 64) d_C_number_51 rfl (fun hc => ?_) (fun hc => ?_)
        · have h := ht hc; clear ht hf
          exact False.elim h
        · have h := hf hc; clear ht hf
          exact zw_throw (names := ["java/lang/RuntimeException", "java/lang/Exception"]) hfl hnoh d_C_number_54 d_C_number_57 d_C_number_58 d_C_number_60 d_C_number_63 mx_3_118 mx_3_119 mx_1_15 (hTh.2.2.1 114 "it is no number" (zt3 (List.mem_of_getElem? (i := 127) rfl))) (zat_ISE hTh) (by decide) (by decide) (Nat.le_of_ble_eq_true rfl) (Nat.le_of_ble_eq_true rfl) (Nat.le_of_ble_eq_true rfl) (Nat.le_of_ble_eq_true rfl) h
    · have h := hf hc; clear ht hf
      exact zw_throw (names := ["java/lang/RuntimeException", "java/lang/Exception"]) hfl hnoh d_C_number_15 d_C_number_18 d_C_number_19 d_C_number_21 d_C_number_24 mx_3_79 mx_3_80 mx_1_14 (hTh.2.2.1 101 "there is no such block or variable" (zt3 (List.mem_of_getElem? (i := 105) rfl))) (zat_IOE hTh) (by decide) (by decide) (Nat.le_of_ble_eq_true rfl) (Nat.le_of_ble_eq_true rfl) (Nat.le_of_ble_eq_true rfl) (Nat.le_of_ble_eq_true rfl) h
theorem ct_C_number {l : Launch} {D : va_G} {cA : Nat → ClassId} {base n : Nat} {T : String → zS → Prop} (hfl : l.flags = pinnedFlags ++ [noTraceFlag]) {a0 : Nat} {a1 : Int32} {a2 : Int32} {a3 : Int32} {σ : zS} (h : PT_C_number n a0 a1 a2 a3 σ T) : zMT l y_C_number prog_1_method_9_code 4 (some .int) 6 D cA base n [.ref a0, .int a1, .int a2, .int a3] σ T :=
  zMetT (by decide) rfl (Nat.le_of_ble_eq_true rfl) (fun p e s m args below meth c hnoh hTh => tw_C_number hfl hnoh hTh h)
def P_C_told_10 (n : Nat) (Q : Int32 → zS → Prop) (σ : zS) : Prop := False
set_option maxHeartbeats 1000000 in
set_option maxRecDepth 10000 in
theorem w_C_told_10 {Q : Int32 → zS → Prop} (hr : meth.sig.returnType = some .int) {σ : zS} (h : P_C_told_10 n Q σ) : zG p l e (zrm 6 0 0) s m args below meth c (MQ below (zQc (zA base) D cA base n ex (zqi Q)) args s 0 0 (zA base)) s.heap (zA base) base D cA 2 ex prog_1_method_10_code "ConstantFlow" n 0 0 10 [none, none] [] σ := by
  unfold P_C_told_10 at h
  exact False.elim h
def P_C_told (n : Nat) (a0 : Nat) (a1 : Int32) (σ : zS) (Q : Int32 → zS → Prop) : Prop := ((a1 < 0 → False) ∧ (¬ (a1 < 0) → ((a1 < (7 : Int32) → zk n a0 0 ∧ ∃ c2, zr σ a0 3 = some c2 ∧ zk n c2 3 ∧ ∃ c5, zr σ c2 7 = some c5 ∧ za n c5 10 a1 ∧ Q (zi σ c5 a1.toNatClampNeg) σ) ∧ (¬ (a1 < (7 : Int32)) → False))))
set_option maxHeartbeats 1000000 in
set_option maxRecDepth 10000 in
theorem w_C_told {Q : Int32 → zS → Prop} (hr : meth.sig.returnType = some .int) {a0 : Nat} {a1 : Int32} {σ : zS} (h : P_C_told n a0 a1 σ Q) : zG p l e (zrm 6 0 0) s m args below meth c (MQ below (zQc (zA base) D cA base n ex (zqi Q)) args s 0 0 (zA base)) s.heap (zA base) base D cA 2 ex prog_1_method_10_code "ConstantFlow" n 0 0 0 [some (.ref a0), some (.int a1)] [] σ := by
  unfold P_C_told at h
  refine zw_iload_n d_C_told_0 rfl rfl ?_
  obtain ⟨ht, hf⟩ := h
  refine zw_if_lt (tgt := 10) d_C_told_1 rfl (fun hc => ?_) (fun hc => ?_)
  · have h := ht hc; clear ht hf
    exact False.elim h
  · have h := hf hc; clear ht hf
    refine zw_iload_n d_C_told_4 rfl rfl ?_
    refine zw_bipush (v := 7) d_C_told_5 rfl ?_
    obtain ⟨ht, hf⟩ := h
    refine zw_icmp_lt (tgt := 20) d_C_told_7 rfl (fun hc => ?_) (fun hc => ?_)
    · have h := ht hc; clear ht hf
      refine zw_aload_n d_C_told_20 rfl rfl ?_
      obtain ⟨q1, h⟩ := h
      obtain ⟨c2, q3, h⟩ := h
      refine zw_gfr (ci := 0) (j := 3) d_C_told_21 mw_2_53 q1.1 q1.2 (by decide) (by decide) rfl q3 ?_
      obtain ⟨q4, h⟩ := h
      obtain ⟨c5, q6, h⟩ := h
      refine zw_gfrN (ci := 3) (j := 7) d_C_told_24 mx_1_104 q4.1 q4.2 (by decide) (by decide) rfl q6 ?_
      refine zw_iload_n d_C_told_27 rfl rfl ?_
      obtain ⟨q7, h⟩ := h
      refine zw_iald d_C_told_28 q7.1 (zkd_eta q7.2.1) q7.2.2 ?_
      exact zw_iret d_C_told_29 hr h
    · have h := hf hc; clear ht hf
      exact False.elim h
theorem c_C_told {l : Launch} {D : va_G} {cA : Nat → ClassId} {base n : Nat} {ex : Bool} {Q : Int32 → zS → Prop} {a0 : Nat} {a1 : Int32} {σ : zS} (h : P_C_told n a0 a1 σ Q) : zM l y_C_told prog_1_method_10_code 2 (some .int) 6 0 0 (zA base) D cA base n n ex [.ref a0, .int a1] σ (zqi Q) :=
  zMet (by decide) rfl (Nat.le_of_ble_eq_true rfl) (fun p e s m args below meth c hr hnm => w_C_told hr h)
def PT_C_told_10 (n : Nat) (T : String → zS → Prop) (σ : zS) : Prop := T "java/lang/IllegalArgumentException" σ
set_option maxHeartbeats 1000000 in
set_option maxRecDepth 10000 in
theorem tw_C_told_10 {T : String → zS → Prop} (hfl : l.flags = pinnedFlags ++ [noTraceFlag]) (hnoh : c.exceptionTable.isEmpty = true) (hTh : zTh base s) {σ : zS} (h : PT_C_told_10 n T σ) : zG p l e (zrm 6 1 6) s m args below meth c (zTQ below s D cA base n 1 6 T) s.heap (fun _ => False) base D cA 2 false prog_1_method_10_code "ConstantFlow" n 0 0 10 [none, none] [] σ := by
  unfold PT_C_told_10 at h
  exact zw_throw (names := ["java/lang/RuntimeException", "java/lang/Exception"]) hfl hnoh d_C_told_10 d_C_told_13 d_C_told_14 d_C_told_16 d_C_told_19 mx_3_0 mx_3_1 mx_1_12 (hTh.2.2.1 121 "what is not 0 to 6" (zt3 (List.mem_of_getElem? (i := 141) rfl))) (zat_IAE hTh) (by decide) (by decide) (Nat.le_of_ble_eq_true rfl) (Nat.le_of_ble_eq_true rfl) (Nat.le_of_ble_eq_true rfl) (Nat.le_of_ble_eq_true rfl) h
def PT_C_told (n : Nat) (a0 : Nat) (a1 : Int32) (σ : zS) (T : String → zS → Prop) : Prop := ((a1 < 0 → T "java/lang/IllegalArgumentException" σ) ∧ (¬ (a1 < 0) → ((a1 < (7 : Int32) → False) ∧ (¬ (a1 < (7 : Int32)) → T "java/lang/IllegalArgumentException" σ))))
set_option maxHeartbeats 1000000 in
set_option maxRecDepth 10000 in
theorem tw_C_told {T : String → zS → Prop} (hfl : l.flags = pinnedFlags ++ [noTraceFlag]) (hnoh : c.exceptionTable.isEmpty = true) (hTh : zTh base s) {a0 : Nat} {a1 : Int32} {σ : zS} (h : PT_C_told n a0 a1 σ T) : zG p l e (zrm 6 1 6) s m args below meth c (zTQ below s D cA base n 1 6 T) s.heap (fun _ => False) base D cA 2 false prog_1_method_10_code "ConstantFlow" n 0 0 0 [some (.ref a0), some (.int a1)] [] σ := by
  unfold PT_C_told at h
  refine zw_iload_n d_C_told_0 rfl rfl ?_
  obtain ⟨ht, hf⟩ := h
  refine zw_if_lt (tgt := 10) d_C_told_1 rfl (fun hc => ?_) (fun hc => ?_)
  · have h := ht hc; clear ht hf
    exact zw_throw (names := ["java/lang/RuntimeException", "java/lang/Exception"]) hfl hnoh d_C_told_10 d_C_told_13 d_C_told_14 d_C_told_16 d_C_told_19 mx_3_0 mx_3_1 mx_1_12 (hTh.2.2.1 121 "what is not 0 to 6" (zt3 (List.mem_of_getElem? (i := 141) rfl))) (zat_IAE hTh) (by decide) (by decide) (Nat.le_of_ble_eq_true rfl) (Nat.le_of_ble_eq_true rfl) (Nat.le_of_ble_eq_true rfl) (Nat.le_of_ble_eq_true rfl) h
  · have h := hf hc; clear ht hf
    refine zw_iload_n d_C_told_4 rfl rfl ?_
    refine zw_bipush (v := 7) d_C_told_5 rfl ?_
    obtain ⟨ht, hf⟩ := h
    refine zw_icmp_lt (tgt := 20) d_C_told_7 rfl (fun hc => ?_) (fun hc => ?_)
    · have h := ht hc; clear ht hf
      exact False.elim h
    · have h := hf hc; clear ht hf
      exact zw_throw (names := ["java/lang/RuntimeException", "java/lang/Exception"]) hfl hnoh d_C_told_10 d_C_told_13 d_C_told_14 d_C_told_16 d_C_told_19 mx_3_0 mx_3_1 mx_1_12 (hTh.2.2.1 121 "what is not 0 to 6" (zt3 (List.mem_of_getElem? (i := 141) rfl))) (zat_IAE hTh) (by decide) (by decide) (Nat.le_of_ble_eq_true rfl) (Nat.le_of_ble_eq_true rfl) (Nat.le_of_ble_eq_true rfl) (Nat.le_of_ble_eq_true rfl) h
theorem ct_C_told {l : Launch} {D : va_G} {cA : Nat → ClassId} {base n : Nat} {T : String → zS → Prop} (hfl : l.flags = pinnedFlags ++ [noTraceFlag]) {a0 : Nat} {a1 : Int32} {σ : zS} (h : PT_C_told n a0 a1 σ T) : zMT l y_C_told prog_1_method_10_code 2 (some .int) 6 D cA base n [.ref a0, .int a1] σ T :=
  zMetT (by decide) rfl (Nat.le_of_ble_eq_true rfl) (fun p e s m args below meth c hnoh hTh => tw_C_told hfl hnoh hTh h)
def P_C_run_11 (n : Nat) (Q : Int32 → zS → Prop) (σ : zS) : Prop := False
set_option maxHeartbeats 1000000 in
set_option maxRecDepth 10000 in
theorem w_C_run_11 {Q : Int32 → zS → Prop} (hr : meth.sig.returnType = some .int) {σ : zS} (h : P_C_run_11 n Q σ) : zG p l e (zrm 6 0 0) s m args below meth c (MQ below (zQc (zA base) D cA base n ex (zqi Q)) args s 0 0 (zA base)) s.heap (zA base) base D cA 2 ex prog_1_method_16_code "ConstantFlow" n 0 0 11 [none, none] [] σ := by
  unfold P_C_run_11 at h
  exact False.elim h
def P_C_run (n : Nat) (a0 : Nat) (a1 : Int32) (σ : zS) (Q : Int32 → zS → Prop) : Prop := ((a1 < 0 → False) ∧ (¬ (a1 < 0) → ((a1 ≤ (20000 : Int32) → zk n a0 0 ∧ ∃ c2, zr σ a0 4 = some c2 ∧ ∃ c4, zr σ a0 5 = some c4 ∧ zk n c2 5 ∧ P_X_execute n c2 c4 a1 σ (fun x6 σ7 => Q x6 σ7)) ∧ (¬ (a1 ≤ (20000 : Int32)) → False))))
set_option maxHeartbeats 1000000 in
set_option maxRecDepth 10000 in
theorem w_C_run {Q : Int32 → zS → Prop} (hr : meth.sig.returnType = some .int) {a0 : Nat} {a1 : Int32} {σ : zS} (h : P_C_run n a0 a1 σ Q) : zG p l e (zrm 6 0 0) s m args below meth c (MQ below (zQc (zA base) D cA base n ex (zqi Q)) args s 0 0 (zA base)) s.heap (zA base) base D cA 2 ex prog_1_method_16_code "ConstantFlow" n 0 0 0 [some (.ref a0), some (.int a1)] [] σ := by
  unfold P_C_run at h
  refine zw_iload_n d_C_run_0 rfl rfl ?_
  obtain ⟨ht, hf⟩ := h
  refine zw_if_lt (tgt := 11) d_C_run_1 rfl (fun hc => ?_) (fun hc => ?_)
  · have h := ht hc; clear ht hf
    exact False.elim h
  · have h := hf hc; clear ht hf
    refine zw_iload_n d_C_run_4 rfl rfl ?_
    refine zw_sipush (v := 20000) d_C_run_5 rfl ?_
    obtain ⟨ht, hf⟩ := h
    refine zw_icmp_le (tgt := 21) d_C_run_8 rfl (fun hc => ?_) (fun hc => ?_)
    · have h := ht hc; clear ht hf
      refine zw_aload_n d_C_run_21 rfl rfl ?_
      obtain ⟨q1, h⟩ := h
      obtain ⟨c2, q3, h⟩ := h
      refine zw_gfr (ci := 0) (j := 4) d_C_run_22 mw_2_54 q1.1 q1.2 (by decide) (by decide) rfl q3 ?_
      refine zw_aload_n d_C_run_25 rfl rfl ?_
      obtain ⟨c4, q5, h⟩ := h
      refine zw_gfr (ci := 0) (j := 5) d_C_run_26 mw_2_55 q1.1 q1.2 (by decide) (by decide) rfl q5 ?_
      refine zw_iload_n d_C_run_29 rfl rfl ?_
      obtain ⟨q8, h⟩ := h
      refine zw_callV (ci := 5) (b := c2) (As := [.ref c4, .int a1]) (r := []) d_C_run_30 (c_X_execute h) mx_3_150 mx_3_151 mx_3_152 mw_1_6 mx_3_153 (by decide) q8.1 q8.2 hyV_X_execute (Nat.le_of_ble_eq_true rfl) (Nat.le_of_ble_eq_true rfl) ⟨(Nat.le_of_ble_eq_true rfl), (Nat.le_of_ble_eq_true rfl)⟩ (Nat.le_of_ble_eq_true rfl) rfl (zk_i (fun x6 σ7 h => ?_))
      exact zw_iret d_C_run_33 hr h
    · have h := hf hc; clear ht hf
      exact False.elim h
theorem c_C_run {l : Launch} {D : va_G} {cA : Nat → ClassId} {base n : Nat} {ex : Bool} {Q : Int32 → zS → Prop} {a0 : Nat} {a1 : Int32} {σ : zS} (h : P_C_run n a0 a1 σ Q) : zM l y_C_run prog_1_method_16_code 2 (some .int) 6 0 0 (zA base) D cA base n n ex [.ref a0, .int a1] σ (zqi Q) :=
  zMet (by decide) rfl (Nat.le_of_ble_eq_true rfl) (fun p e s m args below meth c hr hnm => w_C_run hr h)
def PT_C_run_11 (n : Nat) (T : String → zS → Prop) (σ : zS) : Prop := T "java/lang/IllegalArgumentException" σ
set_option maxHeartbeats 1000000 in
set_option maxRecDepth 10000 in
theorem tw_C_run_11 {T : String → zS → Prop} (hfl : l.flags = pinnedFlags ++ [noTraceFlag]) (hnoh : c.exceptionTable.isEmpty = true) (hTh : zTh base s) {σ : zS} (h : PT_C_run_11 n T σ) : zG p l e (zrm 6 1 6) s m args below meth c (zTQ below s D cA base n 1 6 T) s.heap (fun _ => False) base D cA 2 false prog_1_method_16_code "ConstantFlow" n 0 0 11 [none, none] [] σ := by
  unfold PT_C_run_11 at h
  exact zw_throw (names := ["java/lang/RuntimeException", "java/lang/Exception"]) hfl hnoh d_C_run_11 d_C_run_14 d_C_run_15 d_C_run_17 d_C_run_20 mx_3_0 mx_3_1 mx_1_12 (hTh.2.2.1 140 "steps is not 0 to 20000" (zt3 (List.mem_of_getElem? (i := 149) rfl))) (zat_IAE hTh) (by decide) (by decide) (Nat.le_of_ble_eq_true rfl) (Nat.le_of_ble_eq_true rfl) (Nat.le_of_ble_eq_true rfl) (Nat.le_of_ble_eq_true rfl) h
def PT_C_run (n : Nat) (a0 : Nat) (a1 : Int32) (σ : zS) (T : String → zS → Prop) : Prop := ((a1 < 0 → T "java/lang/IllegalArgumentException" σ) ∧ (¬ (a1 < 0) → ((a1 ≤ (20000 : Int32) → False) ∧ (¬ (a1 ≤ (20000 : Int32)) → T "java/lang/IllegalArgumentException" σ))))
set_option maxHeartbeats 1000000 in
set_option maxRecDepth 10000 in
theorem tw_C_run {T : String → zS → Prop} (hfl : l.flags = pinnedFlags ++ [noTraceFlag]) (hnoh : c.exceptionTable.isEmpty = true) (hTh : zTh base s) {a0 : Nat} {a1 : Int32} {σ : zS} (h : PT_C_run n a0 a1 σ T) : zG p l e (zrm 6 1 6) s m args below meth c (zTQ below s D cA base n 1 6 T) s.heap (fun _ => False) base D cA 2 false prog_1_method_16_code "ConstantFlow" n 0 0 0 [some (.ref a0), some (.int a1)] [] σ := by
  unfold PT_C_run at h
  refine zw_iload_n d_C_run_0 rfl rfl ?_
  obtain ⟨ht, hf⟩ := h
  refine zw_if_lt (tgt := 11) d_C_run_1 rfl (fun hc => ?_) (fun hc => ?_)
  · have h := ht hc; clear ht hf
    exact zw_throw (names := ["java/lang/RuntimeException", "java/lang/Exception"]) hfl hnoh d_C_run_11 d_C_run_14 d_C_run_15 d_C_run_17 d_C_run_20 mx_3_0 mx_3_1 mx_1_12 (hTh.2.2.1 140 "steps is not 0 to 20000" (zt3 (List.mem_of_getElem? (i := 149) rfl))) (zat_IAE hTh) (by decide) (by decide) (Nat.le_of_ble_eq_true rfl) (Nat.le_of_ble_eq_true rfl) (Nat.le_of_ble_eq_true rfl) (Nat.le_of_ble_eq_true rfl) h
  · have h := hf hc; clear ht hf
    refine zw_iload_n d_C_run_4 rfl rfl ?_
    refine zw_sipush (v := 20000) d_C_run_5 rfl ?_
    obtain ⟨ht, hf⟩ := h
    refine zw_icmp_le (tgt := 21) d_C_run_8 rfl (fun hc => ?_) (fun hc => ?_)
    · have h := ht hc; clear ht hf
      exact False.elim h
    · have h := hf hc; clear ht hf
      exact zw_throw (names := ["java/lang/RuntimeException", "java/lang/Exception"]) hfl hnoh d_C_run_11 d_C_run_14 d_C_run_15 d_C_run_17 d_C_run_20 mx_3_0 mx_3_1 mx_1_12 (hTh.2.2.1 140 "steps is not 0 to 20000" (zt3 (List.mem_of_getElem? (i := 149) rfl))) (zat_IAE hTh) (by decide) (by decide) (Nat.le_of_ble_eq_true rfl) (Nat.le_of_ble_eq_true rfl) (Nat.le_of_ble_eq_true rfl) (Nat.le_of_ble_eq_true rfl) h
theorem ct_C_run {l : Launch} {D : va_G} {cA : Nat → ClassId} {base n : Nat} {T : String → zS → Prop} (hfl : l.flags = pinnedFlags ++ [noTraceFlag]) {a0 : Nat} {a1 : Int32} {σ : zS} (h : PT_C_run n a0 a1 σ T) : zMT l y_C_run prog_1_method_16_code 2 (some .int) 6 D cA base n [.ref a0, .int a1] σ T :=
  zMetT (by decide) rfl (Nat.le_of_ble_eq_true rfl) (fun p e s m args below meth c hnoh hTh => tw_C_run hfl hnoh hTh h)
def P_C_value (n : Nat) (a0 : Nat) (a1 : Int32) (σ : zS) (Q : Int32 → zS → Prop) : Prop := P_C_isVariable n a1 σ (fun x1 σ2 => ((¬ x1 = 0 → zk n a0 0 ∧ ∃ c4, zr σ2 a0 4 = some c4 ∧ zk n c4 5 ∧ ∃ c7, zr σ2 c4 2 = some c7 ∧ za n c7 10 a1 ∧ Q (zi σ2 c7 a1.toNatClampNeg) σ2) ∧ (x1 = 0 → False)))
set_option maxHeartbeats 1000000 in
set_option maxRecDepth 10000 in
theorem w_C_value {Q : Int32 → zS → Prop} (hr : meth.sig.returnType = some .int) {a0 : Nat} {a1 : Int32} {σ : zS} (h : P_C_value n a0 a1 σ Q) : zG p l e (zrm 6 0 0) s m args below meth c (MQ below (zQc (zA base) D cA base n ex (zqi Q)) args s 0 0 (zA base)) s.heap (zA base) base D cA 2 ex prog_1_method_17_code "ConstantFlow" n 0 0 0 [some (.ref a0), some (.int a1)] [] σ := by
  unfold P_C_value at h
  refine zw_iload_n d_C_value_0 rfl rfl ?_
  refine zw_callS (As := [.int a1]) (r := []) d_C_value_1 (c_C_isVariable h) mx_3_102 mx_3_103 mw_1_1 mx_3_104 hyS_C_isVariable (Nat.le_of_ble_eq_true rfl) (Nat.le_of_ble_eq_true rfl) ⟨(Nat.le_of_ble_eq_true rfl), (Nat.le_of_ble_eq_true rfl)⟩ (Nat.le_of_ble_eq_true rfl) rfl (zk_i (fun x1 σ2 h => ?_))
  obtain ⟨ht, hf⟩ := h
  refine zw_if_ne (tgt := 17) d_C_value_4 rfl (fun hc => ?_) (fun hc => ?_)
  · have h := ht hc; clear ht hf
    refine zw_aload_n d_C_value_17 rfl rfl ?_
    obtain ⟨q3, h⟩ := h
    obtain ⟨c4, q5, h⟩ := h
    refine zw_gfr (ci := 0) (j := 4) d_C_value_18 mw_2_54 q3.1 q3.2 (by decide) (by decide) rfl q5 ?_
    obtain ⟨q6, h⟩ := h
    obtain ⟨c7, q8, h⟩ := h
    refine zw_gfrN (ci := 5) (j := 2) d_C_value_21 mx_1_133 q6.1 q6.2 (by decide) (by decide) rfl q8 ?_
    refine zw_iload_n d_C_value_24 rfl rfl ?_
    obtain ⟨q9, h⟩ := h
    refine zw_iald d_C_value_25 q9.1 (zkd_eta q9.2.1) q9.2.2 ?_
    exact zw_iret d_C_value_26 hr h
  · have h := hf hc; clear ht hf
    exact False.elim h
theorem c_C_value {l : Launch} {D : va_G} {cA : Nat → ClassId} {base n : Nat} {ex : Bool} {Q : Int32 → zS → Prop} {a0 : Nat} {a1 : Int32} {σ : zS} (h : P_C_value n a0 a1 σ Q) : zM l y_C_value prog_1_method_17_code 2 (some .int) 6 0 0 (zA base) D cA base n n ex [.ref a0, .int a1] σ (zqi Q) :=
  zMet (by decide) rfl (Nat.le_of_ble_eq_true rfl) (fun p e s m args below meth c hr hnm => w_C_value hr h)
def PT_C_value (n : Nat) (a0 : Nat) (a1 : Int32) (σ : zS) (T : String → zS → Prop) : Prop := P_C_isVariable n a1 σ (fun x1 σ2 => ((¬ x1 = 0 → False) ∧ (x1 = 0 → T "java/lang/IndexOutOfBoundsException" σ2)))
set_option maxHeartbeats 1000000 in
set_option maxRecDepth 10000 in
theorem tw_C_value {T : String → zS → Prop} (hfl : l.flags = pinnedFlags ++ [noTraceFlag]) (hnoh : c.exceptionTable.isEmpty = true) (hTh : zTh base s) {a0 : Nat} {a1 : Int32} {σ : zS} (h : PT_C_value n a0 a1 σ T) : zG p l e (zrm 6 1 6) s m args below meth c (zTQ below s D cA base n 1 6 T) s.heap (fun _ => False) base D cA 2 false prog_1_method_17_code "ConstantFlow" n 0 0 0 [some (.ref a0), some (.int a1)] [] σ := by
  unfold PT_C_value at h
  refine zw_iload_n d_C_value_0 rfl rfl ?_
  refine zw_callS (As := [.int a1]) (r := []) d_C_value_1 (c_r_C_isVariable h) mx_3_102 mx_3_103 mw_1_1 mx_3_104 hyS_C_isVariable (Nat.le_of_ble_eq_true rfl) (Nat.le_of_ble_eq_true rfl) ⟨(Nat.le_of_ble_eq_true rfl), (Nat.le_of_ble_eq_true rfl)⟩ (Nat.le_of_ble_eq_true rfl) rfl (zk_i (fun x1 σ2 h => ?_))
  obtain ⟨ht, hf⟩ := h
  refine zw_if_ne (tgt := 17) d_C_value_4 rfl (fun hc => ?_) (fun hc => ?_)
  · have h := ht hc; clear ht hf
    exact False.elim h
  · have h := hf hc; clear ht hf
    exact zw_throw (names := ["java/lang/RuntimeException", "java/lang/Exception"]) hfl hnoh d_C_value_7 d_C_value_10 d_C_value_11 d_C_value_13 d_C_value_16 mx_3_79 mx_3_80 mx_1_14 (hTh.2.2.1 146 "there is no such variable" (zt3 (List.mem_of_getElem? (i := 178) rfl))) (zat_IOE hTh) (by decide) (by decide) (Nat.le_of_ble_eq_true rfl) (Nat.le_of_ble_eq_true rfl) (Nat.le_of_ble_eq_true rfl) (Nat.le_of_ble_eq_true rfl) h
theorem ct_C_value {l : Launch} {D : va_G} {cA : Nat → ClassId} {base n : Nat} {T : String → zS → Prop} (hfl : l.flags = pinnedFlags ++ [noTraceFlag]) {a0 : Nat} {a1 : Int32} {σ : zS} (h : PT_C_value n a0 a1 σ T) : zMT l y_C_value prog_1_method_17_code 2 (some .int) 6 D cA base n [.ref a0, .int a1] σ T :=
  zMetT (by decide) rfl (Nat.le_of_ble_eq_true rfl) (fun p e s m args below meth c hnoh hTh => tw_C_value hfl hnoh hTh h)
end
