theorem d_L_feed_0 : decode method_3_code 0 = .ok (.aload 4, 2) := by decide +kernel
theorem d_L_feed_2 : decode method_3_code 2 = .ok (.iconst (0), 1) := by decide +kernel
theorem d_L_feed_3 : decode method_3_code 3 = .ok (.aload_n 0, 1) := by decide +kernel
theorem d_L_feed_4 : decode method_3_code 4 = .ok (.iload_n 1, 1) := by decide +kernel
theorem d_L_feed_5 : decode method_3_code 5 = .ok (.lload_n 2, 1) := by decide +kernel
theorem d_L_feed_6 : decode method_3_code 6 = .ok (.invokevirtual 7, 3) := by decide +kernel
theorem d_L_feed_9 : decode method_3_code 9 = .ok (.i2l, 1) := by decide +kernel
theorem d_L_feed_10 : decode method_3_code 10 = .ok (.lastore, 1) := by decide +kernel
theorem d_L_feed_11 : decode method_3_code 11 = .ok (.goto (7), 3) := by decide +kernel
theorem d_L_feed_14 : decode method_3_code 14 = .ok (.astore 5, 2) := by decide +kernel
theorem d_L_feed_16 : decode method_3_code 16 = .ok (.iconst (1), 1) := by decide +kernel
theorem d_L_feed_17 : decode method_3_code 17 = .ok (.ireturn, 1) := by decide +kernel
theorem d_L_feed_18 : decode method_3_code 18 = .ok (.iconst (0), 1) := by decide +kernel
theorem d_L_feed_19 : decode method_3_code 19 = .ok (.ireturn, 1) := by decide +kernel
theorem d_L_comes_0 : decode method_4_code 0 = .ok (.aload_n 2, 1) := by decide +kernel
theorem d_L_comes_1 : decode method_4_code 1 = .ok (.iconst (0), 1) := by decide +kernel
theorem d_L_comes_2 : decode method_4_code 2 = .ok (.aload_n 0, 1) := by decide +kernel
theorem d_L_comes_3 : decode method_4_code 3 = .ok (.iload_n 1, 1) := by decide +kernel
theorem d_L_comes_4 : decode method_4_code 4 = .ok (.invokevirtual 15, 3) := by decide +kernel
theorem d_L_comes_7 : decode method_4_code 7 = .ok (.ifCond .eq (7), 3) := by decide +kernel
theorem d_L_comes_10 : decode method_4_code 10 = .ok (.lconst 1, 1) := by decide +kernel
theorem d_L_comes_11 : decode method_4_code 11 = .ok (.goto (4), 3) := by decide +kernel
theorem d_L_comes_14 : decode method_4_code 14 = .ok (.lconst 0, 1) := by decide +kernel
theorem d_L_comes_15 : decode method_4_code 15 = .ok (.lastore, 1) := by decide +kernel
theorem d_L_comes_16 : decode method_4_code 16 = .ok (.goto (6), 3) := by decide +kernel
theorem d_L_comes_19 : decode method_4_code 19 = .ok (.astore_n 3, 1) := by decide +kernel
theorem d_L_comes_20 : decode method_4_code 20 = .ok (.iconst (1), 1) := by decide +kernel
theorem d_L_comes_21 : decode method_4_code 21 = .ok (.ireturn, 1) := by decide +kernel
theorem d_L_comes_22 : decode method_4_code 22 = .ok (.iconst (0), 1) := by decide +kernel
theorem d_L_comes_23 : decode method_4_code 23 = .ok (.ireturn, 1) := by decide +kernel
theorem d_L_known_0 : decode method_5_code 0 = .ok (.aload 4, 2) := by decide +kernel
theorem d_L_known_2 : decode method_5_code 2 = .ok (.iconst (0), 1) := by decide +kernel
theorem d_L_known_3 : decode method_5_code 3 = .ok (.aload_n 0, 1) := by decide +kernel
theorem d_L_known_4 : decode method_5_code 4 = .ok (.iload_n 1, 1) := by decide +kernel
theorem d_L_known_5 : decode method_5_code 5 = .ok (.iload_n 2, 1) := by decide +kernel
theorem d_L_known_6 : decode method_5_code 6 = .ok (.iload_n 3, 1) := by decide +kernel
theorem d_L_known_7 : decode method_5_code 7 = .ok (.invokevirtual 21, 3) := by decide +kernel
theorem d_L_known_10 : decode method_5_code 10 = .ok (.i2l, 1) := by decide +kernel
theorem d_L_known_11 : decode method_5_code 11 = .ok (.lastore, 1) := by decide +kernel
theorem d_L_known_12 : decode method_5_code 12 = .ok (.goto (7), 3) := by decide +kernel
theorem d_L_known_15 : decode method_5_code 15 = .ok (.astore 5, 2) := by decide +kernel
theorem d_L_known_17 : decode method_5_code 17 = .ok (.iconst (1), 1) := by decide +kernel
theorem d_L_known_18 : decode method_5_code 18 = .ok (.ireturn, 1) := by decide +kernel
theorem d_L_known_19 : decode method_5_code 19 = .ok (.iconst (0), 1) := by decide +kernel
theorem d_L_known_20 : decode method_5_code 20 = .ok (.ireturn, 1) := by decide +kernel
theorem d_L_number_0 : decode method_6_code 0 = .ok (.aload 4, 2) := by decide +kernel
theorem d_L_number_2 : decode method_6_code 2 = .ok (.iconst (0), 1) := by decide +kernel
theorem d_L_number_3 : decode method_6_code 3 = .ok (.aload_n 0, 1) := by decide +kernel
theorem d_L_number_4 : decode method_6_code 4 = .ok (.iload_n 1, 1) := by decide +kernel
theorem d_L_number_5 : decode method_6_code 5 = .ok (.iload_n 2, 1) := by decide +kernel
theorem d_L_number_6 : decode method_6_code 6 = .ok (.iload_n 3, 1) := by decide +kernel
theorem d_L_number_7 : decode method_6_code 7 = .ok (.invokevirtual 25, 3) := by decide +kernel
theorem d_L_number_10 : decode method_6_code 10 = .ok (.i2l, 1) := by decide +kernel
theorem d_L_number_11 : decode method_6_code 11 = .ok (.lastore, 1) := by decide +kernel
theorem d_L_number_12 : decode method_6_code 12 = .ok (.goto (11), 3) := by decide +kernel
theorem d_L_number_15 : decode method_6_code 15 = .ok (.astore 5, 2) := by decide +kernel
theorem d_L_number_17 : decode method_6_code 17 = .ok (.iconst (1), 1) := by decide +kernel
theorem d_L_number_18 : decode method_6_code 18 = .ok (.ireturn, 1) := by decide +kernel
theorem d_L_number_19 : decode method_6_code 19 = .ok (.astore 5, 2) := by decide +kernel
theorem d_L_number_21 : decode method_6_code 21 = .ok (.iconst (2), 1) := by decide +kernel
theorem d_L_number_22 : decode method_6_code 22 = .ok (.ireturn, 1) := by decide +kernel
theorem d_L_number_23 : decode method_6_code 23 = .ok (.iconst (0), 1) := by decide +kernel
theorem d_L_number_24 : decode method_6_code 24 = .ok (.ireturn, 1) := by decide +kernel
theorem d_L_told_0 : decode method_7_code 0 = .ok (.aload_n 2, 1) := by decide +kernel
theorem d_L_told_1 : decode method_7_code 1 = .ok (.iconst (0), 1) := by decide +kernel
theorem d_L_told_2 : decode method_7_code 2 = .ok (.aload_n 0, 1) := by decide +kernel
theorem d_L_told_3 : decode method_7_code 3 = .ok (.iload_n 1, 1) := by decide +kernel
theorem d_L_told_4 : decode method_7_code 4 = .ok (.invokevirtual 30, 3) := by decide +kernel
theorem d_L_told_7 : decode method_7_code 7 = .ok (.i2l, 1) := by decide +kernel
theorem d_L_told_8 : decode method_7_code 8 = .ok (.lastore, 1) := by decide +kernel
theorem d_L_told_9 : decode method_7_code 9 = .ok (.goto (6), 3) := by decide +kernel
theorem d_L_told_12 : decode method_7_code 12 = .ok (.astore_n 3, 1) := by decide +kernel
theorem d_L_told_13 : decode method_7_code 13 = .ok (.iconst (1), 1) := by decide +kernel
theorem d_L_told_14 : decode method_7_code 14 = .ok (.ireturn, 1) := by decide +kernel
theorem d_L_told_15 : decode method_7_code 15 = .ok (.iconst (0), 1) := by decide +kernel
theorem d_L_told_16 : decode method_7_code 16 = .ok (.ireturn, 1) := by decide +kernel
theorem d_L_run_0 : decode method_8_code 0 = .ok (.aload_n 2, 1) := by decide +kernel
theorem d_L_run_1 : decode method_8_code 1 = .ok (.iconst (0), 1) := by decide +kernel
theorem d_L_run_2 : decode method_8_code 2 = .ok (.aload_n 0, 1) := by decide +kernel
theorem d_L_run_3 : decode method_8_code 3 = .ok (.iload_n 1, 1) := by decide +kernel
theorem d_L_run_4 : decode method_8_code 4 = .ok (.invokevirtual 34, 3) := by decide +kernel
theorem d_L_run_7 : decode method_8_code 7 = .ok (.i2l, 1) := by decide +kernel
theorem d_L_run_8 : decode method_8_code 8 = .ok (.lastore, 1) := by decide +kernel
theorem d_L_run_9 : decode method_8_code 9 = .ok (.goto (6), 3) := by decide +kernel
theorem d_L_run_12 : decode method_8_code 12 = .ok (.astore_n 3, 1) := by decide +kernel
theorem d_L_run_13 : decode method_8_code 13 = .ok (.iconst (1), 1) := by decide +kernel
theorem d_L_run_14 : decode method_8_code 14 = .ok (.ireturn, 1) := by decide +kernel
theorem d_L_run_15 : decode method_8_code 15 = .ok (.iconst (0), 1) := by decide +kernel
theorem d_L_run_16 : decode method_8_code 16 = .ok (.ireturn, 1) := by decide +kernel
theorem d_L_value_0 : decode method_9_code 0 = .ok (.aload_n 2, 1) := by decide +kernel
theorem d_L_value_1 : decode method_9_code 1 = .ok (.iconst (0), 1) := by decide +kernel
theorem d_L_value_2 : decode method_9_code 2 = .ok (.aload_n 0, 1) := by decide +kernel
theorem d_L_value_3 : decode method_9_code 3 = .ok (.iload_n 1, 1) := by decide +kernel
theorem d_L_value_4 : decode method_9_code 4 = .ok (.invokevirtual 37, 3) := by decide +kernel
theorem d_L_value_7 : decode method_9_code 7 = .ok (.i2l, 1) := by decide +kernel
theorem d_L_value_8 : decode method_9_code 8 = .ok (.lastore, 1) := by decide +kernel
theorem d_L_value_9 : decode method_9_code 9 = .ok (.goto (6), 3) := by decide +kernel
theorem d_L_value_12 : decode method_9_code 12 = .ok (.astore_n 3, 1) := by decide +kernel
theorem d_L_value_13 : decode method_9_code 13 = .ok (.iconst (1), 1) := by decide +kernel
theorem d_L_value_14 : decode method_9_code 14 = .ok (.ireturn, 1) := by decide +kernel
theorem d_L_value_15 : decode method_9_code 15 = .ok (.iconst (0), 1) := by decide +kernel
theorem d_L_value_16 : decode method_9_code 16 = .ok (.ireturn, 1) := by decide +kernel
section
variable {p : Program} {l : Launch} {e : Env} {s : State} {m : MethodId} {args : Array Value} {below : List Frame} {meth : Method} {c : Code} {base : Nat} {D : va_G} {cA : Nat → ClassId} {ex : Bool} {n : Nat}
theorem zexc1 {c : Code} {a b d f : Nat} (h : c.exceptionTable.toList.map (fun h => (h.startPc, h.endPc, h.handlerPc, h.catchType)) = [(a, b, d, f)]) : ∃ en, c.exceptionTable.toList = [en] ∧ en.startPc = a ∧ en.endPc = b ∧ en.handlerPc = d ∧ en.catchType = f := by
  obtain ⟨en, t, h1, h2, h3⟩ := List.map_eq_cons_iff.mp h
  rw [List.map_eq_nil_iff] at h3
  subst h3
  simp only [Prod.mk.injEq] at h2
  exact ⟨en, h1, h2.1, h2.2.1, h2.2.2.1, h2.2.2.2⟩
theorem zexc2 {c : Code} {a b d f a2 b2 d2 f2 : Nat} (h : c.exceptionTable.toList.map (fun h => (h.startPc, h.endPc, h.handlerPc, h.catchType)) = [(a, b, d, f), (a2, b2, d2, f2)]) : ∃ en en2, c.exceptionTable.toList = [en, en2] ∧ en.startPc = a ∧ en.endPc = b ∧ en.handlerPc = d ∧ en.catchType = f ∧ en2.startPc = a2 ∧ en2.endPc = b2 ∧ en2.handlerPc = d2 ∧ en2.catchType = f2 := by
  obtain ⟨en, t, h1, h2, h3⟩ := List.map_eq_cons_iff.mp h
  obtain ⟨en2, t2, h4, h5, h6⟩ := List.map_eq_cons_iff.mp h3
  rw [List.map_eq_nil_iff] at h6
  subst h6; subst h4
  simp only [Prod.mk.injEq] at h2 h5
  exact ⟨en, en2, h1, h2.1, h2.2.1, h2.2.2.1, h2.2.2.2, h5.1, h5.2.1, h5.2.2.1, h5.2.2.2⟩
def y_L_feed : MethodName := ⟨"ConstantFlowLaw", "feed", "(LConstantFlow;IJ[J)I"⟩
theorem hyS_L_feed : y_L_feed.cls ≠ "java/lang/invoke/MethodHandle" ∧ y_L_feed.cls ≠ "java/lang/invoke/VarHandle" ∧ (parseMethodDescriptor y_L_feed.desc).map (fun d => d.parameters.length) = some 4 := by decide +kernel
def P_L_feed (n : Nat) (a0 : Nat) (a1 : Int32) (a2 : Int64) (a4 : Nat) (σ : zS) (Q : Int32 → zS → Prop) : Prop := zk n a0 0 ∧ (P_C_feed n a0 a1 a2 σ (fun x1 σ2 => za n a4 14 (0 : Int32) ∧ Q (0 : Int32) (zL σ2 a4 (0 : Int32).toNatClampNeg (Int32.toInt64 x1))) ∨ PT_C_feed n a0 a1 a2 σ (fun X σ' => (X = "java/lang/IllegalArgumentException" ∧ ∀ z : Nat, Q (1 : Int32) σ')))
set_option maxHeartbeats 1000000 in
set_option maxRecDepth 10000 in
theorem w_L_feed {Q : Int32 → zS → Prop} (hfl : l.flags = pinnedFlags ++ [noTraceFlag]) (hr : meth.sig.returnType = some .int) (hexc : ∃ en, c.exceptionTable.toList = [en] ∧ en.startPc = 0 ∧ en.endPc = 11 ∧ en.handlerPc = 14 ∧ en.catchType = 13) (hTh : zTh base s) {a0 : Nat} {a1 : Int32} {a2 : Int64} {a4 : Nat} {σ : zS} (h : P_L_feed n a0 a1 a2 a4 σ Q) : zG p l e (zrm 7 1 6) s m args below meth c (MQ below (zQc (zA base) D cA base n false (zqi Q)) args s 1 6 (zA base)) s.heap (zA base) base D cA 6 false method_3_code "ConstantFlowLaw" n 0 0 0 [some (.ref a0), some (.int a1), some (.long a2), none, some (.ref a4), none] [] σ := by
  unfold P_L_feed at h
  refine zw_aload d_L_feed_0 rfl ?_
  refine zw_iconst (v := 0) d_L_feed_2 rfl ?_
  refine zw_aload_n d_L_feed_3 rfl rfl ?_
  refine zw_iload_n d_L_feed_4 rfl rfl ?_
  refine zw_lload_n d_L_feed_5 rfl rfl ?_
  obtain ⟨q3, h⟩ := h
  rcases h with h | h
  · refine zw_callV (ci := 0) (b := a0) (As := [.int a1, .long a2]) (r := [.int (0 : Int32), .ref a4]) d_L_feed_6 (c_C_feed h) mx_2_236 mx_2_237 mx_2_238 mw_1_1 mx_2_239 (by decide) q3.1 q3.2 hyV_C_feed (Nat.le_of_ble_eq_true rfl) (Nat.le_of_ble_eq_true rfl) ⟨(Nat.le_of_ble_eq_true rfl), (Nat.le_of_ble_eq_true rfl)⟩ (Nat.le_of_ble_eq_true rfl) rfl (zk_i (fun x1 σ2 h => ?_))
    refine zw_i2l d_L_feed_9 ?_
    obtain ⟨q4, h⟩ := h
    refine zw_last d_L_feed_10 q4.1 (zkd_eta q4.2.1) q4.2.2 ?_
    refine zw_goto (tgt := 18) d_L_feed_11 rfl ?_
    refine zw_iconst (v := 0) d_L_feed_18 rfl ?_
    refine zw_widen (k := 1) (z := 6) (Nat.le_of_ble_eq_true rfl) (Nat.le_of_ble_eq_true rfl) ?_
    exact zw_iret d_L_feed_19 hr h
  · refine zw_callT0 (ci := 0) (b := a0) (As := [.int a1, .long a2]) (r := [.int (0 : Int32), .ref a4]) d_L_feed_6 (ct_C_feed hfl h) mx_2_236 mx_2_237 mx_2_238 mw_1_1 mx_2_239 (by decide) q3.1 q3.2 hyV_C_feed (Nat.le_of_ble_eq_true rfl) (Nat.le_of_ble_eq_true rfl) ⟨(Nat.le_of_ble_eq_true rfl), (Nat.le_of_ble_eq_true rfl)⟩ (Nat.le_of_ble_eq_true rfl) rfl hTh (fun X σ' x ce T' locs la F hT X' hW hS hL hbx hce hvm hcl => ?_)
    obtain ⟨rfl, h⟩ := hT
    obtain ⟨en, hen, e1, e2, e3, e4⟩ := hexc
    refine zcaught F X' hW hS hL hbx hce hvm hcl hen (by simp [covers, e1, e2]) (by rw [e4]; decide) (by rw [e4]; exact mx_2_235) (hTh.2.2.2.1 _ (zt3 (List.mem_of_getElem? (i := 2) rfl)) rfl) (fun z => ?_)
    rw [e3]
    have h := h z
    refine zw_astore d_L_feed_14 (Nat.le_of_ble_eq_true rfl) rfl rfl ?_
    refine zw_iconst (v := 1) d_L_feed_16 rfl ?_
    refine zw_widen (k := 1) (z := 6) (Nat.le_of_ble_eq_true rfl) (Nat.le_of_ble_eq_true rfl) ?_
    exact zw_iret d_L_feed_17 hr h
theorem c_L_feed {l : Launch} {D : va_G} {cA : Nat → ClassId} {base n : Nat} {Q : Int32 → zS → Prop} (hfl : l.flags = pinnedFlags ++ [noTraceFlag]) {a0 : Nat} {a1 : Int32} {a2 : Int64} {a4 : Nat} {σ : zS} (h : P_L_feed n a0 a1 a2 a4 σ Q) : zMW l y_L_feed method_3_code 6 (some .int) [(0, 11, 14, 13)] 7 1 6 D cA base n [.ref a0, .int a1, .long a2, .ref a4] σ (zqi Q) :=
  zMetW (by decide) rfl (Nat.le_of_ble_eq_true rfl) (fun p e s m args below meth c hr hexc hTh => w_L_feed hfl hr (zexc1 hexc) hTh h)
def y_L_comes : MethodName := ⟨"ConstantFlowLaw", "comes", "(LConstantFlow;I[J)I"⟩
theorem hyS_L_comes : y_L_comes.cls ≠ "java/lang/invoke/MethodHandle" ∧ y_L_comes.cls ≠ "java/lang/invoke/VarHandle" ∧ (parseMethodDescriptor y_L_comes.desc).map (fun d => d.parameters.length) = some 3 := by decide +kernel
def P_L_comes_15 (n : Nat) (Q : Int32 → zS → Prop) (b0 : Nat) (b1 : Int32) (b2 : Int64) (σ : zS) : Prop := za n b0 14 b1 ∧ Q (0 : Int32) (zL σ b0 b1.toNatClampNeg b2)
set_option maxHeartbeats 1000000 in
set_option maxRecDepth 10000 in
theorem w_L_comes_15 {Q : Int32 → zS → Prop} (hfl : l.flags = pinnedFlags ++ [noTraceFlag]) (hr : meth.sig.returnType = some .int) (hexc : ∃ en, c.exceptionTable.toList = [en] ∧ en.startPc = 0 ∧ en.endPc = 16 ∧ en.handlerPc = 19 ∧ en.catchType = 19) (hTh : zTh base s) {b0 : Nat} {b1 : Int32} {b2 : Int64} {σ : zS} (h : P_L_comes_15 n Q b0 b1 b2 σ) : zG p l e (zrm 7 1 6) s m args below meth c (MQ below (zQc (zA base) D cA base n false (zqi Q)) args s 1 6 (zA base)) s.heap (zA base) base D cA 4 false method_4_code "ConstantFlowLaw" n 0 0 15 [none, none, none, none] [.long b2, .int b1, .ref b0] σ := by
  unfold P_L_comes_15 at h
  obtain ⟨q1, h⟩ := h
  refine zw_last d_L_comes_15 q1.1 (zkd_eta q1.2.1) q1.2.2 ?_
  refine zw_goto (tgt := 22) d_L_comes_16 rfl ?_
  refine zw_iconst (v := 0) d_L_comes_22 rfl ?_
  refine zw_widen (k := 1) (z := 6) (Nat.le_of_ble_eq_true rfl) (Nat.le_of_ble_eq_true rfl) ?_
  exact zw_iret d_L_comes_23 hr h
def P_L_comes (n : Nat) (a0 : Nat) (a1 : Int32) (a2 : Nat) (σ : zS) (Q : Int32 → zS → Prop) : Prop := zk n a0 0 ∧ (P_C_comes n a0 a1 σ (fun x1 σ2 => ((x1 = 0 → P_L_comes_15 n Q a2 (0 : Int32) (0 : Int64) σ2) ∧ (¬ (x1 = 0) → P_L_comes_15 n Q a2 (0 : Int32) (1 : Int64) σ2))) ∨ PT_C_comes n a0 a1 σ (fun X σ' => (X = "java/lang/IndexOutOfBoundsException" ∧ ∀ z : Nat, Q (1 : Int32) σ')))
set_option maxHeartbeats 1000000 in
set_option maxRecDepth 10000 in
theorem w_L_comes {Q : Int32 → zS → Prop} (hfl : l.flags = pinnedFlags ++ [noTraceFlag]) (hr : meth.sig.returnType = some .int) (hexc : ∃ en, c.exceptionTable.toList = [en] ∧ en.startPc = 0 ∧ en.endPc = 16 ∧ en.handlerPc = 19 ∧ en.catchType = 19) (hTh : zTh base s) {a0 : Nat} {a1 : Int32} {a2 : Nat} {σ : zS} (h : P_L_comes n a0 a1 a2 σ Q) : zG p l e (zrm 7 1 6) s m args below meth c (MQ below (zQc (zA base) D cA base n false (zqi Q)) args s 1 6 (zA base)) s.heap (zA base) base D cA 4 false method_4_code "ConstantFlowLaw" n 0 0 0 [some (.ref a0), some (.int a1), some (.ref a2), none] [] σ := by
  unfold P_L_comes at h
  refine zw_aload_n d_L_comes_0 rfl rfl ?_
  refine zw_iconst (v := 0) d_L_comes_1 rfl ?_
  refine zw_aload_n d_L_comes_2 rfl rfl ?_
  refine zw_iload_n d_L_comes_3 rfl rfl ?_
  obtain ⟨q3, h⟩ := h
  rcases h with h | h
  · refine zw_callV (ci := 0) (b := a0) (As := [.int a1]) (r := [.int (0 : Int32), .ref a2]) d_L_comes_4 (c_C_comes h) mx_3_71 mx_3_72 mx_3_73 mw_1_1 mx_3_74 (by decide) q3.1 q3.2 hyV_C_comes (Nat.le_of_ble_eq_true rfl) (Nat.le_of_ble_eq_true rfl) ⟨(Nat.le_of_ble_eq_true rfl), (Nat.le_of_ble_eq_true rfl)⟩ (Nat.le_of_ble_eq_true rfl) rfl (zk_i (fun x1 σ2 h => ?_))
    obtain ⟨ht, hf⟩ := h
    refine zw_if_eq (tgt := 14) d_L_comes_7 rfl (fun hc => ?_) (fun hc => ?_)
    · have h := ht hc; clear ht hf
      refine zw_lconst (v := 0) d_L_comes_14 rfl ?_
      refine zw_le (ls' := [none, none, none, none]) (True.intro) ?_
      exact w_L_comes_15 hfl hr hexc hTh h
    · have h := hf hc; clear ht hf
      refine zw_lconst (v := 1) d_L_comes_10 rfl ?_
      refine zw_goto (tgt := 15) d_L_comes_11 rfl ?_
      refine zw_le (ls' := [none, none, none, none]) (True.intro) ?_
      exact w_L_comes_15 hfl hr hexc hTh h
  · refine zw_callT0 (ci := 0) (b := a0) (As := [.int a1]) (r := [.int (0 : Int32), .ref a2]) d_L_comes_4 (ct_C_comes hfl h) mx_3_71 mx_3_72 mx_3_73 mw_1_1 mx_3_74 (by decide) q3.1 q3.2 hyV_C_comes (Nat.le_of_ble_eq_true rfl) (Nat.le_of_ble_eq_true rfl) ⟨(Nat.le_of_ble_eq_true rfl), (Nat.le_of_ble_eq_true rfl)⟩ (Nat.le_of_ble_eq_true rfl) rfl hTh (fun X σ' x ce T' locs la F hT X' hW hS hL hbx hce hvm hcl => ?_)
    obtain ⟨rfl, h⟩ := hT
    obtain ⟨en, hen, e1, e2, e3, e4⟩ := hexc
    refine zcaught F X' hW hS hL hbx hce hvm hcl hen (by simp [covers, e1, e2]) (by rw [e4]; decide) (by rw [e4]; exact mx_3_70) (hTh.2.2.2.1 _ (zt3 (List.mem_of_getElem? (i := 81) rfl)) rfl) (fun z => ?_)
    rw [e3]
    have h := h z
    refine zw_astore_n d_L_comes_19 rfl (Nat.le_of_ble_eq_true rfl) rfl rfl ?_
    refine zw_iconst (v := 1) d_L_comes_20 rfl ?_
    refine zw_widen (k := 1) (z := 6) (Nat.le_of_ble_eq_true rfl) (Nat.le_of_ble_eq_true rfl) ?_
    exact zw_iret d_L_comes_21 hr h
theorem c_L_comes {l : Launch} {D : va_G} {cA : Nat → ClassId} {base n : Nat} {Q : Int32 → zS → Prop} (hfl : l.flags = pinnedFlags ++ [noTraceFlag]) {a0 : Nat} {a1 : Int32} {a2 : Nat} {σ : zS} (h : P_L_comes n a0 a1 a2 σ Q) : zMW l y_L_comes method_4_code 4 (some .int) [(0, 16, 19, 19)] 7 1 6 D cA base n [.ref a0, .int a1, .ref a2] σ (zqi Q) :=
  zMetW (by decide) rfl (Nat.le_of_ble_eq_true rfl) (fun p e s m args below meth c hr hexc hTh => w_L_comes hfl hr (zexc1 hexc) hTh h)
def y_L_known : MethodName := ⟨"ConstantFlowLaw", "known", "(LConstantFlow;IIZ[J)I"⟩
theorem hyS_L_known : y_L_known.cls ≠ "java/lang/invoke/MethodHandle" ∧ y_L_known.cls ≠ "java/lang/invoke/VarHandle" ∧ (parseMethodDescriptor y_L_known.desc).map (fun d => d.parameters.length) = some 5 := by decide +kernel
def P_L_known (n : Nat) (a0 : Nat) (a1 : Int32) (a2 : Int32) (a3 : Int32) (a4 : Nat) (σ : zS) (Q : Int32 → zS → Prop) : Prop := zk n a0 0 ∧ (P_C_known n a0 a1 a2 a3 σ (fun x1 σ2 => za n a4 14 (0 : Int32) ∧ Q (0 : Int32) (zL σ2 a4 (0 : Int32).toNatClampNeg (Int32.toInt64 x1))) ∨ PT_C_known n a0 a1 a2 a3 σ (fun X σ' => (X = "java/lang/IndexOutOfBoundsException" ∧ ∀ z : Nat, Q (1 : Int32) σ')))
set_option maxHeartbeats 1000000 in
set_option maxRecDepth 10000 in
theorem w_L_known {Q : Int32 → zS → Prop} (hfl : l.flags = pinnedFlags ++ [noTraceFlag]) (hr : meth.sig.returnType = some .int) (hexc : ∃ en, c.exceptionTable.toList = [en] ∧ en.startPc = 0 ∧ en.endPc = 12 ∧ en.handlerPc = 15 ∧ en.catchType = 19) (hTh : zTh base s) {a0 : Nat} {a1 : Int32} {a2 : Int32} {a3 : Int32} {a4 : Nat} {σ : zS} (h : P_L_known n a0 a1 a2 a3 a4 σ Q) : zG p l e (zrm 7 1 6) s m args below meth c (MQ below (zQc (zA base) D cA base n false (zqi Q)) args s 1 6 (zA base)) s.heap (zA base) base D cA 6 false method_5_code "ConstantFlowLaw" n 0 0 0 [some (.ref a0), some (.int a1), some (.int a2), some (.int a3), some (.ref a4), none] [] σ := by
  unfold P_L_known at h
  refine zw_aload d_L_known_0 rfl ?_
  refine zw_iconst (v := 0) d_L_known_2 rfl ?_
  refine zw_aload_n d_L_known_3 rfl rfl ?_
  refine zw_iload_n d_L_known_4 rfl rfl ?_
  refine zw_iload_n d_L_known_5 rfl rfl ?_
  refine zw_iload_n d_L_known_6 rfl rfl ?_
  obtain ⟨q3, h⟩ := h
  rcases h with h | h
  · refine zw_callV (ci := 0) (b := a0) (As := [.int a1, .int a2, .int a3]) (r := [.int (0 : Int32), .ref a4]) d_L_known_7 (c_C_known h) mx_3_98 mx_3_99 mx_3_100 mw_1_1 mx_3_101 (by decide) q3.1 q3.2 hyV_C_known (Nat.le_of_ble_eq_true rfl) (Nat.le_of_ble_eq_true rfl) ⟨(Nat.le_of_ble_eq_true rfl), (Nat.le_of_ble_eq_true rfl)⟩ (Nat.le_of_ble_eq_true rfl) rfl (zk_i (fun x1 σ2 h => ?_))
    refine zw_i2l d_L_known_10 ?_
    obtain ⟨q4, h⟩ := h
    refine zw_last d_L_known_11 q4.1 (zkd_eta q4.2.1) q4.2.2 ?_
    refine zw_goto (tgt := 19) d_L_known_12 rfl ?_
    refine zw_iconst (v := 0) d_L_known_19 rfl ?_
    refine zw_widen (k := 1) (z := 6) (Nat.le_of_ble_eq_true rfl) (Nat.le_of_ble_eq_true rfl) ?_
    exact zw_iret d_L_known_20 hr h
  · refine zw_callT0 (ci := 0) (b := a0) (As := [.int a1, .int a2, .int a3]) (r := [.int (0 : Int32), .ref a4]) d_L_known_7 (ct_C_known hfl h) mx_3_98 mx_3_99 mx_3_100 mw_1_1 mx_3_101 (by decide) q3.1 q3.2 hyV_C_known (Nat.le_of_ble_eq_true rfl) (Nat.le_of_ble_eq_true rfl) ⟨(Nat.le_of_ble_eq_true rfl), (Nat.le_of_ble_eq_true rfl)⟩ (Nat.le_of_ble_eq_true rfl) rfl hTh (fun X σ' x ce T' locs la F hT X' hW hS hL hbx hce hvm hcl => ?_)
    obtain ⟨rfl, h⟩ := hT
    obtain ⟨en, hen, e1, e2, e3, e4⟩ := hexc
    refine zcaught F X' hW hS hL hbx hce hvm hcl hen (by simp [covers, e1, e2]) (by rw [e4]; decide) (by rw [e4]; exact mx_3_70) (hTh.2.2.2.1 _ (zt3 (List.mem_of_getElem? (i := 81) rfl)) rfl) (fun z => ?_)
    rw [e3]
    have h := h z
    refine zw_astore d_L_known_15 (Nat.le_of_ble_eq_true rfl) rfl rfl ?_
    refine zw_iconst (v := 1) d_L_known_17 rfl ?_
    refine zw_widen (k := 1) (z := 6) (Nat.le_of_ble_eq_true rfl) (Nat.le_of_ble_eq_true rfl) ?_
    exact zw_iret d_L_known_18 hr h
theorem c_L_known {l : Launch} {D : va_G} {cA : Nat → ClassId} {base n : Nat} {Q : Int32 → zS → Prop} (hfl : l.flags = pinnedFlags ++ [noTraceFlag]) {a0 : Nat} {a1 : Int32} {a2 : Int32} {a3 : Int32} {a4 : Nat} {σ : zS} (h : P_L_known n a0 a1 a2 a3 a4 σ Q) : zMW l y_L_known method_5_code 6 (some .int) [(0, 12, 15, 19)] 7 1 6 D cA base n [.ref a0, .int a1, .int a2, .int a3, .ref a4] σ (zqi Q) :=
  zMetW (by decide) rfl (Nat.le_of_ble_eq_true rfl) (fun p e s m args below meth c hr hexc hTh => w_L_known hfl hr (zexc1 hexc) hTh h)
def y_L_number : MethodName := ⟨"ConstantFlowLaw", "number", "(LConstantFlow;IIZ[J)I"⟩
theorem hyS_L_number : y_L_number.cls ≠ "java/lang/invoke/MethodHandle" ∧ y_L_number.cls ≠ "java/lang/invoke/VarHandle" ∧ (parseMethodDescriptor y_L_number.desc).map (fun d => d.parameters.length) = some 5 := by decide +kernel
def P_L_number (n : Nat) (a0 : Nat) (a1 : Int32) (a2 : Int32) (a3 : Int32) (a4 : Nat) (σ : zS) (Q : Int32 → zS → Prop) : Prop := zk n a0 0 ∧ (P_C_number n a0 a1 a2 a3 σ (fun x1 σ2 => za n a4 14 (0 : Int32) ∧ Q (0 : Int32) (zL σ2 a4 (0 : Int32).toNatClampNeg (Int32.toInt64 x1))) ∨ PT_C_number n a0 a1 a2 a3 σ (fun X σ' => (X = "java/lang/IndexOutOfBoundsException" ∧ ∀ z : Nat, Q (1 : Int32) σ') ∨ (X = "java/lang/IllegalStateException" ∧ ∀ z : Nat, Q (2 : Int32) σ')))
set_option maxHeartbeats 1000000 in
set_option maxRecDepth 10000 in
theorem w_L_number {Q : Int32 → zS → Prop} (hfl : l.flags = pinnedFlags ++ [noTraceFlag]) (hr : meth.sig.returnType = some .int) (hexc : ∃ en en2, c.exceptionTable.toList = [en, en2] ∧ en.startPc = 0 ∧ en.endPc = 12 ∧ en.handlerPc = 15 ∧ en.catchType = 19 ∧ en2.startPc = 0 ∧ en2.endPc = 12 ∧ en2.handlerPc = 19 ∧ en2.catchType = 28) (hTh : zTh base s) {a0 : Nat} {a1 : Int32} {a2 : Int32} {a3 : Int32} {a4 : Nat} {σ : zS} (h : P_L_number n a0 a1 a2 a3 a4 σ Q) : zG p l e (zrm 7 1 6) s m args below meth c (MQ below (zQc (zA base) D cA base n false (zqi Q)) args s 1 6 (zA base)) s.heap (zA base) base D cA 6 false method_6_code "ConstantFlowLaw" n 0 0 0 [some (.ref a0), some (.int a1), some (.int a2), some (.int a3), some (.ref a4), none] [] σ := by
  unfold P_L_number at h
  refine zw_aload d_L_number_0 rfl ?_
  refine zw_iconst (v := 0) d_L_number_2 rfl ?_
  refine zw_aload_n d_L_number_3 rfl rfl ?_
  refine zw_iload_n d_L_number_4 rfl rfl ?_
  refine zw_iload_n d_L_number_5 rfl rfl ?_
  refine zw_iload_n d_L_number_6 rfl rfl ?_
  obtain ⟨q3, h⟩ := h
  rcases h with h | h
  · refine zw_callV (ci := 0) (b := a0) (As := [.int a1, .int a2, .int a3]) (r := [.int (0 : Int32), .ref a4]) d_L_number_7 (c_C_number h) mx_3_114 mx_3_115 mx_3_116 mw_1_1 mx_3_117 (by decide) q3.1 q3.2 hyV_C_number (Nat.le_of_ble_eq_true rfl) (Nat.le_of_ble_eq_true rfl) ⟨(Nat.le_of_ble_eq_true rfl), (Nat.le_of_ble_eq_true rfl)⟩ (Nat.le_of_ble_eq_true rfl) rfl (zk_i (fun x1 σ2 h => ?_))
    refine zw_i2l d_L_number_10 ?_
    obtain ⟨q4, h⟩ := h
    refine zw_last d_L_number_11 q4.1 (zkd_eta q4.2.1) q4.2.2 ?_
    refine zw_goto (tgt := 23) d_L_number_12 rfl ?_
    refine zw_iconst (v := 0) d_L_number_23 rfl ?_
    refine zw_widen (k := 1) (z := 6) (Nat.le_of_ble_eq_true rfl) (Nat.le_of_ble_eq_true rfl) ?_
    exact zw_iret d_L_number_24 hr h
  · refine zw_callT0 (ci := 0) (b := a0) (As := [.int a1, .int a2, .int a3]) (r := [.int (0 : Int32), .ref a4]) d_L_number_7 (ct_C_number hfl h) mx_3_114 mx_3_115 mx_3_116 mw_1_1 mx_3_117 (by decide) q3.1 q3.2 hyV_C_number (Nat.le_of_ble_eq_true rfl) (Nat.le_of_ble_eq_true rfl) ⟨(Nat.le_of_ble_eq_true rfl), (Nat.le_of_ble_eq_true rfl)⟩ (Nat.le_of_ble_eq_true rfl) rfl hTh (fun X σ' x ce T' locs la F hT X' hW hS hL hbx hce hvm hcl => ?_)
    obtain ⟨en, en2, hen, e1, e2, e3, e4, f1, f2, f3, f4⟩ := hexc
    rcases hT with ⟨rfl, h⟩ | ⟨rfl, h⟩
    · refine zcaught F X' hW hS hL hbx hce hvm hcl hen (by simp [covers, e1, e2]) (by rw [e4]; decide) (by rw [e4]; exact mx_3_70) (hTh.2.2.2.1 _ (zt3 (List.mem_of_getElem? (i := 81) rfl)) rfl) (fun z => ?_)
      rw [e3]
      have h := h z
      refine zw_astore d_L_number_15 (Nat.le_of_ble_eq_true rfl) rfl rfl ?_
      refine zw_iconst (v := 1) d_L_number_17 rfl ?_
      refine zw_widen (k := 1) (z := 6) (Nat.le_of_ble_eq_true rfl) (Nat.le_of_ble_eq_true rfl) ?_
      exact zw_iret d_L_number_18 hr h
    · refine zcaught2 (Y := "java/lang/IndexOutOfBoundsException") F X' hW hS hL hbx hce hvm hcl hen (by simp [covers, e1, e2]) (by rw [e4]; decide) (by rw [e4]; exact mx_3_70) hTh.2.2.2.2 (by simp [covers, f1, f2]) (by rw [f4]; decide) (by rw [f4]; exact mx_3_113) (hTh.2.2.2.1 _ (zt3 (List.mem_of_getElem? (i := 120) rfl)) rfl) (fun z => ?_)
      rw [f3]
      have h := h z
      refine zw_astore d_L_number_19 (Nat.le_of_ble_eq_true rfl) rfl rfl ?_
      refine zw_iconst (v := 2) d_L_number_21 rfl ?_
      refine zw_widen (k := 1) (z := 6) (Nat.le_of_ble_eq_true rfl) (Nat.le_of_ble_eq_true rfl) ?_
      exact zw_iret d_L_number_22 hr h
theorem c_L_number {l : Launch} {D : va_G} {cA : Nat → ClassId} {base n : Nat} {Q : Int32 → zS → Prop} (hfl : l.flags = pinnedFlags ++ [noTraceFlag]) {a0 : Nat} {a1 : Int32} {a2 : Int32} {a3 : Int32} {a4 : Nat} {σ : zS} (h : P_L_number n a0 a1 a2 a3 a4 σ Q) : zMW l y_L_number method_6_code 6 (some .int) [(0, 12, 15, 19), (0, 12, 19, 28)] 7 1 6 D cA base n [.ref a0, .int a1, .int a2, .int a3, .ref a4] σ (zqi Q) :=
  zMetW (by decide) rfl (Nat.le_of_ble_eq_true rfl) (fun p e s m args below meth c hr hexc hTh => w_L_number hfl hr (zexc2 hexc) hTh h)
def y_L_told : MethodName := ⟨"ConstantFlowLaw", "told", "(LConstantFlow;I[J)I"⟩
theorem hyS_L_told : y_L_told.cls ≠ "java/lang/invoke/MethodHandle" ∧ y_L_told.cls ≠ "java/lang/invoke/VarHandle" ∧ (parseMethodDescriptor y_L_told.desc).map (fun d => d.parameters.length) = some 3 := by decide +kernel
def P_L_told (n : Nat) (a0 : Nat) (a1 : Int32) (a2 : Nat) (σ : zS) (Q : Int32 → zS → Prop) : Prop := zk n a0 0 ∧ (P_C_told n a0 a1 σ (fun x1 σ2 => za n a2 14 (0 : Int32) ∧ Q (0 : Int32) (zL σ2 a2 (0 : Int32).toNatClampNeg (Int32.toInt64 x1))) ∨ PT_C_told n a0 a1 σ (fun X σ' => (X = "java/lang/IllegalArgumentException" ∧ ∀ z : Nat, Q (1 : Int32) σ')))
set_option maxHeartbeats 1000000 in
set_option maxRecDepth 10000 in
theorem w_L_told {Q : Int32 → zS → Prop} (hfl : l.flags = pinnedFlags ++ [noTraceFlag]) (hr : meth.sig.returnType = some .int) (hexc : ∃ en, c.exceptionTable.toList = [en] ∧ en.startPc = 0 ∧ en.endPc = 9 ∧ en.handlerPc = 12 ∧ en.catchType = 13) (hTh : zTh base s) {a0 : Nat} {a1 : Int32} {a2 : Nat} {σ : zS} (h : P_L_told n a0 a1 a2 σ Q) : zG p l e (zrm 7 1 6) s m args below meth c (MQ below (zQc (zA base) D cA base n false (zqi Q)) args s 1 6 (zA base)) s.heap (zA base) base D cA 4 false method_7_code "ConstantFlowLaw" n 0 0 0 [some (.ref a0), some (.int a1), some (.ref a2), none] [] σ := by
  unfold P_L_told at h
  refine zw_aload_n d_L_told_0 rfl rfl ?_
  refine zw_iconst (v := 0) d_L_told_1 rfl ?_
  refine zw_aload_n d_L_told_2 rfl rfl ?_
  refine zw_iload_n d_L_told_3 rfl rfl ?_
  obtain ⟨q3, h⟩ := h
  rcases h with h | h
  · refine zw_callV (ci := 0) (b := a0) (As := [.int a1]) (r := [.int (0 : Int32), .ref a2]) d_L_told_4 (c_C_told h) mx_3_137 mx_3_138 mx_3_139 mw_1_1 mx_3_140 (by decide) q3.1 q3.2 hyV_C_told (Nat.le_of_ble_eq_true rfl) (Nat.le_of_ble_eq_true rfl) ⟨(Nat.le_of_ble_eq_true rfl), (Nat.le_of_ble_eq_true rfl)⟩ (Nat.le_of_ble_eq_true rfl) rfl (zk_i (fun x1 σ2 h => ?_))
    refine zw_i2l d_L_told_7 ?_
    obtain ⟨q4, h⟩ := h
    refine zw_last d_L_told_8 q4.1 (zkd_eta q4.2.1) q4.2.2 ?_
    refine zw_goto (tgt := 15) d_L_told_9 rfl ?_
    refine zw_iconst (v := 0) d_L_told_15 rfl ?_
    refine zw_widen (k := 1) (z := 6) (Nat.le_of_ble_eq_true rfl) (Nat.le_of_ble_eq_true rfl) ?_
    exact zw_iret d_L_told_16 hr h
  · refine zw_callT0 (ci := 0) (b := a0) (As := [.int a1]) (r := [.int (0 : Int32), .ref a2]) d_L_told_4 (ct_C_told hfl h) mx_3_137 mx_3_138 mx_3_139 mw_1_1 mx_3_140 (by decide) q3.1 q3.2 hyV_C_told (Nat.le_of_ble_eq_true rfl) (Nat.le_of_ble_eq_true rfl) ⟨(Nat.le_of_ble_eq_true rfl), (Nat.le_of_ble_eq_true rfl)⟩ (Nat.le_of_ble_eq_true rfl) rfl hTh (fun X σ' x ce T' locs la F hT X' hW hS hL hbx hce hvm hcl => ?_)
    obtain ⟨rfl, h⟩ := hT
    obtain ⟨en, hen, e1, e2, e3, e4⟩ := hexc
    refine zcaught F X' hW hS hL hbx hce hvm hcl hen (by simp [covers, e1, e2]) (by rw [e4]; decide) (by rw [e4]; exact mx_2_235) (hTh.2.2.2.1 _ (zt3 (List.mem_of_getElem? (i := 2) rfl)) rfl) (fun z => ?_)
    rw [e3]
    have h := h z
    refine zw_astore_n d_L_told_12 rfl (Nat.le_of_ble_eq_true rfl) rfl rfl ?_
    refine zw_iconst (v := 1) d_L_told_13 rfl ?_
    refine zw_widen (k := 1) (z := 6) (Nat.le_of_ble_eq_true rfl) (Nat.le_of_ble_eq_true rfl) ?_
    exact zw_iret d_L_told_14 hr h
theorem c_L_told {l : Launch} {D : va_G} {cA : Nat → ClassId} {base n : Nat} {Q : Int32 → zS → Prop} (hfl : l.flags = pinnedFlags ++ [noTraceFlag]) {a0 : Nat} {a1 : Int32} {a2 : Nat} {σ : zS} (h : P_L_told n a0 a1 a2 σ Q) : zMW l y_L_told method_7_code 4 (some .int) [(0, 9, 12, 13)] 7 1 6 D cA base n [.ref a0, .int a1, .ref a2] σ (zqi Q) :=
  zMetW (by decide) rfl (Nat.le_of_ble_eq_true rfl) (fun p e s m args below meth c hr hexc hTh => w_L_told hfl hr (zexc1 hexc) hTh h)
def y_L_run : MethodName := ⟨"ConstantFlowLaw", "run", "(LConstantFlow;I[J)I"⟩
theorem hyS_L_run : y_L_run.cls ≠ "java/lang/invoke/MethodHandle" ∧ y_L_run.cls ≠ "java/lang/invoke/VarHandle" ∧ (parseMethodDescriptor y_L_run.desc).map (fun d => d.parameters.length) = some 3 := by decide +kernel
def P_L_run (n : Nat) (a0 : Nat) (a1 : Int32) (a2 : Nat) (σ : zS) (Q : Int32 → zS → Prop) : Prop := zk n a0 0 ∧ (P_C_run n a0 a1 σ (fun x1 σ2 => za n a2 14 (0 : Int32) ∧ Q (0 : Int32) (zL σ2 a2 (0 : Int32).toNatClampNeg (Int32.toInt64 x1))) ∨ PT_C_run n a0 a1 σ (fun X σ' => (X = "java/lang/IllegalArgumentException" ∧ ∀ z : Nat, Q (1 : Int32) σ')))
set_option maxHeartbeats 1000000 in
set_option maxRecDepth 10000 in
theorem w_L_run {Q : Int32 → zS → Prop} (hfl : l.flags = pinnedFlags ++ [noTraceFlag]) (hr : meth.sig.returnType = some .int) (hexc : ∃ en, c.exceptionTable.toList = [en] ∧ en.startPc = 0 ∧ en.endPc = 9 ∧ en.handlerPc = 12 ∧ en.catchType = 13) (hTh : zTh base s) {a0 : Nat} {a1 : Int32} {a2 : Nat} {σ : zS} (h : P_L_run n a0 a1 a2 σ Q) : zG p l e (zrm 7 1 6) s m args below meth c (MQ below (zQc (zA base) D cA base n false (zqi Q)) args s 1 6 (zA base)) s.heap (zA base) base D cA 4 false method_8_code "ConstantFlowLaw" n 0 0 0 [some (.ref a0), some (.int a1), some (.ref a2), none] [] σ := by
  unfold P_L_run at h
  refine zw_aload_n d_L_run_0 rfl rfl ?_
  refine zw_iconst (v := 0) d_L_run_1 rfl ?_
  refine zw_aload_n d_L_run_2 rfl rfl ?_
  refine zw_iload_n d_L_run_3 rfl rfl ?_
  obtain ⟨q3, h⟩ := h
  rcases h with h | h
  · refine zw_callV (ci := 0) (b := a0) (As := [.int a1]) (r := [.int (0 : Int32), .ref a2]) d_L_run_4 (c_C_run h) mx_3_145 mx_3_146 mx_3_147 mw_1_1 mx_3_148 (by decide) q3.1 q3.2 hyV_C_run (Nat.le_of_ble_eq_true rfl) (Nat.le_of_ble_eq_true rfl) ⟨(Nat.le_of_ble_eq_true rfl), (Nat.le_of_ble_eq_true rfl)⟩ (Nat.le_of_ble_eq_true rfl) rfl (zk_i (fun x1 σ2 h => ?_))
    refine zw_i2l d_L_run_7 ?_
    obtain ⟨q4, h⟩ := h
    refine zw_last d_L_run_8 q4.1 (zkd_eta q4.2.1) q4.2.2 ?_
    refine zw_goto (tgt := 15) d_L_run_9 rfl ?_
    refine zw_iconst (v := 0) d_L_run_15 rfl ?_
    refine zw_widen (k := 1) (z := 6) (Nat.le_of_ble_eq_true rfl) (Nat.le_of_ble_eq_true rfl) ?_
    exact zw_iret d_L_run_16 hr h
  · refine zw_callT0 (ci := 0) (b := a0) (As := [.int a1]) (r := [.int (0 : Int32), .ref a2]) d_L_run_4 (ct_C_run hfl h) mx_3_145 mx_3_146 mx_3_147 mw_1_1 mx_3_148 (by decide) q3.1 q3.2 hyV_C_run (Nat.le_of_ble_eq_true rfl) (Nat.le_of_ble_eq_true rfl) ⟨(Nat.le_of_ble_eq_true rfl), (Nat.le_of_ble_eq_true rfl)⟩ (Nat.le_of_ble_eq_true rfl) rfl hTh (fun X σ' x ce T' locs la F hT X' hW hS hL hbx hce hvm hcl => ?_)
    obtain ⟨rfl, h⟩ := hT
    obtain ⟨en, hen, e1, e2, e3, e4⟩ := hexc
    refine zcaught F X' hW hS hL hbx hce hvm hcl hen (by simp [covers, e1, e2]) (by rw [e4]; decide) (by rw [e4]; exact mx_2_235) (hTh.2.2.2.1 _ (zt3 (List.mem_of_getElem? (i := 2) rfl)) rfl) (fun z => ?_)
    rw [e3]
    have h := h z
    refine zw_astore_n d_L_run_12 rfl (Nat.le_of_ble_eq_true rfl) rfl rfl ?_
    refine zw_iconst (v := 1) d_L_run_13 rfl ?_
    refine zw_widen (k := 1) (z := 6) (Nat.le_of_ble_eq_true rfl) (Nat.le_of_ble_eq_true rfl) ?_
    exact zw_iret d_L_run_14 hr h
theorem c_L_run {l : Launch} {D : va_G} {cA : Nat → ClassId} {base n : Nat} {Q : Int32 → zS → Prop} (hfl : l.flags = pinnedFlags ++ [noTraceFlag]) {a0 : Nat} {a1 : Int32} {a2 : Nat} {σ : zS} (h : P_L_run n a0 a1 a2 σ Q) : zMW l y_L_run method_8_code 4 (some .int) [(0, 9, 12, 13)] 7 1 6 D cA base n [.ref a0, .int a1, .ref a2] σ (zqi Q) :=
  zMetW (by decide) rfl (Nat.le_of_ble_eq_true rfl) (fun p e s m args below meth c hr hexc hTh => w_L_run hfl hr (zexc1 hexc) hTh h)
def y_L_value : MethodName := ⟨"ConstantFlowLaw", "value", "(LConstantFlow;I[J)I"⟩
theorem hyS_L_value : y_L_value.cls ≠ "java/lang/invoke/MethodHandle" ∧ y_L_value.cls ≠ "java/lang/invoke/VarHandle" ∧ (parseMethodDescriptor y_L_value.desc).map (fun d => d.parameters.length) = some 3 := by decide +kernel
def P_L_value (n : Nat) (a0 : Nat) (a1 : Int32) (a2 : Nat) (σ : zS) (Q : Int32 → zS → Prop) : Prop := zk n a0 0 ∧ (P_C_value n a0 a1 σ (fun x1 σ2 => za n a2 14 (0 : Int32) ∧ Q (0 : Int32) (zL σ2 a2 (0 : Int32).toNatClampNeg (Int32.toInt64 x1))) ∨ PT_C_value n a0 a1 σ (fun X σ' => (X = "java/lang/IndexOutOfBoundsException" ∧ ∀ z : Nat, Q (1 : Int32) σ')))
set_option maxHeartbeats 1000000 in
set_option maxRecDepth 10000 in
theorem w_L_value {Q : Int32 → zS → Prop} (hfl : l.flags = pinnedFlags ++ [noTraceFlag]) (hr : meth.sig.returnType = some .int) (hexc : ∃ en, c.exceptionTable.toList = [en] ∧ en.startPc = 0 ∧ en.endPc = 9 ∧ en.handlerPc = 12 ∧ en.catchType = 19) (hTh : zTh base s) {a0 : Nat} {a1 : Int32} {a2 : Nat} {σ : zS} (h : P_L_value n a0 a1 a2 σ Q) : zG p l e (zrm 7 1 6) s m args below meth c (MQ below (zQc (zA base) D cA base n false (zqi Q)) args s 1 6 (zA base)) s.heap (zA base) base D cA 4 false method_9_code "ConstantFlowLaw" n 0 0 0 [some (.ref a0), some (.int a1), some (.ref a2), none] [] σ := by
  unfold P_L_value at h
  refine zw_aload_n d_L_value_0 rfl rfl ?_
  refine zw_iconst (v := 0) d_L_value_1 rfl ?_
  refine zw_aload_n d_L_value_2 rfl rfl ?_
  refine zw_iload_n d_L_value_3 rfl rfl ?_
  obtain ⟨q3, h⟩ := h
  rcases h with h | h
  · refine zw_callV (ci := 0) (b := a0) (As := [.int a1]) (r := [.int (0 : Int32), .ref a2]) d_L_value_4 (c_C_value h) mx_3_174 mx_3_175 mx_3_176 mw_1_1 mx_3_177 (by decide) q3.1 q3.2 hyV_C_value (Nat.le_of_ble_eq_true rfl) (Nat.le_of_ble_eq_true rfl) ⟨(Nat.le_of_ble_eq_true rfl), (Nat.le_of_ble_eq_true rfl)⟩ (Nat.le_of_ble_eq_true rfl) rfl (zk_i (fun x1 σ2 h => ?_))
    refine zw_i2l d_L_value_7 ?_
    obtain ⟨q4, h⟩ := h
    refine zw_last d_L_value_8 q4.1 (zkd_eta q4.2.1) q4.2.2 ?_
    refine zw_goto (tgt := 15) d_L_value_9 rfl ?_
    refine zw_iconst (v := 0) d_L_value_15 rfl ?_
    refine zw_widen (k := 1) (z := 6) (Nat.le_of_ble_eq_true rfl) (Nat.le_of_ble_eq_true rfl) ?_
    exact zw_iret d_L_value_16 hr h
  · refine zw_callT0 (ci := 0) (b := a0) (As := [.int a1]) (r := [.int (0 : Int32), .ref a2]) d_L_value_4 (ct_C_value hfl h) mx_3_174 mx_3_175 mx_3_176 mw_1_1 mx_3_177 (by decide) q3.1 q3.2 hyV_C_value (Nat.le_of_ble_eq_true rfl) (Nat.le_of_ble_eq_true rfl) ⟨(Nat.le_of_ble_eq_true rfl), (Nat.le_of_ble_eq_true rfl)⟩ (Nat.le_of_ble_eq_true rfl) rfl hTh (fun X σ' x ce T' locs la F hT X' hW hS hL hbx hce hvm hcl => ?_)
    obtain ⟨rfl, h⟩ := hT
    obtain ⟨en, hen, e1, e2, e3, e4⟩ := hexc
    refine zcaught F X' hW hS hL hbx hce hvm hcl hen (by simp [covers, e1, e2]) (by rw [e4]; decide) (by rw [e4]; exact mx_3_70) (hTh.2.2.2.1 _ (zt3 (List.mem_of_getElem? (i := 81) rfl)) rfl) (fun z => ?_)
    rw [e3]
    have h := h z
    refine zw_astore_n d_L_value_12 rfl (Nat.le_of_ble_eq_true rfl) rfl rfl ?_
    refine zw_iconst (v := 1) d_L_value_13 rfl ?_
    refine zw_widen (k := 1) (z := 6) (Nat.le_of_ble_eq_true rfl) (Nat.le_of_ble_eq_true rfl) ?_
    exact zw_iret d_L_value_14 hr h
theorem c_L_value {l : Launch} {D : va_G} {cA : Nat → ClassId} {base n : Nat} {Q : Int32 → zS → Prop} (hfl : l.flags = pinnedFlags ++ [noTraceFlag]) {a0 : Nat} {a1 : Int32} {a2 : Nat} {σ : zS} (h : P_L_value n a0 a1 a2 σ Q) : zMW l y_L_value method_9_code 4 (some .int) [(0, 9, 12, 19)] 7 1 6 D cA base n [.ref a0, .int a1, .ref a2] σ (zqi Q) :=
  zMetW (by decide) rfl (Nat.le_of_ble_eq_true rfl) (fun p e s m args below meth c hr hexc hTh => w_L_value hfl hr (zexc1 hexc) hTh h)
end
