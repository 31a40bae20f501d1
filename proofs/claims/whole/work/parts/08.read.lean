section
variable {p : Program} {l : Launch} {e : Env} {s : State} {m : MethodId} {args : Array Value} {below : List Frame} {meth : Method} {c : Code} {base : Nat} {D : va_G} {cA : Nat → ClassId} {ex : Bool} {n : Nat}
set_option maxHeartbeats 1000000 in
set_option maxRecDepth 10000 in
theorem w_r_C_isBlock_20 {Q : Int32 → zS → Prop} (hr : meth.sig.returnType = some .boolean) {b0 : Int32} {σ : zS} (h : P_C_isBlock_20 n Q b0 σ) : zG p l e (zrm 1 0 0) s m args below meth c (MQ below (zQc (fun _ => False) D cA base n ex (zqi Q)) args s 0 0 (fun _ => False)) s.heap (fun _ => False) base D cA 2 ex prog_1_method_19_code "ConstantFlow" n 0 0 20 [none, none] [.int b0] σ := by
  unfold P_C_isBlock_20 at h
  obtain ⟨q1, h⟩ := h
  exact zw_zret d_C_isBlock_20 hr q1 h
set_option maxHeartbeats 1000000 in
set_option maxRecDepth 10000 in
theorem w_r_C_isBlock_19 {Q : Int32 → zS → Prop} (hr : meth.sig.returnType = some .boolean) {σ : zS} (h : P_C_isBlock_19 n Q σ) : zG p l e (zrm 1 0 0) s m args below meth c (MQ below (zQc (fun _ => False) D cA base n ex (zqi Q)) args s 0 0 (fun _ => False)) s.heap (fun _ => False) base D cA 2 ex prog_1_method_19_code "ConstantFlow" n 0 0 19 [none, none] [] σ := by
  unfold P_C_isBlock_19 at h
  refine zw_iconst (v := 0) d_C_isBlock_19 rfl ?_
  exact w_r_C_isBlock_20 hr h
set_option maxHeartbeats 1000000 in
set_option maxRecDepth 10000 in
theorem w_r_C_isBlock {Q : Int32 → zS → Prop} (hr : meth.sig.returnType = some .boolean) {a0 : Nat} {a1 : Int32} {σ : zS} (h : P_C_isBlock n a0 a1 σ Q) : zG p l e (zrm 1 0 0) s m args below meth c (MQ below (zQc (fun _ => False) D cA base n ex (zqi Q)) args s 0 0 (fun _ => False)) s.heap (fun _ => False) base D cA 2 ex prog_1_method_19_code "ConstantFlow" n 0 0 0 [some (.ref a0), some (.int a1)] [] σ := by
  unfold P_C_isBlock at h
  refine zw_iload_n d_C_isBlock_0 rfl rfl ?_
  obtain ⟨ht, hf⟩ := h
  refine zw_if_lt (tgt := 19) d_C_isBlock_1 rfl (fun hc => ?_) (fun hc => ?_)
  · have h := ht hc; clear ht hf
    refine zw_le (ls' := [none, none]) (True.intro) ?_
    exact w_r_C_isBlock_19 hr h
  · have h := hf hc; clear ht hf
    refine zw_iload_n d_C_isBlock_4 rfl rfl ?_
    refine zw_aload_n d_C_isBlock_5 rfl rfl ?_
    obtain ⟨q1, h⟩ := h
    obtain ⟨c2, q3, h⟩ := h
    refine zw_gfr (ci := 0) (j := 5) d_C_isBlock_6 mw_2_55 q1.1 q1.2 (by decide) (by decide) rfl q3 ?_
    obtain ⟨q4, h⟩ := h
    refine zw_gfiN (ci := 6) (j := 0) d_C_isBlock_9 mw_1_153 q4.1 q4.2 (by decide) (by decide) rfl ?_
    obtain ⟨ht, hf⟩ := h
    refine zw_icmp_ge (tgt := 19) d_C_isBlock_12 rfl (fun hc => ?_) (fun hc => ?_)
    · have h := ht hc; clear ht hf
      refine zw_le (ls' := [none, none]) (True.intro) ?_
      exact w_r_C_isBlock_19 hr h
    · have h := hf hc; clear ht hf
      refine zw_iconst (v := 1) d_C_isBlock_15 rfl ?_
      refine zw_goto (tgt := 20) d_C_isBlock_16 rfl ?_
      refine zw_le (ls' := [none, none]) (True.intro) ?_
      exact w_r_C_isBlock_20 hr h
theorem c_r_C_isBlock {l : Launch} {D : va_G} {cA : Nat → ClassId} {base n : Nat} {ex : Bool} {Q : Int32 → zS → Prop} {a0 : Nat} {a1 : Int32} {σ : zS} (h : P_C_isBlock n a0 a1 σ Q) : zM l y_C_isBlock prog_1_method_19_code 2 (some .boolean) 1 0 0 (fun _ => False) D cA base n n ex [.ref a0, .int a1] σ (zqi Q) :=
  zMet (by decide) rfl (Nat.le_of_ble_eq_true rfl) (fun p e s m args below meth c hr hnm => w_r_C_isBlock hr h)
set_option maxHeartbeats 1000000 in
set_option maxRecDepth 10000 in
theorem w_r_C_isVariable_15 {Q : Int32 → zS → Prop} (hr : meth.sig.returnType = some .boolean) {b0 : Int32} {σ : zS} (h : P_C_isVariable_15 n Q b0 σ) : zG p l e (zrm 1 0 0) s m args below meth c (MQ below (zQc (fun _ => False) D cA base n ex (zqi Q)) args s 0 0 (fun _ => False)) s.heap (fun _ => False) base D cA 1 ex prog_1_method_20_code "ConstantFlow" n 0 0 15 [none] [.int b0] σ := by
  unfold P_C_isVariable_15 at h
  obtain ⟨q1, h⟩ := h
  exact zw_zret d_C_isVariable_15 hr q1 h
set_option maxHeartbeats 1000000 in
set_option maxRecDepth 10000 in
theorem w_r_C_isVariable_14 {Q : Int32 → zS → Prop} (hr : meth.sig.returnType = some .boolean) {σ : zS} (h : P_C_isVariable_14 n Q σ) : zG p l e (zrm 1 0 0) s m args below meth c (MQ below (zQc (fun _ => False) D cA base n ex (zqi Q)) args s 0 0 (fun _ => False)) s.heap (fun _ => False) base D cA 1 ex prog_1_method_20_code "ConstantFlow" n 0 0 14 [none] [] σ := by
  unfold P_C_isVariable_14 at h
  refine zw_iconst (v := 0) d_C_isVariable_14 rfl ?_
  exact w_r_C_isVariable_15 hr h
set_option maxHeartbeats 1000000 in
set_option maxRecDepth 10000 in
theorem w_r_C_isVariable {Q : Int32 → zS → Prop} (hr : meth.sig.returnType = some .boolean) {a0 : Int32} {σ : zS} (h : P_C_isVariable n a0 σ Q) : zG p l e (zrm 1 0 0) s m args below meth c (MQ below (zQc (fun _ => False) D cA base n ex (zqi Q)) args s 0 0 (fun _ => False)) s.heap (fun _ => False) base D cA 1 ex prog_1_method_20_code "ConstantFlow" n 0 0 0 [some (.int a0)] [] σ := by
  unfold P_C_isVariable at h
  refine zw_iload_n d_C_isVariable_0 rfl rfl ?_
  obtain ⟨ht, hf⟩ := h
  refine zw_if_lt (tgt := 14) d_C_isVariable_1 rfl (fun hc => ?_) (fun hc => ?_)
  · have h := ht hc; clear ht hf
    refine zw_le (ls' := [none]) (True.intro) ?_
    exact w_r_C_isVariable_14 hr h
  · have h := hf hc; clear ht hf
    refine zw_iload_n d_C_isVariable_4 rfl rfl ?_
    refine zw_bipush (v := 8) d_C_isVariable_5 rfl ?_
    obtain ⟨ht, hf⟩ := h
    refine zw_icmp_ge (tgt := 14) d_C_isVariable_7 rfl (fun hc => ?_) (fun hc => ?_)
    · have h := ht hc; clear ht hf
      refine zw_le (ls' := [none]) (True.intro) ?_
      exact w_r_C_isVariable_14 hr h
    · have h := hf hc; clear ht hf
      refine zw_iconst (v := 1) d_C_isVariable_10 rfl ?_
      refine zw_goto (tgt := 15) d_C_isVariable_11 rfl ?_
      refine zw_le (ls' := [none]) (True.intro) ?_
      exact w_r_C_isVariable_15 hr h
theorem c_r_C_isVariable {l : Launch} {D : va_G} {cA : Nat → ClassId} {base n : Nat} {ex : Bool} {Q : Int32 → zS → Prop} {a0 : Int32} {σ : zS} (h : P_C_isVariable n a0 σ Q) : zM l y_C_isVariable prog_1_method_20_code 1 (some .boolean) 1 0 0 (fun _ => False) D cA base n n ex [.int a0] σ (zqi Q) :=
  zMet (by decide) rfl (Nat.le_of_ble_eq_true rfl) (fun p e s m args below meth c hr hnm => w_r_C_isVariable hr h)
set_option maxHeartbeats 1000000 in
set_option maxRecDepth 10000 in
theorem w_r_F_view_19 {Q : Nat → zS → Prop} (hr : meth.sig.returnType = some (.object "ConstantFlow$View")) {b0 : Nat} {σ : zS} (h : P_F_view_19 n Q b0 σ) : zG p l e (zrm 1 0 0) s m args below meth c (MQ below (zQc (fun _ => False) D cA base n ex (zqr Q)) args s 0 0 (fun _ => False)) s.heap (fun _ => False) base D cA 3 ex prog_2_method_2_code "ConstantFlow$Facts" n 0 0 19 [none, none, none] [.ref b0] σ := by
  unfold P_F_view_19 at h
  exact zw_aret d_F_view_19 hr h
set_option maxHeartbeats 1000000 in
set_option maxRecDepth 10000 in
theorem w_r_F_view {Q : Nat → zS → Prop} (hr : meth.sig.returnType = some (.object "ConstantFlow$View")) {a0 : Nat} {a1 : Int32} {a2 : Int32} {σ : zS} (h : P_F_view n a0 a1 a2 σ Q) : zG p l e (zrm 1 0 0) s m args below meth c (MQ below (zQc (fun _ => False) D cA base n ex (zqr Q)) args s 0 0 (fun _ => False)) s.heap (fun _ => False) base D cA 3 ex prog_2_method_2_code "ConstantFlow$Facts" n 0 0 0 [some (.ref a0), some (.int a1), some (.int a2)] [] σ := by
  unfold P_F_view at h
  refine zw_iload_n d_F_view_0 rfl rfl ?_
  obtain ⟨ht, hf⟩ := h
  refine zw_if_eq (tgt := 13) d_F_view_1 rfl (fun hc => ?_) (fun hc => ?_)
  · have h := ht hc; clear ht hf
    refine zw_aload_n d_F_view_13 rfl rfl ?_
    obtain ⟨q1, h⟩ := h
    obtain ⟨c2, q3, h⟩ := h
    refine zw_gfr (ci := 3) (j := 2) d_F_view_14 mw_1_98 q1.1 q1.2 (by decide) (by decide) rfl q3 ?_
    refine zw_iload_n d_F_view_17 rfl rfl ?_
    obtain ⟨q4, h⟩ := h
    obtain ⟨c5, q6, h⟩ := h
    refine zw_aald d_F_view_18 q4.1 (zkd_eta q4.2.1) q4.2.2 q6 ?_
    refine zw_le (ls' := [none, none, none]) (True.intro) ?_
    exact w_r_F_view_19 hr h
  · have h := hf hc; clear ht hf
    refine zw_aload_n d_F_view_4 rfl rfl ?_
    obtain ⟨q7, h⟩ := h
    obtain ⟨c8, q9, h⟩ := h
    refine zw_gfr (ci := 3) (j := 3) d_F_view_5 mw_1_99 q7.1 q7.2 (by decide) (by decide) rfl q9 ?_
    refine zw_iload_n d_F_view_8 rfl rfl ?_
    obtain ⟨q10, h⟩ := h
    obtain ⟨c11, q12, h⟩ := h
    refine zw_aald d_F_view_9 q10.1 (zkd_eta q10.2.1) q10.2.2 q12 ?_
    refine zw_goto (tgt := 19) d_F_view_10 rfl ?_
    refine zw_le (ls' := [none, none, none]) (True.intro) ?_
    exact w_r_F_view_19 hr h
theorem c_r_F_view {l : Launch} {D : va_G} {cA : Nat → ClassId} {base n : Nat} {ex : Bool} {Q : Nat → zS → Prop} {a0 : Nat} {a1 : Int32} {a2 : Int32} {σ : zS} (h : P_F_view n a0 a1 a2 σ Q) : zM l y_F_view prog_2_method_2_code 3 (some (.object "ConstantFlow$View")) 1 0 0 (fun _ => False) D cA base n n ex [.ref a0, .int a1, .int a2] σ (zqr Q) :=
  zMet (by decide) rfl (Nat.le_of_ble_eq_true rfl) (fun p e s m args below meth c hr hnm => w_r_F_view hr h)
end
