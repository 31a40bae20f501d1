section
variable {p : Program} {l : Launch} {e : Env} {s : State} {m : MethodId} {args : Array Value} {below : List Frame} {meth : Method} {c : Code} {base : Nat} {D : va_G} {cA : Nat → ClassId} {ex : Bool} {n : Nat}
def P_M_written_64 (n : Nat) (Q : Int64 → zS → Prop) (K10 : Nat → Int32 → Int64 → Int32 → zS → Prop) (a0 : Nat) (a1 : Int32) (a4 : Int32) (b0 : Int64) (σ : zS) : Prop := K10 a0 a1 b0 (a4 + (1 : Int32)) σ
set_option maxHeartbeats 1000000 in
set_option maxRecDepth 10000 in
theorem w_M_written_64 {Q : Int64 → zS → Prop} {K10 : Nat → Int32 → Int64 → Int32 → zS → Prop} (hr : meth.sig.returnType = some .long) (hK10 : ∀ (a0 : Nat) (a1 : Int32) (a2 : Int64) (a4 : Int32) (σ : zS), K10 a0 a1 a2 a4 σ → zG p l e (zrm 1 0 0) s m args below meth c (MQ below (zQc (zA base) D cA base n ex (zql Q)) args s 0 0 (zA base)) s.heap (zA base) base D cA 7 ex prog_9_method_46_code "ConstantFlowModel" n 0 0 10 [some (.ref a0), some (.int a1), some (.long a2), none, some (.int a4), none, none] [] σ) {a0 : Nat} {a1 : Int32} {a4 : Int32} {b0 : Int64} {σ : zS} (h : P_M_written_64 n Q K10 a0 a1 a4 b0 σ) : zG p l e (zrm 1 0 0) s m args below meth c (MQ below (zQc (zA base) D cA base n ex (zql Q)) args s 0 0 (zA base)) s.heap (zA base) base D cA 7 ex prog_9_method_46_code "ConstantFlowModel" n 0 0 64 [some (.ref a0), some (.int a1), none, none, some (.int a4), none, none] [.long b0] σ := by
  unfold P_M_written_64 at h
  refine zw_lstore_n d_M_written_64 rfl (Nat.le_of_ble_eq_true rfl) rfl rfl ?_
  refine zw_iinc (v := (a4 + (1 : Int32))) d_M_written_65 rfl rfl (Nat.le_of_ble_eq_true rfl) rfl rfl ?_
  refine zw_goto (tgt := 10) d_M_written_68 rfl ?_
  exact hK10 _ _ _ _ _ h
def P_M_written_63 (n : Nat) (Q : Int64 → zS → Prop) (K10 : Nat → Int32 → Int64 → Int32 → zS → Prop) (a0 : Nat) (a1 : Int32) (a2 : Int64) (a4 : Int32) (σ : zS) : Prop := P_M_written_64 n Q K10 a0 a1 a4 a2 σ
set_option maxHeartbeats 1000000 in
set_option maxRecDepth 10000 in
theorem w_M_written_63 {Q : Int64 → zS → Prop} {K10 : Nat → Int32 → Int64 → Int32 → zS → Prop} (hr : meth.sig.returnType = some .long) (hK10 : ∀ (a0 : Nat) (a1 : Int32) (a2 : Int64) (a4 : Int32) (σ : zS), K10 a0 a1 a2 a4 σ → zG p l e (zrm 1 0 0) s m args below meth c (MQ below (zQc (zA base) D cA base n ex (zql Q)) args s 0 0 (zA base)) s.heap (zA base) base D cA 7 ex prog_9_method_46_code "ConstantFlowModel" n 0 0 10 [some (.ref a0), some (.int a1), some (.long a2), none, some (.int a4), none, none] [] σ) {a0 : Nat} {a1 : Int32} {a2 : Int64} {a4 : Int32} {σ : zS} (h : P_M_written_63 n Q K10 a0 a1 a2 a4 σ) : zG p l e (zrm 1 0 0) s m args below meth c (MQ below (zQc (zA base) D cA base n ex (zql Q)) args s 0 0 (zA base)) s.heap (zA base) base D cA 7 ex prog_9_method_46_code "ConstantFlowModel" n 0 0 63 [some (.ref a0), some (.int a1), some (.long a2), none, some (.int a4), none, none] [] σ := by
  unfold P_M_written_63 at h
  refine zw_lload_n d_M_written_63 rfl rfl ?_
  refine zw_le (ls' := [some (.ref a0), some (.int a1), none, none, some (.int a4), none, none]) (And.intro rfl (And.intro rfl (And.intro rfl True.intro))) ?_
  exact w_M_written_64 hr hK10 h
def P_M_written_10 (n : Nat) (Q : Int64 → zS → Prop) : Nat → Nat → Int32 → Int64 → Int32 → zS → Prop
  | 0, _, _, _, _, _ => False
  | f + 1, a0, a1, a2, a4, σ => (((8 : Int32) ≤ a4 → Q a2 σ) ∧ (¬ ((8 : Int32) ≤ a4) → (((lg_cmp ((Int32.toInt64 a1) + (Int32.toInt64 a4)) (0 : Int64)) < 0 → P_M_written_63 n Q (fun (a0 : Nat) (a1 : Int32) (a2 : Int64) (a4 : Int32) (σ : zS) => P_M_written_10 n Q f a0 a1 a2 a4 σ) a0 a1 a2 a4 σ) ∧ (¬ ((lg_cmp ((Int32.toInt64 a1) + (Int32.toInt64 a4)) (0 : Int64)) < 0) → zk n a0 7 ∧ ((0 ≤ (lg_cmp ((Int32.toInt64 a1) + (Int32.toInt64 a4)) (Int32.toInt64 (zi σ a0 28))) → P_M_written_63 n Q (fun (a0 : Nat) (a1 : Int32) (a2 : Int64) (a4 : Int32) (σ : zS) => P_M_written_10 n Q f a0 a1 a2 a4 σ) a0 a1 a2 a4 σ) ∧ (¬ (0 ≤ (lg_cmp ((Int32.toInt64 a1) + (Int32.toInt64 a4)) (Int32.toInt64 (zi σ a0 28)))) → ∃ c2, zr σ a0 27 = some c2 ∧ za n c2 10 (Int64.toInt32 ((Int32.toInt64 a1) + (Int32.toInt64 a4))) ∧ P_M_written_64 n Q (fun (a0 : Nat) (a1 : Int32) (a2 : Int64) (a4 : Int32) (σ : zS) => P_M_written_10 n Q f a0 a1 a2 a4 σ) a0 a1 a4 (a2 ||| ((Int32.toInt64 (zi σ c2 (Int64.toInt32 ((Int32.toInt64 a1) + (Int32.toInt64 a4))).toNatClampNeg)) <<< (((8 : Int32) * a4).toInt64 &&& 63))) σ))))))
set_option maxHeartbeats 1000000 in
set_option maxRecDepth 10000 in
theorem w_M_written_10 {Q : Int64 → zS → Prop} (hr : meth.sig.returnType = some .long) : ∀ (f : Nat) (a0 : Nat) (a1 : Int32) (a2 : Int64) (a4 : Int32) (σ : zS), P_M_written_10 n Q f a0 a1 a2 a4 σ → zG p l e (zrm 1 0 0) s m args below meth c (MQ below (zQc (zA base) D cA base n ex (zql Q)) args s 0 0 (zA base)) s.heap (zA base) base D cA 7 ex prog_9_method_46_code "ConstantFlowModel" n 0 0 10 [some (.ref a0), some (.int a1), some (.long a2), none, some (.int a4), none, none] [] σ := by
  intro f
  induction f with
  | zero => intro a0 a1 a2 a4 σ h; exact False.elim h
  | succ f ih =>
    intro a0 a1 a2 a4 σ h
    refine zw_iload d_M_written_10 rfl ?_
    refine zw_bipush (v := 8) d_M_written_12 rfl ?_
    obtain ⟨ht, hf⟩ := h
    refine zw_icmp_ge (tgt := 71) d_M_written_14 rfl (fun hc => ?_) (fun hc => ?_)
    · have h := ht hc; clear ht hf
      refine zw_lload_n d_M_written_71 rfl rfl ?_
      exact zw_lret d_M_written_72 hr h
    · have h := hf hc; clear ht hf
      refine zw_iload_n d_M_written_17 rfl rfl ?_
      refine zw_i2l d_M_written_18 ?_
      refine zw_iload d_M_written_19 rfl ?_
      refine zw_i2l d_M_written_21 ?_
      refine zw_ladd d_M_written_22 ?_
      refine zw_lstore d_M_written_23 (Nat.le_of_ble_eq_true rfl) rfl rfl ?_
      refine zw_lload d_M_written_25 rfl ?_
      refine zw_lconst (v := 0) d_M_written_27 rfl ?_
      refine zw_lcmp d_M_written_28 ?_
      obtain ⟨ht, hf⟩ := h
      refine zw_if_lt (tgt := 63) d_M_written_29 rfl (fun hc => ?_) (fun hc => ?_)
      · have h := ht hc; clear ht hf
        refine zw_le (ls' := [some (.ref a0), some (.int a1), some (.long a2), none, some (.int a4), none, none]) (And.intro rfl (And.intro rfl (And.intro rfl (And.intro rfl True.intro)))) ?_
        exact w_M_written_63 hr (fun a0 a1 a2 a4 σ hk => ih a0 a1 a2 a4 σ hk) h
      · have h := hf hc; clear ht hf
        refine zw_lload d_M_written_32 rfl ?_
        refine zw_aload_n d_M_written_34 rfl rfl ?_
        obtain ⟨q1, h⟩ := h
        refine zw_gfi (ci := 7) (j := 28) d_M_written_35 mw_3_213 q1.1 q1.2 (by decide) (by decide) rfl ?_
        refine zw_i2l d_M_written_38 ?_
        refine zw_lcmp d_M_written_39 ?_
        obtain ⟨ht, hf⟩ := h
        refine zw_if_ge (tgt := 63) d_M_written_40 rfl (fun hc => ?_) (fun hc => ?_)
        · have h := ht hc; clear ht hf
          refine zw_le (ls' := [some (.ref a0), some (.int a1), some (.long a2), none, some (.int a4), none, none]) (And.intro rfl (And.intro rfl (And.intro rfl (And.intro rfl True.intro)))) ?_
          exact w_M_written_63 hr (fun a0 a1 a2 a4 σ hk => ih a0 a1 a2 a4 σ hk) h
        · have h := hf hc; clear ht hf
          refine zw_lload_n d_M_written_43 rfl rfl ?_
          refine zw_aload_n d_M_written_44 rfl rfl ?_
          obtain ⟨c2, q3, h⟩ := h
          refine zw_gfr (ci := 7) (j := 27) d_M_written_45 mw_3_212 q1.1 q1.2 (by decide) (by decide) rfl q3 ?_
          refine zw_lload d_M_written_48 rfl ?_
          refine zw_l2i d_M_written_50 ?_
          obtain ⟨q4, h⟩ := h
          refine zw_iald d_M_written_51 q4.1 (zkd_eta q4.2.1) q4.2.2 ?_
          refine zw_i2l d_M_written_52 ?_
          refine zw_bipush (v := 8) d_M_written_53 rfl ?_
          refine zw_iload d_M_written_55 rfl ?_
          refine zw_imul d_M_written_57 ?_
          refine zw_lshl d_M_written_58 ?_
          refine zw_lor d_M_written_59 ?_
          refine zw_goto (tgt := 64) d_M_written_60 rfl ?_
          refine zw_le (ls' := [some (.ref a0), some (.int a1), none, none, some (.int a4), none, none]) (And.intro rfl (And.intro rfl (And.intro rfl True.intro))) ?_
          exact w_M_written_64 hr (fun a0 a1 a2 a4 σ hk => ih a0 a1 a2 a4 σ hk) h
def P_M_written (n : Nat) (a0 : Nat) (a1 : Int32) (σ : zS) (Q : Int64 → zS → Prop) : Prop := zk n a0 7 ∧ ∃ g, P_M_written_10 n Q g a0 a1 (0 : Int64) (0 : Int32) (zI σ a0 0 (0 : Int32))
set_option maxHeartbeats 1000000 in
set_option maxRecDepth 10000 in
theorem w_M_written {Q : Int64 → zS → Prop} (hr : meth.sig.returnType = some .long) {a0 : Nat} {a1 : Int32} {σ : zS} (h : P_M_written n a0 a1 σ Q) : zG p l e (zrm 1 0 0) s m args below meth c (MQ below (zQc (zA base) D cA base n ex (zql Q)) args s 0 0 (zA base)) s.heap (zA base) base D cA 7 ex prog_9_method_46_code "ConstantFlowModel" n 0 0 0 [some (.ref a0), some (.int a1), none, none, none, none, none] [] σ := by
  unfold P_M_written at h
  refine zw_aload_n d_M_written_0 rfl rfl ?_
  refine zw_iconst (v := 0) d_M_written_1 rfl ?_
  obtain ⟨q1, h⟩ := h
  refine zw_pfi (ci := 7) (j := 0) d_M_written_2 mw_3_185 q1.1 q1.2 (by decide) (by decide) rfl rfl rfl rfl ?_
  refine zw_lconst (v := 0) d_M_written_5 rfl ?_
  refine zw_lstore_n d_M_written_6 rfl (Nat.le_of_ble_eq_true rfl) rfl rfl ?_
  refine zw_iconst (v := 0) d_M_written_7 rfl ?_
  refine zw_istore d_M_written_8 (Nat.le_of_ble_eq_true rfl) rfl rfl ?_
  obtain ⟨g, h⟩ := h
  exact w_M_written_10 hr g _ _ _ _ _ h
theorem c_M_written {l : Launch} {D : va_G} {cA : Nat → ClassId} {base n : Nat} {ex : Bool} {Q : Int64 → zS → Prop} {a0 : Nat} {a1 : Int32} {σ : zS} (h : P_M_written n a0 a1 σ Q) : zM l y_M_written prog_9_method_46_code 7 (some .long) 1 0 0 (zA base) D cA base n n ex [.ref a0, .int a1] σ (zql Q) :=
  zMet (by decide) rfl (Nat.le_of_ble_eq_true rfl) (fun p e s m args below meth c hr hnm => w_M_written hr h)
def P_M_take_19 (n : Nat) (Q : Int32 → zS → Prop) : Nat → Nat → Int32 → zS → Prop
  | 0, _, _, _ => False
  | f + 1, a0, a1, σ => zk n a0 7 ∧ (((zi σ a0 28) ≤ a1 → Q (zi (zI σ a0 2 (zi σ a0 28)) a0 2) (zI σ a0 2 (zi σ a0 28))) ∧ (¬ ((zi σ a0 28) ≤ a1) → ∃ c2, zr σ a0 1 = some c2 ∧ ∃ c4, zr σ a0 27 = some c4 ∧ za n c4 10 a1 ∧ za n c2 10 a1 ∧ P_M_take_19 n Q f a0 (a1 + (1 : Int32)) (zI σ c2 a1.toNatClampNeg (zi σ c4 a1.toNatClampNeg))))
set_option maxHeartbeats 1000000 in
set_option maxRecDepth 10000 in
theorem w_M_take_19 {Q : Int32 → zS → Prop} (hr : meth.sig.returnType = some .int) : ∀ (f : Nat) (a0 : Nat) (a1 : Int32) (σ : zS), P_M_take_19 n Q f a0 a1 σ → zG p l e (zrm 1 0 0) s m args below meth c (MQ below (zQc (zA base) D cA base n ex (zqi Q)) args s 0 0 (zA base)) s.heap (zA base) base D cA 2 ex prog_9_method_47_code "ConstantFlowModel" n 0 0 19 [some (.ref a0), some (.int a1)] [] σ := by
  intro f
  induction f with
  | zero => intro a0 a1 σ h; exact False.elim h
  | succ f ih =>
    intro a0 a1 σ h
    refine zw_iload_n d_M_take_19 rfl rfl ?_
    refine zw_aload_n d_M_take_20 rfl rfl ?_
    obtain ⟨q1, h⟩ := h
    refine zw_gfi (ci := 7) (j := 28) d_M_take_21 mw_3_213 q1.1 q1.2 (by decide) (by decide) rfl ?_
    obtain ⟨ht, hf⟩ := h
    refine zw_icmp_ge (tgt := 45) d_M_take_24 rfl (fun hc => ?_) (fun hc => ?_)
    · have h := ht hc; clear ht hf
      refine zw_aload_n d_M_take_45 rfl rfl ?_
      refine zw_aload_n d_M_take_46 rfl rfl ?_
      refine zw_gfi (ci := 7) (j := 28) d_M_take_47 mw_3_213 q1.1 q1.2 (by decide) (by decide) rfl ?_
      refine zw_pfi (ci := 7) (j := 2) d_M_take_50 mw_3_187 q1.1 q1.2 (by decide) (by decide) rfl rfl rfl rfl ?_
      refine zw_aload_n d_M_take_53 rfl rfl ?_
      refine zw_gfi (ci := 7) (j := 2) d_M_take_54 mw_3_187 q1.1 q1.2 (by decide) (by decide) rfl ?_
      exact zw_iret d_M_take_57 hr h
    · have h := hf hc; clear ht hf
      refine zw_aload_n d_M_take_27 rfl rfl ?_
      obtain ⟨c2, q3, h⟩ := h
      refine zw_gfr (ci := 7) (j := 1) d_M_take_28 mw_3_186 q1.1 q1.2 (by decide) (by decide) rfl q3 ?_
      refine zw_iload_n d_M_take_31 rfl rfl ?_
      refine zw_aload_n d_M_take_32 rfl rfl ?_
      obtain ⟨c4, q5, h⟩ := h
      refine zw_gfr (ci := 7) (j := 27) d_M_take_33 mw_3_212 q1.1 q1.2 (by decide) (by decide) rfl q5 ?_
      refine zw_iload_n d_M_take_36 rfl rfl ?_
      obtain ⟨q6, h⟩ := h
      refine zw_iald d_M_take_37 q6.1 (zkd_eta q6.2.1) q6.2.2 ?_
      obtain ⟨q7, h⟩ := h
      refine zw_iast d_M_take_38 q7.1 (zkd_eta q7.2.1) q7.2.2 ?_
      refine zw_iinc (v := (a1 + (1 : Int32))) d_M_take_39 rfl rfl (Nat.le_of_ble_eq_true rfl) rfl rfl ?_
      refine zw_goto (tgt := 19) d_M_take_42 rfl ?_
      exact ih _ _ _ h
def P_M_take (n : Nat) (a0 : Nat) (σ : zS) (Q : Int32 → zS → Prop) : Prop := zk n a0 7 ∧ (((zi (zI σ a0 0 (0 : Int32)) a0 28) ≤ (700 : Int32) → ∃ g, P_M_take_19 n Q g a0 (0 : Int32) (zI σ a0 0 (0 : Int32))) ∧ (¬ ((zi (zI σ a0 0 (0 : Int32)) a0 28) ≤ (700 : Int32)) → Q (-1 : Int32) (zI σ a0 0 (0 : Int32))))
set_option maxHeartbeats 1000000 in
set_option maxRecDepth 10000 in
theorem w_M_take {Q : Int32 → zS → Prop} (hr : meth.sig.returnType = some .int) {a0 : Nat} {σ : zS} (h : P_M_take n a0 σ Q) : zG p l e (zrm 1 0 0) s m args below meth c (MQ below (zQc (zA base) D cA base n ex (zqi Q)) args s 0 0 (zA base)) s.heap (zA base) base D cA 2 ex prog_9_method_47_code "ConstantFlowModel" n 0 0 0 [some (.ref a0), none] [] σ := by
  unfold P_M_take at h
  refine zw_aload_n d_M_take_0 rfl rfl ?_
  refine zw_iconst (v := 0) d_M_take_1 rfl ?_
  obtain ⟨q1, h⟩ := h
  refine zw_pfi (ci := 7) (j := 0) d_M_take_2 mw_3_185 q1.1 q1.2 (by decide) (by decide) rfl rfl rfl rfl ?_
  refine zw_aload_n d_M_take_5 rfl rfl ?_
  refine zw_gfi (ci := 7) (j := 28) d_M_take_6 mw_3_213 q1.1 q1.2 (by decide) (by decide) rfl ?_
  refine zw_sipush (v := 700) d_M_take_9 rfl ?_
  obtain ⟨ht, hf⟩ := h
  refine zw_icmp_le (tgt := 17) d_M_take_12 rfl (fun hc => ?_) (fun hc => ?_)
  · have h := ht hc; clear ht hf
    refine zw_iconst (v := 0) d_M_take_17 rfl ?_
    refine zw_istore_n d_M_take_18 rfl (Nat.le_of_ble_eq_true rfl) rfl rfl ?_
    obtain ⟨g, h⟩ := h
    exact w_M_take_19 hr g _ _ _ h
  · have h := hf hc; clear ht hf
    refine zw_iconst (v := -1) d_M_take_15 rfl ?_
    exact zw_iret d_M_take_16 hr h
theorem c_M_take {l : Launch} {D : va_G} {cA : Nat → ClassId} {base n : Nat} {ex : Bool} {Q : Int32 → zS → Prop} {a0 : Nat} {σ : zS} (h : P_M_take n a0 σ Q) : zM l y_M_take prog_9_method_47_code 2 (some .int) 1 0 0 (zA base) D cA base n n ex [.ref a0] σ (zqi Q) :=
  zMet (by decide) rfl (Nat.le_of_ble_eq_true rfl) (fun p e s m args below meth c hr hnm => w_M_take hr h)
def P_M_input (n : Nat) (a0 : Nat) (a1 : Int32) (σ : zS) (Q : Int32 → zS → Prop) : Prop := zk n a0 7 ∧ ((¬ (zi (zI σ a0 0 (0 : Int32)) a0 30) = (32 : Int32) → ∃ c2, zr (zI σ a0 0 (0 : Int32)) a0 29 = some c2 ∧ za n c2 10 (zi (zI σ a0 0 (0 : Int32)) a0 30) ∧ Q (zi (zI (zI (zI σ a0 0 (0 : Int32)) c2 (zi (zI σ a0 0 (0 : Int32)) a0 30).toNatClampNeg a1) a0 30 ((zi (zI (zI σ a0 0 (0 : Int32)) c2 (zi (zI σ a0 0 (0 : Int32)) a0 30).toNatClampNeg a1) a0 30) + (1 : Int32))) a0 30) (zI (zI (zI σ a0 0 (0 : Int32)) c2 (zi (zI σ a0 0 (0 : Int32)) a0 30).toNatClampNeg a1) a0 30 ((zi (zI (zI σ a0 0 (0 : Int32)) c2 (zi (zI σ a0 0 (0 : Int32)) a0 30).toNatClampNeg a1) a0 30) + (1 : Int32)))) ∧ ((zi (zI σ a0 0 (0 : Int32)) a0 30) = (32 : Int32) → Q (-1 : Int32) (zI σ a0 0 (0 : Int32))))
set_option maxHeartbeats 1000000 in
set_option maxRecDepth 10000 in
theorem w_M_input {Q : Int32 → zS → Prop} (hr : meth.sig.returnType = some .int) {a0 : Nat} {a1 : Int32} {σ : zS} (h : P_M_input n a0 a1 σ Q) : zG p l e (zrm 1 0 0) s m args below meth c (MQ below (zQc (zA base) D cA base n ex (zqi Q)) args s 0 0 (zA base)) s.heap (zA base) base D cA 2 ex prog_9_method_48_code "ConstantFlowModel" n 0 0 0 [some (.ref a0), some (.int a1)] [] σ := by
  unfold P_M_input at h
  refine zw_aload_n d_M_input_0 rfl rfl ?_
  refine zw_iconst (v := 0) d_M_input_1 rfl ?_
  obtain ⟨q1, h⟩ := h
  refine zw_pfi (ci := 7) (j := 0) d_M_input_2 mw_3_185 q1.1 q1.2 (by decide) (by decide) rfl rfl rfl rfl ?_
  refine zw_aload_n d_M_input_5 rfl rfl ?_
  refine zw_gfi (ci := 7) (j := 30) d_M_input_6 mw_3_215 q1.1 q1.2 (by decide) (by decide) rfl ?_
  refine zw_bipush (v := 32) d_M_input_9 rfl ?_
  obtain ⟨ht, hf⟩ := h
  refine zw_icmp_ne (tgt := 16) d_M_input_11 rfl (fun hc => ?_) (fun hc => ?_)
  · have h := ht hc; clear ht hf
    refine zw_aload_n d_M_input_16 rfl rfl ?_
    obtain ⟨c2, q3, h⟩ := h
    refine zw_gfr (ci := 7) (j := 29) d_M_input_17 mw_3_214 q1.1 q1.2 (by decide) (by decide) rfl q3 ?_
    refine zw_aload_n d_M_input_20 rfl rfl ?_
    refine zw_gfi (ci := 7) (j := 30) d_M_input_21 mw_3_215 q1.1 q1.2 (by decide) (by decide) rfl ?_
    refine zw_iload_n d_M_input_24 rfl rfl ?_
    obtain ⟨q4, h⟩ := h
    refine zw_iast d_M_input_25 q4.1 (zkd_eta q4.2.1) q4.2.2 ?_
    refine zw_aload_n d_M_input_26 rfl rfl ?_
    refine zw_dup d_M_input_27 rfl ?_
    refine zw_gfi (ci := 7) (j := 30) d_M_input_28 mw_3_215 q1.1 q1.2 (by decide) (by decide) rfl ?_
    refine zw_iconst (v := 1) d_M_input_31 rfl ?_
    refine zw_iadd d_M_input_32 ?_
    refine zw_pfi (ci := 7) (j := 30) d_M_input_33 mw_3_215 q1.1 q1.2 (by decide) (by decide) rfl rfl rfl rfl ?_
    refine zw_aload_n d_M_input_36 rfl rfl ?_
    refine zw_gfi (ci := 7) (j := 30) d_M_input_37 mw_3_215 q1.1 q1.2 (by decide) (by decide) rfl ?_
    exact zw_iret d_M_input_40 hr h
  · have h := hf hc; clear ht hf
    refine zw_iconst (v := -1) d_M_input_14 rfl ?_
    exact zw_iret d_M_input_15 hr h
theorem c_M_input {l : Launch} {D : va_G} {cA : Nat → ClassId} {base n : Nat} {ex : Bool} {Q : Int32 → zS → Prop} {a0 : Nat} {a1 : Int32} {σ : zS} (h : P_M_input n a0 a1 σ Q) : zM l y_M_input prog_9_method_48_code 2 (some .int) 1 0 0 (zA base) D cA base n n ex [.ref a0, .int a1] σ (zqi Q) :=
  zMet (by decide) rfl (Nat.le_of_ble_eq_true rfl) (fun p e s m args below meth c hr hnm => w_M_input hr h)
def P_M_clear (n : Nat) (a0 : Nat) (σ : zS) (Q : Int32 → zS → Prop) : Prop := zk n a0 7 ∧ Q (zi (zI σ a0 0 (0 : Int32)) a0 30) (zI (zI σ a0 0 (0 : Int32)) a0 30 (0 : Int32))
set_option maxHeartbeats 1000000 in
set_option maxRecDepth 10000 in
theorem w_M_clear {Q : Int32 → zS → Prop} (hr : meth.sig.returnType = some .int) {a0 : Nat} {σ : zS} (h : P_M_clear n a0 σ Q) : zG p l e (zrm 1 0 0) s m args below meth c (MQ below (zQc (zA base) D cA base n ex (zqi Q)) args s 0 0 (zA base)) s.heap (zA base) base D cA 2 ex prog_9_method_49_code "ConstantFlowModel" n 0 0 0 [some (.ref a0), none] [] σ := by
  unfold P_M_clear at h
  refine zw_aload_n d_M_clear_0 rfl rfl ?_
  refine zw_iconst (v := 0) d_M_clear_1 rfl ?_
  obtain ⟨q1, h⟩ := h
  refine zw_pfi (ci := 7) (j := 0) d_M_clear_2 mw_3_185 q1.1 q1.2 (by decide) (by decide) rfl rfl rfl rfl ?_
  refine zw_aload_n d_M_clear_5 rfl rfl ?_
  refine zw_gfi (ci := 7) (j := 30) d_M_clear_6 mw_3_215 q1.1 q1.2 (by decide) (by decide) rfl ?_
  refine zw_istore_n d_M_clear_9 rfl (Nat.le_of_ble_eq_true rfl) rfl rfl ?_
  refine zw_aload_n d_M_clear_10 rfl rfl ?_
  refine zw_iconst (v := 0) d_M_clear_11 rfl ?_
  refine zw_pfi (ci := 7) (j := 30) d_M_clear_12 mw_3_215 q1.1 q1.2 (by decide) (by decide) rfl rfl rfl rfl ?_
  refine zw_iload_n d_M_clear_15 rfl rfl ?_
  exact zw_iret d_M_clear_16 hr h
theorem c_M_clear {l : Launch} {D : va_G} {cA : Nat → ClassId} {base n : Nat} {ex : Bool} {Q : Int32 → zS → Prop} {a0 : Nat} {σ : zS} (h : P_M_clear n a0 σ Q) : zM l y_M_clear prog_9_method_49_code 2 (some .int) 1 0 0 (zA base) D cA base n n ex [.ref a0] σ (zqi Q) :=
  zMet (by decide) rfl (Nat.le_of_ble_eq_true rfl) (fun p e s m args below meth c hr hnm => w_M_clear hr h)
def P_M_wipe (n : Nat) (a0 : Nat) (σ : zS) (Q : Int32 → zS → Prop) : Prop := zk n a0 7 ∧ Q (zi (zI σ a0 0 (0 : Int32)) a0 2) (zI (zI σ a0 0 (0 : Int32)) a0 2 (0 : Int32))
set_option maxHeartbeats 1000000 in
set_option maxRecDepth 10000 in
theorem w_M_wipe {Q : Int32 → zS → Prop} (hr : meth.sig.returnType = some .int) {a0 : Nat} {σ : zS} (h : P_M_wipe n a0 σ Q) : zG p l e (zrm 1 0 0) s m args below meth c (MQ below (zQc (zA base) D cA base n ex (zqi Q)) args s 0 0 (zA base)) s.heap (zA base) base D cA 2 ex prog_9_method_4_code "ConstantFlowModel" n 0 0 0 [some (.ref a0), none] [] σ := by
  unfold P_M_wipe at h
  refine zw_aload_n d_M_wipe_0 rfl rfl ?_
  refine zw_iconst (v := 0) d_M_wipe_1 rfl ?_
  obtain ⟨q1, h⟩ := h
  refine zw_pfi (ci := 7) (j := 0) d_M_wipe_2 mw_3_185 q1.1 q1.2 (by decide) (by decide) rfl rfl rfl rfl ?_
  refine zw_aload_n d_M_wipe_5 rfl rfl ?_
  refine zw_gfi (ci := 7) (j := 2) d_M_wipe_6 mw_3_187 q1.1 q1.2 (by decide) (by decide) rfl ?_
  refine zw_istore_n d_M_wipe_9 rfl (Nat.le_of_ble_eq_true rfl) rfl rfl ?_
  refine zw_aload_n d_M_wipe_10 rfl rfl ?_
  refine zw_iconst (v := 0) d_M_wipe_11 rfl ?_
  refine zw_pfi (ci := 7) (j := 2) d_M_wipe_12 mw_3_187 q1.1 q1.2 (by decide) (by decide) rfl rfl rfl rfl ?_
  refine zw_iload_n d_M_wipe_15 rfl rfl ?_
  exact zw_iret d_M_wipe_16 hr h
theorem c_M_wipe {l : Launch} {D : va_G} {cA : Nat → ClassId} {base n : Nat} {ex : Bool} {Q : Int32 → zS → Prop} {a0 : Nat} {σ : zS} (h : P_M_wipe n a0 σ Q) : zM l y_M_wipe prog_9_method_4_code 2 (some .int) 1 0 0 (zA base) D cA base n n ex [.ref a0] σ (zqi Q) :=
  zMet (by decide) rfl (Nat.le_of_ble_eq_true rfl) (fun p e s m args below meth c hr hnm => w_M_wipe hr h)
def P_M_valueOf_14 (n : Nat) (Q : Int32 → zS → Prop) (b0 : Int32) (σ : zS) : Prop := Q b0 σ
set_option maxHeartbeats 1000000 in
set_option maxRecDepth 10000 in
theorem w_M_valueOf_14 {Q : Int32 → zS → Prop} (hr : meth.sig.returnType = some .int) {b0 : Int32} {σ : zS} (h : P_M_valueOf_14 n Q b0 σ) : zG p l e (zrm 1 0 0) s m args below meth c (MQ below (zQc (zA base) D cA base n ex (zqi Q)) args s 0 0 (zA base)) s.heap (zA base) base D cA 3 ex prog_9_method_50_code "ConstantFlowModel" n 0 0 14 [none, none, none] [.int b0] σ := by
  unfold P_M_valueOf_14 at h
  exact zw_iret d_M_valueOf_14 hr h
def P_M_valueOf (n : Nat) (a0 : Nat) (a1 : Int32) (a2 : Int32) (σ : zS) (Q : Int32 → zS → Prop) : Prop := ((¬ a1 = 0 → zk n a0 7 ∧ ∃ c2, zr σ a0 31 = some c2 ∧ za n c2 10 a2 ∧ P_M_valueOf_14 n Q (zi σ c2 a2.toNatClampNeg) σ) ∧ (a1 = 0 → P_M_valueOf_14 n Q a2 σ))
set_option maxHeartbeats 1000000 in
set_option maxRecDepth 10000 in
theorem w_M_valueOf {Q : Int32 → zS → Prop} (hr : meth.sig.returnType = some .int) {a0 : Nat} {a1 : Int32} {a2 : Int32} {σ : zS} (h : P_M_valueOf n a0 a1 a2 σ Q) : zG p l e (zrm 1 0 0) s m args below meth c (MQ below (zQc (zA base) D cA base n ex (zqi Q)) args s 0 0 (zA base)) s.heap (zA base) base D cA 3 ex prog_9_method_50_code "ConstantFlowModel" n 0 0 0 [some (.ref a0), some (.int a1), some (.int a2)] [] σ := by
  unfold P_M_valueOf at h
  refine zw_iload_n d_M_valueOf_0 rfl rfl ?_
  obtain ⟨ht, hf⟩ := h
  refine zw_if_ne (tgt := 8) d_M_valueOf_1 rfl (fun hc => ?_) (fun hc => ?_)
  · have h := ht hc; clear ht hf
    refine zw_aload_n d_M_valueOf_8 rfl rfl ?_
    obtain ⟨q1, h⟩ := h
    obtain ⟨c2, q3, h⟩ := h
    refine zw_gfr (ci := 7) (j := 31) d_M_valueOf_9 mw_3_216 q1.1 q1.2 (by decide) (by decide) rfl q3 ?_
    refine zw_iload_n d_M_valueOf_12 rfl rfl ?_
    obtain ⟨q4, h⟩ := h
    refine zw_iald d_M_valueOf_13 q4.1 (zkd_eta q4.2.1) q4.2.2 ?_
    refine zw_le (ls' := [none, none, none]) (True.intro) ?_
    exact w_M_valueOf_14 hr h
  · have h := hf hc; clear ht hf
    refine zw_iload_n d_M_valueOf_4 rfl rfl ?_
    refine zw_goto (tgt := 14) d_M_valueOf_5 rfl ?_
    refine zw_le (ls' := [none, none, none]) (True.intro) ?_
    exact w_M_valueOf_14 hr h
theorem c_M_valueOf {l : Launch} {D : va_G} {cA : Nat → ClassId} {base n : Nat} {ex : Bool} {Q : Int32 → zS → Prop} {a0 : Nat} {a1 : Int32} {a2 : Int32} {σ : zS} (h : P_M_valueOf n a0 a1 a2 σ Q) : zM l y_M_valueOf prog_9_method_50_code 3 (some .int) 1 0 0 (zA base) D cA base n n ex [.ref a0, .int a1, .int a2] σ (zqi Q) :=
  zMet (by decide) rfl (Nat.le_of_ble_eq_true rfl) (fun p e s m args below meth c hr hnm => w_M_valueOf hr h)
def P_M_value_36 (n : Nat) (Q : Int32 → zS → Prop) (b0 : Int32) (σ : zS) : Prop := Q b0 σ
set_option maxHeartbeats 1000000 in
set_option maxRecDepth 10000 in
theorem w_M_value_36 {Q : Int32 → zS → Prop} (hr : meth.sig.returnType = some .int) {b0 : Int32} {σ : zS} (h : P_M_value_36 n Q b0 σ) : zG p l e (zrm 1 0 0) s m args below meth c (MQ below (zQc (zA base) D cA base n ex (zqi Q)) args s 0 0 (zA base)) s.heap (zA base) base D cA 2 ex prog_9_method_53_code "ConstantFlowModel" n 0 0 36 [none, none] [.int b0] σ := by
  unfold P_M_value_36 at h
  exact zw_iret d_M_value_36 hr h
def P_M_value_16 (n : Nat) (Q : Int32 → zS → Prop) (a0 : Nat) (a1 : Int32) (b0 : Nat) (b1 : Int32) (σ : zS) : Prop := zk n b0 7 ∧ zk n a0 7 ∧ (((zi (zI σ b0 0 b1) a0 0) ≤ 0 → ∃ c3, zr (zI σ b0 0 b1) a0 31 = some c3 ∧ za n c3 10 a1 ∧ P_M_value_36 n Q (zi (zI σ b0 0 b1) c3 a1.toNatClampNeg) (zI σ b0 0 b1)) ∧ (¬ ((zi (zI σ b0 0 b1) a0 0) ≤ 0) → P_M_value_36 n Q (0 : Int32) (zI σ b0 0 b1)))
set_option maxHeartbeats 1000000 in
set_option maxRecDepth 10000 in
theorem w_M_value_16 {Q : Int32 → zS → Prop} (hr : meth.sig.returnType = some .int) {a0 : Nat} {a1 : Int32} {b0 : Nat} {b1 : Int32} {σ : zS} (h : P_M_value_16 n Q a0 a1 b0 b1 σ) : zG p l e (zrm 1 0 0) s m args below meth c (MQ below (zQc (zA base) D cA base n ex (zqi Q)) args s 0 0 (zA base)) s.heap (zA base) base D cA 2 ex prog_9_method_53_code "ConstantFlowModel" n 0 0 16 [some (.ref a0), some (.int a1)] [.int b1, .ref b0] σ := by
  unfold P_M_value_16 at h
  obtain ⟨q1, h⟩ := h
  refine zw_pfi (ci := 7) (j := 0) d_M_value_16 mw_3_185 q1.1 q1.2 (by decide) (by decide) rfl rfl rfl rfl ?_
  refine zw_aload_n d_M_value_19 rfl rfl ?_
  obtain ⟨q2, h⟩ := h
  refine zw_gfi (ci := 7) (j := 0) d_M_value_20 mw_3_185 q2.1 q2.2 (by decide) (by decide) rfl ?_
  obtain ⟨ht, hf⟩ := h
  refine zw_if_le (tgt := 30) d_M_value_23 rfl (fun hc => ?_) (fun hc => ?_)
  · have h := ht hc; clear ht hf
    refine zw_aload_n d_M_value_30 rfl rfl ?_
    obtain ⟨c3, q4, h⟩ := h
    refine zw_gfr (ci := 7) (j := 31) d_M_value_31 mw_3_216 q2.1 q2.2 (by decide) (by decide) rfl q4 ?_
    refine zw_iload_n d_M_value_34 rfl rfl ?_
    obtain ⟨q5, h⟩ := h
    refine zw_iald d_M_value_35 q5.1 (zkd_eta q5.2.1) q5.2.2 ?_
    refine zw_le (ls' := [none, none]) (True.intro) ?_
    exact w_M_value_36 hr h
  · have h := hf hc; clear ht hf
    refine zw_iconst (v := 0) d_M_value_26 rfl ?_
    refine zw_goto (tgt := 36) d_M_value_27 rfl ?_
    refine zw_le (ls' := [none, none]) (True.intro) ?_
    exact w_M_value_36 hr h
def P_M_value_11 (n : Nat) (Q : Int32 → zS → Prop) (a0 : Nat) (a1 : Int32) (b0 : Nat) (σ : zS) : Prop := P_M_value_16 n Q a0 a1 b0 (1 : Int32) σ
set_option maxHeartbeats 1000000 in
set_option maxRecDepth 10000 in
theorem w_M_value_11 {Q : Int32 → zS → Prop} (hr : meth.sig.returnType = some .int) {a0 : Nat} {a1 : Int32} {b0 : Nat} {σ : zS} (h : P_M_value_11 n Q a0 a1 b0 σ) : zG p l e (zrm 1 0 0) s m args below meth c (MQ below (zQc (zA base) D cA base n ex (zqi Q)) args s 0 0 (zA base)) s.heap (zA base) base D cA 2 ex prog_9_method_53_code "ConstantFlowModel" n 0 0 11 [some (.ref a0), some (.int a1)] [.ref b0] σ := by
  unfold P_M_value_11 at h
  refine zw_iconst (v := 1) d_M_value_11 rfl ?_
  refine zw_goto (tgt := 16) d_M_value_12 rfl ?_
  exact w_M_value_16 hr h
def P_M_value (n : Nat) (a0 : Nat) (a1 : Int32) (σ : zS) (Q : Int32 → zS → Prop) : Prop := ((a1 < 0 → P_M_value_11 n Q a0 a1 a0 σ) ∧ (¬ (a1 < 0) → ((a1 < (8 : Int32) → P_M_value_16 n Q a0 a1 a0 (0 : Int32) σ) ∧ (¬ (a1 < (8 : Int32)) → P_M_value_11 n Q a0 a1 a0 σ))))
set_option maxHeartbeats 1000000 in
set_option maxRecDepth 10000 in
theorem w_M_value {Q : Int32 → zS → Prop} (hr : meth.sig.returnType = some .int) {a0 : Nat} {a1 : Int32} {σ : zS} (h : P_M_value n a0 a1 σ Q) : zG p l e (zrm 1 0 0) s m args below meth c (MQ below (zQc (zA base) D cA base n ex (zqi Q)) args s 0 0 (zA base)) s.heap (zA base) base D cA 2 ex prog_9_method_53_code "ConstantFlowModel" n 0 0 0 [some (.ref a0), some (.int a1)] [] σ := by
  unfold P_M_value at h
  refine zw_aload_n d_M_value_0 rfl rfl ?_
  refine zw_iload_n d_M_value_1 rfl rfl ?_
  obtain ⟨ht, hf⟩ := h
  refine zw_if_lt (tgt := 11) d_M_value_2 rfl (fun hc => ?_) (fun hc => ?_)
  · have h := ht hc; clear ht hf
    exact w_M_value_11 hr h
  · have h := hf hc; clear ht hf
    refine zw_iload_n d_M_value_5 rfl rfl ?_
    refine zw_bipush (v := 8) d_M_value_6 rfl ?_
    obtain ⟨ht, hf⟩ := h
    refine zw_icmp_lt (tgt := 15) d_M_value_8 rfl (fun hc => ?_) (fun hc => ?_)
    · have h := ht hc; clear ht hf
      refine zw_iconst (v := 0) d_M_value_15 rfl ?_
      exact w_M_value_16 hr h
    · have h := hf hc; clear ht hf
      exact w_M_value_11 hr h
theorem c_M_value {l : Launch} {D : va_G} {cA : Nat → ClassId} {base n : Nat} {ex : Bool} {Q : Int32 → zS → Prop} {a0 : Nat} {a1 : Int32} {σ : zS} (h : P_M_value n a0 a1 σ Q) : zM l y_M_value prog_9_method_53_code 2 (some .int) 1 0 0 (zA base) D cA base n n ex [.ref a0, .int a1] σ (zqi Q) :=
  zMet (by decide) rfl (Nat.le_of_ble_eq_true rfl) (fun p e s m args below meth c hr hnm => w_M_value hr h)
def P_M_asked (n : Nat) (a0 : Nat) (σ : zS) (Q : Int32 → zS → Prop) : Prop := zk n a0 7 ∧ Q (zi (zI σ a0 0 (0 : Int32)) a0 32) (zI σ a0 0 (0 : Int32))
set_option maxHeartbeats 1000000 in
set_option maxRecDepth 10000 in
theorem w_M_asked {Q : Int32 → zS → Prop} (hr : meth.sig.returnType = some .int) {a0 : Nat} {σ : zS} (h : P_M_asked n a0 σ Q) : zG p l e (zrm 1 0 0) s m args below meth c (MQ below (zQc (zA base) D cA base n ex (zqi Q)) args s 0 0 (zA base)) s.heap (zA base) base D cA 1 ex prog_9_method_54_code "ConstantFlowModel" n 0 0 0 [some (.ref a0)] [] σ := by
  unfold P_M_asked at h
  refine zw_aload_n d_M_asked_0 rfl rfl ?_
  refine zw_iconst (v := 0) d_M_asked_1 rfl ?_
  obtain ⟨q1, h⟩ := h
  refine zw_pfi (ci := 7) (j := 0) d_M_asked_2 mw_3_185 q1.1 q1.2 (by decide) (by decide) rfl rfl rfl rfl ?_
  refine zw_aload_n d_M_asked_5 rfl rfl ?_
  refine zw_gfi (ci := 7) (j := 32) d_M_asked_6 mw_3_217 q1.1 q1.2 (by decide) (by decide) rfl ?_
  exact zw_iret d_M_asked_9 hr h
theorem c_M_asked {l : Launch} {D : va_G} {cA : Nat → ClassId} {base n : Nat} {ex : Bool} {Q : Int32 → zS → Prop} {a0 : Nat} {σ : zS} (h : P_M_asked n a0 σ Q) : zM l y_M_asked prog_9_method_54_code 1 (some .int) 1 0 0 (zA base) D cA base n n ex [.ref a0] σ (zqi Q) :=
  zMet (by decide) rfl (Nat.le_of_ble_eq_true rfl) (fun p e s m args below meth c hr hnm => w_M_asked hr h)
def P_M_fail_17 (n : Nat) (Q : zS → Prop) (σ : zS) : Prop := Q σ
set_option maxHeartbeats 1000000 in
set_option maxRecDepth 10000 in
theorem w_M_fail_17 {Q : zS → Prop} (hr : meth.sig.returnType = none) {σ : zS} (h : P_M_fail_17 n Q σ) : zG p l e (zrm 1 0 0) s m args below meth c (MQ below (zQc (zA base) D cA base n ex (zqv Q)) args s 0 0 (zA base)) s.heap (zA base) base D cA 3 ex prog_9_method_5_code "ConstantFlowModel" n 0 0 17 [none, none, none] [] σ := by
  unfold P_M_fail_17 at h
  exact zw_vret d_M_fail_17 hr h
def P_M_fail (n : Nat) (a0 : Nat) (a1 : Int32) (a2 : Int32) (σ : zS) (Q : zS → Prop) : Prop := zk n a0 7 ∧ ((¬ (zi σ a0 3) = 0 → P_M_fail_17 n Q σ) ∧ ((zi σ a0 3) = 0 → P_M_fail_17 n Q (zI (zI σ a0 3 a1) a0 4 a2)))
set_option maxHeartbeats 1000000 in
set_option maxRecDepth 10000 in
theorem w_M_fail {Q : zS → Prop} (hr : meth.sig.returnType = none) {a0 : Nat} {a1 : Int32} {a2 : Int32} {σ : zS} (h : P_M_fail n a0 a1 a2 σ Q) : zG p l e (zrm 1 0 0) s m args below meth c (MQ below (zQc (zA base) D cA base n ex (zqv Q)) args s 0 0 (zA base)) s.heap (zA base) base D cA 3 ex prog_9_method_5_code "ConstantFlowModel" n 0 0 0 [some (.ref a0), some (.int a1), some (.int a2)] [] σ := by
  unfold P_M_fail at h
  refine zw_aload_n d_M_fail_0 rfl rfl ?_
  obtain ⟨q1, h⟩ := h
  refine zw_gfi (ci := 7) (j := 3) d_M_fail_1 mw_3_188 q1.1 q1.2 (by decide) (by decide) rfl ?_
  obtain ⟨ht, hf⟩ := h
  refine zw_if_ne (tgt := 17) d_M_fail_4 rfl (fun hc => ?_) (fun hc => ?_)
  · have h := ht hc; clear ht hf
    refine zw_le (ls' := [none, none, none]) (True.intro) ?_
    exact w_M_fail_17 hr h
  · have h := hf hc; clear ht hf
    refine zw_aload_n d_M_fail_7 rfl rfl ?_
    refine zw_iload_n d_M_fail_8 rfl rfl ?_
    refine zw_pfi (ci := 7) (j := 3) d_M_fail_9 mw_3_188 q1.1 q1.2 (by decide) (by decide) rfl rfl rfl rfl ?_
    refine zw_aload_n d_M_fail_12 rfl rfl ?_
    refine zw_iload_n d_M_fail_13 rfl rfl ?_
    refine zw_pfi (ci := 7) (j := 4) d_M_fail_14 mw_3_189 q1.1 q1.2 (by decide) (by decide) rfl rfl rfl rfl ?_
    refine zw_le (ls' := [none, none, none]) (True.intro) ?_
    exact w_M_fail_17 hr h
theorem c_M_fail {l : Launch} {D : va_G} {cA : Nat → ClassId} {base n : Nat} {ex : Bool} {Q : zS → Prop} {a0 : Nat} {a1 : Int32} {a2 : Int32} {σ : zS} (h : P_M_fail n a0 a1 a2 σ Q) : zM l y_M_fail prog_9_method_5_code 3 (none) 1 0 0 (zA base) D cA base n n ex [.ref a0, .int a1, .int a2] σ (zqv Q) :=
  zMet (by decide) rfl (Nat.le_of_ble_eq_true rfl) (fun p e s m args below meth c hr hnm => w_M_fail hr h)
def P_M_byteAt_18 (n : Nat) (Q : Int32 → zS → Prop) (b0 : Int32) (σ : zS) : Prop := Q b0 σ
set_option maxHeartbeats 1000000 in
set_option maxRecDepth 10000 in
theorem w_M_byteAt_18 {Q : Int32 → zS → Prop} (hr : meth.sig.returnType = some .int) {b0 : Int32} {σ : zS} (h : P_M_byteAt_18 n Q b0 σ) : zG p l e (zrm 1 0 0) s m args below meth c (MQ below (zQc (zA base) D cA base n ex (zqi Q)) args s 0 0 (zA base)) s.heap (zA base) base D cA 2 ex prog_9_method_6_code "ConstantFlowModel" n 0 0 18 [none, none] [.int b0] σ := by
  unfold P_M_byteAt_18 at h
  exact zw_iret d_M_byteAt_18 hr h
def P_M_byteAt (n : Nat) (a0 : Nat) (a1 : Int32) (σ : zS) (Q : Int32 → zS → Prop) : Prop := zk n a0 7 ∧ (((zi σ a0 2) ≤ a1 → P_M_byteAt_18 n Q (-1 : Int32) σ) ∧ (¬ ((zi σ a0 2) ≤ a1) → ∃ c2, zr σ a0 1 = some c2 ∧ za n c2 10 a1 ∧ P_M_byteAt_18 n Q (zi σ c2 a1.toNatClampNeg) σ))
set_option maxHeartbeats 1000000 in
set_option maxRecDepth 10000 in
theorem w_M_byteAt {Q : Int32 → zS → Prop} (hr : meth.sig.returnType = some .int) {a0 : Nat} {a1 : Int32} {σ : zS} (h : P_M_byteAt n a0 a1 σ Q) : zG p l e (zrm 1 0 0) s m args below meth c (MQ below (zQc (zA base) D cA base n ex (zqi Q)) args s 0 0 (zA base)) s.heap (zA base) base D cA 2 ex prog_9_method_6_code "ConstantFlowModel" n 0 0 0 [some (.ref a0), some (.int a1)] [] σ := by
  unfold P_M_byteAt at h
  refine zw_iload_n d_M_byteAt_0 rfl rfl ?_
  refine zw_aload_n d_M_byteAt_1 rfl rfl ?_
  obtain ⟨q1, h⟩ := h
  refine zw_gfi (ci := 7) (j := 2) d_M_byteAt_2 mw_3_187 q1.1 q1.2 (by decide) (by decide) rfl ?_
  obtain ⟨ht, hf⟩ := h
  refine zw_icmp_ge (tgt := 17) d_M_byteAt_5 rfl (fun hc => ?_) (fun hc => ?_)
  · have h := ht hc; clear ht hf
    refine zw_iconst (v := -1) d_M_byteAt_17 rfl ?_
    refine zw_le (ls' := [none, none]) (True.intro) ?_
    exact w_M_byteAt_18 hr h
  · have h := hf hc; clear ht hf
    refine zw_aload_n d_M_byteAt_8 rfl rfl ?_
    obtain ⟨c2, q3, h⟩ := h
    refine zw_gfr (ci := 7) (j := 1) d_M_byteAt_9 mw_3_186 q1.1 q1.2 (by decide) (by decide) rfl q3 ?_
    refine zw_iload_n d_M_byteAt_12 rfl rfl ?_
    obtain ⟨q4, h⟩ := h
    refine zw_iald d_M_byteAt_13 q4.1 (zkd_eta q4.2.1) q4.2.2 ?_
    refine zw_goto (tgt := 18) d_M_byteAt_14 rfl ?_
    refine zw_le (ls' := [none, none]) (True.intro) ?_
    exact w_M_byteAt_18 hr h
theorem c_M_byteAt {l : Launch} {D : va_G} {cA : Nat → ClassId} {base n : Nat} {ex : Bool} {Q : Int32 → zS → Prop} {a0 : Nat} {a1 : Int32} {σ : zS} (h : P_M_byteAt n a0 a1 σ Q) : zM l y_M_byteAt prog_9_method_6_code 2 (some .int) 1 0 0 (zA base) D cA base n n ex [.ref a0, .int a1] σ (zqi Q) :=
  zMet (by decide) rfl (Nat.le_of_ble_eq_true rfl) (fun p e s m args below meth c hr hnm => w_M_byteAt hr h)
def P_M_skip_38 (n : Nat) (Q : zS → Prop) (σ : zS) : Prop := Q σ
set_option maxHeartbeats 1000000 in
set_option maxRecDepth 10000 in
theorem w_M_skip_38 {Q : zS → Prop} (hr : meth.sig.returnType = none) {σ : zS} (h : P_M_skip_38 n Q σ) : zG p l e (zrm 1 0 0) s m args below meth c (MQ below (zQc (zA base) D cA base n ex (zqv Q)) args s 0 0 (zA base)) s.heap (zA base) base D cA 1 ex prog_9_method_7_code "ConstantFlowModel" n 0 0 38 [none] [] σ := by
  unfold P_M_skip_38 at h
  exact zw_vret d_M_skip_38 hr h
def P_M_skip_0 (n : Nat) (Q : zS → Prop) : Nat → Nat → zS → Prop
  | 0, _, _ => False
  | f + 1, a0, σ => zk n a0 7 ∧ (((zi σ a0 2) ≤ (zi σ a0 5) → P_M_skip_38 n Q σ) ∧ (¬ ((zi σ a0 2) ≤ (zi σ a0 5)) → ∃ c2, zr σ a0 1 = some c2 ∧ za n c2 10 (zi σ a0 5) ∧ (((32 : Int32) < (zi σ c2 (zi σ a0 5).toNatClampNeg) → P_M_skip_38 n Q σ) ∧ (¬ ((32 : Int32) < (zi σ c2 (zi σ a0 5).toNatClampNeg)) → P_M_skip_0 n Q f a0 (zI σ a0 5 ((zi σ a0 5) + (1 : Int32)))))))
set_option maxHeartbeats 1000000 in
set_option maxRecDepth 10000 in
theorem w_M_skip_0 {Q : zS → Prop} (hr : meth.sig.returnType = none) : ∀ (f : Nat) (a0 : Nat) (σ : zS), P_M_skip_0 n Q f a0 σ → zG p l e (zrm 1 0 0) s m args below meth c (MQ below (zQc (zA base) D cA base n ex (zqv Q)) args s 0 0 (zA base)) s.heap (zA base) base D cA 1 ex prog_9_method_7_code "ConstantFlowModel" n 0 0 0 [some (.ref a0)] [] σ := by
  intro f
  induction f with
  | zero => intro a0 σ h; exact False.elim h
  | succ f ih =>
    intro a0 σ h
    refine zw_aload_n d_M_skip_0 rfl rfl ?_
    obtain ⟨q1, h⟩ := h
    refine zw_gfi (ci := 7) (j := 5) d_M_skip_1 mw_3_190 q1.1 q1.2 (by decide) (by decide) rfl ?_
    refine zw_aload_n d_M_skip_4 rfl rfl ?_
    refine zw_gfi (ci := 7) (j := 2) d_M_skip_5 mw_3_187 q1.1 q1.2 (by decide) (by decide) rfl ?_
    obtain ⟨ht, hf⟩ := h
    refine zw_icmp_ge (tgt := 38) d_M_skip_8 rfl (fun hc => ?_) (fun hc => ?_)
    · have h := ht hc; clear ht hf
      refine zw_le (ls' := [none]) (True.intro) ?_
      exact w_M_skip_38 hr h
    · have h := hf hc; clear ht hf
      refine zw_aload_n d_M_skip_11 rfl rfl ?_
      obtain ⟨c2, q3, h⟩ := h
      refine zw_gfr (ci := 7) (j := 1) d_M_skip_12 mw_3_186 q1.1 q1.2 (by decide) (by decide) rfl q3 ?_
      refine zw_aload_n d_M_skip_15 rfl rfl ?_
      refine zw_gfi (ci := 7) (j := 5) d_M_skip_16 mw_3_190 q1.1 q1.2 (by decide) (by decide) rfl ?_
      obtain ⟨q4, h⟩ := h
      refine zw_iald d_M_skip_19 q4.1 (zkd_eta q4.2.1) q4.2.2 ?_
      refine zw_bipush (v := 32) d_M_skip_20 rfl ?_
      obtain ⟨ht, hf⟩ := h
      refine zw_icmp_gt (tgt := 38) d_M_skip_22 rfl (fun hc => ?_) (fun hc => ?_)
      · have h := ht hc; clear ht hf
        refine zw_le (ls' := [none]) (True.intro) ?_
        exact w_M_skip_38 hr h
      · have h := hf hc; clear ht hf
        refine zw_aload_n d_M_skip_25 rfl rfl ?_
        refine zw_dup d_M_skip_26 rfl ?_
        refine zw_gfi (ci := 7) (j := 5) d_M_skip_27 mw_3_190 q1.1 q1.2 (by decide) (by decide) rfl ?_
        refine zw_iconst (v := 1) d_M_skip_30 rfl ?_
        refine zw_iadd d_M_skip_31 ?_
        refine zw_pfi (ci := 7) (j := 5) d_M_skip_32 mw_3_190 q1.1 q1.2 (by decide) (by decide) rfl rfl rfl rfl ?_
        refine zw_goto (tgt := 0) d_M_skip_35 rfl ?_
        exact ih _ _ h
def P_M_skip (n : Nat) (a0 : Nat) (σ : zS) (Q : zS → Prop) : Prop := ∃ g, P_M_skip_0 n Q g a0 σ
set_option maxHeartbeats 1000000 in
set_option maxRecDepth 10000 in
theorem w_M_skip {Q : zS → Prop} (hr : meth.sig.returnType = none) {a0 : Nat} {σ : zS} (h : P_M_skip n a0 σ Q) : zG p l e (zrm 1 0 0) s m args below meth c (MQ below (zQc (zA base) D cA base n ex (zqv Q)) args s 0 0 (zA base)) s.heap (zA base) base D cA 1 ex prog_9_method_7_code "ConstantFlowModel" n 0 0 0 [some (.ref a0)] [] σ := by
  unfold P_M_skip at h
  obtain ⟨g, h⟩ := h
  exact w_M_skip_0 hr g _ _ h
theorem c_M_skip {l : Launch} {D : va_G} {cA : Nat → ClassId} {base n : Nat} {ex : Bool} {Q : zS → Prop} {a0 : Nat} {σ : zS} (h : P_M_skip n a0 σ Q) : zM l y_M_skip prog_9_method_7_code 1 (none) 1 0 0 (zA base) D cA base n n ex [.ref a0] σ (zqv Q) :=
  zMet (by decide) rfl (Nat.le_of_ble_eq_true rfl) (fun p e s m args below meth c hr hnm => w_M_skip hr h)
def P_M_isVariable_17 (n : Nat) (Q : Int32 → zS → Prop) (b0 : Int32) (σ : zS) : Prop := (b0 = 0 ∨ b0 = 1) ∧ Q b0 σ
set_option maxHeartbeats 1000000 in
set_option maxRecDepth 10000 in
theorem w_M_isVariable_17 {Q : Int32 → zS → Prop} (hr : meth.sig.returnType = some .boolean) {b0 : Int32} {σ : zS} (h : P_M_isVariable_17 n Q b0 σ) : zG p l e (zrm 1 0 0) s m args below meth c (MQ below (zQc (zA base) D cA base n ex (zqi Q)) args s 0 0 (zA base)) s.heap (zA base) base D cA 1 ex prog_9_method_8_code "ConstantFlowModel" n 0 0 17 [none] [.int b0] σ := by
  unfold P_M_isVariable_17 at h
  obtain ⟨q1, h⟩ := h
  exact zw_zret d_M_isVariable_17 hr q1 h
def P_M_isVariable_16 (n : Nat) (Q : Int32 → zS → Prop) (σ : zS) : Prop := P_M_isVariable_17 n Q (0 : Int32) σ
set_option maxHeartbeats 1000000 in
set_option maxRecDepth 10000 in
theorem w_M_isVariable_16 {Q : Int32 → zS → Prop} (hr : meth.sig.returnType = some .boolean) {σ : zS} (h : P_M_isVariable_16 n Q σ) : zG p l e (zrm 1 0 0) s m args below meth c (MQ below (zQc (zA base) D cA base n ex (zqi Q)) args s 0 0 (zA base)) s.heap (zA base) base D cA 1 ex prog_9_method_8_code "ConstantFlowModel" n 0 0 16 [none] [] σ := by
  unfold P_M_isVariable_16 at h
  refine zw_iconst (v := 0) d_M_isVariable_16 rfl ?_
  exact w_M_isVariable_17 hr h
def P_M_isVariable (n : Nat) (a0 : Int32) (σ : zS) (Q : Int32 → zS → Prop) : Prop := ((a0 < (97 : Int32) → P_M_isVariable_16 n Q σ) ∧ (¬ (a0 < (97 : Int32)) → (((104 : Int32) < a0 → P_M_isVariable_16 n Q σ) ∧ (¬ ((104 : Int32) < a0) → P_M_isVariable_17 n Q (1 : Int32) σ))))
set_option maxHeartbeats 1000000 in
set_option maxRecDepth 10000 in
theorem w_M_isVariable {Q : Int32 → zS → Prop} (hr : meth.sig.returnType = some .boolean) {a0 : Int32} {σ : zS} (h : P_M_isVariable n a0 σ Q) : zG p l e (zrm 1 0 0) s m args below meth c (MQ below (zQc (zA base) D cA base n ex (zqi Q)) args s 0 0 (zA base)) s.heap (zA base) base D cA 1 ex prog_9_method_8_code "ConstantFlowModel" n 0 0 0 [some (.int a0)] [] σ := by
  unfold P_M_isVariable at h
  refine zw_iload_n d_M_isVariable_0 rfl rfl ?_
  refine zw_bipush (v := 97) d_M_isVariable_1 rfl ?_
  obtain ⟨ht, hf⟩ := h
  refine zw_icmp_lt (tgt := 16) d_M_isVariable_3 rfl (fun hc => ?_) (fun hc => ?_)
  · have h := ht hc; clear ht hf
    refine zw_le (ls' := [none]) (True.intro) ?_
    exact w_M_isVariable_16 hr h
  · have h := hf hc; clear ht hf
    refine zw_iload_n d_M_isVariable_6 rfl rfl ?_
    refine zw_bipush (v := 104) d_M_isVariable_7 rfl ?_
    obtain ⟨ht, hf⟩ := h
    refine zw_icmp_gt (tgt := 16) d_M_isVariable_9 rfl (fun hc => ?_) (fun hc => ?_)
    · have h := ht hc; clear ht hf
      refine zw_le (ls' := [none]) (True.intro) ?_
      exact w_M_isVariable_16 hr h
    · have h := hf hc; clear ht hf
      refine zw_iconst (v := 1) d_M_isVariable_12 rfl ?_
      refine zw_goto (tgt := 17) d_M_isVariable_13 rfl ?_
      refine zw_le (ls' := [none]) (True.intro) ?_
      exact w_M_isVariable_17 hr h
theorem c_M_isVariable {l : Launch} {D : va_G} {cA : Nat → ClassId} {base n : Nat} {ex : Bool} {Q : Int32 → zS → Prop} {a0 : Int32} {σ : zS} (h : P_M_isVariable n a0 σ Q) : zM l y_M_isVariable prog_9_method_8_code 1 (some .boolean) 1 0 0 (zA base) D cA base n n ex [.int a0] σ (zqi Q) :=
  zMet (by decide) rfl (Nat.le_of_ble_eq_true rfl) (fun p e s m args below meth c hr hnm => w_M_isVariable hr h)
def P_M_isFigure_17 (n : Nat) (Q : Int32 → zS → Prop) (b0 : Int32) (σ : zS) : Prop := (b0 = 0 ∨ b0 = 1) ∧ Q b0 σ
set_option maxHeartbeats 1000000 in
set_option maxRecDepth 10000 in
theorem w_M_isFigure_17 {Q : Int32 → zS → Prop} (hr : meth.sig.returnType = some .boolean) {b0 : Int32} {σ : zS} (h : P_M_isFigure_17 n Q b0 σ) : zG p l e (zrm 1 0 0) s m args below meth c (MQ below (zQc (zA base) D cA base n ex (zqi Q)) args s 0 0 (zA base)) s.heap (zA base) base D cA 1 ex prog_9_method_9_code "ConstantFlowModel" n 0 0 17 [none] [.int b0] σ := by
  unfold P_M_isFigure_17 at h
  obtain ⟨q1, h⟩ := h
  exact zw_zret d_M_isFigure_17 hr q1 h
def P_M_isFigure_16 (n : Nat) (Q : Int32 → zS → Prop) (σ : zS) : Prop := P_M_isFigure_17 n Q (0 : Int32) σ
set_option maxHeartbeats 1000000 in
set_option maxRecDepth 10000 in
theorem w_M_isFigure_16 {Q : Int32 → zS → Prop} (hr : meth.sig.returnType = some .boolean) {σ : zS} (h : P_M_isFigure_16 n Q σ) : zG p l e (zrm 1 0 0) s m args below meth c (MQ below (zQc (zA base) D cA base n ex (zqi Q)) args s 0 0 (zA base)) s.heap (zA base) base D cA 1 ex prog_9_method_9_code "ConstantFlowModel" n 0 0 16 [none] [] σ := by
  unfold P_M_isFigure_16 at h
  refine zw_iconst (v := 0) d_M_isFigure_16 rfl ?_
  exact w_M_isFigure_17 hr h
def P_M_isFigure (n : Nat) (a0 : Int32) (σ : zS) (Q : Int32 → zS → Prop) : Prop := ((a0 < (48 : Int32) → P_M_isFigure_16 n Q σ) ∧ (¬ (a0 < (48 : Int32)) → (((57 : Int32) < a0 → P_M_isFigure_16 n Q σ) ∧ (¬ ((57 : Int32) < a0) → P_M_isFigure_17 n Q (1 : Int32) σ))))
set_option maxHeartbeats 1000000 in
set_option maxRecDepth 10000 in
theorem w_M_isFigure {Q : Int32 → zS → Prop} (hr : meth.sig.returnType = some .boolean) {a0 : Int32} {σ : zS} (h : P_M_isFigure n a0 σ Q) : zG p l e (zrm 1 0 0) s m args below meth c (MQ below (zQc (zA base) D cA base n ex (zqi Q)) args s 0 0 (zA base)) s.heap (zA base) base D cA 1 ex prog_9_method_9_code "ConstantFlowModel" n 0 0 0 [some (.int a0)] [] σ := by
  unfold P_M_isFigure at h
  refine zw_iload_n d_M_isFigure_0 rfl rfl ?_
  refine zw_bipush (v := 48) d_M_isFigure_1 rfl ?_
  obtain ⟨ht, hf⟩ := h
  refine zw_icmp_lt (tgt := 16) d_M_isFigure_3 rfl (fun hc => ?_) (fun hc => ?_)
  · have h := ht hc; clear ht hf
    refine zw_le (ls' := [none]) (True.intro) ?_
    exact w_M_isFigure_16 hr h
  · have h := hf hc; clear ht hf
    refine zw_iload_n d_M_isFigure_6 rfl rfl ?_
    refine zw_bipush (v := 57) d_M_isFigure_7 rfl ?_
    obtain ⟨ht, hf⟩ := h
    refine zw_icmp_gt (tgt := 16) d_M_isFigure_9 rfl (fun hc => ?_) (fun hc => ?_)
    · have h := ht hc; clear ht hf
      refine zw_le (ls' := [none]) (True.intro) ?_
      exact w_M_isFigure_16 hr h
    · have h := hf hc; clear ht hf
      refine zw_iconst (v := 1) d_M_isFigure_12 rfl ?_
      refine zw_goto (tgt := 17) d_M_isFigure_13 rfl ?_
      refine zw_le (ls' := [none]) (True.intro) ?_
      exact w_M_isFigure_17 hr h
theorem c_M_isFigure {l : Launch} {D : va_G} {cA : Nat → ClassId} {base n : Nat} {ex : Bool} {Q : Int32 → zS → Prop} {a0 : Int32} {σ : zS} (h : P_M_isFigure n a0 σ Q) : zM l y_M_isFigure prog_9_method_9_code 1 (some .boolean) 1 0 0 (zA base) D cA base n n ex [.int a0] σ (zqi Q) :=
  zMet (by decide) rfl (Nat.le_of_ble_eq_true rfl) (fun p e s m args below meth c hr hnm => w_M_isFigure hr h)
def P_C_written_45 (n : Nat) (Q : Int64 → zS → Prop) (K5 : Nat → Int32 → Int64 → Int32 → zS → Prop) (a0 : Nat) (a1 : Int32) (a2 : Int64) (a4 : Int32) (σ : zS) : Prop := K5 a0 a1 a2 (a4 + (1 : Int32)) σ
set_option maxHeartbeats 1000000 in
set_option maxRecDepth 10000 in
theorem w_C_written_45 {Q : Int64 → zS → Prop} {K5 : Nat → Int32 → Int64 → Int32 → zS → Prop} (hr : meth.sig.returnType = some .long) (hK5 : ∀ (a0 : Nat) (a1 : Int32) (a2 : Int64) (a4 : Int32) (σ : zS), K5 a0 a1 a2 a4 σ → zG p l e (zrm 2 0 0) s m args below meth c (MQ below (zQc (zA base) D cA base n ex (zql Q)) args s 0 0 (zA base)) s.heap (zA base) base D cA 6 ex prog_1_method_12_code "ConstantFlow" n 0 0 5 [some (.ref a0), some (.int a1), some (.long a2), none, some (.int a4), none] [] σ) {a0 : Nat} {a1 : Int32} {a2 : Int64} {a4 : Int32} {σ : zS} (h : P_C_written_45 n Q K5 a0 a1 a2 a4 σ) : zG p l e (zrm 2 0 0) s m args below meth c (MQ below (zQc (zA base) D cA base n ex (zql Q)) args s 0 0 (zA base)) s.heap (zA base) base D cA 6 ex prog_1_method_12_code "ConstantFlow" n 0 0 45 [some (.ref a0), some (.int a1), some (.long a2), none, some (.int a4), none] [] σ := by
  unfold P_C_written_45 at h
  refine zw_iinc (v := (a4 + (1 : Int32))) d_C_written_45 rfl rfl (Nat.le_of_ble_eq_true rfl) rfl rfl ?_
  refine zw_goto (tgt := 5) d_C_written_48 rfl ?_
  exact hK5 _ _ _ _ _ h
def P_C_written_5 (n : Nat) (Q : Int64 → zS → Prop) : Nat → Nat → Int32 → Int64 → Int32 → zS → Prop
  | 0, _, _, _, _, _ => False
  | f + 1, a0, a1, a2, a4, σ => (((8 : Int32) ≤ a4 → Q a2 σ) ∧ (¬ ((8 : Int32) ≤ a4) → zk n a0 0 ∧ ∃ c2, zr σ a0 1 = some c2 ∧ zk n c2 1 ∧ P_T_byteAt n c2 ((Int32.toInt64 a1) + (Int32.toInt64 a4)) σ (fun x4 σ5 => ((x4 = (-1 : Int32) → P_C_written_45 n Q (fun (a0 : Nat) (a1 : Int32) (a2 : Int64) (a4 : Int32) (σ : zS) => P_C_written_5 n Q f a0 a1 a2 a4 σ) a0 a1 a2 a4 σ5) ∧ (¬ (x4 = (-1 : Int32)) → P_C_written_45 n Q (fun (a0 : Nat) (a1 : Int32) (a2 : Int64) (a4 : Int32) (σ : zS) => P_C_written_5 n Q f a0 a1 a2 a4 σ) a0 a1 (a2 ||| ((Int32.toInt64 x4) <<< (((8 : Int32) * a4).toInt64 &&& 63))) a4 σ5)))))
set_option maxHeartbeats 1000000 in
set_option maxRecDepth 10000 in
theorem w_C_written_5 {Q : Int64 → zS → Prop} (hr : meth.sig.returnType = some .long) : ∀ (f : Nat) (a0 : Nat) (a1 : Int32) (a2 : Int64) (a4 : Int32) (σ : zS), P_C_written_5 n Q f a0 a1 a2 a4 σ → zG p l e (zrm 2 0 0) s m args below meth c (MQ below (zQc (zA base) D cA base n ex (zql Q)) args s 0 0 (zA base)) s.heap (zA base) base D cA 6 ex prog_1_method_12_code "ConstantFlow" n 0 0 5 [some (.ref a0), some (.int a1), some (.long a2), none, some (.int a4), none] [] σ := by
  intro f
  induction f with
  | zero => intro a0 a1 a2 a4 σ h; exact False.elim h
  | succ f ih =>
    intro a0 a1 a2 a4 σ h
    refine zw_iload d_C_written_5 rfl ?_
    refine zw_bipush (v := 8) d_C_written_7 rfl ?_
    obtain ⟨ht, hf⟩ := h
    refine zw_icmp_ge (tgt := 51) d_C_written_9 rfl (fun hc => ?_) (fun hc => ?_)
    · have h := ht hc; clear ht hf
      refine zw_lload_n d_C_written_51 rfl rfl ?_
      exact zw_lret d_C_written_52 hr h
    · have h := hf hc; clear ht hf
      refine zw_aload_n d_C_written_12 rfl rfl ?_
      obtain ⟨q1, h⟩ := h
      obtain ⟨c2, q3, h⟩ := h
      refine zw_gfr (ci := 0) (j := 1) d_C_written_13 mw_2_51 q1.1 q1.2 (by decide) (by decide) rfl q3 ?_
      refine zw_iload_n d_C_written_16 rfl rfl ?_
      refine zw_i2l d_C_written_17 ?_
      refine zw_iload d_C_written_18 rfl ?_
      refine zw_i2l d_C_written_20 ?_
      refine zw_ladd d_C_written_21 ?_
      obtain ⟨q6, h⟩ := h
      refine zw_callV (ci := 1) (b := c2) (As := [.long ((Int32.toInt64 a1) + (Int32.toInt64 a4))]) (r := []) d_C_written_22 (c_T_byteAt h) mw_2_214 mw_2_97 mw_2_98 mw_1_2 mw_2_99 (by decide) q6.1 q6.2 hyV_T_byteAt (Nat.le_of_ble_eq_true rfl) (Nat.le_of_ble_eq_true rfl) ⟨(Nat.le_of_ble_eq_true rfl), (Nat.le_of_ble_eq_true rfl)⟩ (Nat.le_of_ble_eq_true rfl) rfl (zk_i (fun x4 σ5 h => ?_))
      refine zw_istore d_C_written_25 (Nat.le_of_ble_eq_true rfl) rfl rfl ?_
      refine zw_iload d_C_written_27 rfl ?_
      refine zw_iconst (v := -1) d_C_written_29 rfl ?_
      obtain ⟨ht, hf⟩ := h
      refine zw_icmp_eq (tgt := 45) d_C_written_30 rfl (fun hc => ?_) (fun hc => ?_)
      · have h := ht hc; clear ht hf
        refine zw_le (ls' := [some (.ref a0), some (.int a1), some (.long a2), none, some (.int a4), none]) (And.intro rfl (And.intro rfl (And.intro rfl (And.intro rfl True.intro)))) ?_
        exact w_C_written_45 hr (fun a0 a1 a2 a4 σ hk => ih a0 a1 a2 a4 σ hk) h
      · have h := hf hc; clear ht hf
        refine zw_lload_n d_C_written_33 rfl rfl ?_
        refine zw_iload d_C_written_34 rfl ?_
        refine zw_i2l d_C_written_36 ?_
        refine zw_bipush (v := 8) d_C_written_37 rfl ?_
        refine zw_iload d_C_written_39 rfl ?_
        refine zw_imul d_C_written_41 ?_
        refine zw_lshl d_C_written_42 ?_
        refine zw_lor d_C_written_43 ?_
        refine zw_lstore_n d_C_written_44 rfl (Nat.le_of_ble_eq_true rfl) rfl rfl ?_
        refine zw_le (ls' := [some (.ref a0), some (.int a1), some (.long (a2 ||| ((Int32.toInt64 x4) <<< (((8 : Int32) * a4).toInt64 &&& 63)))), none, some (.int a4), none]) (And.intro rfl (And.intro rfl (And.intro rfl (And.intro rfl True.intro)))) ?_
        exact w_C_written_45 hr (fun a0 a1 a2 a4 σ hk => ih a0 a1 a2 a4 σ hk) h
def P_C_written (n : Nat) (a0 : Nat) (a1 : Int32) (σ : zS) (Q : Int64 → zS → Prop) : Prop := ∃ g, P_C_written_5 n Q g a0 a1 (0 : Int64) (0 : Int32) σ
set_option maxHeartbeats 1000000 in
set_option maxRecDepth 10000 in
theorem w_C_written {Q : Int64 → zS → Prop} (hr : meth.sig.returnType = some .long) {a0 : Nat} {a1 : Int32} {σ : zS} (h : P_C_written n a0 a1 σ Q) : zG p l e (zrm 2 0 0) s m args below meth c (MQ below (zQc (zA base) D cA base n ex (zql Q)) args s 0 0 (zA base)) s.heap (zA base) base D cA 6 ex prog_1_method_12_code "ConstantFlow" n 0 0 0 [some (.ref a0), some (.int a1), none, none, none, none] [] σ := by
  unfold P_C_written at h
  refine zw_lconst (v := 0) d_C_written_0 rfl ?_
  refine zw_lstore_n d_C_written_1 rfl (Nat.le_of_ble_eq_true rfl) rfl rfl ?_
  refine zw_iconst (v := 0) d_C_written_2 rfl ?_
  refine zw_istore d_C_written_3 (Nat.le_of_ble_eq_true rfl) rfl rfl ?_
  obtain ⟨g, h⟩ := h
  exact w_C_written_5 hr g _ _ _ _ _ h
theorem c_C_written {l : Launch} {D : va_G} {cA : Nat → ClassId} {base n : Nat} {ex : Bool} {Q : Int64 → zS → Prop} {a0 : Nat} {a1 : Int32} {σ : zS} (h : P_C_written n a0 a1 σ Q) : zM l y_C_written prog_1_method_12_code 6 (some .long) 2 0 0 (zA base) D cA base n n ex [.ref a0, .int a1] σ (zql Q) :=
  zMet (by decide) rfl (Nat.le_of_ble_eq_true rfl) (fun p e s m args below meth c hr hnm => w_C_written hr h)
def P_C_take_25 (n : Nat) (Q : Int32 → zS → Prop) : Nat → Nat → Int32 → zS → Prop
  | 0, _, _, _ => False
  | f + 1, a0, a1, σ => zk n a0 0 ∧ ∃ c2, zr σ a0 1 = some c2 ∧ zk n c2 1 ∧ (((zi σ c2 1) ≤ a1 → ∃ c5, zr σ a0 0 = some c5 ∧ zk n c5 1 ∧ Q (zi σ c5 1) σ) ∧ (¬ ((zi σ c2 1) ≤ a1) → ∃ c8, zr σ a0 0 = some c8 ∧ ∃ c10, zr σ a0 1 = some c10 ∧ zk n c10 1 ∧ P_T_byteAt n c10 (Int32.toInt64 a1) σ (fun x12 σ13 => zk n c8 1 ∧ P_T_append n c8 x12 σ13 (fun σ16 => P_C_take_25 n Q f a0 (a1 + (1 : Int32)) σ16))))
set_option maxHeartbeats 1000000 in
set_option maxRecDepth 10000 in
theorem w_C_take_25 {Q : Int32 → zS → Prop} (hr : meth.sig.returnType = some .int) : ∀ (f : Nat) (a0 : Nat) (a1 : Int32) (σ : zS), P_C_take_25 n Q f a0 a1 σ → zG p l e (zrm 2 0 0) s m args below meth c (MQ below (zQc (zA base) D cA base n ex (zqi Q)) args s 0 0 (zA base)) s.heap (zA base) base D cA 2 ex prog_1_method_13_code "ConstantFlow" n 0 0 25 [some (.ref a0), some (.int a1)] [] σ := by
  intro f
  induction f with
  | zero => intro a0 a1 σ h; exact False.elim h
  | succ f ih =>
    intro a0 a1 σ h
    refine zw_iload_n d_C_take_25 rfl rfl ?_
    refine zw_aload_n d_C_take_26 rfl rfl ?_
    obtain ⟨q1, h⟩ := h
    obtain ⟨c2, q3, h⟩ := h
    refine zw_gfr (ci := 0) (j := 1) d_C_take_27 mw_2_51 q1.1 q1.2 (by decide) (by decide) rfl q3 ?_
    obtain ⟨q4, h⟩ := h
    refine zw_gfiN (ci := 1) (j := 1) d_C_take_30 mw_1_32 q4.1 q4.2 (by decide) (by decide) rfl ?_
    obtain ⟨ht, hf⟩ := h
    refine zw_icmp_ge (tgt := 58) d_C_take_33 rfl (fun hc => ?_) (fun hc => ?_)
    · have h := ht hc; clear ht hf
      refine zw_aload_n d_C_take_58 rfl rfl ?_
      obtain ⟨c5, q6, h⟩ := h
      refine zw_gfr (ci := 0) (j := 0) d_C_take_59 mw_2_50 q1.1 q1.2 (by decide) (by decide) rfl q6 ?_
      obtain ⟨q7, h⟩ := h
      refine zw_gfiN (ci := 1) (j := 1) d_C_take_62 mw_1_32 q7.1 q7.2 (by decide) (by decide) rfl ?_
      exact zw_iret d_C_take_65 hr h
    · have h := hf hc; clear ht hf
      refine zw_aload_n d_C_take_36 rfl rfl ?_
      obtain ⟨c8, q9, h⟩ := h
      refine zw_gfr (ci := 0) (j := 0) d_C_take_37 mw_2_50 q1.1 q1.2 (by decide) (by decide) rfl q9 ?_
      refine zw_aload_n d_C_take_40 rfl rfl ?_
      obtain ⟨c10, q11, h⟩ := h
      refine zw_gfr (ci := 0) (j := 1) d_C_take_41 mw_2_51 q1.1 q1.2 (by decide) (by decide) rfl q11 ?_
      refine zw_iload_n d_C_take_44 rfl rfl ?_
      refine zw_i2l d_C_take_45 ?_
      obtain ⟨q14, h⟩ := h
      refine zw_callV (ci := 1) (b := c10) (As := [.long (Int32.toInt64 a1)]) (r := [.ref c8]) d_C_take_46 (c_T_byteAt h) mw_2_214 mw_2_97 mw_2_98 mw_1_2 mw_2_99 (by decide) q14.1 q14.2 hyV_T_byteAt (Nat.le_of_ble_eq_true rfl) (Nat.le_of_ble_eq_true rfl) ⟨(Nat.le_of_ble_eq_true rfl), (Nat.le_of_ble_eq_true rfl)⟩ (Nat.le_of_ble_eq_true rfl) rfl (zk_i (fun x12 σ13 h => ?_))
      obtain ⟨q17, h⟩ := h
      refine zw_callV (ci := 1) (b := c8) (As := [.int x12]) (r := []) d_C_take_49 (c_T_append h) mw_2_219 mw_2_181 mw_2_182 mw_1_2 mw_2_183 (by decide) q17.1 q17.2 hyV_T_append (Nat.le_of_ble_eq_true rfl) (Nat.le_of_ble_eq_true rfl) ⟨(Nat.le_of_ble_eq_true rfl), (Nat.le_of_ble_eq_true rfl)⟩ (Nat.le_of_ble_eq_true rfl) rfl (zk_v (fun σ16 h => ?_))
      refine zw_iinc (v := (a1 + (1 : Int32))) d_C_take_52 rfl rfl (Nat.le_of_ble_eq_true rfl) rfl rfl ?_
      refine zw_goto (tgt := 25) d_C_take_55 rfl ?_
      exact ih _ _ _ h
def P_C_take (n : Nat) (a0 : Nat) (σ : zS) (Q : Int32 → zS → Prop) : Prop := zk n a0 0 ∧ ∃ c2, zr σ a0 1 = some c2 ∧ zk n c2 1 ∧ (((zi σ c2 1) ≤ (700 : Int32) → ∃ c5, zr σ a0 0 = some c5 ∧ zk n c5 1 ∧ ∃ g, P_C_take_25 n Q g a0 (0 : Int32) (zI σ c5 1 (0 : Int32))) ∧ (¬ ((zi σ c2 1) ≤ (700 : Int32)) → Q (-1 : Int32) σ))
set_option maxHeartbeats 1000000 in
set_option maxRecDepth 10000 in
theorem w_C_take {Q : Int32 → zS → Prop} (hr : meth.sig.returnType = some .int) {a0 : Nat} {σ : zS} (h : P_C_take n a0 σ Q) : zG p l e (zrm 2 0 0) s m args below meth c (MQ below (zQc (zA base) D cA base n ex (zqi Q)) args s 0 0 (zA base)) s.heap (zA base) base D cA 2 ex prog_1_method_13_code "ConstantFlow" n 0 0 0 [some (.ref a0), none] [] σ := by
  unfold P_C_take at h
  refine zw_aload_n d_C_take_0 rfl rfl ?_
  obtain ⟨q1, h⟩ := h
  obtain ⟨c2, q3, h⟩ := h
  refine zw_gfr (ci := 0) (j := 1) d_C_take_1 mw_2_51 q1.1 q1.2 (by decide) (by decide) rfl q3 ?_
  obtain ⟨q4, h⟩ := h
  refine zw_gfiN (ci := 1) (j := 1) d_C_take_4 mw_1_32 q4.1 q4.2 (by decide) (by decide) rfl ?_
  refine zw_sipush (v := 700) d_C_take_7 rfl ?_
  obtain ⟨ht, hf⟩ := h
  refine zw_icmp_le (tgt := 15) d_C_take_10 rfl (fun hc => ?_) (fun hc => ?_)
  · have h := ht hc; clear ht hf
    refine zw_aload_n d_C_take_15 rfl rfl ?_
    obtain ⟨c5, q6, h⟩ := h
    refine zw_gfr (ci := 0) (j := 0) d_C_take_16 mw_2_50 q1.1 q1.2 (by decide) (by decide) rfl q6 ?_
    refine zw_iconst (v := 0) d_C_take_19 rfl ?_
    obtain ⟨q7, h⟩ := h
    refine zw_pfiN (ci := 1) (j := 1) d_C_take_20 mw_1_32 q7.1 q7.2 (by decide) (by decide) rfl rfl rfl rfl ?_
    refine zw_iconst (v := 0) d_C_take_23 rfl ?_
    refine zw_istore_n d_C_take_24 rfl (Nat.le_of_ble_eq_true rfl) rfl rfl ?_
    obtain ⟨g, h⟩ := h
    exact w_C_take_25 hr g _ _ _ h
  · have h := hf hc; clear ht hf
    refine zw_iconst (v := -1) d_C_take_13 rfl ?_
    exact zw_iret d_C_take_14 hr h
theorem c_C_take {l : Launch} {D : va_G} {cA : Nat → ClassId} {base n : Nat} {ex : Bool} {Q : Int32 → zS → Prop} {a0 : Nat} {σ : zS} (h : P_C_take n a0 σ Q) : zM l y_C_take prog_1_method_13_code 2 (some .int) 2 0 0 (zA base) D cA base n n ex [.ref a0] σ (zqi Q) :=
  zMet (by decide) rfl (Nat.le_of_ble_eq_true rfl) (fun p e s m args below meth c hr hnm => w_C_take hr h)
def P_F_comeTo_56 (n : Nat) (Q : zS → Prop) (σ : zS) : Prop := Q σ
set_option maxHeartbeats 1000000 in
set_option maxRecDepth 10000 in
theorem w_F_comeTo_56 {Q : zS → Prop} (hr : meth.sig.returnType = none) {σ : zS} (h : P_F_comeTo_56 n Q σ) : zG p l e (zrm 2 0 0) s m args below meth c (MQ below (zQc (zA base) D cA base n ex (zqv Q)) args s 0 0 (zA base)) s.heap (zA base) base D cA 3 ex prog_2_method_6_code "ConstantFlow$Facts" n 0 0 56 [none, none, none] [] σ := by
  unfold P_F_comeTo_56 at h
  exact zw_vret d_F_comeTo_56 hr h
def P_F_comeTo (n : Nat) (a0 : Nat) (a1 : Int32) (a2 : Nat) (σ : zS) (Q : zS → Prop) : Prop := zk n a0 3 ∧ ∃ c2, zr σ a0 0 = some c2 ∧ za n c2 11 a1 ∧ ((¬ (zi σ c2 a1.toNatClampNeg) = 0 → ∃ c5, zr σ a0 2 = some c5 ∧ za n c5 13 a1 ∧ ∃ c8, zr σ c5 a1.toNatClampNeg = some c8 ∧ zk n c8 4 ∧ P_V_join n c8 a2 σ (fun x10 σ11 => ((x10 = 0 → P_F_comeTo_56 n Q σ11) ∧ (¬ (x10 = 0) → ∃ c13, zr σ11 a0 1 = some c13 ∧ za n c13 11 a1 ∧ P_F_comeTo_56 n Q (zI σ11 c13 a1.toNatClampNeg (vp_nar .boolean (1 : Int32))))))) ∧ ((zi σ c2 a1.toNatClampNeg) = 0 → ∃ c16, zr σ a0 0 = some c16 ∧ za n c16 11 a1 ∧ ∃ c19, zr (zI σ c16 a1.toNatClampNeg (vp_nar .boolean (1 : Int32))) a0 1 = some c19 ∧ za n c19 11 a1 ∧ ∃ c22, zr (zI (zI σ c16 a1.toNatClampNeg (vp_nar .boolean (1 : Int32))) c19 a1.toNatClampNeg (vp_nar .boolean (1 : Int32))) a0 2 = some c22 ∧ za n c22 13 a1 ∧ ∃ c25, zr (zI (zI σ c16 a1.toNatClampNeg (vp_nar .boolean (1 : Int32))) c19 a1.toNatClampNeg (vp_nar .boolean (1 : Int32))) c22 a1.toNatClampNeg = some c25 ∧ zk n c25 4 ∧ P_V_become n c25 a2 (zI (zI σ c16 a1.toNatClampNeg (vp_nar .boolean (1 : Int32))) c19 a1.toNatClampNeg (vp_nar .boolean (1 : Int32))) (fun σ28 => P_F_comeTo_56 n Q σ28)))
set_option maxHeartbeats 1000000 in
set_option maxRecDepth 10000 in
theorem w_F_comeTo {Q : zS → Prop} (hr : meth.sig.returnType = none) {a0 : Nat} {a1 : Int32} {a2 : Nat} {σ : zS} (h : P_F_comeTo n a0 a1 a2 σ Q) : zG p l e (zrm 2 0 0) s m args below meth c (MQ below (zQc (zA base) D cA base n ex (zqv Q)) args s 0 0 (zA base)) s.heap (zA base) base D cA 3 ex prog_2_method_6_code "ConstantFlow$Facts" n 0 0 0 [some (.ref a0), some (.int a1), some (.ref a2)] [] σ := by
  unfold P_F_comeTo at h
  refine zw_aload_n d_F_comeTo_0 rfl rfl ?_
  obtain ⟨q1, h⟩ := h
  obtain ⟨c2, q3, h⟩ := h
  refine zw_gfr (ci := 3) (j := 0) d_F_comeTo_1 mw_1_95 q1.1 q1.2 (by decide) (by decide) rfl q3 ?_
  refine zw_iload_n d_F_comeTo_4 rfl rfl ?_
  obtain ⟨q4, h⟩ := h
  refine zw_zald d_F_comeTo_5 q4.1 (zkd_eta q4.2.1) q4.2.2 ?_
  obtain ⟨ht, hf⟩ := h
  refine zw_if_ne (tgt := 36) d_F_comeTo_6 rfl (fun hc => ?_) (fun hc => ?_)
  · have h := ht hc; clear ht hf
    refine zw_aload_n d_F_comeTo_36 rfl rfl ?_
    obtain ⟨c5, q6, h⟩ := h
    refine zw_gfr (ci := 3) (j := 2) d_F_comeTo_37 mw_1_98 q1.1 q1.2 (by decide) (by decide) rfl q6 ?_
    refine zw_iload_n d_F_comeTo_40 rfl rfl ?_
    obtain ⟨q7, h⟩ := h
    obtain ⟨c8, q9, h⟩ := h
    refine zw_aald d_F_comeTo_41 q7.1 (zkd_eta q7.2.1) q7.2.2 q9 ?_
    refine zw_aload_n d_F_comeTo_42 rfl rfl ?_
    obtain ⟨q12, h⟩ := h
    refine zw_callV (ci := 4) (b := c8) (As := [.ref a2]) (r := []) d_F_comeTo_43 (c_V_join h) mw_1_215 mw_1_216 mw_1_217 mw_1_5 mw_1_218 (by decide) q12.1 q12.2 hyV_V_join (Nat.le_of_ble_eq_true rfl) (Nat.le_of_ble_eq_true rfl) ⟨(Nat.le_of_ble_eq_true rfl), (Nat.le_of_ble_eq_true rfl)⟩ (Nat.le_of_ble_eq_true rfl) rfl (zk_i (fun x10 σ11 h => ?_))
    obtain ⟨ht, hf⟩ := h
    refine zw_if_eq (tgt := 56) d_F_comeTo_46 rfl (fun hc => ?_) (fun hc => ?_)
    · have h := ht hc; clear ht hf
      refine zw_le (ls' := [none, none, none]) (True.intro) ?_
      exact w_F_comeTo_56 hr h
    · have h := hf hc; clear ht hf
      refine zw_aload_n d_F_comeTo_49 rfl rfl ?_
      obtain ⟨c13, q14, h⟩ := h
      refine zw_gfr (ci := 3) (j := 1) d_F_comeTo_50 mw_1_97 q1.1 q1.2 (by decide) (by decide) rfl q14 ?_
      refine zw_iload_n d_F_comeTo_53 rfl rfl ?_
      refine zw_iconst (v := 1) d_F_comeTo_54 rfl ?_
      obtain ⟨q15, h⟩ := h
      refine zw_zast d_F_comeTo_55 q15.1 (zkd_eta q15.2.1) q15.2.2 ?_
      refine zw_le (ls' := [none, none, none]) (True.intro) ?_
      exact w_F_comeTo_56 hr h
  · have h := hf hc; clear ht hf
    refine zw_aload_n d_F_comeTo_9 rfl rfl ?_
    obtain ⟨c16, q17, h⟩ := h
    refine zw_gfr (ci := 3) (j := 0) d_F_comeTo_10 mw_1_95 q1.1 q1.2 (by decide) (by decide) rfl q17 ?_
    refine zw_iload_n d_F_comeTo_13 rfl rfl ?_
    refine zw_iconst (v := 1) d_F_comeTo_14 rfl ?_
    obtain ⟨q18, h⟩ := h
    refine zw_zast d_F_comeTo_15 q18.1 (zkd_eta q18.2.1) q18.2.2 ?_
    refine zw_aload_n d_F_comeTo_16 rfl rfl ?_
    obtain ⟨c19, q20, h⟩ := h
    refine zw_gfr (ci := 3) (j := 1) d_F_comeTo_17 mw_1_97 q1.1 q1.2 (by decide) (by decide) rfl q20 ?_
    refine zw_iload_n d_F_comeTo_20 rfl rfl ?_
    refine zw_iconst (v := 1) d_F_comeTo_21 rfl ?_
    obtain ⟨q21, h⟩ := h
    refine zw_zast d_F_comeTo_22 q21.1 (zkd_eta q21.2.1) q21.2.2 ?_
    refine zw_aload_n d_F_comeTo_23 rfl rfl ?_
    obtain ⟨c22, q23, h⟩ := h
    refine zw_gfr (ci := 3) (j := 2) d_F_comeTo_24 mw_1_98 q1.1 q1.2 (by decide) (by decide) rfl q23 ?_
    refine zw_iload_n d_F_comeTo_27 rfl rfl ?_
    obtain ⟨q24, h⟩ := h
    obtain ⟨c25, q26, h⟩ := h
    refine zw_aald d_F_comeTo_28 q24.1 (zkd_eta q24.2.1) q24.2.2 q26 ?_
    refine zw_aload_n d_F_comeTo_29 rfl rfl ?_
    obtain ⟨q29, h⟩ := h
    refine zw_callV (ci := 4) (b := c25) (As := [.ref a2]) (r := []) d_F_comeTo_30 (c_V_become h) mw_1_211 mw_1_212 mw_1_213 mw_1_5 mw_1_214 (by decide) q29.1 q29.2 hyV_V_become (Nat.le_of_ble_eq_true rfl) (Nat.le_of_ble_eq_true rfl) ⟨(Nat.le_of_ble_eq_true rfl), (Nat.le_of_ble_eq_true rfl)⟩ (Nat.le_of_ble_eq_true rfl) rfl (zk_v (fun σ28 h => ?_))
    refine zw_goto (tgt := 56) d_F_comeTo_33 rfl ?_
    refine zw_le (ls' := [none, none, none]) (True.intro) ?_
    exact w_F_comeTo_56 hr h
theorem c_F_comeTo {l : Launch} {D : va_G} {cA : Nat → ClassId} {base n : Nat} {ex : Bool} {Q : zS → Prop} {a0 : Nat} {a1 : Int32} {a2 : Nat} {σ : zS} (h : P_F_comeTo n a0 a1 a2 σ Q) : zM l y_F_comeTo prog_2_method_6_code 3 (none) 2 0 0 (zA base) D cA base n n ex [.ref a0, .int a1, .ref a2] σ (zqv Q) :=
  zMet (by decide) rfl (Nat.le_of_ble_eq_true rfl) (fun p e s m args below meth c hr hnm => w_F_comeTo hr h)
def P_F_forks_32 (n : Nat) (Q : Int32 → zS → Prop) (b0 : Int32) (σ : zS) : Prop := (b0 = 0 ∨ b0 = 1) ∧ Q b0 σ
set_option maxHeartbeats 1000000 in
set_option maxRecDepth 10000 in
theorem w_F_forks_32 {Q : Int32 → zS → Prop} (hr : meth.sig.returnType = some .boolean) {b0 : Int32} {σ : zS} (h : P_F_forks_32 n Q b0 σ) : zG p l e (zrm 2 0 0) s m args below meth c (MQ below (zQc (zA base) D cA base n ex (zqi Q)) args s 0 0 (zA base)) s.heap (zA base) base D cA 3 ex prog_2_method_7_code "ConstantFlow$Facts" n 0 0 32 [none, none, none] [.int b0] σ := by
  unfold P_F_forks_32 at h
  obtain ⟨q1, h⟩ := h
  exact zw_zret d_F_forks_32 hr q1 h
def P_F_forks_31 (n : Nat) (Q : Int32 → zS → Prop) (σ : zS) : Prop := P_F_forks_32 n Q (0 : Int32) σ
set_option maxHeartbeats 1000000 in
set_option maxRecDepth 10000 in
theorem w_F_forks_31 {Q : Int32 → zS → Prop} (hr : meth.sig.returnType = some .boolean) {σ : zS} (h : P_F_forks_31 n Q σ) : zG p l e (zrm 2 0 0) s m args below meth c (MQ below (zQc (zA base) D cA base n ex (zqi Q)) args s 0 0 (zA base)) s.heap (zA base) base D cA 3 ex prog_2_method_7_code "ConstantFlow$Facts" n 0 0 31 [none, none, none] [] σ := by
  unfold P_F_forks_31 at h
  refine zw_iconst (v := 0) d_F_forks_31 rfl ?_
  exact w_F_forks_32 hr h
def P_F_forks (n : Nat) (a0 : Nat) (a1 : Nat) (a2 : Int32) (σ : zS) (Q : Int32 → zS → Prop) : Prop := zk n a1 6 ∧ ∃ c2, zr σ a1 7 = some c2 ∧ za n c2 10 a2 ∧ ((¬ (zi σ c2 a2.toNatClampNeg) = (2 : Int32) → P_F_forks_31 n Q σ) ∧ ((zi σ c2 a2.toNatClampNeg) = (2 : Int32) → zk n a0 3 ∧ ∃ c6, zr σ a0 3 = some c6 ∧ za n c6 13 a2 ∧ ∃ c9, zr σ c6 a2.toNatClampNeg = some c9 ∧ P_G_ofEnd n a2 σ (fun x11 σ12 => zk n c9 4 ∧ P_V_knows n c9 a1 x11 σ12 (fun x13 σ14 => ((¬ x13 = 0 → P_F_forks_31 n Q σ14) ∧ (x13 = 0 → P_F_forks_32 n Q (1 : Int32) σ14))))))
set_option maxHeartbeats 1000000 in
set_option maxRecDepth 10000 in
theorem w_F_forks {Q : Int32 → zS → Prop} (hr : meth.sig.returnType = some .boolean) {a0 : Nat} {a1 : Nat} {a2 : Int32} {σ : zS} (h : P_F_forks n a0 a1 a2 σ Q) : zG p l e (zrm 2 0 0) s m args below meth c (MQ below (zQc (zA base) D cA base n ex (zqi Q)) args s 0 0 (zA base)) s.heap (zA base) base D cA 3 ex prog_2_method_7_code "ConstantFlow$Facts" n 0 0 0 [some (.ref a0), some (.ref a1), some (.int a2)] [] σ := by
  unfold P_F_forks at h
  refine zw_aload_n d_F_forks_0 rfl rfl ?_
  obtain ⟨q1, h⟩ := h
  obtain ⟨c2, q3, h⟩ := h
  refine zw_gfrN (ci := 6) (j := 7) d_F_forks_1 mw_1_180 q1.1 q1.2 (by decide) (by decide) rfl q3 ?_
  refine zw_iload_n d_F_forks_4 rfl rfl ?_
  obtain ⟨q4, h⟩ := h
  refine zw_iald d_F_forks_5 q4.1 (zkd_eta q4.2.1) q4.2.2 ?_
  refine zw_iconst (v := 2) d_F_forks_6 rfl ?_
  obtain ⟨ht, hf⟩ := h
  refine zw_icmp_ne (tgt := 31) d_F_forks_7 rfl (fun hc => ?_) (fun hc => ?_)
  · have h := ht hc; clear ht hf
    refine zw_le (ls' := [none, none, none]) (True.intro) ?_
    exact w_F_forks_31 hr h
  · have h := hf hc; clear ht hf
    refine zw_aload_n d_F_forks_10 rfl rfl ?_
    obtain ⟨q5, h⟩ := h
    obtain ⟨c6, q7, h⟩ := h
    refine zw_gfr (ci := 3) (j := 3) d_F_forks_11 mw_1_99 q5.1 q5.2 (by decide) (by decide) rfl q7 ?_
    refine zw_iload_n d_F_forks_14 rfl rfl ?_
    obtain ⟨q8, h⟩ := h
    obtain ⟨c9, q10, h⟩ := h
    refine zw_aald d_F_forks_15 q8.1 (zkd_eta q8.2.1) q8.2.2 q10 ?_
    refine zw_aload_n d_F_forks_16 rfl rfl ?_
    refine zw_iload_n d_F_forks_17 rfl rfl ?_
    refine zw_callS (As := [.int a2]) (r := [.ref a1, .ref c9]) d_F_forks_18 (c_G_ofEnd h) mw_2_20 mw_2_21 mw_1_7 mw_2_22 hyS_G_ofEnd (Nat.le_of_ble_eq_true rfl) (Nat.le_of_ble_eq_true rfl) ⟨(Nat.le_of_ble_eq_true rfl), (Nat.le_of_ble_eq_true rfl)⟩ (Nat.le_of_ble_eq_true rfl) rfl (zk_i (fun x11 σ12 h => ?_))
    obtain ⟨q15, h⟩ := h
    refine zw_callV (ci := 4) (b := c9) (As := [.ref a1, .int x11]) (r := []) d_F_forks_21 (c_V_knows h) mw_2_23 mw_2_2 mw_2_3 mw_1_5 mw_2_4 (by decide) q15.1 q15.2 hyV_V_knows (Nat.le_of_ble_eq_true rfl) (Nat.le_of_ble_eq_true rfl) ⟨(Nat.le_of_ble_eq_true rfl), (Nat.le_of_ble_eq_true rfl)⟩ (Nat.le_of_ble_eq_true rfl) rfl (zk_i (fun x13 σ14 h => ?_))
    obtain ⟨ht, hf⟩ := h
    refine zw_if_ne (tgt := 31) d_F_forks_24 rfl (fun hc => ?_) (fun hc => ?_)
    · have h := ht hc; clear ht hf
      refine zw_le (ls' := [none, none, none]) (True.intro) ?_
      exact w_F_forks_31 hr h
    · have h := hf hc; clear ht hf
      refine zw_iconst (v := 1) d_F_forks_27 rfl ?_
      refine zw_goto (tgt := 32) d_F_forks_28 rfl ?_
      refine zw_le (ls' := [none, none, none]) (True.intro) ?_
      exact w_F_forks_32 hr h
theorem c_F_forks {l : Launch} {D : va_G} {cA : Nat → ClassId} {base n : Nat} {ex : Bool} {Q : Int32 → zS → Prop} {a0 : Nat} {a1 : Nat} {a2 : Int32} {σ : zS} (h : P_F_forks n a0 a1 a2 σ Q) : zM l y_F_forks prog_2_method_7_code 3 (some .boolean) 2 0 0 (zA base) D cA base n n ex [.ref a0, .ref a1, .int a2] σ (zqi Q) :=
  zMet (by decide) rfl (Nat.le_of_ble_eq_true rfl) (fun p e s m args below meth c hr hnm => w_F_forks hr h)
def P_X_valueOf (n : Nat) (a0 : Nat) (a1 : Nat) (a2 : Int32) (σ : zS) (Q : Int32 → zS → Prop) : Prop := zk n a1 6 ∧ ∃ c2, zr σ a1 4 = some c2 ∧ za n c2 10 a2 ∧ ((¬ (zi σ c2 a2.toNatClampNeg) = 0 → P_G_left n a2 σ (fun x5 σ6 => zk n a0 5 ∧ P_X_operand n a0 a1 x5 σ6 (fun x7 σ8 => P_G_right n a2 σ8 (fun x10 σ11 => P_X_operand n a0 a1 x10 σ11 (fun x12 σ13 => P_C_reckon n (zi σ c2 a2.toNatClampNeg) x7 x12 σ13 (fun x14 σ15 => Q x14 σ15)))))) ∧ ((zi σ c2 a2.toNatClampNeg) = 0 → zk n a0 5 ∧ P_X_nextInput n a0 σ (fun x16 σ17 => Q x16 σ17)))
set_option maxHeartbeats 1000000 in
set_option maxRecDepth 10000 in
theorem w_X_valueOf {Q : Int32 → zS → Prop} (hr : meth.sig.returnType = some .int) {a0 : Nat} {a1 : Nat} {a2 : Int32} {σ : zS} (h : P_X_valueOf n a0 a1 a2 σ Q) : zG p l e (zrm 2 0 0) s m args below meth c (MQ below (zQc (zA base) D cA base n ex (zqi Q)) args s 0 0 (zA base)) s.heap (zA base) base D cA 6 ex prog_3_method_3_code "ConstantFlow$Machine" n 0 0 0 [some (.ref a0), some (.ref a1), some (.int a2), none, none, none] [] σ := by
  unfold P_X_valueOf at h
  refine zw_aload_n d_X_valueOf_0 rfl rfl ?_
  obtain ⟨q1, h⟩ := h
  obtain ⟨c2, q3, h⟩ := h
  refine zw_gfrN (ci := 6) (j := 4) d_X_valueOf_1 mw_1_167 q1.1 q1.2 (by decide) (by decide) rfl q3 ?_
  refine zw_iload_n d_X_valueOf_4 rfl rfl ?_
  obtain ⟨q4, h⟩ := h
  refine zw_iald d_X_valueOf_5 q4.1 (zkd_eta q4.2.1) q4.2.2 ?_
  refine zw_istore_n d_X_valueOf_6 rfl (Nat.le_of_ble_eq_true rfl) rfl rfl ?_
  refine zw_iload_n d_X_valueOf_7 rfl rfl ?_
  obtain ⟨ht, hf⟩ := h
  refine zw_if_ne (tgt := 16) d_X_valueOf_8 rfl (fun hc => ?_) (fun hc => ?_)
  · have h := ht hc; clear ht hf
    refine zw_aload_n d_X_valueOf_16 rfl rfl ?_
    refine zw_aload_n d_X_valueOf_17 rfl rfl ?_
    refine zw_iload_n d_X_valueOf_18 rfl rfl ?_
    refine zw_callS (As := [.int a2]) (r := [.ref a1, .ref a0]) d_X_valueOf_19 (c_G_left h) mw_3_162 mw_1_236 mw_1_7 mw_1_237 hyS_G_left (Nat.le_of_ble_eq_true rfl) (Nat.le_of_ble_eq_true rfl) ⟨(Nat.le_of_ble_eq_true rfl), (Nat.le_of_ble_eq_true rfl)⟩ (Nat.le_of_ble_eq_true rfl) rfl (zk_i (fun x5 σ6 h => ?_))
    obtain ⟨q9, h⟩ := h
    refine zw_callV (ci := 5) (b := a0) (As := [.ref a1, .int x5]) (r := []) d_X_valueOf_22 (c_X_operand h) mw_3_163 mw_3_165 mp_2_9 mw_1_6 mw_3_166 (by decide) q9.1 q9.2 hyV_X_operand (Nat.le_of_ble_eq_true rfl) (Nat.le_of_ble_eq_true rfl) ⟨(Nat.le_of_ble_eq_true rfl), (Nat.le_of_ble_eq_true rfl)⟩ (Nat.le_of_ble_eq_true rfl) rfl (zk_i (fun x7 σ8 h => ?_))
    refine zw_istore d_X_valueOf_25 (Nat.le_of_ble_eq_true rfl) rfl rfl ?_
    refine zw_aload_n d_X_valueOf_27 rfl rfl ?_
    refine zw_aload_n d_X_valueOf_28 rfl rfl ?_
    refine zw_iload_n d_X_valueOf_29 rfl rfl ?_
    refine zw_callS (As := [.int a2]) (r := [.ref a1, .ref a0]) d_X_valueOf_30 (c_G_right h) mw_3_167 mw_1_239 mw_1_7 mw_2_0 hyS_G_right (Nat.le_of_ble_eq_true rfl) (Nat.le_of_ble_eq_true rfl) ⟨(Nat.le_of_ble_eq_true rfl), (Nat.le_of_ble_eq_true rfl)⟩ (Nat.le_of_ble_eq_true rfl) rfl (zk_i (fun x10 σ11 h => ?_))
    refine zw_callV (ci := 5) (b := a0) (As := [.ref a1, .int x10]) (r := []) d_X_valueOf_33 (c_X_operand h) mw_3_163 mw_3_165 mp_2_9 mw_1_6 mw_3_166 (by decide) q9.1 q9.2 hyV_X_operand (Nat.le_of_ble_eq_true rfl) (Nat.le_of_ble_eq_true rfl) ⟨(Nat.le_of_ble_eq_true rfl), (Nat.le_of_ble_eq_true rfl)⟩ (Nat.le_of_ble_eq_true rfl) rfl (zk_i (fun x12 σ13 h => ?_))
    refine zw_istore d_X_valueOf_36 (Nat.le_of_ble_eq_true rfl) rfl rfl ?_
    refine zw_iload_n d_X_valueOf_38 rfl rfl ?_
    refine zw_iload d_X_valueOf_39 rfl ?_
    refine zw_iload d_X_valueOf_41 rfl ?_
    refine zw_callSN (As := [.int (zi σ c2 a2.toNatClampNeg), .int x7, .int x12]) (r := []) d_X_valueOf_43 (c_C_reckon h) mw_3_168 mw_2_14 mw_1_1 mw_2_15 hyS_C_reckon (Nat.le_of_ble_eq_true rfl) (Nat.le_of_ble_eq_true rfl) ⟨(Nat.le_of_ble_eq_true rfl), (Nat.le_of_ble_eq_true rfl)⟩ (Nat.le_of_ble_eq_true rfl) rfl (zk_i (fun x14 σ15 h => ?_))
    exact zw_iret d_X_valueOf_46 hr h
  · have h := hf hc; clear ht hf
    refine zw_aload_n d_X_valueOf_11 rfl rfl ?_
    obtain ⟨q18, h⟩ := h
    refine zw_callV (ci := 5) (b := a0) (As := []) (r := []) d_X_valueOf_12 (c_X_nextInput h) mw_3_158 mw_3_160 mp_2_8 mw_1_6 mw_3_161 (by decide) q18.1 q18.2 hyV_X_nextInput (Nat.le_of_ble_eq_true rfl) (Nat.le_of_ble_eq_true rfl) ⟨(Nat.le_of_ble_eq_true rfl), (Nat.le_of_ble_eq_true rfl)⟩ (Nat.le_of_ble_eq_true rfl) rfl (zk_i (fun x16 σ17 h => ?_))
    exact zw_iret d_X_valueOf_15 hr h
theorem c_X_valueOf {l : Launch} {D : va_G} {cA : Nat → ClassId} {base n : Nat} {ex : Bool} {Q : Int32 → zS → Prop} {a0 : Nat} {a1 : Nat} {a2 : Int32} {σ : zS} (h : P_X_valueOf n a0 a1 a2 σ Q) : zM l y_X_valueOf prog_3_method_3_code 6 (some .int) 2 0 0 (zA base) D cA base n n ex [.ref a0, .ref a1, .int a2] σ (zqi Q) :=
  zMet (by decide) rfl (Nat.le_of_ble_eq_true rfl) (fun p e s m args below meth c hr hnm => w_X_valueOf hr h)
def P_G_goal (n : Nat) (a0 : Nat) (a1 : Int32) (a2 : Int32) (σ : zS) (Q : Int32 → zS → Prop) : Prop := zk n a0 6 ∧ ∃ c2, zr σ a0 8 = some c2 ∧ P_G_goalSlot n a1 a2 σ (fun x4 σ5 => za n c2 10 x4 ∧ Q (zi σ5 c2 x4.toNatClampNeg) σ5)
set_option maxHeartbeats 1000000 in
set_option maxRecDepth 10000 in
theorem w_G_goal {Q : Int32 → zS → Prop} (hr : meth.sig.returnType = some .int) {a0 : Nat} {a1 : Int32} {a2 : Int32} {σ : zS} (h : P_G_goal n a0 a1 a2 σ Q) : zG p l e (zrm 2 0 0) s m args below meth c (MQ below (zQc (zA base) D cA base n ex (zqi Q)) args s 0 0 (zA base)) s.heap (zA base) base D cA 3 ex prog_4_method_9_code "ConstantFlow$Program" n 0 0 0 [some (.ref a0), some (.int a1), some (.int a2)] [] σ := by
  unfold P_G_goal at h
  refine zw_aload_n d_G_goal_0 rfl rfl ?_
  obtain ⟨q1, h⟩ := h
  obtain ⟨c2, q3, h⟩ := h
  refine zw_gfr (ci := 6) (j := 8) d_G_goal_1 mw_1_182 q1.1 q1.2 (by decide) (by decide) rfl q3 ?_
  refine zw_iload_n d_G_goal_4 rfl rfl ?_
  refine zw_iload_n d_G_goal_5 rfl rfl ?_
  refine zw_callS (As := [.int a1, .int a2]) (r := [.ref c2]) d_G_goal_6 (c_G_goalSlot h) mw_2_28 mw_2_29 mw_1_7 mw_2_30 hyS_G_goalSlot (Nat.le_of_ble_eq_true rfl) (Nat.le_of_ble_eq_true rfl) ⟨(Nat.le_of_ble_eq_true rfl), (Nat.le_of_ble_eq_true rfl)⟩ (Nat.le_of_ble_eq_true rfl) rfl (zk_i (fun x4 σ5 h => ?_))
  obtain ⟨q6, h⟩ := h
  refine zw_iald d_G_goal_9 q6.1 (zkd_eta q6.2.1) q6.2.2 ?_
  exact zw_iret d_G_goal_10 hr h
theorem c_G_goal {l : Launch} {D : va_G} {cA : Nat → ClassId} {base n : Nat} {ex : Bool} {Q : Int32 → zS → Prop} {a0 : Nat} {a1 : Int32} {a2 : Int32} {σ : zS} (h : P_G_goal n a0 a1 a2 σ Q) : zM l y_G_goal prog_4_method_9_code 3 (some .int) 2 0 0 (zA base) D cA base n n ex [.ref a0, .int a1, .int a2] σ (zqi Q) :=
  zMet (by decide) rfl (Nat.le_of_ble_eq_true rfl) (fun p e s m args below meth c hr hnm => w_G_goal hr h)
end
