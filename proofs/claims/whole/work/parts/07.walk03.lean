section
variable {p : Program} {l : Launch} {e : Env} {s : State} {m : MethodId} {args : Array Value} {below : List Frame} {meth : Method} {c : Code} {base : Nat} {D : va_G} {cA : Nat → ClassId} {ex : Bool} {n : Nat}
def P_R_passNumber_200 (n : Nat) (Q : Int32 → zS → Prop) (b0 : Int32) (σ : zS) : Prop := (b0 = 0 ∨ b0 = 1) ∧ Q b0 σ
set_option maxHeartbeats 1000000 in
set_option maxRecDepth 10000 in
theorem w_R_passNumber_200 {Q : Int32 → zS → Prop} (hr : meth.sig.returnType = some .boolean) {b0 : Int32} {σ : zS} (h : P_R_passNumber_200 n Q b0 σ) : zG p l e (zrm 2 0 0) s m args below meth c (MQ below (zQc (zA base) D cA base n ex (zqi Q)) args s 0 0 (zA base)) s.heap (zA base) base D cA 8 ex prog_5_method_11_code "ConstantFlow$Reader" n 0 0 200 [none, none, none, none, none, none, none, none] [.int b0] σ := by
  unfold P_R_passNumber_200 at h
  obtain ⟨q1, h⟩ := h
  exact zw_zret d_R_passNumber_200 hr q1 h
def P_R_passNumber_195 (n : Nat) (Q : Int32 → zS → Prop) (σ : zS) : Prop := P_R_passNumber_200 n Q (1 : Int32) σ
set_option maxHeartbeats 1000000 in
set_option maxRecDepth 10000 in
theorem w_R_passNumber_195 {Q : Int32 → zS → Prop} (hr : meth.sig.returnType = some .boolean) {σ : zS} (h : P_R_passNumber_195 n Q σ) : zG p l e (zrm 2 0 0) s m args below meth c (MQ below (zQc (zA base) D cA base n ex (zqi Q)) args s 0 0 (zA base)) s.heap (zA base) base D cA 8 ex prog_5_method_11_code "ConstantFlow$Reader" n 0 0 195 [none, none, none, none, none, none, none, none] [] σ := by
  unfold P_R_passNumber_195 at h
  refine zw_iconst (v := 1) d_R_passNumber_195 rfl ?_
  refine zw_goto (tgt := 200) d_R_passNumber_196 rfl ?_
  exact w_R_passNumber_200 hr h
def P_R_passNumber_166 (n : Nat) (Q : Int32 → zS → Prop) (a0 : Nat) (a2 : Int32) (b0 : Int64) (σ : zS) : Prop := zk n a0 2 ∧ (((lg_cmp (Int32.toInt64 (zi (zI σ a0 4 (Int64.toInt32 b0)) a0 4)) b0) = 0 → P_R_passNumber_195 n Q (zI σ a0 4 (Int64.toInt32 b0))) ∧ (¬ ((lg_cmp (Int32.toInt64 (zi (zI σ a0 4 (Int64.toInt32 b0)) a0 4)) b0) = 0) → P_R_refuse n a0 (2 : Int32) a2 (zI σ a0 4 (Int64.toInt32 b0)) (fun x2 σ3 => ((x2 = 0 → P_R_passNumber_200 n Q (0 : Int32) σ3) ∧ (¬ (x2 = 0) → P_R_passNumber_195 n Q σ3)))))
set_option maxHeartbeats 1000000 in
set_option maxRecDepth 10000 in
theorem w_R_passNumber_166 {Q : Int32 → zS → Prop} (hr : meth.sig.returnType = some .boolean) {a0 : Nat} {a2 : Int32} {b0 : Int64} {σ : zS} (h : P_R_passNumber_166 n Q a0 a2 b0 σ) : zG p l e (zrm 2 0 0) s m args below meth c (MQ below (zQc (zA base) D cA base n ex (zqi Q)) args s 0 0 (zA base)) s.heap (zA base) base D cA 8 ex prog_5_method_11_code "ConstantFlow$Reader" n 0 0 166 [some (.ref a0), none, some (.int a2), none, none, none, none, none] [.long b0] σ := by
  unfold P_R_passNumber_166 at h
  refine zw_lstore d_R_passNumber_166 (Nat.le_of_ble_eq_true rfl) rfl rfl ?_
  refine zw_aload_n d_R_passNumber_168 rfl rfl ?_
  refine zw_lload d_R_passNumber_169 rfl ?_
  refine zw_l2i d_R_passNumber_171 ?_
  obtain ⟨q1, h⟩ := h
  refine zw_pfi (ci := 2) (j := 4) d_R_passNumber_172 mw_1_51 q1.1 q1.2 (by decide) (by decide) rfl rfl rfl rfl ?_
  refine zw_aload_n d_R_passNumber_175 rfl rfl ?_
  refine zw_gfi (ci := 2) (j := 4) d_R_passNumber_176 mw_1_51 q1.1 q1.2 (by decide) (by decide) rfl ?_
  refine zw_i2l d_R_passNumber_179 ?_
  refine zw_lload d_R_passNumber_180 rfl ?_
  refine zw_lcmp d_R_passNumber_182 ?_
  obtain ⟨ht, hf⟩ := h
  refine zw_if_eq (tgt := 195) d_R_passNumber_183 rfl (fun hc => ?_) (fun hc => ?_)
  · have h := ht hc; clear ht hf
    refine zw_le (ls' := [none, none, none, none, none, none, none, none]) (True.intro) ?_
    exact w_R_passNumber_195 hr h
  · have h := hf hc; clear ht hf
    refine zw_aload_n d_R_passNumber_186 rfl rfl ?_
    refine zw_iconst (v := 2) d_R_passNumber_187 rfl ?_
    refine zw_iload_n d_R_passNumber_188 rfl rfl ?_
    refine zw_callV (ci := 2) (b := a0) (As := [.int (2 : Int32), .int a2]) (r := []) d_R_passNumber_189 (c_R_refuse h) mw_2_103 mw_2_105 mp_1_9 mw_1_3 mw_2_106 (by decide) q1.1 q1.2 hyV_R_refuse (Nat.le_of_ble_eq_true rfl) (Nat.le_of_ble_eq_true rfl) ⟨(Nat.le_of_ble_eq_true rfl), (Nat.le_of_ble_eq_true rfl)⟩ (Nat.le_of_ble_eq_true rfl) rfl (zk_i (fun x2 σ3 h => ?_))
    obtain ⟨ht, hf⟩ := h
    refine zw_if_eq (tgt := 199) d_R_passNumber_192 rfl (fun hc => ?_) (fun hc => ?_)
    · have h := ht hc; clear ht hf
      refine zw_iconst (v := 0) d_R_passNumber_199 rfl ?_
      refine zw_le (ls' := [none, none, none, none, none, none, none, none]) (True.intro) ?_
      exact w_R_passNumber_200 hr h
    · have h := hf hc; clear ht hf
      refine zw_le (ls' := [none, none, none, none, none, none, none, none]) (True.intro) ?_
      exact w_R_passNumber_195 hr h
def P_R_passNumber_154 (n : Nat) (Q : Int32 → zS → Prop) (a0 : Nat) (a2 : Int32) (a3 : Int32) (a4 : Int64) (σ : zS) : Prop := ((a3 = 0 → P_R_passNumber_166 n Q a0 a2 a4 σ) ∧ (¬ (a3 = 0) → P_R_passNumber_166 n Q a0 a2 (-a4) σ))
set_option maxHeartbeats 1000000 in
set_option maxRecDepth 10000 in
theorem w_R_passNumber_154 {Q : Int32 → zS → Prop} (hr : meth.sig.returnType = some .boolean) {a0 : Nat} {a2 : Int32} {a3 : Int32} {a4 : Int64} {σ : zS} (h : P_R_passNumber_154 n Q a0 a2 a3 a4 σ) : zG p l e (zrm 2 0 0) s m args below meth c (MQ below (zQc (zA base) D cA base n ex (zqi Q)) args s 0 0 (zA base)) s.heap (zA base) base D cA 8 ex prog_5_method_11_code "ConstantFlow$Reader" n 0 0 154 [some (.ref a0), none, some (.int a2), some (.int a3), some (.long a4), none, none, none] [] σ := by
  unfold P_R_passNumber_154 at h
  refine zw_iload_n d_R_passNumber_154 rfl rfl ?_
  obtain ⟨ht, hf⟩ := h
  refine zw_if_eq (tgt := 164) d_R_passNumber_155 rfl (fun hc => ?_) (fun hc => ?_)
  · have h := ht hc; clear ht hf
    refine zw_lload d_R_passNumber_164 rfl ?_
    refine zw_le (ls' := [some (.ref a0), none, some (.int a2), none, none, none, none, none]) (And.intro rfl (And.intro rfl True.intro)) ?_
    exact w_R_passNumber_166 hr h
  · have h := hf hc; clear ht hf
    refine zw_lload d_R_passNumber_158 rfl ?_
    refine zw_lneg d_R_passNumber_160 ?_
    refine zw_goto (tgt := 166) d_R_passNumber_161 rfl ?_
    refine zw_le (ls' := [some (.ref a0), none, some (.int a2), none, none, none, none, none]) (And.intro rfl (And.intro rfl True.intro)) ?_
    exact w_R_passNumber_166 hr h
def P_R_passNumber_77 (n : Nat) (Q : Int32 → zS → Prop) : Nat → Nat → Int32 → Int32 → Int64 → zS → Prop
  | 0, _, _, _, _, _ => False
  | f + 1, a0, a2, a3, a4, σ => zk n a0 2 ∧ ∃ c2, zr σ a0 0 = some c2 ∧ zk n c2 1 ∧ (((zi σ c2 1) ≤ (zi σ a0 3) → P_R_passNumber_154 n Q a0 a2 a3 a4 σ) ∧ (¬ ((zi σ c2 1) ≤ (zi σ a0 3)) → ∃ c5, zr σ a0 0 = some c5 ∧ zk n c5 1 ∧ P_T_byteAt n c5 (Int32.toInt64 (zi σ a0 3)) σ (fun x7 σ8 => P_C_isFigure n x7 σ8 (fun x10 σ11 => ((x10 = 0 → P_R_passNumber_154 n Q a0 a2 a3 a4 σ11) ∧ (¬ (x10 = 0) → ∃ c12, zr σ11 a0 0 = some c12 ∧ zk n c12 1 ∧ P_T_byteAt n c12 (Int32.toInt64 (zi σ11 a0 3)) σ11 (fun x14 σ15 => P_R_passNumber_77 n Q f a0 a2 a3 (if (1099511627776 : Int64) < (((a4 * (10 : Int64)) + (Int32.toInt64 x14)) - (48 : Int64)) then (1099511627776 : Int64) else (((a4 * (10 : Int64)) + (Int32.toInt64 x14)) - (48 : Int64))) (zI σ15 a0 3 ((zi σ15 a0 3) + (1 : Int32))))))))))
set_option maxHeartbeats 1000000 in
set_option maxRecDepth 10000 in
theorem w_R_passNumber_77 {Q : Int32 → zS → Prop} (hr : meth.sig.returnType = some .boolean) : ∀ (f : Nat) (a0 : Nat) (a2 : Int32) (a3 : Int32) (a4 : Int64) (σ : zS), P_R_passNumber_77 n Q f a0 a2 a3 a4 σ → zG p l e (zrm 2 0 0) s m args below meth c (MQ below (zQc (zA base) D cA base n ex (zqi Q)) args s 0 0 (zA base)) s.heap (zA base) base D cA 8 ex prog_5_method_11_code "ConstantFlow$Reader" n 0 0 77 [some (.ref a0), none, some (.int a2), some (.int a3), some (.long a4), none, none, none] [] σ := by
  intro f
  induction f with
  | zero => intro a0 a2 a3 a4 σ h; exact False.elim h
  | succ f ih =>
    intro a0 a2 a3 a4 σ h
    refine zw_aload_n d_R_passNumber_77 rfl rfl ?_
    obtain ⟨q1, h⟩ := h
    refine zw_gfi (ci := 2) (j := 3) d_R_passNumber_78 mw_1_50 q1.1 q1.2 (by decide) (by decide) rfl ?_
    refine zw_aload_n d_R_passNumber_81 rfl rfl ?_
    obtain ⟨c2, q3, h⟩ := h
    refine zw_gfr (ci := 2) (j := 0) d_R_passNumber_82 mw_1_47 q1.1 q1.2 (by decide) (by decide) rfl q3 ?_
    obtain ⟨q4, h⟩ := h
    refine zw_gfiN (ci := 1) (j := 1) d_R_passNumber_85 mw_1_33 q4.1 q4.2 (by decide) (by decide) rfl ?_
    obtain ⟨ht, hf⟩ := h
    refine zw_icmp_ge (tgt := 154) d_R_passNumber_88 rfl (fun hc => ?_) (fun hc => ?_)
    · have h := ht hc; clear ht hf
      exact w_R_passNumber_154 hr h
    · have h := hf hc; clear ht hf
      refine zw_aload_n d_R_passNumber_91 rfl rfl ?_
      obtain ⟨c5, q6, h⟩ := h
      refine zw_gfr (ci := 2) (j := 0) d_R_passNumber_92 mw_1_47 q1.1 q1.2 (by decide) (by decide) rfl q6 ?_
      refine zw_aload_n d_R_passNumber_95 rfl rfl ?_
      refine zw_gfi (ci := 2) (j := 3) d_R_passNumber_96 mw_1_50 q1.1 q1.2 (by decide) (by decide) rfl ?_
      refine zw_i2l d_R_passNumber_99 ?_
      obtain ⟨q9, h⟩ := h
      refine zw_callV (ci := 1) (b := c5) (As := [.long (Int32.toInt64 (zi σ a0 3))]) (r := []) d_R_passNumber_100 (c_T_byteAt h) mw_2_96 mw_2_97 mw_2_98 mw_1_2 mw_2_99 (by decide) q9.1 q9.2 hyV_T_byteAt (Nat.le_of_ble_eq_true rfl) (Nat.le_of_ble_eq_true rfl) ⟨(Nat.le_of_ble_eq_true rfl), (Nat.le_of_ble_eq_true rfl)⟩ (Nat.le_of_ble_eq_true rfl) rfl (zk_i (fun x7 σ8 h => ?_))
      refine zw_callSN (As := [.int x7]) (r := []) d_R_passNumber_103 (c_C_isFigure h) mw_2_128 mw_2_129 mw_1_1 mw_2_130 hyS_C_isFigure (Nat.le_of_ble_eq_true rfl) (Nat.le_of_ble_eq_true rfl) ⟨(Nat.le_of_ble_eq_true rfl), (Nat.le_of_ble_eq_true rfl)⟩ (Nat.le_of_ble_eq_true rfl) rfl (zk_i (fun x10 σ11 h => ?_))
      obtain ⟨ht, hf⟩ := h
      refine zw_if_eq (tgt := 154) d_R_passNumber_106 rfl (fun hc => ?_) (fun hc => ?_)
      · have h := ht hc; clear ht hf
        exact w_R_passNumber_154 hr h
      · have h := hf hc; clear ht hf
        refine zw_lload d_R_passNumber_109 rfl ?_
        refine zw_ldc2 (v := 10) d_R_passNumber_111 mw_2_131 ?_
        refine zw_lmul d_R_passNumber_114 ?_
        refine zw_aload_n d_R_passNumber_115 rfl rfl ?_
        obtain ⟨c12, q13, h⟩ := h
        refine zw_gfr (ci := 2) (j := 0) d_R_passNumber_116 mw_1_47 q1.1 q1.2 (by decide) (by decide) rfl q13 ?_
        refine zw_aload_n d_R_passNumber_119 rfl rfl ?_
        refine zw_gfi (ci := 2) (j := 3) d_R_passNumber_120 mw_1_50 q1.1 q1.2 (by decide) (by decide) rfl ?_
        refine zw_i2l d_R_passNumber_123 ?_
        obtain ⟨q16, h⟩ := h
        refine zw_callV (ci := 1) (b := c12) (As := [.long (Int32.toInt64 (zi σ11 a0 3))]) (r := [.long (a4 * (10 : Int64))]) d_R_passNumber_124 (c_T_byteAt h) mw_2_96 mw_2_97 mw_2_98 mw_1_2 mw_2_99 (by decide) q16.1 q16.2 hyV_T_byteAt (Nat.le_of_ble_eq_true rfl) (Nat.le_of_ble_eq_true rfl) ⟨(Nat.le_of_ble_eq_true rfl), (Nat.le_of_ble_eq_true rfl)⟩ (Nat.le_of_ble_eq_true rfl) rfl (zk_i (fun x14 σ15 h => ?_))
        refine zw_i2l d_R_passNumber_127 ?_
        refine zw_ladd d_R_passNumber_128 ?_
        refine zw_ldc2 (v := 48) d_R_passNumber_129 mw_2_132 ?_
        refine zw_lsub d_R_passNumber_132 ?_
        refine zw_ldc2 (v := 1099511627776) d_R_passNumber_133 mw_2_133 ?_
        refine zw_mmin d_R_passNumber_136 mw_2_134 mw_2_135 mw_1_13 mw_2_136 (Nat.le_of_ble_eq_true rfl) (Nat.le_of_ble_eq_true rfl) (Nat.le_of_ble_eq_true rfl) (Nat.le_of_ble_eq_true rfl) ?_
        refine zw_lstore d_R_passNumber_139 (Nat.le_of_ble_eq_true rfl) rfl rfl ?_
        refine zw_aload_n d_R_passNumber_141 rfl rfl ?_
        refine zw_dup d_R_passNumber_142 rfl ?_
        refine zw_gfi (ci := 2) (j := 3) d_R_passNumber_143 mw_1_50 q1.1 q1.2 (by decide) (by decide) rfl ?_
        refine zw_iconst (v := 1) d_R_passNumber_146 rfl ?_
        refine zw_iadd d_R_passNumber_147 ?_
        refine zw_pfi (ci := 2) (j := 3) d_R_passNumber_148 mw_1_50 q1.1 q1.2 (by decide) (by decide) rfl rfl rfl rfl ?_
        refine zw_goto (tgt := 77) d_R_passNumber_151 rfl ?_
        exact ih _ _ _ _ _ h
def P_R_passNumber_46 (n : Nat) (Q : Int32 → zS → Prop) (a0 : Nat) (a2 : Int32) (a3 : Int32) (σ : zS) : Prop := zk n a0 2 ∧ ∃ c2, zr σ a0 0 = some c2 ∧ zk n c2 1 ∧ P_T_byteAt n c2 (Int32.toInt64 (zi σ a0 3)) σ (fun x4 σ5 => P_C_isFigure n x4 σ5 (fun x7 σ8 => ((¬ x7 = 0 → ∃ g, P_R_passNumber_77 n Q g a0 a2 a3 (0 : Int64) σ8) ∧ (x7 = 0 → P_R_refuse n a0 (1 : Int32) (zi σ8 a0 3) σ8 (fun x9 σ10 => (x9 = 0 ∨ x9 = 1) ∧ Q x9 σ10)))))
set_option maxHeartbeats 1000000 in
set_option maxRecDepth 10000 in
theorem w_R_passNumber_46 {Q : Int32 → zS → Prop} (hr : meth.sig.returnType = some .boolean) {a0 : Nat} {a2 : Int32} {a3 : Int32} {σ : zS} (h : P_R_passNumber_46 n Q a0 a2 a3 σ) : zG p l e (zrm 2 0 0) s m args below meth c (MQ below (zQc (zA base) D cA base n ex (zqi Q)) args s 0 0 (zA base)) s.heap (zA base) base D cA 8 ex prog_5_method_11_code "ConstantFlow$Reader" n 0 0 46 [some (.ref a0), none, some (.int a2), some (.int a3), none, none, none, none] [] σ := by
  unfold P_R_passNumber_46 at h
  refine zw_aload_n d_R_passNumber_46 rfl rfl ?_
  obtain ⟨q1, h⟩ := h
  obtain ⟨c2, q3, h⟩ := h
  refine zw_gfr (ci := 2) (j := 0) d_R_passNumber_47 mw_1_47 q1.1 q1.2 (by decide) (by decide) rfl q3 ?_
  refine zw_aload_n d_R_passNumber_50 rfl rfl ?_
  refine zw_gfi (ci := 2) (j := 3) d_R_passNumber_51 mw_1_50 q1.1 q1.2 (by decide) (by decide) rfl ?_
  refine zw_i2l d_R_passNumber_54 ?_
  obtain ⟨q6, h⟩ := h
  refine zw_callV (ci := 1) (b := c2) (As := [.long (Int32.toInt64 (zi σ a0 3))]) (r := []) d_R_passNumber_55 (c_T_byteAt h) mw_2_96 mw_2_97 mw_2_98 mw_1_2 mw_2_99 (by decide) q6.1 q6.2 hyV_T_byteAt (Nat.le_of_ble_eq_true rfl) (Nat.le_of_ble_eq_true rfl) ⟨(Nat.le_of_ble_eq_true rfl), (Nat.le_of_ble_eq_true rfl)⟩ (Nat.le_of_ble_eq_true rfl) rfl (zk_i (fun x4 σ5 h => ?_))
  refine zw_callSN (As := [.int x4]) (r := []) d_R_passNumber_58 (c_C_isFigure h) mw_2_128 mw_2_129 mw_1_1 mw_2_130 hyS_C_isFigure (Nat.le_of_ble_eq_true rfl) (Nat.le_of_ble_eq_true rfl) ⟨(Nat.le_of_ble_eq_true rfl), (Nat.le_of_ble_eq_true rfl)⟩ (Nat.le_of_ble_eq_true rfl) rfl (zk_i (fun x7 σ8 h => ?_))
  obtain ⟨ht, hf⟩ := h
  refine zw_if_ne (tgt := 74) d_R_passNumber_61 rfl (fun hc => ?_) (fun hc => ?_)
  · have h := ht hc; clear ht hf
    refine zw_lconst (v := 0) d_R_passNumber_74 rfl ?_
    refine zw_lstore d_R_passNumber_75 (Nat.le_of_ble_eq_true rfl) rfl rfl ?_
    obtain ⟨g, h⟩ := h
    exact w_R_passNumber_77 hr g _ _ _ _ _ h
  · have h := hf hc; clear ht hf
    refine zw_aload_n d_R_passNumber_64 rfl rfl ?_
    refine zw_iconst (v := 1) d_R_passNumber_65 rfl ?_
    refine zw_aload_n d_R_passNumber_66 rfl rfl ?_
    refine zw_gfi (ci := 2) (j := 3) d_R_passNumber_67 mw_1_50 q1.1 q1.2 (by decide) (by decide) rfl ?_
    refine zw_callV (ci := 2) (b := a0) (As := [.int (1 : Int32), .int (zi σ8 a0 3)]) (r := []) d_R_passNumber_70 (c_R_refuse h) mw_2_103 mw_2_105 mp_1_9 mw_1_3 mw_2_106 (by decide) q1.1 q1.2 hyV_R_refuse (Nat.le_of_ble_eq_true rfl) (Nat.le_of_ble_eq_true rfl) ⟨(Nat.le_of_ble_eq_true rfl), (Nat.le_of_ble_eq_true rfl)⟩ (Nat.le_of_ble_eq_true rfl) rfl (zk_i (fun x9 σ10 h => ?_))
    obtain ⟨q11, h⟩ := h
    exact zw_zret d_R_passNumber_73 hr q11 h
def P_R_passNumber_31 (n : Nat) (Q : Int32 → zS → Prop) (a0 : Nat) (a2 : Int32) (b0 : Int32) (σ : zS) : Prop := ((b0 = 0 → P_R_passNumber_46 n Q a0 a2 b0 σ) ∧ (¬ (b0 = 0) → zk n a0 2 ∧ P_R_passNumber_46 n Q a0 a2 b0 (zI σ a0 3 ((zi σ a0 3) + (1 : Int32)))))
set_option maxHeartbeats 1000000 in
set_option maxRecDepth 10000 in
theorem w_R_passNumber_31 {Q : Int32 → zS → Prop} (hr : meth.sig.returnType = some .boolean) {a0 : Nat} {a2 : Int32} {b0 : Int32} {σ : zS} (h : P_R_passNumber_31 n Q a0 a2 b0 σ) : zG p l e (zrm 2 0 0) s m args below meth c (MQ below (zQc (zA base) D cA base n ex (zqi Q)) args s 0 0 (zA base)) s.heap (zA base) base D cA 8 ex prog_5_method_11_code "ConstantFlow$Reader" n 0 0 31 [some (.ref a0), none, some (.int a2), none, none, none, none, none] [.int b0] σ := by
  unfold P_R_passNumber_31 at h
  refine zw_istore_n d_R_passNumber_31 rfl (Nat.le_of_ble_eq_true rfl) rfl rfl ?_
  refine zw_iload_n d_R_passNumber_32 rfl rfl ?_
  obtain ⟨ht, hf⟩ := h
  refine zw_if_eq (tgt := 46) d_R_passNumber_33 rfl (fun hc => ?_) (fun hc => ?_)
  · have h := ht hc; clear ht hf
    exact w_R_passNumber_46 hr h
  · have h := hf hc; clear ht hf
    refine zw_aload_n d_R_passNumber_36 rfl rfl ?_
    refine zw_dup d_R_passNumber_37 rfl ?_
    obtain ⟨q1, h⟩ := h
    refine zw_gfi (ci := 2) (j := 3) d_R_passNumber_38 mw_1_50 q1.1 q1.2 (by decide) (by decide) rfl ?_
    refine zw_iconst (v := 1) d_R_passNumber_41 rfl ?_
    refine zw_iadd d_R_passNumber_42 ?_
    refine zw_pfi (ci := 2) (j := 3) d_R_passNumber_43 mw_1_50 q1.1 q1.2 (by decide) (by decide) rfl rfl rfl rfl ?_
    exact w_R_passNumber_46 hr h
def P_R_passNumber_30 (n : Nat) (Q : Int32 → zS → Prop) (a0 : Nat) (a2 : Int32) (σ : zS) : Prop := P_R_passNumber_31 n Q a0 a2 (0 : Int32) σ
set_option maxHeartbeats 1000000 in
set_option maxRecDepth 10000 in
theorem w_R_passNumber_30 {Q : Int32 → zS → Prop} (hr : meth.sig.returnType = some .boolean) {a0 : Nat} {a2 : Int32} {σ : zS} (h : P_R_passNumber_30 n Q a0 a2 σ) : zG p l e (zrm 2 0 0) s m args below meth c (MQ below (zQc (zA base) D cA base n ex (zqi Q)) args s 0 0 (zA base)) s.heap (zA base) base D cA 8 ex prog_5_method_11_code "ConstantFlow$Reader" n 0 0 30 [some (.ref a0), none, some (.int a2), none, none, none, none, none] [] σ := by
  unfold P_R_passNumber_30 at h
  refine zw_iconst (v := 0) d_R_passNumber_30 rfl ?_
  exact w_R_passNumber_31 hr h
def P_R_passNumber (n : Nat) (a0 : Nat) (a1 : Int32) (σ : zS) (Q : Int32 → zS → Prop) : Prop := zk n a0 2 ∧ ((a1 = 0 → P_R_passNumber_30 n Q a0 (zi σ a0 3) σ) ∧ (¬ (a1 = 0) → ∃ c2, zr σ a0 0 = some c2 ∧ zk n c2 1 ∧ P_T_byteAt n c2 (Int32.toInt64 (zi σ a0 3)) σ (fun x4 σ5 => ((¬ x4 = (45 : Int32) → P_R_passNumber_30 n Q a0 (zi σ a0 3) σ5) ∧ (x4 = (45 : Int32) → P_R_passNumber_31 n Q a0 (zi σ a0 3) (1 : Int32) σ5)))))
set_option maxHeartbeats 1000000 in
set_option maxRecDepth 10000 in
theorem w_R_passNumber {Q : Int32 → zS → Prop} (hr : meth.sig.returnType = some .boolean) {a0 : Nat} {a1 : Int32} {σ : zS} (h : P_R_passNumber n a0 a1 σ Q) : zG p l e (zrm 2 0 0) s m args below meth c (MQ below (zQc (zA base) D cA base n ex (zqi Q)) args s 0 0 (zA base)) s.heap (zA base) base D cA 8 ex prog_5_method_11_code "ConstantFlow$Reader" n 0 0 0 [some (.ref a0), some (.int a1), none, none, none, none, none, none] [] σ := by
  unfold P_R_passNumber at h
  refine zw_aload_n d_R_passNumber_0 rfl rfl ?_
  obtain ⟨q1, h⟩ := h
  refine zw_gfi (ci := 2) (j := 3) d_R_passNumber_1 mw_1_50 q1.1 q1.2 (by decide) (by decide) rfl ?_
  refine zw_istore_n d_R_passNumber_4 rfl (Nat.le_of_ble_eq_true rfl) rfl rfl ?_
  refine zw_iload_n d_R_passNumber_5 rfl rfl ?_
  obtain ⟨ht, hf⟩ := h
  refine zw_if_eq (tgt := 30) d_R_passNumber_6 rfl (fun hc => ?_) (fun hc => ?_)
  · have h := ht hc; clear ht hf
    refine zw_le (ls' := [some (.ref a0), none, some (.int (zi σ a0 3)), none, none, none, none, none]) (And.intro rfl (And.intro rfl True.intro)) ?_
    exact w_R_passNumber_30 hr h
  · have h := hf hc; clear ht hf
    refine zw_aload_n d_R_passNumber_9 rfl rfl ?_
    obtain ⟨c2, q3, h⟩ := h
    refine zw_gfr (ci := 2) (j := 0) d_R_passNumber_10 mw_1_47 q1.1 q1.2 (by decide) (by decide) rfl q3 ?_
    refine zw_aload_n d_R_passNumber_13 rfl rfl ?_
    refine zw_gfi (ci := 2) (j := 3) d_R_passNumber_14 mw_1_50 q1.1 q1.2 (by decide) (by decide) rfl ?_
    refine zw_i2l d_R_passNumber_17 ?_
    obtain ⟨q6, h⟩ := h
    refine zw_callV (ci := 1) (b := c2) (As := [.long (Int32.toInt64 (zi σ a0 3))]) (r := []) d_R_passNumber_18 (c_T_byteAt h) mw_2_96 mw_2_97 mw_2_98 mw_1_2 mw_2_99 (by decide) q6.1 q6.2 hyV_T_byteAt (Nat.le_of_ble_eq_true rfl) (Nat.le_of_ble_eq_true rfl) ⟨(Nat.le_of_ble_eq_true rfl), (Nat.le_of_ble_eq_true rfl)⟩ (Nat.le_of_ble_eq_true rfl) rfl (zk_i (fun x4 σ5 h => ?_))
    refine zw_bipush (v := 45) d_R_passNumber_21 rfl ?_
    obtain ⟨ht, hf⟩ := h
    refine zw_icmp_ne (tgt := 30) d_R_passNumber_23 rfl (fun hc => ?_) (fun hc => ?_)
    · have h := ht hc; clear ht hf
      refine zw_le (ls' := [some (.ref a0), none, some (.int (zi σ a0 3)), none, none, none, none, none]) (And.intro rfl (And.intro rfl True.intro)) ?_
      exact w_R_passNumber_30 hr h
    · have h := hf hc; clear ht hf
      refine zw_iconst (v := 1) d_R_passNumber_26 rfl ?_
      refine zw_goto (tgt := 31) d_R_passNumber_27 rfl ?_
      refine zw_le (ls' := [some (.ref a0), none, some (.int (zi σ a0 3)), none, none, none, none, none]) (And.intro rfl (And.intro rfl True.intro)) ?_
      exact w_R_passNumber_31 hr h
theorem c_R_passNumber {l : Launch} {D : va_G} {cA : Nat → ClassId} {base n : Nat} {ex : Bool} {Q : Int32 → zS → Prop} {a0 : Nat} {a1 : Int32} {σ : zS} (h : P_R_passNumber n a0 a1 σ Q) : zM l y_R_passNumber prog_5_method_11_code 8 (some .boolean) 2 0 0 (zA base) D cA base n n ex [.ref a0, .int a1] σ (zqi Q) :=
  zMet (by decide) rfl (Nat.le_of_ble_eq_true rfl) (fun p e s m args below meth c hr hnm => w_R_passNumber hr h)
def P_R_next_44 (n : Nat) (Q : Int32 → zS → Prop) (a0 : Nat) (σ : zS) : Prop := zk n a0 2 ∧ ∃ c2, zr σ a0 0 = some c2 ∧ zk n c2 1 ∧ P_T_byteAt n c2 (Int32.toInt64 (zi σ a0 3)) σ (fun x4 σ5 => Q x4 σ5)
set_option maxHeartbeats 1000000 in
set_option maxRecDepth 10000 in
theorem w_R_next_44 {Q : Int32 → zS → Prop} (hr : meth.sig.returnType = some .int) {a0 : Nat} {σ : zS} (h : P_R_next_44 n Q a0 σ) : zG p l e (zrm 2 0 0) s m args below meth c (MQ below (zQc (zA base) D cA base n ex (zqi Q)) args s 0 0 (zA base)) s.heap (zA base) base D cA 1 ex prog_5_method_4_code "ConstantFlow$Reader" n 0 0 44 [some (.ref a0)] [] σ := by
  unfold P_R_next_44 at h
  refine zw_aload_n d_R_next_44 rfl rfl ?_
  obtain ⟨q1, h⟩ := h
  obtain ⟨c2, q3, h⟩ := h
  refine zw_gfr (ci := 2) (j := 0) d_R_next_45 mw_1_47 q1.1 q1.2 (by decide) (by decide) rfl q3 ?_
  refine zw_aload_n d_R_next_48 rfl rfl ?_
  refine zw_gfi (ci := 2) (j := 3) d_R_next_49 mw_1_50 q1.1 q1.2 (by decide) (by decide) rfl ?_
  refine zw_i2l d_R_next_52 ?_
  obtain ⟨q6, h⟩ := h
  refine zw_callV (ci := 1) (b := c2) (As := [.long (Int32.toInt64 (zi σ a0 3))]) (r := []) d_R_next_53 (c_T_byteAt h) mw_2_96 mw_2_97 mw_2_98 mw_1_2 mw_2_99 (by decide) q6.1 q6.2 hyV_T_byteAt (Nat.le_of_ble_eq_true rfl) (Nat.le_of_ble_eq_true rfl) ⟨(Nat.le_of_ble_eq_true rfl), (Nat.le_of_ble_eq_true rfl)⟩ (Nat.le_of_ble_eq_true rfl) rfl (zk_i (fun x4 σ5 h => ?_))
  exact zw_iret d_R_next_56 hr h
def P_R_next_0 (n : Nat) (Q : Int32 → zS → Prop) : Nat → Nat → zS → Prop
  | 0, _, _ => False
  | f + 1, a0, σ => zk n a0 2 ∧ ∃ c2, zr σ a0 0 = some c2 ∧ zk n c2 1 ∧ (((zi σ c2 1) ≤ (zi σ a0 3) → P_R_next_44 n Q a0 σ) ∧ (¬ ((zi σ c2 1) ≤ (zi σ a0 3)) → ∃ c5, zr σ a0 0 = some c5 ∧ zk n c5 1 ∧ P_T_byteAt n c5 (Int32.toInt64 (zi σ a0 3)) σ (fun x7 σ8 => (((32 : Int32) < x7 → P_R_next_44 n Q a0 σ8) ∧ (¬ ((32 : Int32) < x7) → P_R_next_0 n Q f a0 (zI σ8 a0 3 ((zi σ8 a0 3) + (1 : Int32))))))))
set_option maxHeartbeats 1000000 in
set_option maxRecDepth 10000 in
theorem w_R_next_0 {Q : Int32 → zS → Prop} (hr : meth.sig.returnType = some .int) : ∀ (f : Nat) (a0 : Nat) (σ : zS), P_R_next_0 n Q f a0 σ → zG p l e (zrm 2 0 0) s m args below meth c (MQ below (zQc (zA base) D cA base n ex (zqi Q)) args s 0 0 (zA base)) s.heap (zA base) base D cA 1 ex prog_5_method_4_code "ConstantFlow$Reader" n 0 0 0 [some (.ref a0)] [] σ := by
  intro f
  induction f with
  | zero => intro a0 σ h; exact False.elim h
  | succ f ih =>
    intro a0 σ h
    refine zw_aload_n d_R_next_0 rfl rfl ?_
    obtain ⟨q1, h⟩ := h
    refine zw_gfi (ci := 2) (j := 3) d_R_next_1 mw_1_50 q1.1 q1.2 (by decide) (by decide) rfl ?_
    refine zw_aload_n d_R_next_4 rfl rfl ?_
    obtain ⟨c2, q3, h⟩ := h
    refine zw_gfr (ci := 2) (j := 0) d_R_next_5 mw_1_47 q1.1 q1.2 (by decide) (by decide) rfl q3 ?_
    obtain ⟨q4, h⟩ := h
    refine zw_gfiN (ci := 1) (j := 1) d_R_next_8 mw_1_33 q4.1 q4.2 (by decide) (by decide) rfl ?_
    obtain ⟨ht, hf⟩ := h
    refine zw_icmp_ge (tgt := 44) d_R_next_11 rfl (fun hc => ?_) (fun hc => ?_)
    · have h := ht hc; clear ht hf
      exact w_R_next_44 hr h
    · have h := hf hc; clear ht hf
      refine zw_aload_n d_R_next_14 rfl rfl ?_
      obtain ⟨c5, q6, h⟩ := h
      refine zw_gfr (ci := 2) (j := 0) d_R_next_15 mw_1_47 q1.1 q1.2 (by decide) (by decide) rfl q6 ?_
      refine zw_aload_n d_R_next_18 rfl rfl ?_
      refine zw_gfi (ci := 2) (j := 3) d_R_next_19 mw_1_50 q1.1 q1.2 (by decide) (by decide) rfl ?_
      refine zw_i2l d_R_next_22 ?_
      obtain ⟨q9, h⟩ := h
      refine zw_callV (ci := 1) (b := c5) (As := [.long (Int32.toInt64 (zi σ a0 3))]) (r := []) d_R_next_23 (c_T_byteAt h) mw_2_96 mw_2_97 mw_2_98 mw_1_2 mw_2_99 (by decide) q9.1 q9.2 hyV_T_byteAt (Nat.le_of_ble_eq_true rfl) (Nat.le_of_ble_eq_true rfl) ⟨(Nat.le_of_ble_eq_true rfl), (Nat.le_of_ble_eq_true rfl)⟩ (Nat.le_of_ble_eq_true rfl) rfl (zk_i (fun x7 σ8 h => ?_))
      refine zw_bipush (v := 32) d_R_next_26 rfl ?_
      obtain ⟨ht, hf⟩ := h
      refine zw_icmp_gt (tgt := 44) d_R_next_28 rfl (fun hc => ?_) (fun hc => ?_)
      · have h := ht hc; clear ht hf
        exact w_R_next_44 hr h
      · have h := hf hc; clear ht hf
        refine zw_aload_n d_R_next_31 rfl rfl ?_
        refine zw_dup d_R_next_32 rfl ?_
        refine zw_gfi (ci := 2) (j := 3) d_R_next_33 mw_1_50 q1.1 q1.2 (by decide) (by decide) rfl ?_
        refine zw_iconst (v := 1) d_R_next_36 rfl ?_
        refine zw_iadd d_R_next_37 ?_
        refine zw_pfi (ci := 2) (j := 3) d_R_next_38 mw_1_50 q1.1 q1.2 (by decide) (by decide) rfl rfl rfl rfl ?_
        refine zw_goto (tgt := 0) d_R_next_41 rfl ?_
        exact ih _ _ h
def P_R_next (n : Nat) (a0 : Nat) (σ : zS) (Q : Int32 → zS → Prop) : Prop := ∃ g, P_R_next_0 n Q g a0 σ
set_option maxHeartbeats 1000000 in
set_option maxRecDepth 10000 in
theorem w_R_next {Q : Int32 → zS → Prop} (hr : meth.sig.returnType = some .int) {a0 : Nat} {σ : zS} (h : P_R_next n a0 σ Q) : zG p l e (zrm 2 0 0) s m args below meth c (MQ below (zQc (zA base) D cA base n ex (zqi Q)) args s 0 0 (zA base)) s.heap (zA base) base D cA 1 ex prog_5_method_4_code "ConstantFlow$Reader" n 0 0 0 [some (.ref a0)] [] σ := by
  unfold P_R_next at h
  obtain ⟨g, h⟩ := h
  exact w_R_next_0 hr g _ _ h
theorem c_R_next {l : Launch} {D : va_G} {cA : Nat → ClassId} {base n : Nat} {ex : Bool} {Q : Int32 → zS → Prop} {a0 : Nat} {σ : zS} (h : P_R_next n a0 σ Q) : zM l y_R_next prog_5_method_4_code 1 (some .int) 2 0 0 (zA base) D cA base n n ex [.ref a0] σ (zqi Q) :=
  zMet (by decide) rfl (Nat.le_of_ble_eq_true rfl) (fun p e s m args below meth c hr hnm => w_R_next hr h)
def P_T_appendNumber_59 (n : Nat) (Q : zS → Prop) (K21 : Nat → Int64 → Int64 → zS → Prop) (a0 : Nat) (a2 : Int64) (a4 : Int64) (σ : zS) : Prop := (¬ (10 : Int64) = 0) ∧ K21 a0 a2 (a4 / (10 : Int64)) σ
set_option maxHeartbeats 1000000 in
set_option maxRecDepth 10000 in
theorem w_T_appendNumber_59 {Q : zS → Prop} {K21 : Nat → Int64 → Int64 → zS → Prop} (hr : meth.sig.returnType = none) (hK21 : ∀ (a0 : Nat) (a2 : Int64) (a4 : Int64) (σ : zS), K21 a0 a2 a4 σ → zG p l e (zrm 2 0 0) s m args below meth c (MQ below (zQc (zA base) D cA base n ex (zqv Q)) args s 0 0 (zA base)) s.heap (zA base) base D cA 6 ex prog_6_method_4_code "ConstantFlow$Text" n 0 0 21 [some (.ref a0), none, some (.long a2), none, some (.long a4), none] [] σ) {a0 : Nat} {a2 : Int64} {a4 : Int64} {σ : zS} (h : P_T_appendNumber_59 n Q K21 a0 a2 a4 σ) : zG p l e (zrm 2 0 0) s m args below meth c (MQ below (zQc (zA base) D cA base n ex (zqv Q)) args s 0 0 (zA base)) s.heap (zA base) base D cA 6 ex prog_6_method_4_code "ConstantFlow$Text" n 0 0 59 [some (.ref a0), none, some (.long a2), none, some (.long a4), none] [] σ := by
  unfold P_T_appendNumber_59 at h
  refine zw_lload d_T_appendNumber_59 rfl ?_
  refine zw_ldc2 (v := 10) d_T_appendNumber_61 mw_2_199 ?_
  obtain ⟨q1, h⟩ := h
  refine zw_ldiv d_T_appendNumber_64 q1 ?_
  refine zw_lstore d_T_appendNumber_65 (Nat.le_of_ble_eq_true rfl) rfl rfl ?_
  refine zw_goto (tgt := 21) d_T_appendNumber_67 rfl ?_
  exact hK21 _ _ _ _ h
def P_T_appendNumber_42 (n : Nat) (Q : zS → Prop) (K21 : Nat → Int64 → Int64 → zS → Prop) (a0 : Nat) (a2 : Int64) (a4 : Int64) (σ : zS) : Prop := (¬ a4 = 0) ∧ (¬ (10 : Int64) = 0) ∧ zk n a0 1 ∧ P_T_append n a0 (Int64.toInt32 ((48 : Int64) + ((a2 / a4) - (a2 / a4) / (10 : Int64) * (10 : Int64)))) σ (fun σ4 => P_T_appendNumber_59 n Q K21 a0 a2 a4 σ4)
set_option maxHeartbeats 1000000 in
set_option maxRecDepth 10000 in
theorem w_T_appendNumber_42 {Q : zS → Prop} {K21 : Nat → Int64 → Int64 → zS → Prop} (hr : meth.sig.returnType = none) (hK21 : ∀ (a0 : Nat) (a2 : Int64) (a4 : Int64) (σ : zS), K21 a0 a2 a4 σ → zG p l e (zrm 2 0 0) s m args below meth c (MQ below (zQc (zA base) D cA base n ex (zqv Q)) args s 0 0 (zA base)) s.heap (zA base) base D cA 6 ex prog_6_method_4_code "ConstantFlow$Text" n 0 0 21 [some (.ref a0), none, some (.long a2), none, some (.long a4), none] [] σ) {a0 : Nat} {a2 : Int64} {a4 : Int64} {σ : zS} (h : P_T_appendNumber_42 n Q K21 a0 a2 a4 σ) : zG p l e (zrm 2 0 0) s m args below meth c (MQ below (zQc (zA base) D cA base n ex (zqv Q)) args s 0 0 (zA base)) s.heap (zA base) base D cA 6 ex prog_6_method_4_code "ConstantFlow$Text" n 0 0 42 [some (.ref a0), none, some (.long a2), none, some (.long a4), none] [] σ := by
  unfold P_T_appendNumber_42 at h
  refine zw_aload_n d_T_appendNumber_42 rfl rfl ?_
  refine zw_ldc2 (v := 48) d_T_appendNumber_43 mw_2_198 ?_
  refine zw_lload_n d_T_appendNumber_46 rfl rfl ?_
  refine zw_lload d_T_appendNumber_47 rfl ?_
  obtain ⟨q1, h⟩ := h
  refine zw_ldiv d_T_appendNumber_49 q1 ?_
  refine zw_ldc2 (v := 10) d_T_appendNumber_50 mw_2_199 ?_
  obtain ⟨q2, h⟩ := h
  refine zw_lrem d_T_appendNumber_53 q2 ?_
  refine zw_ladd d_T_appendNumber_54 ?_
  refine zw_l2i d_T_appendNumber_55 ?_
  obtain ⟨q5, h⟩ := h
  refine zw_callV (ci := 1) (b := a0) (As := [.int (Int64.toInt32 ((48 : Int64) + ((a2 / a4) - (a2 / a4) / (10 : Int64) * (10 : Int64))))]) (r := []) d_T_appendNumber_56 (c_T_append h) mw_2_196 mw_2_181 mw_2_182 mw_1_2 mw_2_183 (by decide) q5.1 q5.2 hyV_T_append (Nat.le_of_ble_eq_true rfl) (Nat.le_of_ble_eq_true rfl) ⟨(Nat.le_of_ble_eq_true rfl), (Nat.le_of_ble_eq_true rfl)⟩ (Nat.le_of_ble_eq_true rfl) rfl (zk_v (fun σ4 h => ?_))
  exact w_T_appendNumber_59 hr hK21 h
def P_T_appendNumber_21 (n : Nat) (Q : zS → Prop) : Nat → Nat → Int64 → Int64 → zS → Prop
  | 0, _, _, _, _ => False
  | f + 1, a0, a2, a4, σ => (((lg_cmp a4 (0 : Int64)) ≤ 0 → Q σ) ∧ (¬ ((lg_cmp a4 (0 : Int64)) ≤ 0) → ((0 ≤ (lg_cmp a2 a4) → P_T_appendNumber_42 n Q (fun (a0 : Nat) (a2 : Int64) (a4 : Int64) (σ : zS) => P_T_appendNumber_21 n Q f a0 a2 a4 σ) a0 a2 a4 σ) ∧ (¬ (0 ≤ (lg_cmp a2 a4)) → ((¬ (lg_cmp a4 (1 : Int64)) = 0 → P_T_appendNumber_59 n Q (fun (a0 : Nat) (a2 : Int64) (a4 : Int64) (σ : zS) => P_T_appendNumber_21 n Q f a0 a2 a4 σ) a0 a2 a4 σ) ∧ ((lg_cmp a4 (1 : Int64)) = 0 → P_T_appendNumber_42 n Q (fun (a0 : Nat) (a2 : Int64) (a4 : Int64) (σ : zS) => P_T_appendNumber_21 n Q f a0 a2 a4 σ) a0 a2 a4 σ))))))
set_option maxHeartbeats 1000000 in
set_option maxRecDepth 10000 in
theorem w_T_appendNumber_21 {Q : zS → Prop} (hr : meth.sig.returnType = none) : ∀ (f : Nat) (a0 : Nat) (a2 : Int64) (a4 : Int64) (σ : zS), P_T_appendNumber_21 n Q f a0 a2 a4 σ → zG p l e (zrm 2 0 0) s m args below meth c (MQ below (zQc (zA base) D cA base n ex (zqv Q)) args s 0 0 (zA base)) s.heap (zA base) base D cA 6 ex prog_6_method_4_code "ConstantFlow$Text" n 0 0 21 [some (.ref a0), none, some (.long a2), none, some (.long a4), none] [] σ := by
  intro f
  induction f with
  | zero => intro a0 a2 a4 σ h; exact False.elim h
  | succ f ih =>
    intro a0 a2 a4 σ h
    refine zw_lload d_T_appendNumber_21 rfl ?_
    refine zw_lconst (v := 0) d_T_appendNumber_23 rfl ?_
    refine zw_lcmp d_T_appendNumber_24 ?_
    obtain ⟨ht, hf⟩ := h
    refine zw_if_le (tgt := 70) d_T_appendNumber_25 rfl (fun hc => ?_) (fun hc => ?_)
    · have h := ht hc; clear ht hf
      exact zw_vret d_T_appendNumber_70 hr h
    · have h := hf hc; clear ht hf
      refine zw_lload_n d_T_appendNumber_28 rfl rfl ?_
      refine zw_lload d_T_appendNumber_29 rfl ?_
      refine zw_lcmp d_T_appendNumber_31 ?_
      obtain ⟨ht, hf⟩ := h
      refine zw_if_ge (tgt := 42) d_T_appendNumber_32 rfl (fun hc => ?_) (fun hc => ?_)
      · have h := ht hc; clear ht hf
        exact w_T_appendNumber_42 hr (fun a0 a2 a4 σ hk => ih a0 a2 a4 σ hk) h
      · have h := hf hc; clear ht hf
        refine zw_lload d_T_appendNumber_35 rfl ?_
        refine zw_lconst (v := 1) d_T_appendNumber_37 rfl ?_
        refine zw_lcmp d_T_appendNumber_38 ?_
        obtain ⟨ht, hf⟩ := h
        refine zw_if_ne (tgt := 59) d_T_appendNumber_39 rfl (fun hc => ?_) (fun hc => ?_)
        · have h := ht hc; clear ht hf
          exact w_T_appendNumber_59 hr (fun a0 a2 a4 σ hk => ih a0 a2 a4 σ hk) h
        · have h := hf hc; clear ht hf
          exact w_T_appendNumber_42 hr (fun a0 a2 a4 σ hk => ih a0 a2 a4 σ hk) h
def P_T_appendNumber_16 (n : Nat) (Q : zS → Prop) (a0 : Nat) (a2 : Int64) (σ : zS) : Prop := ∃ g, P_T_appendNumber_21 n Q g a0 a2 (1000000000 : Int64) σ
set_option maxHeartbeats 1000000 in
set_option maxRecDepth 10000 in
theorem w_T_appendNumber_16 {Q : zS → Prop} (hr : meth.sig.returnType = none) {a0 : Nat} {a2 : Int64} {σ : zS} (h : P_T_appendNumber_16 n Q a0 a2 σ) : zG p l e (zrm 2 0 0) s m args below meth c (MQ below (zQc (zA base) D cA base n ex (zqv Q)) args s 0 0 (zA base)) s.heap (zA base) base D cA 6 ex prog_6_method_4_code "ConstantFlow$Text" n 0 0 16 [some (.ref a0), none, some (.long a2), none, none, none] [] σ := by
  unfold P_T_appendNumber_16 at h
  refine zw_ldc2 (v := 1000000000) d_T_appendNumber_16 mw_2_197 ?_
  refine zw_lstore d_T_appendNumber_19 (Nat.le_of_ble_eq_true rfl) rfl rfl ?_
  obtain ⟨g, h⟩ := h
  exact w_T_appendNumber_21 hr g _ _ _ _ h
def P_T_appendNumber (n : Nat) (a0 : Nat) (a1 : Int32) (σ : zS) (Q : zS → Prop) : Prop := ((0 ≤ a1 → P_T_appendNumber_16 n Q a0 (if 0 < (Int32.toInt64 a1) then (Int32.toInt64 a1) else -(Int32.toInt64 a1)) σ) ∧ (¬ (0 ≤ a1) → zk n a0 1 ∧ P_T_append n a0 (45 : Int32) σ (fun σ2 => P_T_appendNumber_16 n Q a0 (if 0 < (Int32.toInt64 a1) then (Int32.toInt64 a1) else -(Int32.toInt64 a1)) σ2)))
set_option maxHeartbeats 1000000 in
set_option maxRecDepth 10000 in
theorem w_T_appendNumber {Q : zS → Prop} (hr : meth.sig.returnType = none) {a0 : Nat} {a1 : Int32} {σ : zS} (h : P_T_appendNumber n a0 a1 σ Q) : zG p l e (zrm 2 0 0) s m args below meth c (MQ below (zQc (zA base) D cA base n ex (zqv Q)) args s 0 0 (zA base)) s.heap (zA base) base D cA 6 ex prog_6_method_4_code "ConstantFlow$Text" n 0 0 0 [some (.ref a0), some (.int a1), none, none, none, none] [] σ := by
  unfold P_T_appendNumber at h
  refine zw_iload_n d_T_appendNumber_0 rfl rfl ?_
  refine zw_i2l d_T_appendNumber_1 ?_
  refine zw_mabs d_T_appendNumber_2 mw_2_193 mw_2_194 mw_1_13 mw_2_195 (Nat.le_of_ble_eq_true rfl) (Nat.le_of_ble_eq_true rfl) (Nat.le_of_ble_eq_true rfl) (Nat.le_of_ble_eq_true rfl) ?_
  refine zw_lstore_n d_T_appendNumber_5 rfl (Nat.le_of_ble_eq_true rfl) rfl rfl ?_
  refine zw_iload_n d_T_appendNumber_6 rfl rfl ?_
  obtain ⟨ht, hf⟩ := h
  refine zw_if_ge (tgt := 16) d_T_appendNumber_7 rfl (fun hc => ?_) (fun hc => ?_)
  · have h := ht hc; clear ht hf
    refine zw_le (ls' := [some (.ref a0), none, some (.long (if 0 < (Int32.toInt64 a1) then (Int32.toInt64 a1) else -(Int32.toInt64 a1))), none, none, none]) (And.intro rfl (And.intro rfl True.intro)) ?_
    exact w_T_appendNumber_16 hr h
  · have h := hf hc; clear ht hf
    refine zw_aload_n d_T_appendNumber_10 rfl rfl ?_
    refine zw_bipush (v := 45) d_T_appendNumber_11 rfl ?_
    obtain ⟨q3, h⟩ := h
    refine zw_callV (ci := 1) (b := a0) (As := [.int (45 : Int32)]) (r := []) d_T_appendNumber_13 (c_T_append h) mw_2_196 mw_2_181 mw_2_182 mw_1_2 mw_2_183 (by decide) q3.1 q3.2 hyV_T_append (Nat.le_of_ble_eq_true rfl) (Nat.le_of_ble_eq_true rfl) ⟨(Nat.le_of_ble_eq_true rfl), (Nat.le_of_ble_eq_true rfl)⟩ (Nat.le_of_ble_eq_true rfl) rfl (zk_v (fun σ2 h => ?_))
    refine zw_le (ls' := [some (.ref a0), none, some (.long (if 0 < (Int32.toInt64 a1) then (Int32.toInt64 a1) else -(Int32.toInt64 a1))), none, none, none]) (And.intro rfl (And.intro rfl True.intro)) ?_
    exact w_T_appendNumber_16 hr h
theorem c_T_appendNumber {l : Launch} {D : va_G} {cA : Nat → ClassId} {base n : Nat} {ex : Bool} {Q : zS → Prop} {a0 : Nat} {a1 : Int32} {σ : zS} (h : P_T_appendNumber n a0 a1 σ Q) : zM l y_T_appendNumber prog_6_method_4_code 6 (none) 2 0 0 (zA base) D cA base n n ex [.ref a0, .int a1] σ (zqv Q) :=
  zMet (by decide) rfl (Nat.le_of_ble_eq_true rfl) (fun p e s m args below meth c hr hnm => w_T_appendNumber hr h)
def P_V_settles_85 (n : Nat) (Q : Int32 → zS → Prop) (b0 : Int32) (σ : zS) : Prop := (b0 = 0 ∨ b0 = 1) ∧ Q b0 σ
set_option maxHeartbeats 1000000 in
set_option maxRecDepth 10000 in
theorem w_V_settles_85 {Q : Int32 → zS → Prop} (hr : meth.sig.returnType = some .boolean) {b0 : Int32} {σ : zS} (h : P_V_settles_85 n Q b0 σ) : zG p l e (zrm 2 0 0) s m args below meth c (MQ below (zQc (zA base) D cA base n ex (zqi Q)) args s 0 0 (zA base)) s.heap (zA base) base D cA 8 ex prog_7_method_6_code "ConstantFlow$View" n 0 0 85 [none, none, none, none, none, none, none, none] [.int b0] σ := by
  unfold P_V_settles_85 at h
  obtain ⟨q1, h⟩ := h
  exact zw_zret d_V_settles_85 hr q1 h
def P_V_settles_84 (n : Nat) (Q : Int32 → zS → Prop) (σ : zS) : Prop := P_V_settles_85 n Q (0 : Int32) σ
set_option maxHeartbeats 1000000 in
set_option maxRecDepth 10000 in
theorem w_V_settles_84 {Q : Int32 → zS → Prop} (hr : meth.sig.returnType = some .boolean) {σ : zS} (h : P_V_settles_84 n Q σ) : zG p l e (zrm 2 0 0) s m args below meth c (MQ below (zQc (zA base) D cA base n ex (zqi Q)) args s 0 0 (zA base)) s.heap (zA base) base D cA 8 ex prog_7_method_6_code "ConstantFlow$View" n 0 0 84 [none, none, none, none, none, none, none, none] [] σ := by
  unfold P_V_settles_84 at h
  refine zw_iconst (v := 0) d_V_settles_84 rfl ?_
  exact w_V_settles_85 hr h
def P_V_settles_70 (n : Nat) (Q : Int32 → zS → Prop) (a6 : Int32) (a7 : Int32) (σ : zS) : Prop := ((a6 = 0 → P_V_settles_84 n Q σ) ∧ (¬ (a6 = 0) → ((a7 = 0 → P_V_settles_84 n Q σ) ∧ (¬ (a7 = 0) → P_V_settles_85 n Q (1 : Int32) σ))))
set_option maxHeartbeats 1000000 in
set_option maxRecDepth 10000 in
theorem w_V_settles_70 {Q : Int32 → zS → Prop} (hr : meth.sig.returnType = some .boolean) {a6 : Int32} {a7 : Int32} {σ : zS} (h : P_V_settles_70 n Q a6 a7 σ) : zG p l e (zrm 2 0 0) s m args below meth c (MQ below (zQc (zA base) D cA base n ex (zqi Q)) args s 0 0 (zA base)) s.heap (zA base) base D cA 8 ex prog_7_method_6_code "ConstantFlow$View" n 0 0 70 [none, none, none, none, none, none, some (.int a6), some (.int a7)] [] σ := by
  unfold P_V_settles_70 at h
  refine zw_iload d_V_settles_70 rfl ?_
  obtain ⟨ht, hf⟩ := h
  refine zw_if_eq (tgt := 84) d_V_settles_72 rfl (fun hc => ?_) (fun hc => ?_)
  · have h := ht hc; clear ht hf
    refine zw_le (ls' := [none, none, none, none, none, none, none, none]) (True.intro) ?_
    exact w_V_settles_84 hr h
  · have h := hf hc; clear ht hf
    refine zw_iload d_V_settles_75 rfl ?_
    obtain ⟨ht, hf⟩ := h
    refine zw_if_eq (tgt := 84) d_V_settles_77 rfl (fun hc => ?_) (fun hc => ?_)
    · have h := ht hc; clear ht hf
      refine zw_le (ls' := [none, none, none, none, none, none, none, none]) (True.intro) ?_
      exact w_V_settles_84 hr h
    · have h := hf hc; clear ht hf
      refine zw_iconst (v := 1) d_V_settles_80 rfl ?_
      refine zw_goto (tgt := 85) d_V_settles_81 rfl ?_
      refine zw_le (ls' := [none, none, none, none, none, none, none, none]) (True.intro) ?_
      exact w_V_settles_85 hr h
def P_V_settles_111 (n : Nat) (Q : Int32 → zS → Prop) (b0 : Int32) (σ : zS) : Prop := (b0 = 0 ∨ b0 = 1) ∧ Q b0 σ
set_option maxHeartbeats 1000000 in
set_option maxRecDepth 10000 in
theorem w_V_settles_111 {Q : Int32 → zS → Prop} (hr : meth.sig.returnType = some .boolean) {b0 : Int32} {σ : zS} (h : P_V_settles_111 n Q b0 σ) : zG p l e (zrm 2 0 0) s m args below meth c (MQ below (zQc (zA base) D cA base n ex (zqi Q)) args s 0 0 (zA base)) s.heap (zA base) base D cA 8 ex prog_7_method_6_code "ConstantFlow$View" n 0 0 111 [none, none, none, none, none, none, none, none] [.int b0] σ := by
  unfold P_V_settles_111 at h
  obtain ⟨q1, h⟩ := h
  exact zw_zret d_V_settles_111 hr q1 h
def P_V_settles_100 (n : Nat) (Q : Int32 → zS → Prop) (b0 : Nat) (b1 : Nat) (b2 : Int32) (σ : zS) : Prop := zk n b0 4 ∧ P_V_numberOf n b0 b1 b2 σ (fun x1 σ2 => ((¬ x1 = 0 → P_V_settles_111 n Q (0 : Int32) σ2) ∧ (x1 = 0 → P_V_settles_111 n Q (1 : Int32) σ2)))
set_option maxHeartbeats 1000000 in
set_option maxRecDepth 10000 in
theorem w_V_settles_100 {Q : Int32 → zS → Prop} (hr : meth.sig.returnType = some .boolean) {b0 : Nat} {b1 : Nat} {b2 : Int32} {σ : zS} (h : P_V_settles_100 n Q b0 b1 b2 σ) : zG p l e (zrm 2 0 0) s m args below meth c (MQ below (zQc (zA base) D cA base n ex (zqi Q)) args s 0 0 (zA base)) s.heap (zA base) base D cA 8 ex prog_7_method_6_code "ConstantFlow$View" n 0 0 100 [none, none, none, none, none, none, none, none] [.int b2, .ref b1, .ref b0] σ := by
  unfold P_V_settles_100 at h
  obtain ⟨q3, h⟩ := h
  refine zw_callV (ci := 4) (b := b0) (As := [.ref b1, .int b2]) (r := []) d_V_settles_100 (c_V_numberOf h) mw_2_5 mw_2_6 mw_2_7 mw_1_5 mw_2_8 (by decide) q3.1 q3.2 hyV_V_numberOf (Nat.le_of_ble_eq_true rfl) (Nat.le_of_ble_eq_true rfl) ⟨(Nat.le_of_ble_eq_true rfl), (Nat.le_of_ble_eq_true rfl)⟩ (Nat.le_of_ble_eq_true rfl) rfl (zk_i (fun x1 σ2 h => ?_))
  obtain ⟨ht, hf⟩ := h
  refine zw_if_ne (tgt := 110) d_V_settles_103 rfl (fun hc => ?_) (fun hc => ?_)
  · have h := ht hc; clear ht hf
    refine zw_iconst (v := 0) d_V_settles_110 rfl ?_
    exact w_V_settles_111 hr h
  · have h := hf hc; clear ht hf
    refine zw_iconst (v := 1) d_V_settles_106 rfl ?_
    refine zw_goto (tgt := 111) d_V_settles_107 rfl ?_
    exact w_V_settles_111 hr h
def P_V_settles_86 (n : Nat) (Q : Int32 → zS → Prop) (a0 : Nat) (a1 : Nat) (a4 : Int32) (a5 : Int32) (a6 : Int32) (σ : zS) : Prop := ((a6 = 0 → P_V_settles_100 n Q a0 a1 a5 σ) ∧ (¬ (a6 = 0) → P_V_settles_100 n Q a0 a1 a4 σ))
set_option maxHeartbeats 1000000 in
set_option maxRecDepth 10000 in
theorem w_V_settles_86 {Q : Int32 → zS → Prop} (hr : meth.sig.returnType = some .boolean) {a0 : Nat} {a1 : Nat} {a4 : Int32} {a5 : Int32} {a6 : Int32} {σ : zS} (h : P_V_settles_86 n Q a0 a1 a4 a5 a6 σ) : zG p l e (zrm 2 0 0) s m args below meth c (MQ below (zQc (zA base) D cA base n ex (zqi Q)) args s 0 0 (zA base)) s.heap (zA base) base D cA 8 ex prog_7_method_6_code "ConstantFlow$View" n 0 0 86 [some (.ref a0), some (.ref a1), none, none, some (.int a4), some (.int a5), some (.int a6), none] [] σ := by
  unfold P_V_settles_86 at h
  refine zw_aload_n d_V_settles_86 rfl rfl ?_
  refine zw_aload_n d_V_settles_87 rfl rfl ?_
  refine zw_iload d_V_settles_88 rfl ?_
  obtain ⟨ht, hf⟩ := h
  refine zw_if_eq (tgt := 98) d_V_settles_90 rfl (fun hc => ?_) (fun hc => ?_)
  · have h := ht hc; clear ht hf
    refine zw_iload d_V_settles_98 rfl ?_
    refine zw_le (ls' := [none, none, none, none, none, none, none, none]) (True.intro) ?_
    exact w_V_settles_100 hr h
  · have h := hf hc; clear ht hf
    refine zw_iload d_V_settles_93 rfl ?_
    refine zw_goto (tgt := 100) d_V_settles_95 rfl ?_
    refine zw_le (ls' := [none, none, none, none, none, none, none, none]) (True.intro) ?_
    exact w_V_settles_100 hr h
def P_V_settles (n : Nat) (a0 : Nat) (a1 : Nat) (a2 : Int32) (σ : zS) (Q : Int32 → zS → Prop) : Prop := zk n a1 6 ∧ ∃ c2, zr σ a1 4 = some c2 ∧ za n c2 10 a2 ∧ P_G_left n a2 σ (fun x5 σ6 => P_G_right n a2 σ6 (fun x7 σ8 => ((¬ (zi σ c2 a2.toNatClampNeg) = 0 → zk n a0 4 ∧ P_V_knows n a0 a1 x5 σ8 (fun x9 σ10 => ((¬ (zi σ c2 a2.toNatClampNeg) = (1 : Int32) → P_V_knows n a0 a1 x7 σ10 (fun x12 σ13 => ((x9 = x12 → P_V_settles_70 n Q x9 x12 σ13) ∧ (¬ (x9 = x12) → (((zi σ c2 a2.toNatClampNeg) = (42 : Int32) → P_V_settles_86 n Q a0 a1 x5 x7 x9 σ13) ∧ (¬ ((zi σ c2 a2.toNatClampNeg) = (42 : Int32)) → (((zi σ c2 a2.toNatClampNeg) = (38 : Int32) → P_V_settles_86 n Q a0 a1 x5 x7 x9 σ13) ∧ (¬ ((zi σ c2 a2.toNatClampNeg) = (38 : Int32)) → P_V_settles_70 n Q x9 x12 σ13)))))))) ∧ ((zi σ c2 a2.toNatClampNeg) = (1 : Int32) → (x9 = 0 ∨ x9 = 1) ∧ Q x9 σ10)))) ∧ ((zi σ c2 a2.toNatClampNeg) = 0 → ((0 : Int32) = 0 ∨ (0 : Int32) = 1) ∧ Q (0 : Int32) σ8))))
set_option maxHeartbeats 1000000 in
set_option maxRecDepth 10000 in
theorem w_V_settles {Q : Int32 → zS → Prop} (hr : meth.sig.returnType = some .boolean) {a0 : Nat} {a1 : Nat} {a2 : Int32} {σ : zS} (h : P_V_settles n a0 a1 a2 σ Q) : zG p l e (zrm 2 0 0) s m args below meth c (MQ below (zQc (zA base) D cA base n ex (zqi Q)) args s 0 0 (zA base)) s.heap (zA base) base D cA 8 ex prog_7_method_6_code "ConstantFlow$View" n 0 0 0 [some (.ref a0), some (.ref a1), some (.int a2), none, none, none, none, none] [] σ := by
  unfold P_V_settles at h
  refine zw_aload_n d_V_settles_0 rfl rfl ?_
  obtain ⟨q1, h⟩ := h
  obtain ⟨c2, q3, h⟩ := h
  refine zw_gfrN (ci := 6) (j := 4) d_V_settles_1 mw_1_168 q1.1 q1.2 (by decide) (by decide) rfl q3 ?_
  refine zw_iload_n d_V_settles_4 rfl rfl ?_
  obtain ⟨q4, h⟩ := h
  refine zw_iald d_V_settles_5 q4.1 (zkd_eta q4.2.1) q4.2.2 ?_
  refine zw_istore_n d_V_settles_6 rfl (Nat.le_of_ble_eq_true rfl) rfl rfl ?_
  refine zw_iload_n d_V_settles_7 rfl rfl ?_
  refine zw_callS (As := [.int a2]) (r := []) d_V_settles_8 (c_G_left h) mw_1_235 mw_1_236 mw_1_7 mw_1_237 hyS_G_left (Nat.le_of_ble_eq_true rfl) (Nat.le_of_ble_eq_true rfl) ⟨(Nat.le_of_ble_eq_true rfl), (Nat.le_of_ble_eq_true rfl)⟩ (Nat.le_of_ble_eq_true rfl) rfl (zk_i (fun x5 σ6 h => ?_))
  refine zw_istore d_V_settles_11 (Nat.le_of_ble_eq_true rfl) rfl rfl ?_
  refine zw_iload_n d_V_settles_13 rfl rfl ?_
  refine zw_callS (As := [.int a2]) (r := []) d_V_settles_14 (c_G_right h) mw_1_238 mw_1_239 mw_1_7 mw_2_0 hyS_G_right (Nat.le_of_ble_eq_true rfl) (Nat.le_of_ble_eq_true rfl) ⟨(Nat.le_of_ble_eq_true rfl), (Nat.le_of_ble_eq_true rfl)⟩ (Nat.le_of_ble_eq_true rfl) rfl (zk_i (fun x7 σ8 h => ?_))
  refine zw_istore d_V_settles_17 (Nat.le_of_ble_eq_true rfl) rfl rfl ?_
  refine zw_iload_n d_V_settles_19 rfl rfl ?_
  obtain ⟨ht, hf⟩ := h
  refine zw_if_ne (tgt := 25) d_V_settles_20 rfl (fun hc => ?_) (fun hc => ?_)
  · have h := ht hc; clear ht hf
    refine zw_aload_n d_V_settles_25 rfl rfl ?_
    refine zw_aload_n d_V_settles_26 rfl rfl ?_
    refine zw_iload d_V_settles_27 rfl ?_
    obtain ⟨q11, h⟩ := h
    refine zw_callV (ci := 4) (b := a0) (As := [.ref a1, .int x5]) (r := []) d_V_settles_29 (c_V_knows h) mw_2_1 mw_2_2 mw_2_3 mw_1_5 mw_2_4 (by decide) q11.1 q11.2 hyV_V_knows (Nat.le_of_ble_eq_true rfl) (Nat.le_of_ble_eq_true rfl) ⟨(Nat.le_of_ble_eq_true rfl), (Nat.le_of_ble_eq_true rfl)⟩ (Nat.le_of_ble_eq_true rfl) rfl (zk_i (fun x9 σ10 h => ?_))
    refine zw_istore d_V_settles_32 (Nat.le_of_ble_eq_true rfl) rfl rfl ?_
    refine zw_iload_n d_V_settles_34 rfl rfl ?_
    refine zw_iconst (v := 1) d_V_settles_35 rfl ?_
    obtain ⟨ht, hf⟩ := h
    refine zw_icmp_ne (tgt := 42) d_V_settles_36 rfl (fun hc => ?_) (fun hc => ?_)
    · have h := ht hc; clear ht hf
      refine zw_aload_n d_V_settles_42 rfl rfl ?_
      refine zw_aload_n d_V_settles_43 rfl rfl ?_
      refine zw_iload d_V_settles_44 rfl ?_
      refine zw_callV (ci := 4) (b := a0) (As := [.ref a1, .int x7]) (r := []) d_V_settles_46 (c_V_knows h) mw_2_1 mw_2_2 mw_2_3 mw_1_5 mw_2_4 (by decide) q11.1 q11.2 hyV_V_knows (Nat.le_of_ble_eq_true rfl) (Nat.le_of_ble_eq_true rfl) ⟨(Nat.le_of_ble_eq_true rfl), (Nat.le_of_ble_eq_true rfl)⟩ (Nat.le_of_ble_eq_true rfl) rfl (zk_i (fun x12 σ13 h => ?_))
      refine zw_istore d_V_settles_49 (Nat.le_of_ble_eq_true rfl) rfl rfl ?_
      refine zw_iload d_V_settles_51 rfl ?_
      refine zw_iload d_V_settles_53 rfl ?_
      obtain ⟨ht, hf⟩ := h
      refine zw_icmp_eq (tgt := 70) d_V_settles_55 rfl (fun hc => ?_) (fun hc => ?_)
      · have h := ht hc; clear ht hf
        refine zw_le (ls' := [none, none, none, none, none, none, some (.int x9), some (.int x12)]) (And.intro rfl (And.intro rfl True.intro)) ?_
        exact w_V_settles_70 hr h
      · have h := hf hc; clear ht hf
        refine zw_iload_n d_V_settles_58 rfl rfl ?_
        refine zw_bipush (v := 42) d_V_settles_59 rfl ?_
        obtain ⟨ht, hf⟩ := h
        refine zw_icmp_eq (tgt := 86) d_V_settles_61 rfl (fun hc => ?_) (fun hc => ?_)
        · have h := ht hc; clear ht hf
          refine zw_le (ls' := [some (.ref a0), some (.ref a1), none, none, some (.int x5), some (.int x7), some (.int x9), none]) (And.intro rfl (And.intro rfl (And.intro rfl (And.intro rfl (And.intro rfl True.intro))))) ?_
          exact w_V_settles_86 hr h
        · have h := hf hc; clear ht hf
          refine zw_iload_n d_V_settles_64 rfl rfl ?_
          refine zw_bipush (v := 38) d_V_settles_65 rfl ?_
          obtain ⟨ht, hf⟩ := h
          refine zw_icmp_eq (tgt := 86) d_V_settles_67 rfl (fun hc => ?_) (fun hc => ?_)
          · have h := ht hc; clear ht hf
            refine zw_le (ls' := [some (.ref a0), some (.ref a1), none, none, some (.int x5), some (.int x7), some (.int x9), none]) (And.intro rfl (And.intro rfl (And.intro rfl (And.intro rfl (And.intro rfl True.intro))))) ?_
            exact w_V_settles_86 hr h
          · have h := hf hc; clear ht hf
            refine zw_le (ls' := [none, none, none, none, none, none, some (.int x9), some (.int x12)]) (And.intro rfl (And.intro rfl True.intro)) ?_
            exact w_V_settles_70 hr h
    · have h := hf hc; clear ht hf
      refine zw_iload d_V_settles_39 rfl ?_
      obtain ⟨q14, h⟩ := h
      exact zw_zret d_V_settles_41 hr q14 h
  · have h := hf hc; clear ht hf
    refine zw_iconst (v := 0) d_V_settles_23 rfl ?_
    obtain ⟨q15, h⟩ := h
    exact zw_zret d_V_settles_24 hr q15 h
theorem c_V_settles {l : Launch} {D : va_G} {cA : Nat → ClassId} {base n : Nat} {ex : Bool} {Q : Int32 → zS → Prop} {a0 : Nat} {a1 : Nat} {a2 : Int32} {σ : zS} (h : P_V_settles n a0 a1 a2 σ Q) : zM l y_V_settles prog_7_method_6_code 8 (some .boolean) 2 0 0 (zA base) D cA base n n ex [.ref a0, .ref a1, .int a2] σ (zqi Q) :=
  zMet (by decide) rfl (Nat.le_of_ble_eq_true rfl) (fun p e s m args below meth c hr hnm => w_V_settles hr h)
def P_V_settled (n : Nat) (a0 : Nat) (a1 : Nat) (a2 : Int32) (σ : zS) (Q : Int32 → zS → Prop) : Prop := P_G_left n a2 σ (fun x1 σ2 => zk n a0 4 ∧ P_V_numberOf n a0 a1 x1 σ2 (fun x3 σ4 => P_G_right n a2 σ4 (fun x6 σ7 => P_V_numberOf n a0 a1 x6 σ7 (fun x8 σ9 => zk n a1 6 ∧ ∃ c11, zr σ9 a1 4 = some c11 ∧ za n c11 10 a2 ∧ P_C_reckon n (zi σ9 c11 a2.toNatClampNeg) x3 x8 σ9 (fun x14 σ15 => Q x14 σ15)))))
set_option maxHeartbeats 1000000 in
set_option maxRecDepth 10000 in
theorem w_V_settled {Q : Int32 → zS → Prop} (hr : meth.sig.returnType = some .int) {a0 : Nat} {a1 : Nat} {a2 : Int32} {σ : zS} (h : P_V_settled n a0 a1 a2 σ Q) : zG p l e (zrm 2 0 0) s m args below meth c (MQ below (zQc (zA base) D cA base n ex (zqi Q)) args s 0 0 (zA base)) s.heap (zA base) base D cA 5 ex prog_7_method_7_code "ConstantFlow$View" n 0 0 0 [some (.ref a0), some (.ref a1), some (.int a2), none, none] [] σ := by
  unfold P_V_settled at h
  refine zw_aload_n d_V_settled_0 rfl rfl ?_
  refine zw_aload_n d_V_settled_1 rfl rfl ?_
  refine zw_iload_n d_V_settled_2 rfl rfl ?_
  refine zw_callS (As := [.int a2]) (r := [.ref a1, .ref a0]) d_V_settled_3 (c_G_left h) mw_1_235 mw_1_236 mw_1_7 mw_1_237 hyS_G_left (Nat.le_of_ble_eq_true rfl) (Nat.le_of_ble_eq_true rfl) ⟨(Nat.le_of_ble_eq_true rfl), (Nat.le_of_ble_eq_true rfl)⟩ (Nat.le_of_ble_eq_true rfl) rfl (zk_i (fun x1 σ2 h => ?_))
  obtain ⟨q5, h⟩ := h
  refine zw_callV (ci := 4) (b := a0) (As := [.ref a1, .int x1]) (r := []) d_V_settled_6 (c_V_numberOf h) mw_2_5 mw_2_6 mw_2_7 mw_1_5 mw_2_8 (by decide) q5.1 q5.2 hyV_V_numberOf (Nat.le_of_ble_eq_true rfl) (Nat.le_of_ble_eq_true rfl) ⟨(Nat.le_of_ble_eq_true rfl), (Nat.le_of_ble_eq_true rfl)⟩ (Nat.le_of_ble_eq_true rfl) rfl (zk_i (fun x3 σ4 h => ?_))
  refine zw_istore_n d_V_settled_9 rfl (Nat.le_of_ble_eq_true rfl) rfl rfl ?_
  refine zw_aload_n d_V_settled_10 rfl rfl ?_
  refine zw_aload_n d_V_settled_11 rfl rfl ?_
  refine zw_iload_n d_V_settled_12 rfl rfl ?_
  refine zw_callS (As := [.int a2]) (r := [.ref a1, .ref a0]) d_V_settled_13 (c_G_right h) mw_1_238 mw_1_239 mw_1_7 mw_2_0 hyS_G_right (Nat.le_of_ble_eq_true rfl) (Nat.le_of_ble_eq_true rfl) ⟨(Nat.le_of_ble_eq_true rfl), (Nat.le_of_ble_eq_true rfl)⟩ (Nat.le_of_ble_eq_true rfl) rfl (zk_i (fun x6 σ7 h => ?_))
  refine zw_callV (ci := 4) (b := a0) (As := [.ref a1, .int x6]) (r := []) d_V_settled_16 (c_V_numberOf h) mw_2_5 mw_2_6 mw_2_7 mw_1_5 mw_2_8 (by decide) q5.1 q5.2 hyV_V_numberOf (Nat.le_of_ble_eq_true rfl) (Nat.le_of_ble_eq_true rfl) ⟨(Nat.le_of_ble_eq_true rfl), (Nat.le_of_ble_eq_true rfl)⟩ (Nat.le_of_ble_eq_true rfl) rfl (zk_i (fun x8 σ9 h => ?_))
  refine zw_istore d_V_settled_19 (Nat.le_of_ble_eq_true rfl) rfl rfl ?_
  refine zw_aload_n d_V_settled_21 rfl rfl ?_
  obtain ⟨q10, h⟩ := h
  obtain ⟨c11, q12, h⟩ := h
  refine zw_gfrN (ci := 6) (j := 4) d_V_settled_22 mw_1_168 q10.1 q10.2 (by decide) (by decide) rfl q12 ?_
  refine zw_iload_n d_V_settled_25 rfl rfl ?_
  obtain ⟨q13, h⟩ := h
  refine zw_iald d_V_settled_26 q13.1 (zkd_eta q13.2.1) q13.2.2 ?_
  refine zw_iload_n d_V_settled_27 rfl rfl ?_
  refine zw_iload d_V_settled_28 rfl ?_
  refine zw_callSN (As := [.int (zi σ9 c11 a2.toNatClampNeg), .int x3, .int x8]) (r := []) d_V_settled_30 (c_C_reckon h) mw_2_13 mw_2_14 mw_1_1 mw_2_15 hyS_C_reckon (Nat.le_of_ble_eq_true rfl) (Nat.le_of_ble_eq_true rfl) ⟨(Nat.le_of_ble_eq_true rfl), (Nat.le_of_ble_eq_true rfl)⟩ (Nat.le_of_ble_eq_true rfl) rfl (zk_i (fun x14 σ15 h => ?_))
  exact zw_iret d_V_settled_33 hr h
theorem c_V_settled {l : Launch} {D : va_G} {cA : Nat → ClassId} {base n : Nat} {ex : Bool} {Q : Int32 → zS → Prop} {a0 : Nat} {a1 : Nat} {a2 : Int32} {σ : zS} (h : P_V_settled n a0 a1 a2 σ Q) : zM l y_V_settled prog_7_method_7_code 5 (some .int) 2 0 0 (zA base) D cA base n n ex [.ref a0, .ref a1, .int a2] σ (zqi Q) :=
  zMet (by decide) rfl (Nat.le_of_ble_eq_true rfl) (fun p e s m args below meth c hr hnm => w_V_settled hr h)
def P_M_want_38 (n : Nat) (Q : zS → Prop) (σ : zS) : Prop := Q σ
set_option maxHeartbeats 1000000 in
set_option maxRecDepth 10000 in
theorem w_M_want_38 {Q : zS → Prop} (hr : meth.sig.returnType = none) {σ : zS} (h : P_M_want_38 n Q σ) : zG p l e (zrm 2 0 0) s m args below meth c (MQ below (zQc (zA base) D cA base n ex (zqv Q)) args s 0 0 (zA base)) s.heap (zA base) base D cA 2 ex prog_9_method_10_code "ConstantFlowModel" n 0 0 38 [none, none] [] σ := by
  unfold P_M_want_38 at h
  exact zw_vret d_M_want_38 hr h
def P_M_want (n : Nat) (a0 : Nat) (a1 : Int32) (σ : zS) (Q : zS → Prop) : Prop := zk n a0 7 ∧ P_M_skip n a0 σ (fun σ2 => P_M_byteAt n a0 (zi σ2 a0 5) σ2 (fun x4 σ5 => ((¬ x4 = a1 → P_M_fail n a0 (1 : Int32) (zi σ5 a0 5) σ5 (fun σ7 => P_M_want_38 n Q σ7)) ∧ (x4 = a1 → P_M_want_38 n Q (zI σ5 a0 5 ((zi σ5 a0 5) + (1 : Int32)))))))
set_option maxHeartbeats 1000000 in
set_option maxRecDepth 10000 in
theorem w_M_want {Q : zS → Prop} (hr : meth.sig.returnType = none) {a0 : Nat} {a1 : Int32} {σ : zS} (h : P_M_want n a0 a1 σ Q) : zG p l e (zrm 2 0 0) s m args below meth c (MQ below (zQc (zA base) D cA base n ex (zqv Q)) args s 0 0 (zA base)) s.heap (zA base) base D cA 2 ex prog_9_method_10_code "ConstantFlowModel" n 0 0 0 [some (.ref a0), some (.int a1)] [] σ := by
  unfold P_M_want at h
  refine zw_aload_n d_M_want_0 rfl rfl ?_
  obtain ⟨q3, h⟩ := h
  refine zw_callV (ci := 7) (b := a0) (As := []) (r := []) d_M_want_1 (c_M_skip h) mw_4_66 mw_4_68 mp_2_11 mw_1_8 mw_4_69 (by decide) q3.1 q3.2 hyV_M_skip (Nat.le_of_ble_eq_true rfl) (Nat.le_of_ble_eq_true rfl) ⟨(Nat.le_of_ble_eq_true rfl), (Nat.le_of_ble_eq_true rfl)⟩ (Nat.le_of_ble_eq_true rfl) rfl (zk_v (fun σ2 h => ?_))
  refine zw_aload_n d_M_want_4 rfl rfl ?_
  refine zw_aload_n d_M_want_5 rfl rfl ?_
  refine zw_gfi (ci := 7) (j := 5) d_M_want_6 mw_3_190 q3.1 q3.2 (by decide) (by decide) rfl ?_
  refine zw_callV (ci := 7) (b := a0) (As := [.int (zi σ2 a0 5)]) (r := []) d_M_want_9 (c_M_byteAt h) mw_4_70 mw_4_72 mp_2_12 mw_1_8 mw_4_73 (by decide) q3.1 q3.2 hyV_M_byteAt (Nat.le_of_ble_eq_true rfl) (Nat.le_of_ble_eq_true rfl) ⟨(Nat.le_of_ble_eq_true rfl), (Nat.le_of_ble_eq_true rfl)⟩ (Nat.le_of_ble_eq_true rfl) rfl (zk_i (fun x4 σ5 h => ?_))
  refine zw_iload_n d_M_want_12 rfl rfl ?_
  obtain ⟨ht, hf⟩ := h
  refine zw_icmp_ne (tgt := 29) d_M_want_13 rfl (fun hc => ?_) (fun hc => ?_)
  · have h := ht hc; clear ht hf
    refine zw_aload_n d_M_want_29 rfl rfl ?_
    refine zw_iconst (v := 1) d_M_want_30 rfl ?_
    refine zw_aload_n d_M_want_31 rfl rfl ?_
    refine zw_gfi (ci := 7) (j := 5) d_M_want_32 mw_3_190 q3.1 q3.2 (by decide) (by decide) rfl ?_
    refine zw_callV (ci := 7) (b := a0) (As := [.int (1 : Int32), .int (zi σ5 a0 5)]) (r := []) d_M_want_35 (c_M_fail h) mw_4_85 mw_4_87 mp_2_15 mw_1_8 mw_4_88 (by decide) q3.1 q3.2 hyV_M_fail (Nat.le_of_ble_eq_true rfl) (Nat.le_of_ble_eq_true rfl) ⟨(Nat.le_of_ble_eq_true rfl), (Nat.le_of_ble_eq_true rfl)⟩ (Nat.le_of_ble_eq_true rfl) rfl (zk_v (fun σ7 h => ?_))
    refine zw_le (ls' := [none, none]) (True.intro) ?_
    exact w_M_want_38 hr h
  · have h := hf hc; clear ht hf
    refine zw_aload_n d_M_want_16 rfl rfl ?_
    refine zw_dup d_M_want_17 rfl ?_
    refine zw_gfi (ci := 7) (j := 5) d_M_want_18 mw_3_190 q3.1 q3.2 (by decide) (by decide) rfl ?_
    refine zw_iconst (v := 1) d_M_want_21 rfl ?_
    refine zw_iadd d_M_want_22 ?_
    refine zw_pfi (ci := 7) (j := 5) d_M_want_23 mw_3_190 q3.1 q3.2 (by decide) (by decide) rfl rfl rfl rfl ?_
    refine zw_goto (tgt := 38) d_M_want_26 rfl ?_
    refine zw_le (ls' := [none, none]) (True.intro) ?_
    exact w_M_want_38 hr h
theorem c_M_want {l : Launch} {D : va_G} {cA : Nat → ClassId} {base n : Nat} {ex : Bool} {Q : zS → Prop} {a0 : Nat} {a1 : Int32} {σ : zS} (h : P_M_want n a0 a1 σ Q) : zM l y_M_want prog_9_method_10_code 2 (none) 2 0 0 (zA base) D cA base n n ex [.ref a0, .int a1] σ (zqv Q) :=
  zMet (by decide) rfl (Nat.le_of_ble_eq_true rfl) (fun p e s m args below meth c hr hnm => w_M_want hr h)
def P_M_number0_177 (n : Nat) (Q : Int32 → zS → Prop) (a0 : Nat) (a2 : Int32) (σ : zS) : Prop := zk n a0 7 ∧ P_M_fail n a0 (2 : Int32) a2 σ (fun σ2 => Q (0 : Int32) σ2)
set_option maxHeartbeats 1000000 in
set_option maxRecDepth 10000 in
theorem w_M_number0_177 {Q : Int32 → zS → Prop} (hr : meth.sig.returnType = some .int) {a0 : Nat} {a2 : Int32} {σ : zS} (h : P_M_number0_177 n Q a0 a2 σ) : zG p l e (zrm 2 0 0) s m args below meth c (MQ below (zQc (zA base) D cA base n ex (zqi Q)) args s 0 0 (zA base)) s.heap (zA base) base D cA 6 ex prog_9_method_11_code "ConstantFlowModel" n 0 0 177 [some (.ref a0), none, some (.int a2), none, none, none] [] σ := by
  unfold P_M_number0_177 at h
  refine zw_aload_n d_M_number0_177 rfl rfl ?_
  refine zw_iconst (v := 2) d_M_number0_178 rfl ?_
  refine zw_iload_n d_M_number0_179 rfl rfl ?_
  obtain ⟨q3, h⟩ := h
  refine zw_callV (ci := 7) (b := a0) (As := [.int (2 : Int32), .int a2]) (r := []) d_M_number0_180 (c_M_fail h) mw_4_85 mw_4_87 mp_2_15 mw_1_8 mw_4_88 (by decide) q3.1 q3.2 hyV_M_fail (Nat.le_of_ble_eq_true rfl) (Nat.le_of_ble_eq_true rfl) ⟨(Nat.le_of_ble_eq_true rfl), (Nat.le_of_ble_eq_true rfl)⟩ (Nat.le_of_ble_eq_true rfl) rfl (zk_v (fun σ2 h => ?_))
  refine zw_iconst (v := 0) d_M_number0_183 rfl ?_
  exact zw_iret d_M_number0_184 hr h
def P_M_number0_157 (n : Nat) (Q : Int32 → zS → Prop) (a0 : Nat) (a2 : Int32) (b0 : Int64) (σ : zS) : Prop := (((lg_cmp b0 (-2147483648 : Int64)) < 0 → P_M_number0_177 n Q a0 a2 σ) ∧ (¬ ((lg_cmp b0 (-2147483648 : Int64)) < 0) → (((lg_cmp b0 (2147483647 : Int64)) ≤ 0 → Q (Int64.toInt32 b0) σ) ∧ (¬ ((lg_cmp b0 (2147483647 : Int64)) ≤ 0) → P_M_number0_177 n Q a0 a2 σ))))
set_option maxHeartbeats 1000000 in
set_option maxRecDepth 10000 in
theorem w_M_number0_157 {Q : Int32 → zS → Prop} (hr : meth.sig.returnType = some .int) {a0 : Nat} {a2 : Int32} {b0 : Int64} {σ : zS} (h : P_M_number0_157 n Q a0 a2 b0 σ) : zG p l e (zrm 2 0 0) s m args below meth c (MQ below (zQc (zA base) D cA base n ex (zqi Q)) args s 0 0 (zA base)) s.heap (zA base) base D cA 6 ex prog_9_method_11_code "ConstantFlowModel" n 0 0 157 [some (.ref a0), none, some (.int a2), none, none, none] [.long b0] σ := by
  unfold P_M_number0_157 at h
  refine zw_lstore d_M_number0_157 (Nat.le_of_ble_eq_true rfl) rfl rfl ?_
  refine zw_lload d_M_number0_159 rfl ?_
  refine zw_ldc2 (v := -2147483648) d_M_number0_161 mw_4_92 ?_
  refine zw_lcmp d_M_number0_164 ?_
  obtain ⟨ht, hf⟩ := h
  refine zw_if_lt (tgt := 177) d_M_number0_165 rfl (fun hc => ?_) (fun hc => ?_)
  · have h := ht hc; clear ht hf
    refine zw_le (ls' := [some (.ref a0), none, some (.int a2), none, none, none]) (And.intro rfl (And.intro rfl True.intro)) ?_
    exact w_M_number0_177 hr h
  · have h := hf hc; clear ht hf
    refine zw_lload d_M_number0_168 rfl ?_
    refine zw_ldc2 (v := 2147483647) d_M_number0_170 mw_4_93 ?_
    refine zw_lcmp d_M_number0_173 ?_
    obtain ⟨ht, hf⟩ := h
    refine zw_if_le (tgt := 185) d_M_number0_174 rfl (fun hc => ?_) (fun hc => ?_)
    · have h := ht hc; clear ht hf
      refine zw_lload d_M_number0_185 rfl ?_
      refine zw_l2i d_M_number0_187 ?_
      exact zw_iret d_M_number0_188 hr h
    · have h := hf hc; clear ht hf
      refine zw_le (ls' := [some (.ref a0), none, some (.int a2), none, none, none]) (And.intro rfl (And.intro rfl True.intro)) ?_
      exact w_M_number0_177 hr h
def P_M_number0_130 (n : Nat) (Q : Int32 → zS → Prop) (K77 : Nat → Int32 → Int32 → Int64 → zS → Prop) (a0 : Nat) (a2 : Int32) (a3 : Int32) (b0 : Int64) (σ : zS) : Prop := zk n a0 7 ∧ K77 a0 a2 a3 b0 (zI σ a0 5 ((zi σ a0 5) + (1 : Int32)))
set_option maxHeartbeats 1000000 in
set_option maxRecDepth 10000 in
theorem w_M_number0_130 {Q : Int32 → zS → Prop} {K77 : Nat → Int32 → Int32 → Int64 → zS → Prop} (hr : meth.sig.returnType = some .int) (hK77 : ∀ (a0 : Nat) (a2 : Int32) (a3 : Int32) (a4 : Int64) (σ : zS), K77 a0 a2 a3 a4 σ → zG p l e (zrm 2 0 0) s m args below meth c (MQ below (zQc (zA base) D cA base n ex (zqi Q)) args s 0 0 (zA base)) s.heap (zA base) base D cA 6 ex prog_9_method_11_code "ConstantFlowModel" n 0 0 77 [some (.ref a0), none, some (.int a2), some (.int a3), some (.long a4), none] [] σ) {a0 : Nat} {a2 : Int32} {a3 : Int32} {b0 : Int64} {σ : zS} (h : P_M_number0_130 n Q K77 a0 a2 a3 b0 σ) : zG p l e (zrm 2 0 0) s m args below meth c (MQ below (zQc (zA base) D cA base n ex (zqi Q)) args s 0 0 (zA base)) s.heap (zA base) base D cA 6 ex prog_9_method_11_code "ConstantFlowModel" n 0 0 130 [some (.ref a0), none, some (.int a2), some (.int a3), none, none] [.long b0] σ := by
  unfold P_M_number0_130 at h
  refine zw_lstore d_M_number0_130 (Nat.le_of_ble_eq_true rfl) rfl rfl ?_
  refine zw_aload_n d_M_number0_132 rfl rfl ?_
  refine zw_dup d_M_number0_133 rfl ?_
  obtain ⟨q1, h⟩ := h
  refine zw_gfi (ci := 7) (j := 5) d_M_number0_134 mw_3_190 q1.1 q1.2 (by decide) (by decide) rfl ?_
  refine zw_iconst (v := 1) d_M_number0_137 rfl ?_
  refine zw_iadd d_M_number0_138 ?_
  refine zw_pfi (ci := 7) (j := 5) d_M_number0_139 mw_3_190 q1.1 q1.2 (by decide) (by decide) rfl rfl rfl rfl ?_
  refine zw_goto (tgt := 77) d_M_number0_142 rfl ?_
  exact hK77 _ _ _ _ _ h
def P_M_number0_77 (n : Nat) (Q : Int32 → zS → Prop) : Nat → Nat → Int32 → Int32 → Int64 → zS → Prop
  | 0, _, _, _, _, _ => False
  | f + 1, a0, a2, a3, a4, σ => zk n a0 7 ∧ P_M_byteAt n a0 (zi σ a0 5) σ (fun x2 σ3 => P_M_isFigure n x2 σ3 (fun x4 σ5 => ((x4 = 0 → ((a3 = 0 → P_M_number0_157 n Q a0 a2 a4 σ5) ∧ (¬ (a3 = 0) → P_M_number0_157 n Q a0 a2 (-a4) σ5))) ∧ (¬ (x4 = 0) → P_M_byteAt n a0 (zi σ5 a0 5) σ5 (fun x6 σ7 => (((lg_cmp (((a4 * (10 : Int64)) + (Int32.toInt64 x6)) - (48 : Int64)) (9999999999 : Int64)) ≤ 0 → P_M_number0_130 n Q (fun (a0 : Nat) (a2 : Int32) (a3 : Int32) (a4 : Int64) (σ : zS) => P_M_number0_77 n Q f a0 a2 a3 a4 σ) a0 a2 a3 (((a4 * (10 : Int64)) + (Int32.toInt64 x6)) - (48 : Int64)) σ7) ∧ (¬ ((lg_cmp (((a4 * (10 : Int64)) + (Int32.toInt64 x6)) - (48 : Int64)) (9999999999 : Int64)) ≤ 0) → P_M_number0_130 n Q (fun (a0 : Nat) (a2 : Int32) (a3 : Int32) (a4 : Int64) (σ : zS) => P_M_number0_77 n Q f a0 a2 a3 a4 σ) a0 a2 a3 (9999999999 : Int64) σ7)))))))
set_option maxHeartbeats 1000000 in
set_option maxRecDepth 10000 in
theorem w_M_number0_77 {Q : Int32 → zS → Prop} (hr : meth.sig.returnType = some .int) : ∀ (f : Nat) (a0 : Nat) (a2 : Int32) (a3 : Int32) (a4 : Int64) (σ : zS), P_M_number0_77 n Q f a0 a2 a3 a4 σ → zG p l e (zrm 2 0 0) s m args below meth c (MQ below (zQc (zA base) D cA base n ex (zqi Q)) args s 0 0 (zA base)) s.heap (zA base) base D cA 6 ex prog_9_method_11_code "ConstantFlowModel" n 0 0 77 [some (.ref a0), none, some (.int a2), some (.int a3), some (.long a4), none] [] σ := by
  intro f
  induction f with
  | zero => intro a0 a2 a3 a4 σ h; exact False.elim h
  | succ f ih =>
    intro a0 a2 a3 a4 σ h
    refine zw_aload_n d_M_number0_77 rfl rfl ?_
    refine zw_aload_n d_M_number0_78 rfl rfl ?_
    obtain ⟨q1, h⟩ := h
    refine zw_gfi (ci := 7) (j := 5) d_M_number0_79 mw_3_190 q1.1 q1.2 (by decide) (by decide) rfl ?_
    refine zw_callV (ci := 7) (b := a0) (As := [.int (zi σ a0 5)]) (r := []) d_M_number0_82 (c_M_byteAt h) mw_4_70 mw_4_72 mp_2_12 mw_1_8 mw_4_73 (by decide) q1.1 q1.2 hyV_M_byteAt (Nat.le_of_ble_eq_true rfl) (Nat.le_of_ble_eq_true rfl) ⟨(Nat.le_of_ble_eq_true rfl), (Nat.le_of_ble_eq_true rfl)⟩ (Nat.le_of_ble_eq_true rfl) rfl (zk_i (fun x2 σ3 h => ?_))
    refine zw_callS (As := [.int x2]) (r := []) d_M_number0_85 (c_M_isFigure h) mw_4_82 mw_4_83 mw_1_8 mw_4_84 hyS_M_isFigure (Nat.le_of_ble_eq_true rfl) (Nat.le_of_ble_eq_true rfl) ⟨(Nat.le_of_ble_eq_true rfl), (Nat.le_of_ble_eq_true rfl)⟩ (Nat.le_of_ble_eq_true rfl) rfl (zk_i (fun x4 σ5 h => ?_))
    obtain ⟨ht, hf⟩ := h
    refine zw_if_eq (tgt := 145) d_M_number0_88 rfl (fun hc => ?_) (fun hc => ?_)
    · have h := ht hc; clear ht hf
      refine zw_iload_n d_M_number0_145 rfl rfl ?_
      obtain ⟨ht, hf⟩ := h
      refine zw_if_eq (tgt := 155) d_M_number0_146 rfl (fun hc => ?_) (fun hc => ?_)
      · have h := ht hc; clear ht hf
        refine zw_lload d_M_number0_155 rfl ?_
        refine zw_le (ls' := [some (.ref a0), none, some (.int a2), none, none, none]) (And.intro rfl (And.intro rfl True.intro)) ?_
        exact w_M_number0_157 hr h
      · have h := hf hc; clear ht hf
        refine zw_lload d_M_number0_149 rfl ?_
        refine zw_lneg d_M_number0_151 ?_
        refine zw_goto (tgt := 157) d_M_number0_152 rfl ?_
        refine zw_le (ls' := [some (.ref a0), none, some (.int a2), none, none, none]) (And.intro rfl (And.intro rfl True.intro)) ?_
        exact w_M_number0_157 hr h
    · have h := hf hc; clear ht hf
      refine zw_lload d_M_number0_91 rfl ?_
      refine zw_ldc2 (v := 10) d_M_number0_93 mw_4_89 ?_
      refine zw_lmul d_M_number0_96 ?_
      refine zw_aload_n d_M_number0_97 rfl rfl ?_
      refine zw_aload_n d_M_number0_98 rfl rfl ?_
      refine zw_gfi (ci := 7) (j := 5) d_M_number0_99 mw_3_190 q1.1 q1.2 (by decide) (by decide) rfl ?_
      refine zw_callV (ci := 7) (b := a0) (As := [.int (zi σ5 a0 5)]) (r := [.long (a4 * (10 : Int64))]) d_M_number0_102 (c_M_byteAt h) mw_4_70 mw_4_72 mp_2_12 mw_1_8 mw_4_73 (by decide) q1.1 q1.2 hyV_M_byteAt (Nat.le_of_ble_eq_true rfl) (Nat.le_of_ble_eq_true rfl) ⟨(Nat.le_of_ble_eq_true rfl), (Nat.le_of_ble_eq_true rfl)⟩ (Nat.le_of_ble_eq_true rfl) rfl (zk_i (fun x6 σ7 h => ?_))
      refine zw_i2l d_M_number0_105 ?_
      refine zw_ladd d_M_number0_106 ?_
      refine zw_ldc2 (v := 48) d_M_number0_107 mw_4_90 ?_
      refine zw_lsub d_M_number0_110 ?_
      refine zw_lstore d_M_number0_111 (Nat.le_of_ble_eq_true rfl) rfl rfl ?_
      refine zw_lload d_M_number0_113 rfl ?_
      refine zw_ldc2 (v := 9999999999) d_M_number0_115 mw_4_91 ?_
      refine zw_lcmp d_M_number0_118 ?_
      obtain ⟨ht, hf⟩ := h
      refine zw_if_le (tgt := 128) d_M_number0_119 rfl (fun hc => ?_) (fun hc => ?_)
      · have h := ht hc; clear ht hf
        refine zw_lload d_M_number0_128 rfl ?_
        refine zw_le (ls' := [some (.ref a0), none, some (.int a2), some (.int a3), none, none]) (And.intro rfl (And.intro rfl (And.intro rfl True.intro))) ?_
        exact w_M_number0_130 hr (fun a0 a2 a3 a4 σ hk => ih a0 a2 a3 a4 σ hk) h
      · have h := hf hc; clear ht hf
        refine zw_ldc2 (v := 9999999999) d_M_number0_122 mw_4_91 ?_
        refine zw_goto (tgt := 130) d_M_number0_125 rfl ?_
        refine zw_le (ls' := [some (.ref a0), none, some (.int a2), some (.int a3), none, none]) (And.intro rfl (And.intro rfl (And.intro rfl True.intro))) ?_
        exact w_M_number0_130 hr (fun a0 a2 a3 a4 σ hk => ih a0 a2 a3 a4 σ hk) h
def P_M_number0_46 (n : Nat) (Q : Int32 → zS → Prop) (a0 : Nat) (a2 : Int32) (a3 : Int32) (b0 : Nat) (b1 : Int32) (σ : zS) : Prop := zk n b0 7 ∧ zk n a0 7 ∧ P_M_byteAt n a0 (zi (zI σ b0 5 b1) a0 5) (zI σ b0 5 b1) (fun x3 σ4 => P_M_isFigure n x3 σ4 (fun x5 σ6 => ((¬ x5 = 0 → ∃ g, P_M_number0_77 n Q g a0 a2 a3 (0 : Int64) σ6) ∧ (x5 = 0 → P_M_fail n a0 (1 : Int32) (zi σ6 a0 5) σ6 (fun σ8 => Q (0 : Int32) σ8)))))
set_option maxHeartbeats 1000000 in
set_option maxRecDepth 10000 in
theorem w_M_number0_46 {Q : Int32 → zS → Prop} (hr : meth.sig.returnType = some .int) {a0 : Nat} {a2 : Int32} {a3 : Int32} {b0 : Nat} {b1 : Int32} {σ : zS} (h : P_M_number0_46 n Q a0 a2 a3 b0 b1 σ) : zG p l e (zrm 2 0 0) s m args below meth c (MQ below (zQc (zA base) D cA base n ex (zqi Q)) args s 0 0 (zA base)) s.heap (zA base) base D cA 6 ex prog_9_method_11_code "ConstantFlowModel" n 0 0 46 [some (.ref a0), none, some (.int a2), some (.int a3), none, none] [.int b1, .ref b0] σ := by
  unfold P_M_number0_46 at h
  obtain ⟨q1, h⟩ := h
  refine zw_pfi (ci := 7) (j := 5) d_M_number0_46 mw_3_190 q1.1 q1.2 (by decide) (by decide) rfl rfl rfl rfl ?_
  refine zw_aload_n d_M_number0_49 rfl rfl ?_
  refine zw_aload_n d_M_number0_50 rfl rfl ?_
  obtain ⟨q2, h⟩ := h
  refine zw_gfi (ci := 7) (j := 5) d_M_number0_51 mw_3_190 q2.1 q2.2 (by decide) (by decide) rfl ?_
  refine zw_callV (ci := 7) (b := a0) (As := [.int (zi (zI σ b0 5 b1) a0 5)]) (r := []) d_M_number0_54 (c_M_byteAt h) mw_4_70 mw_4_72 mp_2_12 mw_1_8 mw_4_73 (by decide) q2.1 q2.2 hyV_M_byteAt (Nat.le_of_ble_eq_true rfl) (Nat.le_of_ble_eq_true rfl) ⟨(Nat.le_of_ble_eq_true rfl), (Nat.le_of_ble_eq_true rfl)⟩ (Nat.le_of_ble_eq_true rfl) rfl (zk_i (fun x3 σ4 h => ?_))
  refine zw_callS (As := [.int x3]) (r := []) d_M_number0_57 (c_M_isFigure h) mw_4_82 mw_4_83 mw_1_8 mw_4_84 hyS_M_isFigure (Nat.le_of_ble_eq_true rfl) (Nat.le_of_ble_eq_true rfl) ⟨(Nat.le_of_ble_eq_true rfl), (Nat.le_of_ble_eq_true rfl)⟩ (Nat.le_of_ble_eq_true rfl) rfl (zk_i (fun x5 σ6 h => ?_))
  obtain ⟨ht, hf⟩ := h
  refine zw_if_ne (tgt := 74) d_M_number0_60 rfl (fun hc => ?_) (fun hc => ?_)
  · have h := ht hc; clear ht hf
    refine zw_lconst (v := 0) d_M_number0_74 rfl ?_
    refine zw_lstore d_M_number0_75 (Nat.le_of_ble_eq_true rfl) rfl rfl ?_
    obtain ⟨g, h⟩ := h
    exact w_M_number0_77 hr g _ _ _ _ _ h
  · have h := hf hc; clear ht hf
    refine zw_aload_n d_M_number0_63 rfl rfl ?_
    refine zw_iconst (v := 1) d_M_number0_64 rfl ?_
    refine zw_aload_n d_M_number0_65 rfl rfl ?_
    refine zw_gfi (ci := 7) (j := 5) d_M_number0_66 mw_3_190 q2.1 q2.2 (by decide) (by decide) rfl ?_
    refine zw_callV (ci := 7) (b := a0) (As := [.int (1 : Int32), .int (zi σ6 a0 5)]) (r := []) d_M_number0_69 (c_M_fail h) mw_4_85 mw_4_87 mp_2_15 mw_1_8 mw_4_88 (by decide) q2.1 q2.2 hyV_M_fail (Nat.le_of_ble_eq_true rfl) (Nat.le_of_ble_eq_true rfl) ⟨(Nat.le_of_ble_eq_true rfl), (Nat.le_of_ble_eq_true rfl)⟩ (Nat.le_of_ble_eq_true rfl) rfl (zk_v (fun σ8 h => ?_))
    refine zw_iconst (v := 0) d_M_number0_72 rfl ?_
    exact zw_iret d_M_number0_73 hr h
def P_M_number0_27 (n : Nat) (Q : Int32 → zS → Prop) (a0 : Nat) (a2 : Int32) (b0 : Int32) (σ : zS) : Prop := ((b0 = 0 → zk n a0 7 ∧ P_M_number0_46 n Q a0 a2 b0 a0 (zi σ a0 5) σ) ∧ (¬ (b0 = 0) → zk n a0 7 ∧ P_M_number0_46 n Q a0 a2 b0 a0 ((zi σ a0 5) + (1 : Int32)) σ))
set_option maxHeartbeats 1000000 in
set_option maxRecDepth 10000 in
theorem w_M_number0_27 {Q : Int32 → zS → Prop} (hr : meth.sig.returnType = some .int) {a0 : Nat} {a2 : Int32} {b0 : Int32} {σ : zS} (h : P_M_number0_27 n Q a0 a2 b0 σ) : zG p l e (zrm 2 0 0) s m args below meth c (MQ below (zQc (zA base) D cA base n ex (zqi Q)) args s 0 0 (zA base)) s.heap (zA base) base D cA 6 ex prog_9_method_11_code "ConstantFlowModel" n 0 0 27 [some (.ref a0), none, some (.int a2), none, none, none] [.int b0] σ := by
  unfold P_M_number0_27 at h
  refine zw_istore_n d_M_number0_27 rfl (Nat.le_of_ble_eq_true rfl) rfl rfl ?_
  refine zw_aload_n d_M_number0_28 rfl rfl ?_
  refine zw_iload_n d_M_number0_29 rfl rfl ?_
  obtain ⟨ht, hf⟩ := h
  refine zw_if_eq (tgt := 42) d_M_number0_30 rfl (fun hc => ?_) (fun hc => ?_)
  · have h := ht hc; clear ht hf
    refine zw_aload_n d_M_number0_42 rfl rfl ?_
    obtain ⟨q1, h⟩ := h
    refine zw_gfi (ci := 7) (j := 5) d_M_number0_43 mw_3_190 q1.1 q1.2 (by decide) (by decide) rfl ?_
    exact w_M_number0_46 hr h
  · have h := hf hc; clear ht hf
    refine zw_aload_n d_M_number0_33 rfl rfl ?_
    obtain ⟨q2, h⟩ := h
    refine zw_gfi (ci := 7) (j := 5) d_M_number0_34 mw_3_190 q2.1 q2.2 (by decide) (by decide) rfl ?_
    refine zw_iconst (v := 1) d_M_number0_37 rfl ?_
    refine zw_iadd d_M_number0_38 ?_
    refine zw_goto (tgt := 46) d_M_number0_39 rfl ?_
    exact w_M_number0_46 hr h
def P_M_number0_26 (n : Nat) (Q : Int32 → zS → Prop) (a0 : Nat) (a2 : Int32) (σ : zS) : Prop := P_M_number0_27 n Q a0 a2 (0 : Int32) σ
set_option maxHeartbeats 1000000 in
set_option maxRecDepth 10000 in
theorem w_M_number0_26 {Q : Int32 → zS → Prop} (hr : meth.sig.returnType = some .int) {a0 : Nat} {a2 : Int32} {σ : zS} (h : P_M_number0_26 n Q a0 a2 σ) : zG p l e (zrm 2 0 0) s m args below meth c (MQ below (zQc (zA base) D cA base n ex (zqi Q)) args s 0 0 (zA base)) s.heap (zA base) base D cA 6 ex prog_9_method_11_code "ConstantFlowModel" n 0 0 26 [some (.ref a0), none, some (.int a2), none, none, none] [] σ := by
  unfold P_M_number0_26 at h
  refine zw_iconst (v := 0) d_M_number0_26 rfl ?_
  exact w_M_number0_27 hr h
def P_M_number0 (n : Nat) (a0 : Nat) (a1 : Int32) (σ : zS) (Q : Int32 → zS → Prop) : Prop := zk n a0 7 ∧ ((a1 = 0 → P_M_number0_26 n Q a0 (zi σ a0 5) σ) ∧ (¬ (a1 = 0) → P_M_byteAt n a0 (zi σ a0 5) σ (fun x2 σ3 => ((¬ x2 = (45 : Int32) → P_M_number0_26 n Q a0 (zi σ a0 5) σ3) ∧ (x2 = (45 : Int32) → P_M_number0_27 n Q a0 (zi σ a0 5) (1 : Int32) σ3)))))
set_option maxHeartbeats 1000000 in
set_option maxRecDepth 10000 in
theorem w_M_number0 {Q : Int32 → zS → Prop} (hr : meth.sig.returnType = some .int) {a0 : Nat} {a1 : Int32} {σ : zS} (h : P_M_number0 n a0 a1 σ Q) : zG p l e (zrm 2 0 0) s m args below meth c (MQ below (zQc (zA base) D cA base n ex (zqi Q)) args s 0 0 (zA base)) s.heap (zA base) base D cA 6 ex prog_9_method_11_code "ConstantFlowModel" n 0 0 0 [some (.ref a0), some (.int a1), none, none, none, none] [] σ := by
  unfold P_M_number0 at h
  refine zw_aload_n d_M_number0_0 rfl rfl ?_
  obtain ⟨q1, h⟩ := h
  refine zw_gfi (ci := 7) (j := 5) d_M_number0_1 mw_3_190 q1.1 q1.2 (by decide) (by decide) rfl ?_
  refine zw_istore_n d_M_number0_4 rfl (Nat.le_of_ble_eq_true rfl) rfl rfl ?_
  refine zw_iload_n d_M_number0_5 rfl rfl ?_
  obtain ⟨ht, hf⟩ := h
  refine zw_if_eq (tgt := 26) d_M_number0_6 rfl (fun hc => ?_) (fun hc => ?_)
  · have h := ht hc; clear ht hf
    refine zw_le (ls' := [some (.ref a0), none, some (.int (zi σ a0 5)), none, none, none]) (And.intro rfl (And.intro rfl True.intro)) ?_
    exact w_M_number0_26 hr h
  · have h := hf hc; clear ht hf
    refine zw_aload_n d_M_number0_9 rfl rfl ?_
    refine zw_aload_n d_M_number0_10 rfl rfl ?_
    refine zw_gfi (ci := 7) (j := 5) d_M_number0_11 mw_3_190 q1.1 q1.2 (by decide) (by decide) rfl ?_
    refine zw_callV (ci := 7) (b := a0) (As := [.int (zi σ a0 5)]) (r := []) d_M_number0_14 (c_M_byteAt h) mw_4_70 mw_4_72 mp_2_12 mw_1_8 mw_4_73 (by decide) q1.1 q1.2 hyV_M_byteAt (Nat.le_of_ble_eq_true rfl) (Nat.le_of_ble_eq_true rfl) ⟨(Nat.le_of_ble_eq_true rfl), (Nat.le_of_ble_eq_true rfl)⟩ (Nat.le_of_ble_eq_true rfl) rfl (zk_i (fun x2 σ3 h => ?_))
    refine zw_bipush (v := 45) d_M_number0_17 rfl ?_
    obtain ⟨ht, hf⟩ := h
    refine zw_icmp_ne (tgt := 26) d_M_number0_19 rfl (fun hc => ?_) (fun hc => ?_)
    · have h := ht hc; clear ht hf
      refine zw_le (ls' := [some (.ref a0), none, some (.int (zi σ a0 5)), none, none, none]) (And.intro rfl (And.intro rfl True.intro)) ?_
      exact w_M_number0_26 hr h
    · have h := hf hc; clear ht hf
      refine zw_iconst (v := 1) d_M_number0_22 rfl ?_
      refine zw_goto (tgt := 27) d_M_number0_23 rfl ?_
      refine zw_le (ls' := [some (.ref a0), none, some (.int (zi σ a0 5)), none, none, none]) (And.intro rfl (And.intro rfl True.intro)) ?_
      exact w_M_number0_27 hr h
theorem c_M_number0 {l : Launch} {D : va_G} {cA : Nat → ClassId} {base n : Nat} {ex : Bool} {Q : Int32 → zS → Prop} {a0 : Nat} {a1 : Int32} {σ : zS} (h : P_M_number0 n a0 a1 σ Q) : zM l y_M_number0 prog_9_method_11_code 6 (some .int) 2 0 0 (zA base) D cA base n n ex [.ref a0, .int a1] σ (zqi Q) :=
  zMet (by decide) rfl (Nat.le_of_ble_eq_true rfl) (fun p e s m args below meth c hr hnm => w_M_number0 hr h)
def P_M_checkTargets_64 (n : Nat) (Q : zS → Prop) (K2 : Nat → Int32 → zS → Prop) (K12 : Nat → Int32 → Int32 → zS → Prop) (a0 : Nat) (a1 : Int32) (a2 : Int32) (σ : zS) : Prop := K12 a0 a1 (a2 + (1 : Int32)) σ
set_option maxHeartbeats 1000000 in
set_option maxRecDepth 10000 in
theorem w_M_checkTargets_64 {Q : zS → Prop} {K2 : Nat → Int32 → zS → Prop} {K12 : Nat → Int32 → Int32 → zS → Prop} (hr : meth.sig.returnType = none) (hK2 : ∀ (a0 : Nat) (a1 : Int32) (σ : zS), K2 a0 a1 σ → zG p l e (zrm 2 0 0) s m args below meth c (MQ below (zQc (zA base) D cA base n ex (zqv Q)) args s 0 0 (zA base)) s.heap (zA base) base D cA 3 ex prog_9_method_19_code "ConstantFlowModel" n 0 0 2 [some (.ref a0), some (.int a1), none] [] σ) (hK12 : ∀ (a0 : Nat) (a1 : Int32) (a2 : Int32) (σ : zS), K12 a0 a1 a2 σ → zG p l e (zrm 2 0 0) s m args below meth c (MQ below (zQc (zA base) D cA base n ex (zqv Q)) args s 0 0 (zA base)) s.heap (zA base) base D cA 3 ex prog_9_method_19_code "ConstantFlowModel" n 0 0 12 [some (.ref a0), some (.int a1), some (.int a2)] [] σ) {a0 : Nat} {a1 : Int32} {a2 : Int32} {σ : zS} (h : P_M_checkTargets_64 n Q K2 K12 a0 a1 a2 σ) : zG p l e (zrm 2 0 0) s m args below meth c (MQ below (zQc (zA base) D cA base n ex (zqv Q)) args s 0 0 (zA base)) s.heap (zA base) base D cA 3 ex prog_9_method_19_code "ConstantFlowModel" n 0 0 64 [some (.ref a0), some (.int a1), some (.int a2)] [] σ := by
  unfold P_M_checkTargets_64 at h
  refine zw_iinc (v := (a2 + (1 : Int32))) d_M_checkTargets_64 rfl rfl (Nat.le_of_ble_eq_true rfl) rfl rfl ?_
  refine zw_goto (tgt := 12) d_M_checkTargets_67 rfl ?_
  exact hK12 _ _ _ _ h
def P_M_checkTargets_12 (n : Nat) (Q : zS → Prop) (K2 : Nat → Int32 → zS → Prop) : Nat → Nat → Int32 → Int32 → zS → Prop
  | 0, _, _, _, _ => False
  | f + 1, a0, a1, a2, σ => (((2 : Int32) ≤ a2 → K2 a0 (a1 + (1 : Int32)) σ) ∧ (¬ ((2 : Int32) ≤ a2) → zk n a0 7 ∧ ∃ c2, zr σ a0 16 = some c2 ∧ za n c2 10 (((2 : Int32) * a1) + a2) ∧ (((zi σ c2 (((2 : Int32) * a1) + a2).toNatClampNeg) < 0 → P_M_checkTargets_64 n Q K2 (fun (a0 : Nat) (a1 : Int32) (a2 : Int32) (σ : zS) => P_M_checkTargets_12 n Q K2 f a0 a1 a2 σ) a0 a1 a2 σ) ∧ (¬ ((zi σ c2 (((2 : Int32) * a1) + a2).toNatClampNeg) < 0) → ∃ c5, zr σ a0 14 = some c5 ∧ za n c5 10 ((((5 : Int32) * a1) + (3 : Int32)) + a2) ∧ (((zi σ c5 ((((5 : Int32) * a1) + (3 : Int32)) + a2).toNatClampNeg) < (zi σ a0 11) → P_M_checkTargets_64 n Q K2 (fun (a0 : Nat) (a1 : Int32) (a2 : Int32) (σ : zS) => P_M_checkTargets_12 n Q K2 f a0 a1 a2 σ) a0 a1 a2 σ) ∧ (¬ ((zi σ c5 ((((5 : Int32) * a1) + (3 : Int32)) + a2).toNatClampNeg) < (zi σ a0 11)) → ∃ c8, zr σ a0 16 = some c8 ∧ za n c8 10 (((2 : Int32) * a1) + a2) ∧ P_M_fail n a0 (4 : Int32) (zi σ c8 (((2 : Int32) * a1) + a2).toNatClampNeg) σ (fun σ12 => P_M_checkTargets_64 n Q K2 (fun (a0 : Nat) (a1 : Int32) (a2 : Int32) (σ : zS) => P_M_checkTargets_12 n Q K2 f a0 a1 a2 σ) a0 a1 a2 σ12)))))))
set_option maxHeartbeats 1000000 in
set_option maxRecDepth 10000 in
theorem w_M_checkTargets_12 {Q : zS → Prop} {K2 : Nat → Int32 → zS → Prop} (hr : meth.sig.returnType = none) (hK2 : ∀ (a0 : Nat) (a1 : Int32) (σ : zS), K2 a0 a1 σ → zG p l e (zrm 2 0 0) s m args below meth c (MQ below (zQc (zA base) D cA base n ex (zqv Q)) args s 0 0 (zA base)) s.heap (zA base) base D cA 3 ex prog_9_method_19_code "ConstantFlowModel" n 0 0 2 [some (.ref a0), some (.int a1), none] [] σ) : ∀ (f : Nat) (a0 : Nat) (a1 : Int32) (a2 : Int32) (σ : zS), P_M_checkTargets_12 n Q K2 f a0 a1 a2 σ → zG p l e (zrm 2 0 0) s m args below meth c (MQ below (zQc (zA base) D cA base n ex (zqv Q)) args s 0 0 (zA base)) s.heap (zA base) base D cA 3 ex prog_9_method_19_code "ConstantFlowModel" n 0 0 12 [some (.ref a0), some (.int a1), some (.int a2)] [] σ := by
  intro f
  induction f with
  | zero => intro a0 a1 a2 σ h; exact False.elim h
  | succ f ih =>
    intro a0 a1 a2 σ h
    refine zw_iload_n d_M_checkTargets_12 rfl rfl ?_
    refine zw_iconst (v := 2) d_M_checkTargets_13 rfl ?_
    obtain ⟨ht, hf⟩ := h
    refine zw_icmp_ge (tgt := 70) d_M_checkTargets_14 rfl (fun hc => ?_) (fun hc => ?_)
    · have h := ht hc; clear ht hf
      refine zw_iinc (v := (a1 + (1 : Int32))) d_M_checkTargets_70 rfl rfl (Nat.le_of_ble_eq_true rfl) rfl rfl ?_
      refine zw_goto (tgt := 2) d_M_checkTargets_73 rfl ?_
      refine zw_le (ls' := [some (.ref a0), some (.int (a1 + (1 : Int32))), none]) (And.intro rfl (And.intro rfl True.intro)) ?_
      exact hK2 _ _ _ h
    · have h := hf hc; clear ht hf
      refine zw_aload_n d_M_checkTargets_17 rfl rfl ?_
      obtain ⟨q1, h⟩ := h
      obtain ⟨c2, q3, h⟩ := h
      refine zw_gfr (ci := 7) (j := 16) d_M_checkTargets_18 mw_3_201 q1.1 q1.2 (by decide) (by decide) rfl q3 ?_
      refine zw_iconst (v := 2) d_M_checkTargets_21 rfl ?_
      refine zw_iload_n d_M_checkTargets_22 rfl rfl ?_
      refine zw_imul d_M_checkTargets_23 ?_
      refine zw_iload_n d_M_checkTargets_24 rfl rfl ?_
      refine zw_iadd d_M_checkTargets_25 ?_
      obtain ⟨q4, h⟩ := h
      refine zw_iald d_M_checkTargets_26 q4.1 (zkd_eta q4.2.1) q4.2.2 ?_
      obtain ⟨ht, hf⟩ := h
      refine zw_if_lt (tgt := 64) d_M_checkTargets_27 rfl (fun hc => ?_) (fun hc => ?_)
      · have h := ht hc; clear ht hf
        exact w_M_checkTargets_64 hr hK2 (fun a0 a1 a2 σ hk => ih a0 a1 a2 σ hk) h
      · have h := hf hc; clear ht hf
        refine zw_aload_n d_M_checkTargets_30 rfl rfl ?_
        obtain ⟨c5, q6, h⟩ := h
        refine zw_gfr (ci := 7) (j := 14) d_M_checkTargets_31 mw_3_199 q1.1 q1.2 (by decide) (by decide) rfl q6 ?_
        refine zw_iconst (v := 5) d_M_checkTargets_34 rfl ?_
        refine zw_iload_n d_M_checkTargets_35 rfl rfl ?_
        refine zw_imul d_M_checkTargets_36 ?_
        refine zw_iconst (v := 3) d_M_checkTargets_37 rfl ?_
        refine zw_iadd d_M_checkTargets_38 ?_
        refine zw_iload_n d_M_checkTargets_39 rfl rfl ?_
        refine zw_iadd d_M_checkTargets_40 ?_
        obtain ⟨q7, h⟩ := h
        refine zw_iald d_M_checkTargets_41 q7.1 (zkd_eta q7.2.1) q7.2.2 ?_
        refine zw_aload_n d_M_checkTargets_42 rfl rfl ?_
        refine zw_gfi (ci := 7) (j := 11) d_M_checkTargets_43 mw_3_196 q1.1 q1.2 (by decide) (by decide) rfl ?_
        obtain ⟨ht, hf⟩ := h
        refine zw_icmp_lt (tgt := 64) d_M_checkTargets_46 rfl (fun hc => ?_) (fun hc => ?_)
        · have h := ht hc; clear ht hf
          exact w_M_checkTargets_64 hr hK2 (fun a0 a1 a2 σ hk => ih a0 a1 a2 σ hk) h
        · have h := hf hc; clear ht hf
          refine zw_aload_n d_M_checkTargets_49 rfl rfl ?_
          refine zw_iconst (v := 4) d_M_checkTargets_50 rfl ?_
          refine zw_aload_n d_M_checkTargets_51 rfl rfl ?_
          obtain ⟨c8, q9, h⟩ := h
          refine zw_gfr (ci := 7) (j := 16) d_M_checkTargets_52 mw_3_201 q1.1 q1.2 (by decide) (by decide) rfl q9 ?_
          refine zw_iconst (v := 2) d_M_checkTargets_55 rfl ?_
          refine zw_iload_n d_M_checkTargets_56 rfl rfl ?_
          refine zw_imul d_M_checkTargets_57 ?_
          refine zw_iload_n d_M_checkTargets_58 rfl rfl ?_
          refine zw_iadd d_M_checkTargets_59 ?_
          obtain ⟨q10, h⟩ := h
          refine zw_iald d_M_checkTargets_60 q10.1 (zkd_eta q10.2.1) q10.2.2 ?_
          refine zw_callV (ci := 7) (b := a0) (As := [.int (4 : Int32), .int (zi σ c8 (((2 : Int32) * a1) + a2).toNatClampNeg)]) (r := []) d_M_checkTargets_61 (c_M_fail h) mw_4_85 mw_4_87 mp_2_15 mw_1_8 mw_4_88 (by decide) q1.1 q1.2 hyV_M_fail (Nat.le_of_ble_eq_true rfl) (Nat.le_of_ble_eq_true rfl) ⟨(Nat.le_of_ble_eq_true rfl), (Nat.le_of_ble_eq_true rfl)⟩ (Nat.le_of_ble_eq_true rfl) rfl (zk_v (fun σ12 h => ?_))
          exact w_M_checkTargets_64 hr hK2 (fun a0 a1 a2 σ hk => ih a0 a1 a2 σ hk) h
def P_M_checkTargets_2 (n : Nat) (Q : zS → Prop) : Nat → Nat → Int32 → zS → Prop
  | 0, _, _, _ => False
  | f + 1, a0, a1, σ => zk n a0 7 ∧ (((zi σ a0 11) ≤ a1 → Q σ) ∧ (¬ ((zi σ a0 11) ≤ a1) → ∃ g, P_M_checkTargets_12 n Q (fun (a0 : Nat) (a1 : Int32) (σ : zS) => P_M_checkTargets_2 n Q f a0 a1 σ) g a0 a1 (0 : Int32) σ))
set_option maxHeartbeats 1000000 in
set_option maxRecDepth 10000 in
theorem w_M_checkTargets_2 {Q : zS → Prop} (hr : meth.sig.returnType = none) : ∀ (f : Nat) (a0 : Nat) (a1 : Int32) (σ : zS), P_M_checkTargets_2 n Q f a0 a1 σ → zG p l e (zrm 2 0 0) s m args below meth c (MQ below (zQc (zA base) D cA base n ex (zqv Q)) args s 0 0 (zA base)) s.heap (zA base) base D cA 3 ex prog_9_method_19_code "ConstantFlowModel" n 0 0 2 [some (.ref a0), some (.int a1), none] [] σ := by
  intro f
  induction f with
  | zero => intro a0 a1 σ h; exact False.elim h
  | succ f ih =>
    intro a0 a1 σ h
    refine zw_iload_n d_M_checkTargets_2 rfl rfl ?_
    refine zw_aload_n d_M_checkTargets_3 rfl rfl ?_
    obtain ⟨q1, h⟩ := h
    refine zw_gfi (ci := 7) (j := 11) d_M_checkTargets_4 mw_3_196 q1.1 q1.2 (by decide) (by decide) rfl ?_
    obtain ⟨ht, hf⟩ := h
    refine zw_icmp_ge (tgt := 76) d_M_checkTargets_7 rfl (fun hc => ?_) (fun hc => ?_)
    · have h := ht hc; clear ht hf
      exact zw_vret d_M_checkTargets_76 hr h
    · have h := hf hc; clear ht hf
      refine zw_iconst (v := 0) d_M_checkTargets_10 rfl ?_
      refine zw_istore_n d_M_checkTargets_11 rfl (Nat.le_of_ble_eq_true rfl) rfl rfl ?_
      obtain ⟨g, h⟩ := h
      exact w_M_checkTargets_12 hr (fun a0 a1 σ hk => ih a0 a1 σ hk) g _ _ _ _ h
def P_M_checkTargets (n : Nat) (a0 : Nat) (σ : zS) (Q : zS → Prop) : Prop := ∃ g, P_M_checkTargets_2 n Q g a0 (0 : Int32) σ
set_option maxHeartbeats 1000000 in
set_option maxRecDepth 10000 in
theorem w_M_checkTargets {Q : zS → Prop} (hr : meth.sig.returnType = none) {a0 : Nat} {σ : zS} (h : P_M_checkTargets n a0 σ Q) : zG p l e (zrm 2 0 0) s m args below meth c (MQ below (zQc (zA base) D cA base n ex (zqv Q)) args s 0 0 (zA base)) s.heap (zA base) base D cA 3 ex prog_9_method_19_code "ConstantFlowModel" n 0 0 0 [some (.ref a0), none, none] [] σ := by
  unfold P_M_checkTargets at h
  refine zw_iconst (v := 0) d_M_checkTargets_0 rfl ?_
  refine zw_istore_n d_M_checkTargets_1 rfl (Nat.le_of_ble_eq_true rfl) rfl rfl ?_
  obtain ⟨g, h⟩ := h
  exact w_M_checkTargets_2 hr g _ _ _ h
theorem c_M_checkTargets {l : Launch} {D : va_G} {cA : Nat → ClassId} {base n : Nat} {ex : Bool} {Q : zS → Prop} {a0 : Nat} {σ : zS} (h : P_M_checkTargets n a0 σ Q) : zM l y_M_checkTargets prog_9_method_19_code 3 (none) 2 0 0 (zA base) D cA base n n ex [.ref a0] σ (zqv Q) :=
  zMet (by decide) rfl (Nat.le_of_ble_eq_true rfl) (fun p e s m args below meth c hr hnm => w_M_checkTargets hr h)
end
