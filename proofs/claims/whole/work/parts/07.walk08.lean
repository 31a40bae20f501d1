section
variable {p : Program} {l : Launch} {e : Env} {s : State} {m : MethodId} {args : Array Value} {below : List Frame} {meth : Method} {c : Code} {base : Nat} {D : va_G} {cA : Nat → ClassId} {ex : Bool} {n : Nat}
def P_M_block_242 (n : Nat) (Q : zS → Prop) (a0 : Nat) (σ : zS) : Prop := zk n a0 7 ∧ Q (zI σ a0 11 ((zi σ a0 11) + (1 : Int32)))
set_option maxHeartbeats 1000000 in
set_option maxRecDepth 10000 in
theorem w_M_block_242 {Q : zS → Prop} (hr : meth.sig.returnType = none) {a0 : Nat} {σ : zS} (h : P_M_block_242 n Q a0 σ) : zG p l e (zrm 5 0 0) s m args below meth c (MQ below (zQc (zA base) D cA base n ex (zqv Q)) args s 0 0 (zA base)) s.heap (zA base) base D cA 4 ex prog_9_method_18_code "ConstantFlowModel" n 0 0 242 [some (.ref a0), none, none, none] [] σ := by
  unfold P_M_block_242 at h
  refine zw_aload_n d_M_block_242 rfl rfl ?_
  refine zw_dup d_M_block_243 rfl ?_
  obtain ⟨q1, h⟩ := h
  refine zw_gfi (ci := 7) (j := 11) d_M_block_244 mw_3_196 q1.1 q1.2 (by decide) (by decide) rfl ?_
  refine zw_iconst (v := 1) d_M_block_247 rfl ?_
  refine zw_iadd d_M_block_248 ?_
  refine zw_pfi (ci := 7) (j := 11) d_M_block_249 mw_3_196 q1.1 q1.2 (by decide) (by decide) rfl rfl rfl rfl ?_
  exact zw_vret d_M_block_252 hr h
def P_M_block_239 (n : Nat) (Q : zS → Prop) (K41 : Nat → Int32 → zS → Prop) (a0 : Nat) (a1 : Int32) (σ : zS) : Prop := K41 a0 a1 σ
set_option maxHeartbeats 1000000 in
set_option maxRecDepth 10000 in
theorem w_M_block_239 {Q : zS → Prop} {K41 : Nat → Int32 → zS → Prop} (hr : meth.sig.returnType = none) (hK41 : ∀ (a0 : Nat) (a1 : Int32) (σ : zS), K41 a0 a1 σ → zG p l e (zrm 5 0 0) s m args below meth c (MQ below (zQc (zA base) D cA base n ex (zqv Q)) args s 0 0 (zA base)) s.heap (zA base) base D cA 4 ex prog_9_method_18_code "ConstantFlowModel" n 0 0 41 [some (.ref a0), some (.int a1), none, none] [] σ) {a0 : Nat} {a1 : Int32} {σ : zS} (h : P_M_block_239 n Q K41 a0 a1 σ) : zG p l e (zrm 5 0 0) s m args below meth c (MQ below (zQc (zA base) D cA base n ex (zqv Q)) args s 0 0 (zA base)) s.heap (zA base) base D cA 4 ex prog_9_method_18_code "ConstantFlowModel" n 0 0 239 [some (.ref a0), some (.int a1), none, none] [] σ := by
  unfold P_M_block_239 at h
  refine zw_goto (tgt := 41) d_M_block_239 rfl ?_
  exact hK41 _ _ _ h
def P_M_block_228 (n : Nat) (Q : zS → Prop) (K41 : Nat → Int32 → zS → Prop) (a0 : Nat) (a1 : Int32) (σ : zS) : Prop := zk n a0 7 ∧ ((¬ (zi σ a0 3) = 0 → P_M_block_239 n Q K41 a0 a1 σ) ∧ ((zi σ a0 3) = 0 → P_M_choice n a0 σ (fun σ3 => P_M_block_239 n Q K41 a0 a1 σ3)))
set_option maxHeartbeats 1000000 in
set_option maxRecDepth 10000 in
theorem w_M_block_228 {Q : zS → Prop} {K41 : Nat → Int32 → zS → Prop} (hr : meth.sig.returnType = none) (hK41 : ∀ (a0 : Nat) (a1 : Int32) (σ : zS), K41 a0 a1 σ → zG p l e (zrm 5 0 0) s m args below meth c (MQ below (zQc (zA base) D cA base n ex (zqv Q)) args s 0 0 (zA base)) s.heap (zA base) base D cA 4 ex prog_9_method_18_code "ConstantFlowModel" n 0 0 41 [some (.ref a0), some (.int a1), none, none] [] σ) {a0 : Nat} {a1 : Int32} {σ : zS} (h : P_M_block_228 n Q K41 a0 a1 σ) : zG p l e (zrm 5 0 0) s m args below meth c (MQ below (zQc (zA base) D cA base n ex (zqv Q)) args s 0 0 (zA base)) s.heap (zA base) base D cA 4 ex prog_9_method_18_code "ConstantFlowModel" n 0 0 228 [some (.ref a0), some (.int a1), none, none] [] σ := by
  unfold P_M_block_228 at h
  refine zw_aload_n d_M_block_228 rfl rfl ?_
  obtain ⟨q1, h⟩ := h
  refine zw_gfi (ci := 7) (j := 3) d_M_block_229 mw_3_188 q1.1 q1.2 (by decide) (by decide) rfl ?_
  obtain ⟨ht, hf⟩ := h
  refine zw_if_ne (tgt := 239) d_M_block_232 rfl (fun hc => ?_) (fun hc => ?_)
  · have h := ht hc; clear ht hf
    exact w_M_block_239 hr hK41 h
  · have h := hf hc; clear ht hf
    refine zw_aload_n d_M_block_235 rfl rfl ?_
    refine zw_callV (ci := 7) (b := a0) (As := []) (r := []) d_M_block_236 (c_M_choice h) mw_4_112 mw_4_114 mp_3_3 mw_1_8 mw_4_115 (by decide) q1.1 q1.2 hyV_M_choice (Nat.le_of_ble_eq_true rfl) (Nat.le_of_ble_eq_true rfl) ⟨(Nat.le_of_ble_eq_true rfl), (Nat.le_of_ble_eq_true rfl)⟩ (Nat.le_of_ble_eq_true rfl) rfl (zk_v (fun σ3 h => ?_))
    exact w_M_block_239 hr hK41 h
def P_M_block_41 (n : Nat) (Q : zS → Prop) : Nat → Nat → Int32 → zS → Prop
  | 0, _, _, _ => False
  | f + 1, a0, a1, σ => ((a1 = 0 → P_M_block_242 n Q a0 σ) ∧ (¬ (a1 = 0) → zk n a0 7 ∧ ((¬ (zi σ a0 3) = 0 → P_M_block_242 n Q a0 σ) ∧ ((zi σ a0 3) = 0 → P_M_skip n a0 σ (fun σ3 => P_M_byteAt n a0 (zi σ3 a0 5) σ3 (fun x4 σ5 => ((¬ x4 = (46 : Int32) → ((¬ x4 = (62 : Int32) → P_M_operand n a0 σ5 (fun σ7 => P_M_skip n a0 σ7 (fun σ9 => ((¬ (zi σ9 a0 3) = 0 → P_M_block_228 n Q (fun (a0 : Nat) (a1 : Int32) (σ : zS) => P_M_block_41 n Q f a0 a1 σ) a0 (0 : Int32) σ9) ∧ ((zi σ9 a0 3) = 0 → P_M_isVariable n x4 σ9 (fun x10 σ11 => ((x10 = 0 → P_M_block_228 n Q (fun (a0 : Nat) (a1 : Int32) (σ : zS) => P_M_block_41 n Q f a0 a1 σ) a0 (0 : Int32) σ11) ∧ (¬ (x10 = 0) → P_M_byteAt n a0 (zi σ11 a0 5) σ11 (fun x12 σ13 => ((¬ x12 = (61 : Int32) → P_M_block_228 n Q (fun (a0 : Nat) (a1 : Int32) (σ : zS) => P_M_block_41 n Q f a0 a1 σ) a0 (0 : Int32) σ13) ∧ (x12 = (61 : Int32) → ((¬ (zi (zI σ13 a0 5 ((zi σ13 a0 5) + (1 : Int32))) a0 12) = (80 : Int32) → P_M_statement n a0 (x4 - (97 : Int32)) (zI σ13 a0 5 ((zi σ13 a0 5) + (1 : Int32))) (fun σ15 => P_M_block_239 n Q (fun (a0 : Nat) (a1 : Int32) (σ : zS) => P_M_block_41 n Q f a0 a1 σ) a0 (1 : Int32) σ15)) ∧ ((zi (zI σ13 a0 5 ((zi σ13 a0 5) + (1 : Int32))) a0 12) = (80 : Int32) → P_M_fail n a0 (3 : Int32) (zi σ3 a0 5) (zI σ13 a0 5 ((zi σ13 a0 5) + (1 : Int32))) (fun σ17 => P_M_block_239 n Q (fun (a0 : Nat) (a1 : Int32) (σ : zS) => P_M_block_41 n Q f a0 a1 σ) a0 (1 : Int32) σ17)))))))))))))) ∧ (x4 = (62 : Int32) → ∃ c18, zr (zI σ5 a0 5 ((zi σ5 a0 5) + (1 : Int32))) a0 14 = some c18 ∧ za n c18 10 ((5 : Int32) * (zi (zI σ5 a0 5 ((zi σ5 a0 5) + (1 : Int32))) a0 11)) ∧ ∃ c21, zr (zI (zI σ5 a0 5 ((zi σ5 a0 5) + (1 : Int32))) c18 ((5 : Int32) * (zi (zI σ5 a0 5 ((zi σ5 a0 5) + (1 : Int32))) a0 11)).toNatClampNeg (1 : Int32)) a0 14 = some c21 ∧ P_M_blockNumber n a0 (0 : Int32) (zI (zI σ5 a0 5 ((zi σ5 a0 5) + (1 : Int32))) c18 ((5 : Int32) * (zi (zI σ5 a0 5 ((zi σ5 a0 5) + (1 : Int32))) a0 11)).toNatClampNeg (1 : Int32)) (fun x23 σ24 => za n c21 10 (((5 : Int32) * (zi (zI (zI σ5 a0 5 ((zi σ5 a0 5) + (1 : Int32))) c18 ((5 : Int32) * (zi (zI σ5 a0 5 ((zi σ5 a0 5) + (1 : Int32))) a0 11)).toNatClampNeg (1 : Int32)) a0 11)) + (3 : Int32)) ∧ P_M_block_239 n Q (fun (a0 : Nat) (a1 : Int32) (σ : zS) => P_M_block_41 n Q f a0 a1 σ) a0 (0 : Int32) (zI σ24 c21 (((5 : Int32) * (zi (zI (zI σ5 a0 5 ((zi σ5 a0 5) + (1 : Int32))) c18 ((5 : Int32) * (zi (zI σ5 a0 5 ((zi σ5 a0 5) + (1 : Int32))) a0 11)).toNatClampNeg (1 : Int32)) a0 11)) + (3 : Int32)).toNatClampNeg x23))))) ∧ (x4 = (46 : Int32) → ∃ c26, zr (zI σ5 a0 5 ((zi σ5 a0 5) + (1 : Int32))) a0 14 = some c26 ∧ za n c26 10 ((5 : Int32) * (zi (zI σ5 a0 5 ((zi σ5 a0 5) + (1 : Int32))) a0 11)) ∧ P_M_block_239 n Q (fun (a0 : Nat) (a1 : Int32) (σ : zS) => P_M_block_41 n Q f a0 a1 σ) a0 (0 : Int32) (zI (zI σ5 a0 5 ((zi σ5 a0 5) + (1 : Int32))) c26 ((5 : Int32) * (zi (zI σ5 a0 5 ((zi σ5 a0 5) + (1 : Int32))) a0 11)).toNatClampNeg (0 : Int32))))))))))
set_option maxHeartbeats 1000000 in
set_option maxRecDepth 10000 in
theorem w_M_block_41 {Q : zS → Prop} (hr : meth.sig.returnType = none) : ∀ (f : Nat) (a0 : Nat) (a1 : Int32) (σ : zS), P_M_block_41 n Q f a0 a1 σ → zG p l e (zrm 5 0 0) s m args below meth c (MQ below (zQc (zA base) D cA base n ex (zqv Q)) args s 0 0 (zA base)) s.heap (zA base) base D cA 4 ex prog_9_method_18_code "ConstantFlowModel" n 0 0 41 [some (.ref a0), some (.int a1), none, none] [] σ := by
  intro f
  induction f with
  | zero => intro a0 a1 σ h; exact False.elim h
  | succ f ih =>
    intro a0 a1 σ h
    refine zw_iload_n d_M_block_41 rfl rfl ?_
    obtain ⟨ht, hf⟩ := h
    refine zw_if_eq (tgt := 242) d_M_block_42 rfl (fun hc => ?_) (fun hc => ?_)
    · have h := ht hc; clear ht hf
      refine zw_le (ls' := [some (.ref a0), none, none, none]) (And.intro rfl True.intro) ?_
      exact w_M_block_242 hr h
    · have h := hf hc; clear ht hf
      refine zw_aload_n d_M_block_45 rfl rfl ?_
      obtain ⟨q1, h⟩ := h
      refine zw_gfi (ci := 7) (j := 3) d_M_block_46 mw_3_188 q1.1 q1.2 (by decide) (by decide) rfl ?_
      obtain ⟨ht, hf⟩ := h
      refine zw_if_ne (tgt := 242) d_M_block_49 rfl (fun hc => ?_) (fun hc => ?_)
      · have h := ht hc; clear ht hf
        refine zw_le (ls' := [some (.ref a0), none, none, none]) (And.intro rfl True.intro) ?_
        exact w_M_block_242 hr h
      · have h := hf hc; clear ht hf
        refine zw_aload_n d_M_block_52 rfl rfl ?_
        refine zw_callV (ci := 7) (b := a0) (As := []) (r := []) d_M_block_53 (c_M_skip h) mw_4_66 mw_4_68 mp_2_11 mw_1_8 mw_4_69 (by decide) q1.1 q1.2 hyV_M_skip (Nat.le_of_ble_eq_true rfl) (Nat.le_of_ble_eq_true rfl) ⟨(Nat.le_of_ble_eq_true rfl), (Nat.le_of_ble_eq_true rfl)⟩ (Nat.le_of_ble_eq_true rfl) rfl (zk_v (fun σ3 h => ?_))
        refine zw_aload_n d_M_block_56 rfl rfl ?_
        refine zw_gfi (ci := 7) (j := 5) d_M_block_57 mw_3_190 q1.1 q1.2 (by decide) (by decide) rfl ?_
        refine zw_istore_n d_M_block_60 rfl (Nat.le_of_ble_eq_true rfl) rfl rfl ?_
        refine zw_aload_n d_M_block_61 rfl rfl ?_
        refine zw_aload_n d_M_block_62 rfl rfl ?_
        refine zw_gfi (ci := 7) (j := 5) d_M_block_63 mw_3_190 q1.1 q1.2 (by decide) (by decide) rfl ?_
        refine zw_callV (ci := 7) (b := a0) (As := [.int (zi σ3 a0 5)]) (r := []) d_M_block_66 (c_M_byteAt h) mw_4_70 mw_4_72 mp_2_12 mw_1_8 mw_4_73 (by decide) q1.1 q1.2 hyV_M_byteAt (Nat.le_of_ble_eq_true rfl) (Nat.le_of_ble_eq_true rfl) ⟨(Nat.le_of_ble_eq_true rfl), (Nat.le_of_ble_eq_true rfl)⟩ (Nat.le_of_ble_eq_true rfl) rfl (zk_i (fun x4 σ5 h => ?_))
        refine zw_istore_n d_M_block_69 rfl (Nat.le_of_ble_eq_true rfl) rfl rfl ?_
        refine zw_iconst (v := 0) d_M_block_70 rfl ?_
        refine zw_istore_n d_M_block_71 rfl (Nat.le_of_ble_eq_true rfl) rfl rfl ?_
        refine zw_iload_n d_M_block_72 rfl rfl ?_
        refine zw_bipush (v := 46) d_M_block_73 rfl ?_
        obtain ⟨ht, hf⟩ := h
        refine zw_icmp_ne (tgt := 103) d_M_block_75 rfl (fun hc => ?_) (fun hc => ?_)
        · have h := ht hc; clear ht hf
          refine zw_iload_n d_M_block_103 rfl rfl ?_
          refine zw_bipush (v := 62) d_M_block_104 rfl ?_
          obtain ⟨ht, hf⟩ := h
          refine zw_icmp_ne (tgt := 152) d_M_block_106 rfl (fun hc => ?_) (fun hc => ?_)
          · have h := ht hc; clear ht hf
            refine zw_aload_n d_M_block_152 rfl rfl ?_
            refine zw_callV (ci := 7) (b := a0) (As := []) (r := []) d_M_block_153 (c_M_operand h) mw_4_94 mw_4_96 mp_3_0 mw_1_8 mw_4_97 (by decide) q1.1 q1.2 hyV_M_operand (Nat.le_of_ble_eq_true rfl) (Nat.le_of_ble_eq_true rfl) ⟨(Nat.le_of_ble_eq_true rfl), (Nat.le_of_ble_eq_true rfl)⟩ (Nat.le_of_ble_eq_true rfl) rfl (zk_v (fun σ7 h => ?_))
            refine zw_aload_n d_M_block_156 rfl rfl ?_
            refine zw_callV (ci := 7) (b := a0) (As := []) (r := []) d_M_block_157 (c_M_skip h) mw_4_66 mw_4_68 mp_2_11 mw_1_8 mw_4_69 (by decide) q1.1 q1.2 hyV_M_skip (Nat.le_of_ble_eq_true rfl) (Nat.le_of_ble_eq_true rfl) ⟨(Nat.le_of_ble_eq_true rfl), (Nat.le_of_ble_eq_true rfl)⟩ (Nat.le_of_ble_eq_true rfl) rfl (zk_v (fun σ9 h => ?_))
            refine zw_aload_n d_M_block_160 rfl rfl ?_
            refine zw_gfi (ci := 7) (j := 3) d_M_block_161 mw_3_188 q1.1 q1.2 (by decide) (by decide) rfl ?_
            obtain ⟨ht, hf⟩ := h
            refine zw_if_ne (tgt := 228) d_M_block_164 rfl (fun hc => ?_) (fun hc => ?_)
            · have h := ht hc; clear ht hf
              refine zw_le (ls' := [some (.ref a0), some (.int (0 : Int32)), none, none]) (And.intro rfl (And.intro rfl True.intro)) ?_
              exact w_M_block_228 hr (fun a0 a1 σ hk => ih a0 a1 σ hk) h
            · have h := hf hc; clear ht hf
              refine zw_iload_n d_M_block_167 rfl rfl ?_
              refine zw_callS (As := [.int x4]) (r := []) d_M_block_168 (c_M_isVariable h) mw_4_98 mw_4_99 mw_1_8 mw_4_100 hyS_M_isVariable (Nat.le_of_ble_eq_true rfl) (Nat.le_of_ble_eq_true rfl) ⟨(Nat.le_of_ble_eq_true rfl), (Nat.le_of_ble_eq_true rfl)⟩ (Nat.le_of_ble_eq_true rfl) rfl (zk_i (fun x10 σ11 h => ?_))
              obtain ⟨ht, hf⟩ := h
              refine zw_if_eq (tgt := 228) d_M_block_171 rfl (fun hc => ?_) (fun hc => ?_)
              · have h := ht hc; clear ht hf
                refine zw_le (ls' := [some (.ref a0), some (.int (0 : Int32)), none, none]) (And.intro rfl (And.intro rfl True.intro)) ?_
                exact w_M_block_228 hr (fun a0 a1 σ hk => ih a0 a1 σ hk) h
              · have h := hf hc; clear ht hf
                refine zw_aload_n d_M_block_174 rfl rfl ?_
                refine zw_aload_n d_M_block_175 rfl rfl ?_
                refine zw_gfi (ci := 7) (j := 5) d_M_block_176 mw_3_190 q1.1 q1.2 (by decide) (by decide) rfl ?_
                refine zw_callV (ci := 7) (b := a0) (As := [.int (zi σ11 a0 5)]) (r := []) d_M_block_179 (c_M_byteAt h) mw_4_70 mw_4_72 mp_2_12 mw_1_8 mw_4_73 (by decide) q1.1 q1.2 hyV_M_byteAt (Nat.le_of_ble_eq_true rfl) (Nat.le_of_ble_eq_true rfl) ⟨(Nat.le_of_ble_eq_true rfl), (Nat.le_of_ble_eq_true rfl)⟩ (Nat.le_of_ble_eq_true rfl) rfl (zk_i (fun x12 σ13 h => ?_))
                refine zw_bipush (v := 61) d_M_block_182 rfl ?_
                obtain ⟨ht, hf⟩ := h
                refine zw_icmp_ne (tgt := 228) d_M_block_184 rfl (fun hc => ?_) (fun hc => ?_)
                · have h := ht hc; clear ht hf
                  refine zw_le (ls' := [some (.ref a0), some (.int (0 : Int32)), none, none]) (And.intro rfl (And.intro rfl True.intro)) ?_
                  exact w_M_block_228 hr (fun a0 a1 σ hk => ih a0 a1 σ hk) h
                · have h := hf hc; clear ht hf
                  refine zw_aload_n d_M_block_187 rfl rfl ?_
                  refine zw_dup d_M_block_188 rfl ?_
                  refine zw_gfi (ci := 7) (j := 5) d_M_block_189 mw_3_190 q1.1 q1.2 (by decide) (by decide) rfl ?_
                  refine zw_iconst (v := 1) d_M_block_192 rfl ?_
                  refine zw_iadd d_M_block_193 ?_
                  refine zw_pfi (ci := 7) (j := 5) d_M_block_194 mw_3_190 q1.1 q1.2 (by decide) (by decide) rfl rfl rfl rfl ?_
                  refine zw_iconst (v := 1) d_M_block_197 rfl ?_
                  refine zw_istore_n d_M_block_198 rfl (Nat.le_of_ble_eq_true rfl) rfl rfl ?_
                  refine zw_aload_n d_M_block_199 rfl rfl ?_
                  refine zw_gfi (ci := 7) (j := 12) d_M_block_200 mw_3_197 q1.1 q1.2 (by decide) (by decide) rfl ?_
                  refine zw_bipush (v := 80) d_M_block_203 rfl ?_
                  obtain ⟨ht, hf⟩ := h
                  refine zw_icmp_ne (tgt := 217) d_M_block_205 rfl (fun hc => ?_) (fun hc => ?_)
                  · have h := ht hc; clear ht hf
                    refine zw_aload_n d_M_block_217 rfl rfl ?_
                    refine zw_iload_n d_M_block_218 rfl rfl ?_
                    refine zw_bipush (v := 97) d_M_block_219 rfl ?_
                    refine zw_isub d_M_block_221 ?_
                    refine zw_callV (ci := 7) (b := a0) (As := [.int (x4 - (97 : Int32))]) (r := []) d_M_block_222 (c_M_statement h) mw_4_101 mw_4_103 mp_3_1 mw_1_8 mw_4_104 (by decide) q1.1 q1.2 hyV_M_statement (Nat.le_of_ble_eq_true rfl) (Nat.le_of_ble_eq_true rfl) ⟨(Nat.le_of_ble_eq_true rfl), (Nat.le_of_ble_eq_true rfl)⟩ (Nat.le_of_ble_eq_true rfl) rfl (zk_v (fun σ15 h => ?_))
                    refine zw_goto (tgt := 239) d_M_block_225 rfl ?_
                    refine zw_le (ls' := [some (.ref a0), some (.int (1 : Int32)), none, none]) (And.intro rfl (And.intro rfl True.intro)) ?_
                    exact w_M_block_239 hr (fun a0 a1 σ hk => ih a0 a1 σ hk) h
                  · have h := hf hc; clear ht hf
                    refine zw_aload_n d_M_block_208 rfl rfl ?_
                    refine zw_iconst (v := 3) d_M_block_209 rfl ?_
                    refine zw_iload_n d_M_block_210 rfl rfl ?_
                    refine zw_callV (ci := 7) (b := a0) (As := [.int (3 : Int32), .int (zi σ3 a0 5)]) (r := []) d_M_block_211 (c_M_fail h) mw_4_85 mw_4_87 mp_2_15 mw_1_8 mw_4_88 (by decide) q1.1 q1.2 hyV_M_fail (Nat.le_of_ble_eq_true rfl) (Nat.le_of_ble_eq_true rfl) ⟨(Nat.le_of_ble_eq_true rfl), (Nat.le_of_ble_eq_true rfl)⟩ (Nat.le_of_ble_eq_true rfl) rfl (zk_v (fun σ17 h => ?_))
                    refine zw_goto (tgt := 239) d_M_block_214 rfl ?_
                    refine zw_le (ls' := [some (.ref a0), some (.int (1 : Int32)), none, none]) (And.intro rfl (And.intro rfl True.intro)) ?_
                    exact w_M_block_239 hr (fun a0 a1 σ hk => ih a0 a1 σ hk) h
          · have h := hf hc; clear ht hf
            refine zw_aload_n d_M_block_109 rfl rfl ?_
            refine zw_dup d_M_block_110 rfl ?_
            refine zw_gfi (ci := 7) (j := 5) d_M_block_111 mw_3_190 q1.1 q1.2 (by decide) (by decide) rfl ?_
            refine zw_iconst (v := 1) d_M_block_114 rfl ?_
            refine zw_iadd d_M_block_115 ?_
            refine zw_pfi (ci := 7) (j := 5) d_M_block_116 mw_3_190 q1.1 q1.2 (by decide) (by decide) rfl rfl rfl rfl ?_
            refine zw_aload_n d_M_block_119 rfl rfl ?_
            obtain ⟨c18, q19, h⟩ := h
            refine zw_gfr (ci := 7) (j := 14) d_M_block_120 mw_3_199 q1.1 q1.2 (by decide) (by decide) rfl q19 ?_
            refine zw_iconst (v := 5) d_M_block_123 rfl ?_
            refine zw_aload_n d_M_block_124 rfl rfl ?_
            refine zw_gfi (ci := 7) (j := 11) d_M_block_125 mw_3_196 q1.1 q1.2 (by decide) (by decide) rfl ?_
            refine zw_imul d_M_block_128 ?_
            refine zw_iconst (v := 1) d_M_block_129 rfl ?_
            obtain ⟨q20, h⟩ := h
            refine zw_iast d_M_block_130 q20.1 (zkd_eta q20.2.1) q20.2.2 ?_
            refine zw_aload_n d_M_block_131 rfl rfl ?_
            obtain ⟨c21, q22, h⟩ := h
            refine zw_gfr (ci := 7) (j := 14) d_M_block_132 mw_3_199 q1.1 q1.2 (by decide) (by decide) rfl q22 ?_
            refine zw_iconst (v := 5) d_M_block_135 rfl ?_
            refine zw_aload_n d_M_block_136 rfl rfl ?_
            refine zw_gfi (ci := 7) (j := 11) d_M_block_137 mw_3_196 q1.1 q1.2 (by decide) (by decide) rfl ?_
            refine zw_imul d_M_block_140 ?_
            refine zw_iconst (v := 3) d_M_block_141 rfl ?_
            refine zw_iadd d_M_block_142 ?_
            refine zw_aload_n d_M_block_143 rfl rfl ?_
            refine zw_iconst (v := 0) d_M_block_144 rfl ?_
            refine zw_callV (ci := 7) (b := a0) (As := [.int (0 : Int32)]) (r := [.int (((5 : Int32) * (zi (zI (zI σ5 a0 5 ((zi σ5 a0 5) + (1 : Int32))) c18 ((5 : Int32) * (zi (zI σ5 a0 5 ((zi σ5 a0 5) + (1 : Int32))) a0 11)).toNatClampNeg (1 : Int32)) a0 11)) + (3 : Int32)), .ref c21]) d_M_block_145 (c_M_blockNumber h) mw_4_74 mw_4_76 mp_2_13 mw_1_8 mw_4_77 (by decide) q1.1 q1.2 hyV_M_blockNumber (Nat.le_of_ble_eq_true rfl) (Nat.le_of_ble_eq_true rfl) ⟨(Nat.le_of_ble_eq_true rfl), (Nat.le_of_ble_eq_true rfl)⟩ (Nat.le_of_ble_eq_true rfl) rfl (zk_i (fun x23 σ24 h => ?_))
            obtain ⟨q25, h⟩ := h
            refine zw_iast d_M_block_148 q25.1 (zkd_eta q25.2.1) q25.2.2 ?_
            refine zw_goto (tgt := 239) d_M_block_149 rfl ?_
            refine zw_le (ls' := [some (.ref a0), some (.int (0 : Int32)), none, none]) (And.intro rfl (And.intro rfl True.intro)) ?_
            exact w_M_block_239 hr (fun a0 a1 σ hk => ih a0 a1 σ hk) h
        · have h := hf hc; clear ht hf
          refine zw_aload_n d_M_block_78 rfl rfl ?_
          refine zw_dup d_M_block_79 rfl ?_
          refine zw_gfi (ci := 7) (j := 5) d_M_block_80 mw_3_190 q1.1 q1.2 (by decide) (by decide) rfl ?_
          refine zw_iconst (v := 1) d_M_block_83 rfl ?_
          refine zw_iadd d_M_block_84 ?_
          refine zw_pfi (ci := 7) (j := 5) d_M_block_85 mw_3_190 q1.1 q1.2 (by decide) (by decide) rfl rfl rfl rfl ?_
          refine zw_aload_n d_M_block_88 rfl rfl ?_
          obtain ⟨c26, q27, h⟩ := h
          refine zw_gfr (ci := 7) (j := 14) d_M_block_89 mw_3_199 q1.1 q1.2 (by decide) (by decide) rfl q27 ?_
          refine zw_iconst (v := 5) d_M_block_92 rfl ?_
          refine zw_aload_n d_M_block_93 rfl rfl ?_
          refine zw_gfi (ci := 7) (j := 11) d_M_block_94 mw_3_196 q1.1 q1.2 (by decide) (by decide) rfl ?_
          refine zw_imul d_M_block_97 ?_
          refine zw_iconst (v := 0) d_M_block_98 rfl ?_
          obtain ⟨q28, h⟩ := h
          refine zw_iast d_M_block_99 q28.1 (zkd_eta q28.2.1) q28.2.2 ?_
          refine zw_goto (tgt := 239) d_M_block_100 rfl ?_
          refine zw_le (ls' := [some (.ref a0), some (.int (0 : Int32)), none, none]) (And.intro rfl (And.intro rfl True.intro)) ?_
          exact w_M_block_239 hr (fun a0 a1 σ hk => ih a0 a1 σ hk) h
def P_M_block (n : Nat) (a0 : Nat) (σ : zS) (Q : zS → Prop) : Prop := zk n a0 7 ∧ ∃ c2, zr σ a0 15 = some c2 ∧ za n c2 10 (zi σ a0 11) ∧ ∃ c5, zr (zI σ c2 (zi σ a0 11).toNatClampNeg (zi σ a0 12)) a0 16 = some c5 ∧ za n c5 10 ((2 : Int32) * (zi (zI σ c2 (zi σ a0 11).toNatClampNeg (zi σ a0 12)) a0 11)) ∧ ∃ c8, zr (zI (zI σ c2 (zi σ a0 11).toNatClampNeg (zi σ a0 12)) c5 ((2 : Int32) * (zi (zI σ c2 (zi σ a0 11).toNatClampNeg (zi σ a0 12)) a0 11)).toNatClampNeg (-1 : Int32)) a0 16 = some c8 ∧ za n c8 10 (((2 : Int32) * (zi (zI (zI σ c2 (zi σ a0 11).toNatClampNeg (zi σ a0 12)) c5 ((2 : Int32) * (zi (zI σ c2 (zi σ a0 11).toNatClampNeg (zi σ a0 12)) a0 11)).toNatClampNeg (-1 : Int32)) a0 11)) + (1 : Int32)) ∧ ∃ g, P_M_block_41 n Q g a0 (1 : Int32) (zI (zI (zI σ c2 (zi σ a0 11).toNatClampNeg (zi σ a0 12)) c5 ((2 : Int32) * (zi (zI σ c2 (zi σ a0 11).toNatClampNeg (zi σ a0 12)) a0 11)).toNatClampNeg (-1 : Int32)) c8 (((2 : Int32) * (zi (zI (zI σ c2 (zi σ a0 11).toNatClampNeg (zi σ a0 12)) c5 ((2 : Int32) * (zi (zI σ c2 (zi σ a0 11).toNatClampNeg (zi σ a0 12)) a0 11)).toNatClampNeg (-1 : Int32)) a0 11)) + (1 : Int32)).toNatClampNeg (-1 : Int32))
set_option maxHeartbeats 1000000 in
set_option maxRecDepth 10000 in
theorem w_M_block {Q : zS → Prop} (hr : meth.sig.returnType = none) {a0 : Nat} {σ : zS} (h : P_M_block n a0 σ Q) : zG p l e (zrm 5 0 0) s m args below meth c (MQ below (zQc (zA base) D cA base n ex (zqv Q)) args s 0 0 (zA base)) s.heap (zA base) base D cA 4 ex prog_9_method_18_code "ConstantFlowModel" n 0 0 0 [some (.ref a0), none, none, none] [] σ := by
  unfold P_M_block at h
  refine zw_aload_n d_M_block_0 rfl rfl ?_
  obtain ⟨q1, h⟩ := h
  obtain ⟨c2, q3, h⟩ := h
  refine zw_gfr (ci := 7) (j := 15) d_M_block_1 mw_3_200 q1.1 q1.2 (by decide) (by decide) rfl q3 ?_
  refine zw_aload_n d_M_block_4 rfl rfl ?_
  refine zw_gfi (ci := 7) (j := 11) d_M_block_5 mw_3_196 q1.1 q1.2 (by decide) (by decide) rfl ?_
  refine zw_aload_n d_M_block_8 rfl rfl ?_
  refine zw_gfi (ci := 7) (j := 12) d_M_block_9 mw_3_197 q1.1 q1.2 (by decide) (by decide) rfl ?_
  obtain ⟨q4, h⟩ := h
  refine zw_iast d_M_block_12 q4.1 (zkd_eta q4.2.1) q4.2.2 ?_
  refine zw_iconst (v := 1) d_M_block_13 rfl ?_
  refine zw_istore_n d_M_block_14 rfl (Nat.le_of_ble_eq_true rfl) rfl rfl ?_
  refine zw_aload_n d_M_block_15 rfl rfl ?_
  obtain ⟨c5, q6, h⟩ := h
  refine zw_gfr (ci := 7) (j := 16) d_M_block_16 mw_3_201 q1.1 q1.2 (by decide) (by decide) rfl q6 ?_
  refine zw_iconst (v := 2) d_M_block_19 rfl ?_
  refine zw_aload_n d_M_block_20 rfl rfl ?_
  refine zw_gfi (ci := 7) (j := 11) d_M_block_21 mw_3_196 q1.1 q1.2 (by decide) (by decide) rfl ?_
  refine zw_imul d_M_block_24 ?_
  refine zw_iconst (v := -1) d_M_block_25 rfl ?_
  obtain ⟨q7, h⟩ := h
  refine zw_iast d_M_block_26 q7.1 (zkd_eta q7.2.1) q7.2.2 ?_
  refine zw_aload_n d_M_block_27 rfl rfl ?_
  obtain ⟨c8, q9, h⟩ := h
  refine zw_gfr (ci := 7) (j := 16) d_M_block_28 mw_3_201 q1.1 q1.2 (by decide) (by decide) rfl q9 ?_
  refine zw_iconst (v := 2) d_M_block_31 rfl ?_
  refine zw_aload_n d_M_block_32 rfl rfl ?_
  refine zw_gfi (ci := 7) (j := 11) d_M_block_33 mw_3_196 q1.1 q1.2 (by decide) (by decide) rfl ?_
  refine zw_imul d_M_block_36 ?_
  refine zw_iconst (v := 1) d_M_block_37 rfl ?_
  refine zw_iadd d_M_block_38 ?_
  refine zw_iconst (v := -1) d_M_block_39 rfl ?_
  obtain ⟨q10, h⟩ := h
  refine zw_iast d_M_block_40 q10.1 (zkd_eta q10.2.1) q10.2.2 ?_
  obtain ⟨g, h⟩ := h
  exact w_M_block_41 hr g _ _ _ h
theorem c_M_block {l : Launch} {D : va_G} {cA : Nat → ClassId} {base n : Nat} {ex : Bool} {Q : zS → Prop} {a0 : Nat} {σ : zS} (h : P_M_block n a0 σ Q) : zM l y_M_block prog_9_method_18_code 4 (none) 5 0 0 (zA base) D cA base n n ex [.ref a0] σ (zqv Q) :=
  zMet (by decide) rfl (Nat.le_of_ble_eq_true rfl) (fun p e s m args below meth c hr hnm => w_M_block hr h)
def P_M_comes_14 (n : Nat) (Q : Int32 → zS → Prop) (a0 : Nat) (a1 : Int32) (b0 : Nat) (b1 : Int32) (σ : zS) : Prop := zk n b0 7 ∧ zk n a0 7 ∧ (((zi (zI σ b0 0 b1) a0 0) ≤ 0 → P_M_know n a0 (zI σ b0 0 b1) (fun σ4 => ∃ c5, zr σ4 a0 20 = some c5 ∧ za n c5 11 a1 ∧ ((zi σ4 c5 a1.toNatClampNeg) = 0 ∨ (zi σ4 c5 a1.toNatClampNeg) = 1) ∧ Q (zi σ4 c5 a1.toNatClampNeg) σ4)) ∧ (¬ ((zi (zI σ b0 0 b1) a0 0) ≤ 0) → ((0 : Int32) = 0 ∨ (0 : Int32) = 1) ∧ Q (0 : Int32) (zI σ b0 0 b1)))
set_option maxHeartbeats 1000000 in
set_option maxRecDepth 10000 in
theorem w_M_comes_14 {Q : Int32 → zS → Prop} (hr : meth.sig.returnType = some .boolean) {a0 : Nat} {a1 : Int32} {b0 : Nat} {b1 : Int32} {σ : zS} (h : P_M_comes_14 n Q a0 a1 b0 b1 σ) : zG p l e (zrm 5 0 0) s m args below meth c (MQ below (zQc (zA base) D cA base n ex (zqi Q)) args s 0 0 (zA base)) s.heap (zA base) base D cA 2 ex prog_9_method_34_code "ConstantFlowModel" n 0 0 14 [some (.ref a0), some (.int a1)] [.int b1, .ref b0] σ := by
  unfold P_M_comes_14 at h
  obtain ⟨q1, h⟩ := h
  refine zw_pfi (ci := 7) (j := 0) d_M_comes_14 mw_3_185 q1.1 q1.2 (by decide) (by decide) rfl rfl rfl rfl ?_
  refine zw_aload_n d_M_comes_17 rfl rfl ?_
  obtain ⟨q2, h⟩ := h
  refine zw_gfi (ci := 7) (j := 0) d_M_comes_18 mw_3_185 q2.1 q2.2 (by decide) (by decide) rfl ?_
  obtain ⟨ht, hf⟩ := h
  refine zw_if_le (tgt := 26) d_M_comes_21 rfl (fun hc => ?_) (fun hc => ?_)
  · have h := ht hc; clear ht hf
    refine zw_aload_n d_M_comes_26 rfl rfl ?_
    refine zw_callV (ci := 7) (b := a0) (As := []) (r := []) d_M_comes_27 (c_M_know h) mw_4_136 mw_4_138 mp_3_6 mw_1_8 mw_4_139 (by decide) q2.1 q2.2 hyV_M_know (Nat.le_of_ble_eq_true rfl) (Nat.le_of_ble_eq_true rfl) ⟨(Nat.le_of_ble_eq_true rfl), (Nat.le_of_ble_eq_true rfl)⟩ (Nat.le_of_ble_eq_true rfl) rfl (zk_v (fun σ4 h => ?_))
    refine zw_aload_n d_M_comes_30 rfl rfl ?_
    obtain ⟨c5, q6, h⟩ := h
    refine zw_gfr (ci := 7) (j := 20) d_M_comes_31 mw_3_205 q2.1 q2.2 (by decide) (by decide) rfl q6 ?_
    refine zw_iload_n d_M_comes_34 rfl rfl ?_
    obtain ⟨q7, h⟩ := h
    refine zw_zald d_M_comes_35 q7.1 (zkd_eta q7.2.1) q7.2.2 ?_
    obtain ⟨q8, h⟩ := h
    exact zw_zret d_M_comes_36 hr q8 h
  · have h := hf hc; clear ht hf
    refine zw_iconst (v := 0) d_M_comes_24 rfl ?_
    obtain ⟨q9, h⟩ := h
    exact zw_zret d_M_comes_25 hr q9 h
def P_M_comes (n : Nat) (a0 : Nat) (a1 : Int32) (σ : zS) (Q : Int32 → zS → Prop) : Prop := zk n a0 7 ∧ P_M_noBlock n a0 a1 σ (fun x1 σ2 => ((x1 = 0 → P_M_comes_14 n Q a0 a1 a0 (0 : Int32) σ2) ∧ (¬ (x1 = 0) → P_M_comes_14 n Q a0 a1 a0 (1 : Int32) σ2)))
set_option maxHeartbeats 1000000 in
set_option maxRecDepth 10000 in
theorem w_M_comes {Q : Int32 → zS → Prop} (hr : meth.sig.returnType = some .boolean) {a0 : Nat} {a1 : Int32} {σ : zS} (h : P_M_comes n a0 a1 σ Q) : zG p l e (zrm 5 0 0) s m args below meth c (MQ below (zQc (zA base) D cA base n ex (zqi Q)) args s 0 0 (zA base)) s.heap (zA base) base D cA 2 ex prog_9_method_34_code "ConstantFlowModel" n 0 0 0 [some (.ref a0), some (.int a1)] [] σ := by
  unfold P_M_comes at h
  refine zw_aload_n d_M_comes_0 rfl rfl ?_
  refine zw_aload_n d_M_comes_1 rfl rfl ?_
  refine zw_iload_n d_M_comes_2 rfl rfl ?_
  obtain ⟨q3, h⟩ := h
  refine zw_callV (ci := 7) (b := a0) (As := [.int a1]) (r := [.ref a0]) d_M_comes_3 (c_M_noBlock h) mw_4_132 mw_4_134 mp_3_5 mw_1_8 mw_4_135 (by decide) q3.1 q3.2 hyV_M_noBlock (Nat.le_of_ble_eq_true rfl) (Nat.le_of_ble_eq_true rfl) ⟨(Nat.le_of_ble_eq_true rfl), (Nat.le_of_ble_eq_true rfl)⟩ (Nat.le_of_ble_eq_true rfl) rfl (zk_i (fun x1 σ2 h => ?_))
  obtain ⟨ht, hf⟩ := h
  refine zw_if_eq (tgt := 13) d_M_comes_6 rfl (fun hc => ?_) (fun hc => ?_)
  · have h := ht hc; clear ht hf
    refine zw_iconst (v := 0) d_M_comes_13 rfl ?_
    exact w_M_comes_14 hr h
  · have h := hf hc; clear ht hf
    refine zw_iconst (v := 1) d_M_comes_9 rfl ?_
    refine zw_goto (tgt := 14) d_M_comes_10 rfl ?_
    exact w_M_comes_14 hr h
theorem c_M_comes {l : Launch} {D : va_G} {cA : Nat → ClassId} {base n : Nat} {ex : Bool} {Q : Int32 → zS → Prop} {a0 : Nat} {a1 : Int32} {σ : zS} (h : P_M_comes n a0 a1 σ Q) : zM l y_M_comes prog_9_method_34_code 2 (some .boolean) 5 0 0 (zA base) D cA base n n ex [.ref a0, .int a1] σ (zqi Q) :=
  zMet (by decide) rfl (Nat.le_of_ble_eq_true rfl) (fun p e s m args below meth c hr hnm => w_M_comes hr h)
def P_M_goTo_43 (n : Nat) (Q : zS → Prop) (σ : zS) : Prop := Q σ
set_option maxHeartbeats 1000000 in
set_option maxRecDepth 10000 in
theorem w_M_goTo_43 {Q : zS → Prop} (hr : meth.sig.returnType = none) {σ : zS} (h : P_M_goTo_43 n Q σ) : zG p l e (zrm 5 0 0) s m args below meth c (MQ below (zQc (zA base) D cA base n ex (zqv Q)) args s 0 0 (zA base)) s.heap (zA base) base D cA 4 ex prog_9_method_35_code "ConstantFlowModel" n 0 0 43 [none, none, none, none] [] σ := by
  unfold P_M_goTo_43 at h
  exact zw_vret d_M_goTo_43 hr h
def P_M_goTo_16 (n : Nat) (Q : zS → Prop) : Nat → Nat → Int32 → Int32 → Int32 → zS → Prop
  | 0, _, _, _, _, _ => False
  | f + 1, a0, a1, a2, a3, σ => zk n a0 7 ∧ ∃ c2, zr σ a0 10 = some c2 ∧ za n c2 10 (a1 + (1 : Int32)) ∧ (((zi σ c2 (a1 + (1 : Int32)).toNatClampNeg) ≤ a3 → P_M_goTo_43 n Q σ) ∧ (¬ ((zi σ c2 (a1 + (1 : Int32)).toNatClampNeg) ≤ a3) → ((a2 = 0 → P_M_goTo_43 n Q σ) ∧ (¬ (a2 = 0) → P_M_follow n a0 a3 σ (fun σ6 => P_M_goTo_16 n Q f a0 a1 a2 (a3 + (1 : Int32)) σ6)))))
set_option maxHeartbeats 1000000 in
set_option maxRecDepth 10000 in
theorem w_M_goTo_16 {Q : zS → Prop} (hr : meth.sig.returnType = none) : ∀ (f : Nat) (a0 : Nat) (a1 : Int32) (a2 : Int32) (a3 : Int32) (σ : zS), P_M_goTo_16 n Q f a0 a1 a2 a3 σ → zG p l e (zrm 5 0 0) s m args below meth c (MQ below (zQc (zA base) D cA base n ex (zqv Q)) args s 0 0 (zA base)) s.heap (zA base) base D cA 4 ex prog_9_method_35_code "ConstantFlowModel" n 0 0 16 [some (.ref a0), some (.int a1), some (.int a2), some (.int a3)] [] σ := by
  intro f
  induction f with
  | zero => intro a0 a1 a2 a3 σ h; exact False.elim h
  | succ f ih =>
    intro a0 a1 a2 a3 σ h
    refine zw_iload_n d_M_goTo_16 rfl rfl ?_
    refine zw_aload_n d_M_goTo_17 rfl rfl ?_
    obtain ⟨q1, h⟩ := h
    obtain ⟨c2, q3, h⟩ := h
    refine zw_gfr (ci := 7) (j := 10) d_M_goTo_18 mw_3_195 q1.1 q1.2 (by decide) (by decide) rfl q3 ?_
    refine zw_iload_n d_M_goTo_21 rfl rfl ?_
    refine zw_iconst (v := 1) d_M_goTo_22 rfl ?_
    refine zw_iadd d_M_goTo_23 ?_
    obtain ⟨q4, h⟩ := h
    refine zw_iald d_M_goTo_24 q4.1 (zkd_eta q4.2.1) q4.2.2 ?_
    obtain ⟨ht, hf⟩ := h
    refine zw_icmp_ge (tgt := 43) d_M_goTo_25 rfl (fun hc => ?_) (fun hc => ?_)
    · have h := ht hc; clear ht hf
      refine zw_le (ls' := [none, none, none, none]) (True.intro) ?_
      exact w_M_goTo_43 hr h
    · have h := hf hc; clear ht hf
      refine zw_iload_n d_M_goTo_28 rfl rfl ?_
      obtain ⟨ht, hf⟩ := h
      refine zw_if_eq (tgt := 43) d_M_goTo_29 rfl (fun hc => ?_) (fun hc => ?_)
      · have h := ht hc; clear ht hf
        refine zw_le (ls' := [none, none, none, none]) (True.intro) ?_
        exact w_M_goTo_43 hr h
      · have h := hf hc; clear ht hf
        refine zw_aload_n d_M_goTo_32 rfl rfl ?_
        refine zw_iload_n d_M_goTo_33 rfl rfl ?_
        refine zw_callV (ci := 7) (b := a0) (As := [.int a3]) (r := []) d_M_goTo_34 (c_M_follow h) mw_4_144 mw_4_146 mp_3_8 mw_1_8 mw_4_147 (by decide) q1.1 q1.2 hyV_M_follow (Nat.le_of_ble_eq_true rfl) (Nat.le_of_ble_eq_true rfl) ⟨(Nat.le_of_ble_eq_true rfl), (Nat.le_of_ble_eq_true rfl)⟩ (Nat.le_of_ble_eq_true rfl) rfl (zk_v (fun σ6 h => ?_))
        refine zw_iinc (v := (a3 + (1 : Int32))) d_M_goTo_37 rfl rfl (Nat.le_of_ble_eq_true rfl) rfl rfl ?_
        refine zw_goto (tgt := 16) d_M_goTo_40 rfl ?_
        exact ih _ _ _ _ _ h
def P_M_goTo (n : Nat) (a0 : Nat) (a1 : Int32) (a2 : Int32) (σ : zS) (Q : zS → Prop) : Prop := zk n a0 7 ∧ P_M_know n a0 σ (fun σ2 => P_M_beginBlock n a0 a1 σ2 (fun σ5 => ∃ c6, zr σ5 a0 10 = some c6 ∧ za n c6 10 a1 ∧ ∃ g, P_M_goTo_16 n Q g a0 a1 a2 (zi σ5 c6 a1.toNatClampNeg) σ5))
set_option maxHeartbeats 1000000 in
set_option maxRecDepth 10000 in
theorem w_M_goTo {Q : zS → Prop} (hr : meth.sig.returnType = none) {a0 : Nat} {a1 : Int32} {a2 : Int32} {σ : zS} (h : P_M_goTo n a0 a1 a2 σ Q) : zG p l e (zrm 5 0 0) s m args below meth c (MQ below (zQc (zA base) D cA base n ex (zqv Q)) args s 0 0 (zA base)) s.heap (zA base) base D cA 4 ex prog_9_method_35_code "ConstantFlowModel" n 0 0 0 [some (.ref a0), some (.int a1), some (.int a2), none] [] σ := by
  unfold P_M_goTo at h
  refine zw_aload_n d_M_goTo_0 rfl rfl ?_
  obtain ⟨q3, h⟩ := h
  refine zw_callV (ci := 7) (b := a0) (As := []) (r := []) d_M_goTo_1 (c_M_know h) mw_4_136 mw_4_138 mp_3_6 mw_1_8 mw_4_139 (by decide) q3.1 q3.2 hyV_M_know (Nat.le_of_ble_eq_true rfl) (Nat.le_of_ble_eq_true rfl) ⟨(Nat.le_of_ble_eq_true rfl), (Nat.le_of_ble_eq_true rfl)⟩ (Nat.le_of_ble_eq_true rfl) rfl (zk_v (fun σ2 h => ?_))
  refine zw_aload_n d_M_goTo_4 rfl rfl ?_
  refine zw_iload_n d_M_goTo_5 rfl rfl ?_
  refine zw_callV (ci := 7) (b := a0) (As := [.int a1]) (r := []) d_M_goTo_6 (c_M_beginBlock h) mw_4_140 mw_4_142 mp_3_7 mw_1_8 mw_4_143 (by decide) q3.1 q3.2 hyV_M_beginBlock (Nat.le_of_ble_eq_true rfl) (Nat.le_of_ble_eq_true rfl) ⟨(Nat.le_of_ble_eq_true rfl), (Nat.le_of_ble_eq_true rfl)⟩ (Nat.le_of_ble_eq_true rfl) rfl (zk_v (fun σ5 h => ?_))
  refine zw_aload_n d_M_goTo_9 rfl rfl ?_
  obtain ⟨c6, q7, h⟩ := h
  refine zw_gfr (ci := 7) (j := 10) d_M_goTo_10 mw_3_195 q3.1 q3.2 (by decide) (by decide) rfl q7 ?_
  refine zw_iload_n d_M_goTo_13 rfl rfl ?_
  obtain ⟨q8, h⟩ := h
  refine zw_iald d_M_goTo_14 q8.1 (zkd_eta q8.2.1) q8.2.2 ?_
  refine zw_istore_n d_M_goTo_15 rfl (Nat.le_of_ble_eq_true rfl) rfl rfl ?_
  obtain ⟨g, h⟩ := h
  exact w_M_goTo_16 hr g _ _ _ _ _ h
theorem c_M_goTo {l : Launch} {D : va_G} {cA : Nat → ClassId} {base n : Nat} {ex : Bool} {Q : zS → Prop} {a0 : Nat} {a1 : Int32} {a2 : Int32} {σ : zS} (h : P_M_goTo n a0 a1 a2 σ Q) : zM l y_M_goTo prog_9_method_35_code 4 (none) 5 0 0 (zA base) D cA base n n ex [.ref a0, .int a1, .int a2] σ (zqv Q) :=
  zMet (by decide) rfl (Nat.le_of_ble_eq_true rfl) (fun p e s m args below meth c hr hnm => w_M_goTo hr h)
def P_M_told_238 (n : Nat) (Q : Int32 → zS → Prop) (b0 : Int32) (σ : zS) : Prop := Q b0 σ
set_option maxHeartbeats 1000000 in
set_option maxRecDepth 10000 in
theorem w_M_told_238 {Q : Int32 → zS → Prop} (hr : meth.sig.returnType = some .int) {b0 : Int32} {σ : zS} (h : P_M_told_238 n Q b0 σ) : zG p l e (zrm 5 0 0) s m args below meth c (MQ below (zQc (zA base) D cA base n ex (zqi Q)) args s 0 0 (zA base)) s.heap (zA base) base D cA 9 ex prog_9_method_38_code "ConstantFlowModel" n 0 0 238 [none, none, none, none, none, none, none, none, none] [.int b0] σ := by
  unfold P_M_told_238 at h
  exact zw_iret d_M_told_238 hr h
def P_M_told_169 (n : Nat) (Q : Int32 → zS → Prop) (K48 : Nat → Int32 → Int32 → Int32 → Int32 → Int32 → Int32 → Int32 → zS → Prop) (a0 : Nat) (a1 : Int32) (a2 : Int32) (a3 : Int32) (a4 : Int32) (a5 : Int32) (a6 : Int32) (a7 : Int32) (σ : zS) : Prop := K48 a0 a1 a2 a3 a4 a5 a6 (a7 + (1 : Int32)) σ
set_option maxHeartbeats 1000000 in
set_option maxRecDepth 10000 in
theorem w_M_told_169 {Q : Int32 → zS → Prop} {K48 : Nat → Int32 → Int32 → Int32 → Int32 → Int32 → Int32 → Int32 → zS → Prop} (hr : meth.sig.returnType = some .int) (hK48 : ∀ (a0 : Nat) (a1 : Int32) (a2 : Int32) (a3 : Int32) (a4 : Int32) (a5 : Int32) (a6 : Int32) (a7 : Int32) (σ : zS), K48 a0 a1 a2 a3 a4 a5 a6 a7 σ → zG p l e (zrm 5 0 0) s m args below meth c (MQ below (zQc (zA base) D cA base n ex (zqi Q)) args s 0 0 (zA base)) s.heap (zA base) base D cA 9 ex prog_9_method_38_code "ConstantFlowModel" n 0 0 48 [some (.ref a0), some (.int a1), some (.int a2), some (.int a3), some (.int a4), some (.int a5), some (.int a6), some (.int a7), none] [] σ) {a0 : Nat} {a1 : Int32} {a2 : Int32} {a3 : Int32} {a4 : Int32} {a5 : Int32} {a6 : Int32} {a7 : Int32} {σ : zS} (h : P_M_told_169 n Q K48 a0 a1 a2 a3 a4 a5 a6 a7 σ) : zG p l e (zrm 5 0 0) s m args below meth c (MQ below (zQc (zA base) D cA base n ex (zqi Q)) args s 0 0 (zA base)) s.heap (zA base) base D cA 9 ex prog_9_method_38_code "ConstantFlowModel" n 0 0 169 [some (.ref a0), some (.int a1), some (.int a2), some (.int a3), some (.int a4), some (.int a5), some (.int a6), some (.int a7), none] [] σ := by
  unfold P_M_told_169 at h
  refine zw_iinc (v := (a7 + (1 : Int32))) d_M_told_169 rfl rfl (Nat.le_of_ble_eq_true rfl) rfl rfl ?_
  refine zw_goto (tgt := 48) d_M_told_172 rfl ?_
  exact hK48 _ _ _ _ _ _ _ _ _ h
def P_M_told_167 (n : Nat) (Q : Int32 → zS → Prop) (K48 : Nat → Int32 → Int32 → Int32 → Int32 → Int32 → Int32 → Int32 → zS → Prop) (a0 : Nat) (a1 : Int32) (a2 : Int32) (a3 : Int32) (a4 : Int32) (a5 : Int32) (a7 : Int32) (b0 : Int32) (σ : zS) : Prop := P_M_told_169 n Q K48 a0 a1 a2 a3 a4 a5 b0 a7 σ
set_option maxHeartbeats 1000000 in
set_option maxRecDepth 10000 in
theorem w_M_told_167 {Q : Int32 → zS → Prop} {K48 : Nat → Int32 → Int32 → Int32 → Int32 → Int32 → Int32 → Int32 → zS → Prop} (hr : meth.sig.returnType = some .int) (hK48 : ∀ (a0 : Nat) (a1 : Int32) (a2 : Int32) (a3 : Int32) (a4 : Int32) (a5 : Int32) (a6 : Int32) (a7 : Int32) (σ : zS), K48 a0 a1 a2 a3 a4 a5 a6 a7 σ → zG p l e (zrm 5 0 0) s m args below meth c (MQ below (zQc (zA base) D cA base n ex (zqi Q)) args s 0 0 (zA base)) s.heap (zA base) base D cA 9 ex prog_9_method_38_code "ConstantFlowModel" n 0 0 48 [some (.ref a0), some (.int a1), some (.int a2), some (.int a3), some (.int a4), some (.int a5), some (.int a6), some (.int a7), none] [] σ) {a0 : Nat} {a1 : Int32} {a2 : Int32} {a3 : Int32} {a4 : Int32} {a5 : Int32} {a7 : Int32} {b0 : Int32} {σ : zS} (h : P_M_told_167 n Q K48 a0 a1 a2 a3 a4 a5 a7 b0 σ) : zG p l e (zrm 5 0 0) s m args below meth c (MQ below (zQc (zA base) D cA base n ex (zqi Q)) args s 0 0 (zA base)) s.heap (zA base) base D cA 9 ex prog_9_method_38_code "ConstantFlowModel" n 0 0 167 [some (.ref a0), some (.int a1), some (.int a2), some (.int a3), some (.int a4), some (.int a5), none, some (.int a7), none] [.int b0] σ := by
  unfold P_M_told_167 at h
  refine zw_istore d_M_told_167 (Nat.le_of_ble_eq_true rfl) rfl rfl ?_
  exact w_M_told_169 hr hK48 h
def P_M_told_125 (n : Nat) (Q : Int32 → zS → Prop) (K48 : Nat → Int32 → Int32 → Int32 → Int32 → Int32 → Int32 → Int32 → zS → Prop) (K85 : Nat → Int32 → Int32 → Int32 → Int32 → Int32 → Int32 → Int32 → Int32 → zS → Prop) (a0 : Nat) (a1 : Int32) (a2 : Int32) (a3 : Int32) (a5 : Int32) (a6 : Int32) (a7 : Int32) (a8 : Int32) (b0 : Int32) (σ : zS) : Prop := K85 a0 a1 a2 a3 b0 a5 a6 a7 (a8 + (1 : Int32)) σ
set_option maxHeartbeats 1000000 in
set_option maxRecDepth 10000 in
theorem w_M_told_125 {Q : Int32 → zS → Prop} {K48 : Nat → Int32 → Int32 → Int32 → Int32 → Int32 → Int32 → Int32 → zS → Prop} {K85 : Nat → Int32 → Int32 → Int32 → Int32 → Int32 → Int32 → Int32 → Int32 → zS → Prop} (hr : meth.sig.returnType = some .int) (hK48 : ∀ (a0 : Nat) (a1 : Int32) (a2 : Int32) (a3 : Int32) (a4 : Int32) (a5 : Int32) (a6 : Int32) (a7 : Int32) (σ : zS), K48 a0 a1 a2 a3 a4 a5 a6 a7 σ → zG p l e (zrm 5 0 0) s m args below meth c (MQ below (zQc (zA base) D cA base n ex (zqi Q)) args s 0 0 (zA base)) s.heap (zA base) base D cA 9 ex prog_9_method_38_code "ConstantFlowModel" n 0 0 48 [some (.ref a0), some (.int a1), some (.int a2), some (.int a3), some (.int a4), some (.int a5), some (.int a6), some (.int a7), none] [] σ) (hK85 : ∀ (a0 : Nat) (a1 : Int32) (a2 : Int32) (a3 : Int32) (a4 : Int32) (a5 : Int32) (a6 : Int32) (a7 : Int32) (a8 : Int32) (σ : zS), K85 a0 a1 a2 a3 a4 a5 a6 a7 a8 σ → zG p l e (zrm 5 0 0) s m args below meth c (MQ below (zQc (zA base) D cA base n ex (zqi Q)) args s 0 0 (zA base)) s.heap (zA base) base D cA 9 ex prog_9_method_38_code "ConstantFlowModel" n 0 0 85 [some (.ref a0), some (.int a1), some (.int a2), some (.int a3), some (.int a4), some (.int a5), some (.int a6), some (.int a7), some (.int a8)] [] σ) {a0 : Nat} {a1 : Int32} {a2 : Int32} {a3 : Int32} {a5 : Int32} {a6 : Int32} {a7 : Int32} {a8 : Int32} {b0 : Int32} {σ : zS} (h : P_M_told_125 n Q K48 K85 a0 a1 a2 a3 a5 a6 a7 a8 b0 σ) : zG p l e (zrm 5 0 0) s m args below meth c (MQ below (zQc (zA base) D cA base n ex (zqi Q)) args s 0 0 (zA base)) s.heap (zA base) base D cA 9 ex prog_9_method_38_code "ConstantFlowModel" n 0 0 125 [some (.ref a0), some (.int a1), some (.int a2), some (.int a3), none, some (.int a5), some (.int a6), some (.int a7), some (.int a8)] [.int b0] σ := by
  unfold P_M_told_125 at h
  refine zw_istore d_M_told_125 (Nat.le_of_ble_eq_true rfl) rfl rfl ?_
  refine zw_iinc (v := (a8 + (1 : Int32))) d_M_told_127 rfl rfl (Nat.le_of_ble_eq_true rfl) rfl rfl ?_
  refine zw_goto (tgt := 85) d_M_told_130 rfl ?_
  exact hK85 _ _ _ _ _ _ _ _ _ _ h
def P_M_told_85 (n : Nat) (Q : Int32 → zS → Prop) (K48 : Nat → Int32 → Int32 → Int32 → Int32 → Int32 → Int32 → Int32 → zS → Prop) : Nat → Nat → Int32 → Int32 → Int32 → Int32 → Int32 → Int32 → Int32 → Int32 → zS → Prop
  | 0, _, _, _, _, _, _, _, _, _, _ => False
  | f + 1, a0, a1, a2, a3, a4, a5, a6, a7, a8, σ => zk n a0 7 ∧ ∃ c2, zr σ a0 10 = some c2 ∧ za n c2 10 (a7 + (1 : Int32)) ∧ (((zi σ c2 (a7 + (1 : Int32)).toNatClampNeg) ≤ a8 → ∃ c5, zr σ a0 9 = some c5 ∧ za n c5 10 ((5 : Int32) * a7) ∧ ((¬ (zi σ c5 ((5 : Int32) * a7).toNatClampNeg) = (2 : Int32) → P_M_told_169 n Q K48 a0 a1 a2 a3 a4 a5 a6 a7 σ) ∧ ((zi σ c5 ((5 : Int32) * a7).toNatClampNeg) = (2 : Int32) → P_M_goes n a0 a7 σ (fun x8 σ9 => ((x8 < 0 → P_M_told_167 n Q K48 a0 a1 a2 a3 a4 (a5 + (1 : Int32)) a7 a6 σ9) ∧ (¬ (x8 < 0) → P_M_told_167 n Q K48 a0 a1 a2 a3 a4 (a5 + (1 : Int32)) a7 (a6 + (1 : Int32)) σ9)))))) ∧ (¬ ((zi σ c2 (a7 + (1 : Int32)).toNatClampNeg) ≤ a8) → P_M_follow n a0 a8 σ (fun σ11 => ((¬ (zi σ11 a0 25) = (1 : Int32) → P_M_told_125 n Q K48 (fun (a0 : Nat) (a1 : Int32) (a2 : Int32) (a3 : Int32) (a4 : Int32) (a5 : Int32) (a6 : Int32) (a7 : Int32) (a8 : Int32) (σ : zS) => P_M_told_85 n Q K48 f a0 a1 a2 a3 a4 a5 a6 a7 a8 σ) a0 a1 a2 (a3 + (1 : Int32)) a5 a6 a7 a8 a4 σ11) ∧ ((zi σ11 a0 25) = (1 : Int32) → P_M_told_125 n Q K48 (fun (a0 : Nat) (a1 : Int32) (a2 : Int32) (a3 : Int32) (a4 : Int32) (a5 : Int32) (a6 : Int32) (a7 : Int32) (a8 : Int32) (σ : zS) => P_M_told_85 n Q K48 f a0 a1 a2 a3 a4 a5 a6 a7 a8 σ) a0 a1 a2 (a3 + (1 : Int32)) a5 a6 a7 a8 (a4 + (1 : Int32)) σ11)))))
set_option maxHeartbeats 1000000 in
set_option maxRecDepth 10000 in
theorem w_M_told_85 {Q : Int32 → zS → Prop} {K48 : Nat → Int32 → Int32 → Int32 → Int32 → Int32 → Int32 → Int32 → zS → Prop} (hr : meth.sig.returnType = some .int) (hK48 : ∀ (a0 : Nat) (a1 : Int32) (a2 : Int32) (a3 : Int32) (a4 : Int32) (a5 : Int32) (a6 : Int32) (a7 : Int32) (σ : zS), K48 a0 a1 a2 a3 a4 a5 a6 a7 σ → zG p l e (zrm 5 0 0) s m args below meth c (MQ below (zQc (zA base) D cA base n ex (zqi Q)) args s 0 0 (zA base)) s.heap (zA base) base D cA 9 ex prog_9_method_38_code "ConstantFlowModel" n 0 0 48 [some (.ref a0), some (.int a1), some (.int a2), some (.int a3), some (.int a4), some (.int a5), some (.int a6), some (.int a7), none] [] σ) : ∀ (f : Nat) (a0 : Nat) (a1 : Int32) (a2 : Int32) (a3 : Int32) (a4 : Int32) (a5 : Int32) (a6 : Int32) (a7 : Int32) (a8 : Int32) (σ : zS), P_M_told_85 n Q K48 f a0 a1 a2 a3 a4 a5 a6 a7 a8 σ → zG p l e (zrm 5 0 0) s m args below meth c (MQ below (zQc (zA base) D cA base n ex (zqi Q)) args s 0 0 (zA base)) s.heap (zA base) base D cA 9 ex prog_9_method_38_code "ConstantFlowModel" n 0 0 85 [some (.ref a0), some (.int a1), some (.int a2), some (.int a3), some (.int a4), some (.int a5), some (.int a6), some (.int a7), some (.int a8)] [] σ := by
  intro f
  induction f with
  | zero => intro a0 a1 a2 a3 a4 a5 a6 a7 a8 σ h; exact False.elim h
  | succ f ih =>
    intro a0 a1 a2 a3 a4 a5 a6 a7 a8 σ h
    refine zw_iload d_M_told_85 rfl ?_
    refine zw_aload_n d_M_told_87 rfl rfl ?_
    obtain ⟨q1, h⟩ := h
    obtain ⟨c2, q3, h⟩ := h
    refine zw_gfr (ci := 7) (j := 10) d_M_told_88 mw_3_195 q1.1 q1.2 (by decide) (by decide) rfl q3 ?_
    refine zw_iload d_M_told_91 rfl ?_
    refine zw_iconst (v := 1) d_M_told_93 rfl ?_
    refine zw_iadd d_M_told_94 ?_
    obtain ⟨q4, h⟩ := h
    refine zw_iald d_M_told_95 q4.1 (zkd_eta q4.2.1) q4.2.2 ?_
    obtain ⟨ht, hf⟩ := h
    refine zw_icmp_ge (tgt := 133) d_M_told_96 rfl (fun hc => ?_) (fun hc => ?_)
    · have h := ht hc; clear ht hf
      refine zw_aload_n d_M_told_133 rfl rfl ?_
      obtain ⟨c5, q6, h⟩ := h
      refine zw_gfr (ci := 7) (j := 9) d_M_told_134 mw_3_194 q1.1 q1.2 (by decide) (by decide) rfl q6 ?_
      refine zw_iconst (v := 5) d_M_told_137 rfl ?_
      refine zw_iload d_M_told_138 rfl ?_
      refine zw_imul d_M_told_140 ?_
      obtain ⟨q7, h⟩ := h
      refine zw_iald d_M_told_141 q7.1 (zkd_eta q7.2.1) q7.2.2 ?_
      refine zw_iconst (v := 2) d_M_told_142 rfl ?_
      obtain ⟨ht, hf⟩ := h
      refine zw_icmp_ne (tgt := 169) d_M_told_143 rfl (fun hc => ?_) (fun hc => ?_)
      · have h := ht hc; clear ht hf
        refine zw_le (ls' := [some (.ref a0), some (.int a1), some (.int a2), some (.int a3), some (.int a4), some (.int a5), some (.int a6), some (.int a7), none]) (And.intro rfl (And.intro rfl (And.intro rfl (And.intro rfl (And.intro rfl (And.intro rfl (And.intro rfl (And.intro rfl True.intro)))))))) ?_
        exact w_M_told_169 hr hK48 h
      · have h := hf hc; clear ht hf
        refine zw_iinc (v := (a5 + (1 : Int32))) d_M_told_146 rfl rfl (Nat.le_of_ble_eq_true rfl) rfl rfl ?_
        refine zw_aload_n d_M_told_149 rfl rfl ?_
        refine zw_iload d_M_told_150 rfl ?_
        refine zw_callV (ci := 7) (b := a0) (As := [.int a7]) (r := []) d_M_told_152 (c_M_goes h) mw_4_171 mw_4_173 mp_3_14 mw_1_8 mw_4_174 (by decide) q1.1 q1.2 hyV_M_goes (Nat.le_of_ble_eq_true rfl) (Nat.le_of_ble_eq_true rfl) ⟨(Nat.le_of_ble_eq_true rfl), (Nat.le_of_ble_eq_true rfl)⟩ (Nat.le_of_ble_eq_true rfl) rfl (zk_i (fun x8 σ9 h => ?_))
        obtain ⟨ht, hf⟩ := h
        refine zw_if_lt (tgt := 165) d_M_told_155 rfl (fun hc => ?_) (fun hc => ?_)
        · have h := ht hc; clear ht hf
          refine zw_iload d_M_told_165 rfl ?_
          refine zw_le (ls' := [some (.ref a0), some (.int a1), some (.int a2), some (.int a3), some (.int a4), some (.int (a5 + (1 : Int32))), none, some (.int a7), none]) (And.intro rfl (And.intro rfl (And.intro rfl (And.intro rfl (And.intro rfl (And.intro rfl (And.intro rfl True.intro))))))) ?_
          exact w_M_told_167 hr hK48 h
        · have h := hf hc; clear ht hf
          refine zw_iload d_M_told_158 rfl ?_
          refine zw_iconst (v := 1) d_M_told_160 rfl ?_
          refine zw_iadd d_M_told_161 ?_
          refine zw_goto (tgt := 167) d_M_told_162 rfl ?_
          refine zw_le (ls' := [some (.ref a0), some (.int a1), some (.int a2), some (.int a3), some (.int a4), some (.int (a5 + (1 : Int32))), none, some (.int a7), none]) (And.intro rfl (And.intro rfl (And.intro rfl (And.intro rfl (And.intro rfl (And.intro rfl (And.intro rfl True.intro))))))) ?_
          exact w_M_told_167 hr hK48 h
    · have h := hf hc; clear ht hf
      refine zw_aload_n d_M_told_99 rfl rfl ?_
      refine zw_iload d_M_told_100 rfl ?_
      refine zw_callV (ci := 7) (b := a0) (As := [.int a8]) (r := []) d_M_told_102 (c_M_follow h) mw_4_144 mw_4_146 mp_3_8 mw_1_8 mw_4_147 (by decide) q1.1 q1.2 hyV_M_follow (Nat.le_of_ble_eq_true rfl) (Nat.le_of_ble_eq_true rfl) ⟨(Nat.le_of_ble_eq_true rfl), (Nat.le_of_ble_eq_true rfl)⟩ (Nat.le_of_ble_eq_true rfl) rfl (zk_v (fun σ11 h => ?_))
      refine zw_iinc (v := (a3 + (1 : Int32))) d_M_told_105 rfl rfl (Nat.le_of_ble_eq_true rfl) rfl rfl ?_
      refine zw_aload_n d_M_told_108 rfl rfl ?_
      refine zw_gfi (ci := 7) (j := 25) d_M_told_109 mw_3_210 q1.1 q1.2 (by decide) (by decide) rfl ?_
      refine zw_iconst (v := 1) d_M_told_112 rfl ?_
      obtain ⟨ht, hf⟩ := h
      refine zw_icmp_ne (tgt := 123) d_M_told_113 rfl (fun hc => ?_) (fun hc => ?_)
      · have h := ht hc; clear ht hf
        refine zw_iload d_M_told_123 rfl ?_
        refine zw_le (ls' := [some (.ref a0), some (.int a1), some (.int a2), some (.int (a3 + (1 : Int32))), none, some (.int a5), some (.int a6), some (.int a7), some (.int a8)]) (And.intro rfl (And.intro rfl (And.intro rfl (And.intro rfl (And.intro rfl (And.intro rfl (And.intro rfl (And.intro rfl True.intro)))))))) ?_
        exact w_M_told_125 hr hK48 (fun a0 a1 a2 a3 a4 a5 a6 a7 a8 σ hk => ih a0 a1 a2 a3 a4 a5 a6 a7 a8 σ hk) h
      · have h := hf hc; clear ht hf
        refine zw_iload d_M_told_116 rfl ?_
        refine zw_iconst (v := 1) d_M_told_118 rfl ?_
        refine zw_iadd d_M_told_119 ?_
        refine zw_goto (tgt := 125) d_M_told_120 rfl ?_
        refine zw_le (ls' := [some (.ref a0), some (.int a1), some (.int a2), some (.int (a3 + (1 : Int32))), none, some (.int a5), some (.int a6), some (.int a7), some (.int a8)]) (And.intro rfl (And.intro rfl (And.intro rfl (And.intro rfl (And.intro rfl (And.intro rfl (And.intro rfl (And.intro rfl True.intro)))))))) ?_
        exact w_M_told_125 hr hK48 (fun a0 a1 a2 a3 a4 a5 a6 a7 a8 σ hk => ih a0 a1 a2 a3 a4 a5 a6 a7 a8 σ hk) h
def P_M_told_48 (n : Nat) (Q : Int32 → zS → Prop) : Nat → Nat → Int32 → Int32 → Int32 → Int32 → Int32 → Int32 → Int32 → zS → Prop
  | 0, _, _, _, _, _, _, _, _, _ => False
  | f + 1, a0, a1, a2, a3, a4, a5, a6, a7, σ => zk n a0 7 ∧ (((zi σ a0 6) ≤ a7 → ((¬ a1 = 0 → ((¬ a1 = (1 : Int32) → ((¬ a1 = (2 : Int32) → ((¬ a1 = (3 : Int32) → ((¬ a1 = (4 : Int32) → ((¬ a1 = (5 : Int32) → P_M_told_238 n Q a6 σ) ∧ (a1 = (5 : Int32) → P_M_told_238 n Q a5 σ))) ∧ (a1 = (4 : Int32) → P_M_told_238 n Q a4 σ))) ∧ (a1 = (3 : Int32) → P_M_told_238 n Q a3 σ))) ∧ (a1 = (2 : Int32) → P_M_told_238 n Q (zi σ a0 7) σ))) ∧ (a1 = (1 : Int32) → P_M_told_238 n Q a2 σ))) ∧ (a1 = 0 → P_M_told_238 n Q (zi σ a0 6) σ))) ∧ (¬ ((zi σ a0 6) ≤ a7) → ∃ c2, zr σ a0 20 = some c2 ∧ za n c2 11 a7 ∧ (((zi σ c2 a7.toNatClampNeg) = 0 → P_M_told_169 n Q (fun (a0 : Nat) (a1 : Int32) (a2 : Int32) (a3 : Int32) (a4 : Int32) (a5 : Int32) (a6 : Int32) (a7 : Int32) (σ : zS) => P_M_told_48 n Q f a0 a1 a2 a3 a4 a5 a6 a7 σ) a0 a1 a2 a3 a4 a5 a6 a7 σ) ∧ (¬ ((zi σ c2 a7.toNatClampNeg) = 0) → P_M_beginBlock n a0 a7 σ (fun σ6 => ∃ c7, zr σ6 a0 10 = some c7 ∧ za n c7 10 a7 ∧ ∃ g, P_M_told_85 n Q (fun (a0 : Nat) (a1 : Int32) (a2 : Int32) (a3 : Int32) (a4 : Int32) (a5 : Int32) (a6 : Int32) (a7 : Int32) (σ : zS) => P_M_told_48 n Q f a0 a1 a2 a3 a4 a5 a6 a7 σ) g a0 a1 (a2 + (1 : Int32)) a3 a4 a5 a6 a7 (zi σ6 c7 a7.toNatClampNeg) σ6)))))
set_option maxHeartbeats 1000000 in
set_option maxRecDepth 10000 in
theorem w_M_told_48 {Q : Int32 → zS → Prop} (hr : meth.sig.returnType = some .int) : ∀ (f : Nat) (a0 : Nat) (a1 : Int32) (a2 : Int32) (a3 : Int32) (a4 : Int32) (a5 : Int32) (a6 : Int32) (a7 : Int32) (σ : zS), P_M_told_48 n Q f a0 a1 a2 a3 a4 a5 a6 a7 σ → zG p l e (zrm 5 0 0) s m args below meth c (MQ below (zQc (zA base) D cA base n ex (zqi Q)) args s 0 0 (zA base)) s.heap (zA base) base D cA 9 ex prog_9_method_38_code "ConstantFlowModel" n 0 0 48 [some (.ref a0), some (.int a1), some (.int a2), some (.int a3), some (.int a4), some (.int a5), some (.int a6), some (.int a7), none] [] σ := by
  intro f
  induction f with
  | zero => intro a0 a1 a2 a3 a4 a5 a6 a7 σ h; exact False.elim h
  | succ f ih =>
    intro a0 a1 a2 a3 a4 a5 a6 a7 σ h
    refine zw_iload d_M_told_48 rfl ?_
    refine zw_aload_n d_M_told_50 rfl rfl ?_
    obtain ⟨q1, h⟩ := h
    refine zw_gfi (ci := 7) (j := 6) d_M_told_51 mw_3_191 q1.1 q1.2 (by decide) (by decide) rfl ?_
    obtain ⟨ht, hf⟩ := h
    refine zw_icmp_ge (tgt := 175) d_M_told_54 rfl (fun hc => ?_) (fun hc => ?_)
    · have h := ht hc; clear ht hf
      refine zw_iload_n d_M_told_175 rfl rfl ?_
      obtain ⟨ht, hf⟩ := h
      refine zw_if_ne (tgt := 186) d_M_told_176 rfl (fun hc => ?_) (fun hc => ?_)
      · have h := ht hc; clear ht hf
        refine zw_iload_n d_M_told_186 rfl rfl ?_
        refine zw_iconst (v := 1) d_M_told_187 rfl ?_
        obtain ⟨ht, hf⟩ := h
        refine zw_icmp_ne (tgt := 195) d_M_told_188 rfl (fun hc => ?_) (fun hc => ?_)
        · have h := ht hc; clear ht hf
          refine zw_iload_n d_M_told_195 rfl rfl ?_
          refine zw_iconst (v := 2) d_M_told_196 rfl ?_
          obtain ⟨ht, hf⟩ := h
          refine zw_icmp_ne (tgt := 207) d_M_told_197 rfl (fun hc => ?_) (fun hc => ?_)
          · have h := ht hc; clear ht hf
            refine zw_iload_n d_M_told_207 rfl rfl ?_
            refine zw_iconst (v := 3) d_M_told_208 rfl ?_
            obtain ⟨ht, hf⟩ := h
            refine zw_icmp_ne (tgt := 216) d_M_told_209 rfl (fun hc => ?_) (fun hc => ?_)
            · have h := ht hc; clear ht hf
              refine zw_iload_n d_M_told_216 rfl rfl ?_
              refine zw_iconst (v := 4) d_M_told_217 rfl ?_
              obtain ⟨ht, hf⟩ := h
              refine zw_icmp_ne (tgt := 226) d_M_told_218 rfl (fun hc => ?_) (fun hc => ?_)
              · have h := ht hc; clear ht hf
                refine zw_iload_n d_M_told_226 rfl rfl ?_
                refine zw_iconst (v := 5) d_M_told_227 rfl ?_
                obtain ⟨ht, hf⟩ := h
                refine zw_icmp_ne (tgt := 236) d_M_told_228 rfl (fun hc => ?_) (fun hc => ?_)
                · have h := ht hc; clear ht hf
                  refine zw_iload d_M_told_236 rfl ?_
                  refine zw_le (ls' := [none, none, none, none, none, none, none, none, none]) (True.intro) ?_
                  exact w_M_told_238 hr h
                · have h := hf hc; clear ht hf
                  refine zw_iload d_M_told_231 rfl ?_
                  refine zw_goto (tgt := 238) d_M_told_233 rfl ?_
                  refine zw_le (ls' := [none, none, none, none, none, none, none, none, none]) (True.intro) ?_
                  exact w_M_told_238 hr h
              · have h := hf hc; clear ht hf
                refine zw_iload d_M_told_221 rfl ?_
                refine zw_goto (tgt := 238) d_M_told_223 rfl ?_
                refine zw_le (ls' := [none, none, none, none, none, none, none, none, none]) (True.intro) ?_
                exact w_M_told_238 hr h
            · have h := hf hc; clear ht hf
              refine zw_iload_n d_M_told_212 rfl rfl ?_
              refine zw_goto (tgt := 238) d_M_told_213 rfl ?_
              refine zw_le (ls' := [none, none, none, none, none, none, none, none, none]) (True.intro) ?_
              exact w_M_told_238 hr h
          · have h := hf hc; clear ht hf
            refine zw_aload_n d_M_told_200 rfl rfl ?_
            refine zw_gfi (ci := 7) (j := 7) d_M_told_201 mw_3_192 q1.1 q1.2 (by decide) (by decide) rfl ?_
            refine zw_goto (tgt := 238) d_M_told_204 rfl ?_
            refine zw_le (ls' := [none, none, none, none, none, none, none, none, none]) (True.intro) ?_
            exact w_M_told_238 hr h
        · have h := hf hc; clear ht hf
          refine zw_iload_n d_M_told_191 rfl rfl ?_
          refine zw_goto (tgt := 238) d_M_told_192 rfl ?_
          refine zw_le (ls' := [none, none, none, none, none, none, none, none, none]) (True.intro) ?_
          exact w_M_told_238 hr h
      · have h := hf hc; clear ht hf
        refine zw_aload_n d_M_told_179 rfl rfl ?_
        refine zw_gfi (ci := 7) (j := 6) d_M_told_180 mw_3_191 q1.1 q1.2 (by decide) (by decide) rfl ?_
        refine zw_goto (tgt := 238) d_M_told_183 rfl ?_
        refine zw_le (ls' := [none, none, none, none, none, none, none, none, none]) (True.intro) ?_
        exact w_M_told_238 hr h
    · have h := hf hc; clear ht hf
      refine zw_aload_n d_M_told_57 rfl rfl ?_
      obtain ⟨c2, q3, h⟩ := h
      refine zw_gfr (ci := 7) (j := 20) d_M_told_58 mw_3_205 q1.1 q1.2 (by decide) (by decide) rfl q3 ?_
      refine zw_iload d_M_told_61 rfl ?_
      obtain ⟨q4, h⟩ := h
      refine zw_zald d_M_told_63 q4.1 (zkd_eta q4.2.1) q4.2.2 ?_
      obtain ⟨ht, hf⟩ := h
      refine zw_if_eq (tgt := 169) d_M_told_64 rfl (fun hc => ?_) (fun hc => ?_)
      · have h := ht hc; clear ht hf
        exact w_M_told_169 hr (fun a0 a1 a2 a3 a4 a5 a6 a7 σ hk => ih a0 a1 a2 a3 a4 a5 a6 a7 σ hk) h
      · have h := hf hc; clear ht hf
        refine zw_iinc (v := (a2 + (1 : Int32))) d_M_told_67 rfl rfl (Nat.le_of_ble_eq_true rfl) rfl rfl ?_
        refine zw_aload_n d_M_told_70 rfl rfl ?_
        refine zw_iload d_M_told_71 rfl ?_
        refine zw_callV (ci := 7) (b := a0) (As := [.int a7]) (r := []) d_M_told_73 (c_M_beginBlock h) mw_4_140 mw_4_142 mp_3_7 mw_1_8 mw_4_143 (by decide) q1.1 q1.2 hyV_M_beginBlock (Nat.le_of_ble_eq_true rfl) (Nat.le_of_ble_eq_true rfl) ⟨(Nat.le_of_ble_eq_true rfl), (Nat.le_of_ble_eq_true rfl)⟩ (Nat.le_of_ble_eq_true rfl) rfl (zk_v (fun σ6 h => ?_))
        refine zw_aload_n d_M_told_76 rfl rfl ?_
        obtain ⟨c7, q8, h⟩ := h
        refine zw_gfr (ci := 7) (j := 10) d_M_told_77 mw_3_195 q1.1 q1.2 (by decide) (by decide) rfl q8 ?_
        refine zw_iload d_M_told_80 rfl ?_
        obtain ⟨q9, h⟩ := h
        refine zw_iald d_M_told_82 q9.1 (zkd_eta q9.2.1) q9.2.2 ?_
        refine zw_istore d_M_told_83 (Nat.le_of_ble_eq_true rfl) rfl rfl ?_
        obtain ⟨g, h⟩ := h
        exact w_M_told_85 hr (fun a0 a1 a2 a3 a4 a5 a6 a7 σ hk => ih a0 a1 a2 a3 a4 a5 a6 a7 σ hk) g _ _ _ _ _ _ _ _ _ _ h
def P_M_told_16 (n : Nat) (Q : Int32 → zS → Prop) (a0 : Nat) (a1 : Int32) (b0 : Nat) (b1 : Int32) (σ : zS) : Prop := zk n b0 7 ∧ zk n a0 7 ∧ (((zi (zI σ b0 0 b1) a0 0) ≤ 0 → P_M_know n a0 (zI σ b0 0 b1) (fun σ4 => ∃ g, P_M_told_48 n Q g a0 a1 (0 : Int32) (0 : Int32) (0 : Int32) (0 : Int32) (0 : Int32) (0 : Int32) σ4)) ∧ (¬ ((zi (zI σ b0 0 b1) a0 0) ≤ 0) → Q (0 : Int32) (zI σ b0 0 b1)))
set_option maxHeartbeats 1000000 in
set_option maxRecDepth 10000 in
theorem w_M_told_16 {Q : Int32 → zS → Prop} (hr : meth.sig.returnType = some .int) {a0 : Nat} {a1 : Int32} {b0 : Nat} {b1 : Int32} {σ : zS} (h : P_M_told_16 n Q a0 a1 b0 b1 σ) : zG p l e (zrm 5 0 0) s m args below meth c (MQ below (zQc (zA base) D cA base n ex (zqi Q)) args s 0 0 (zA base)) s.heap (zA base) base D cA 9 ex prog_9_method_38_code "ConstantFlowModel" n 0 0 16 [some (.ref a0), some (.int a1), none, none, none, none, none, none, none] [.int b1, .ref b0] σ := by
  unfold P_M_told_16 at h
  obtain ⟨q1, h⟩ := h
  refine zw_pfi (ci := 7) (j := 0) d_M_told_16 mw_3_185 q1.1 q1.2 (by decide) (by decide) rfl rfl rfl rfl ?_
  refine zw_aload_n d_M_told_19 rfl rfl ?_
  obtain ⟨q2, h⟩ := h
  refine zw_gfi (ci := 7) (j := 0) d_M_told_20 mw_3_185 q2.1 q2.2 (by decide) (by decide) rfl ?_
  obtain ⟨ht, hf⟩ := h
  refine zw_if_le (tgt := 28) d_M_told_23 rfl (fun hc => ?_) (fun hc => ?_)
  · have h := ht hc; clear ht hf
    refine zw_aload_n d_M_told_28 rfl rfl ?_
    refine zw_callV (ci := 7) (b := a0) (As := []) (r := []) d_M_told_29 (c_M_know h) mw_4_136 mw_4_138 mp_3_6 mw_1_8 mw_4_139 (by decide) q2.1 q2.2 hyV_M_know (Nat.le_of_ble_eq_true rfl) (Nat.le_of_ble_eq_true rfl) ⟨(Nat.le_of_ble_eq_true rfl), (Nat.le_of_ble_eq_true rfl)⟩ (Nat.le_of_ble_eq_true rfl) rfl (zk_v (fun σ4 h => ?_))
    refine zw_iconst (v := 0) d_M_told_32 rfl ?_
    refine zw_istore_n d_M_told_33 rfl (Nat.le_of_ble_eq_true rfl) rfl rfl ?_
    refine zw_iconst (v := 0) d_M_told_34 rfl ?_
    refine zw_istore_n d_M_told_35 rfl (Nat.le_of_ble_eq_true rfl) rfl rfl ?_
    refine zw_iconst (v := 0) d_M_told_36 rfl ?_
    refine zw_istore d_M_told_37 (Nat.le_of_ble_eq_true rfl) rfl rfl ?_
    refine zw_iconst (v := 0) d_M_told_39 rfl ?_
    refine zw_istore d_M_told_40 (Nat.le_of_ble_eq_true rfl) rfl rfl ?_
    refine zw_iconst (v := 0) d_M_told_42 rfl ?_
    refine zw_istore d_M_told_43 (Nat.le_of_ble_eq_true rfl) rfl rfl ?_
    refine zw_iconst (v := 0) d_M_told_45 rfl ?_
    refine zw_istore d_M_told_46 (Nat.le_of_ble_eq_true rfl) rfl rfl ?_
    obtain ⟨g, h⟩ := h
    exact w_M_told_48 hr g _ _ _ _ _ _ _ _ _ h
  · have h := hf hc; clear ht hf
    refine zw_iconst (v := 0) d_M_told_26 rfl ?_
    exact zw_iret d_M_told_27 hr h
def P_M_told_11 (n : Nat) (Q : Int32 → zS → Prop) (a0 : Nat) (a1 : Int32) (b0 : Nat) (σ : zS) : Prop := P_M_told_16 n Q a0 a1 b0 (1 : Int32) σ
set_option maxHeartbeats 1000000 in
set_option maxRecDepth 10000 in
theorem w_M_told_11 {Q : Int32 → zS → Prop} (hr : meth.sig.returnType = some .int) {a0 : Nat} {a1 : Int32} {b0 : Nat} {σ : zS} (h : P_M_told_11 n Q a0 a1 b0 σ) : zG p l e (zrm 5 0 0) s m args below meth c (MQ below (zQc (zA base) D cA base n ex (zqi Q)) args s 0 0 (zA base)) s.heap (zA base) base D cA 9 ex prog_9_method_38_code "ConstantFlowModel" n 0 0 11 [some (.ref a0), some (.int a1), none, none, none, none, none, none, none] [.ref b0] σ := by
  unfold P_M_told_11 at h
  refine zw_iconst (v := 1) d_M_told_11 rfl ?_
  refine zw_goto (tgt := 16) d_M_told_12 rfl ?_
  exact w_M_told_16 hr h
def P_M_told (n : Nat) (a0 : Nat) (a1 : Int32) (σ : zS) (Q : Int32 → zS → Prop) : Prop := ((a1 < 0 → P_M_told_11 n Q a0 a1 a0 σ) ∧ (¬ (a1 < 0) → ((a1 ≤ (6 : Int32) → P_M_told_16 n Q a0 a1 a0 (0 : Int32) σ) ∧ (¬ (a1 ≤ (6 : Int32)) → P_M_told_11 n Q a0 a1 a0 σ))))
set_option maxHeartbeats 1000000 in
set_option maxRecDepth 10000 in
theorem w_M_told {Q : Int32 → zS → Prop} (hr : meth.sig.returnType = some .int) {a0 : Nat} {a1 : Int32} {σ : zS} (h : P_M_told n a0 a1 σ Q) : zG p l e (zrm 5 0 0) s m args below meth c (MQ below (zQc (zA base) D cA base n ex (zqi Q)) args s 0 0 (zA base)) s.heap (zA base) base D cA 9 ex prog_9_method_38_code "ConstantFlowModel" n 0 0 0 [some (.ref a0), some (.int a1), none, none, none, none, none, none, none] [] σ := by
  unfold P_M_told at h
  refine zw_aload_n d_M_told_0 rfl rfl ?_
  refine zw_iload_n d_M_told_1 rfl rfl ?_
  obtain ⟨ht, hf⟩ := h
  refine zw_if_lt (tgt := 11) d_M_told_2 rfl (fun hc => ?_) (fun hc => ?_)
  · have h := ht hc; clear ht hf
    exact w_M_told_11 hr h
  · have h := hf hc; clear ht hf
    refine zw_iload_n d_M_told_5 rfl rfl ?_
    refine zw_bipush (v := 6) d_M_told_6 rfl ?_
    obtain ⟨ht, hf⟩ := h
    refine zw_icmp_le (tgt := 15) d_M_told_8 rfl (fun hc => ?_) (fun hc => ?_)
    · have h := ht hc; clear ht hf
      refine zw_iconst (v := 0) d_M_told_15 rfl ?_
      exact w_M_told_16 hr h
    · have h := hf hc; clear ht hf
      exact w_M_told_11 hr h
theorem c_M_told {l : Launch} {D : va_G} {cA : Nat → ClassId} {base n : Nat} {ex : Bool} {Q : Int32 → zS → Prop} {a0 : Nat} {a1 : Int32} {σ : zS} (h : P_M_told n a0 a1 σ Q) : zM l y_M_told prog_9_method_38_code 9 (some .int) 5 0 0 (zA base) D cA base n n ex [.ref a0, .int a1] σ (zqi Q) :=
  zMet (by decide) rfl (Nat.le_of_ble_eq_true rfl) (fun p e s m args below meth c hr hnm => w_M_told hr h)
def P_M_write_78 (n : Nat) (Q : Int32 → zS → Prop) (K16 : Nat → Int32 → zS → Prop) (a0 : Nat) (a1 : Int32) (σ : zS) : Prop := K16 a0 (a1 + (1 : Int32)) σ
set_option maxHeartbeats 1000000 in
set_option maxRecDepth 10000 in
theorem w_M_write_78 {Q : Int32 → zS → Prop} {K16 : Nat → Int32 → zS → Prop} (hr : meth.sig.returnType = some .int) (hK16 : ∀ (a0 : Nat) (a1 : Int32) (σ : zS), K16 a0 a1 σ → zG p l e (zrm 5 0 0) s m args below meth c (MQ below (zQc (zA base) D cA base n ex (zqi Q)) args s 0 0 (zA base)) s.heap (zA base) base D cA 3 ex prog_9_method_45_code "ConstantFlowModel" n 0 0 16 [some (.ref a0), some (.int a1), none] [] σ) {a0 : Nat} {a1 : Int32} {σ : zS} (h : P_M_write_78 n Q K16 a0 a1 σ) : zG p l e (zrm 5 0 0) s m args below meth c (MQ below (zQc (zA base) D cA base n ex (zqi Q)) args s 0 0 (zA base)) s.heap (zA base) base D cA 3 ex prog_9_method_45_code "ConstantFlowModel" n 0 0 78 [some (.ref a0), some (.int a1), none] [] σ := by
  unfold P_M_write_78 at h
  refine zw_iinc (v := (a1 + (1 : Int32))) d_M_write_78 rfl rfl (Nat.le_of_ble_eq_true rfl) rfl rfl ?_
  refine zw_goto (tgt := 16) d_M_write_81 rfl ?_
  exact hK16 _ _ _ h
def P_M_write_45 (n : Nat) (Q : Int32 → zS → Prop) (K16 : Nat → Int32 → zS → Prop) : Nat → Nat → Int32 → Int32 → zS → Prop
  | 0, _, _, _, _ => False
  | f + 1, a0, a1, a2, σ => zk n a0 7 ∧ ∃ c2, zr σ a0 10 = some c2 ∧ za n c2 10 (a1 + (1 : Int32)) ∧ (((zi σ c2 (a1 + (1 : Int32)).toNatClampNeg) ≤ a2 → P_M_putEnd n a0 a1 σ (fun σ6 => P_M_write_78 n Q K16 a0 a1 σ6)) ∧ (¬ ((zi σ c2 (a1 + (1 : Int32)).toNatClampNeg) ≤ a2) → P_M_putStatement n a0 a2 σ (fun σ8 => P_M_follow n a0 a2 σ8 (fun σ10 => P_M_write_45 n Q K16 f a0 a1 (a2 + (1 : Int32)) σ10))))
set_option maxHeartbeats 1000000 in
set_option maxRecDepth 10000 in
theorem w_M_write_45 {Q : Int32 → zS → Prop} {K16 : Nat → Int32 → zS → Prop} (hr : meth.sig.returnType = some .int) (hK16 : ∀ (a0 : Nat) (a1 : Int32) (σ : zS), K16 a0 a1 σ → zG p l e (zrm 5 0 0) s m args below meth c (MQ below (zQc (zA base) D cA base n ex (zqi Q)) args s 0 0 (zA base)) s.heap (zA base) base D cA 3 ex prog_9_method_45_code "ConstantFlowModel" n 0 0 16 [some (.ref a0), some (.int a1), none] [] σ) : ∀ (f : Nat) (a0 : Nat) (a1 : Int32) (a2 : Int32) (σ : zS), P_M_write_45 n Q K16 f a0 a1 a2 σ → zG p l e (zrm 5 0 0) s m args below meth c (MQ below (zQc (zA base) D cA base n ex (zqi Q)) args s 0 0 (zA base)) s.heap (zA base) base D cA 3 ex prog_9_method_45_code "ConstantFlowModel" n 0 0 45 [some (.ref a0), some (.int a1), some (.int a2)] [] σ := by
  intro f
  induction f with
  | zero => intro a0 a1 a2 σ h; exact False.elim h
  | succ f ih =>
    intro a0 a1 a2 σ h
    refine zw_iload_n d_M_write_45 rfl rfl ?_
    refine zw_aload_n d_M_write_46 rfl rfl ?_
    obtain ⟨q1, h⟩ := h
    obtain ⟨c2, q3, h⟩ := h
    refine zw_gfr (ci := 7) (j := 10) d_M_write_47 mw_3_195 q1.1 q1.2 (by decide) (by decide) rfl q3 ?_
    refine zw_iload_n d_M_write_50 rfl rfl ?_
    refine zw_iconst (v := 1) d_M_write_51 rfl ?_
    refine zw_iadd d_M_write_52 ?_
    obtain ⟨q4, h⟩ := h
    refine zw_iald d_M_write_53 q4.1 (zkd_eta q4.2.1) q4.2.2 ?_
    obtain ⟨ht, hf⟩ := h
    refine zw_icmp_ge (tgt := 73) d_M_write_54 rfl (fun hc => ?_) (fun hc => ?_)
    · have h := ht hc; clear ht hf
      refine zw_aload_n d_M_write_73 rfl rfl ?_
      refine zw_iload_n d_M_write_74 rfl rfl ?_
      refine zw_callV (ci := 7) (b := a0) (As := [.int a1]) (r := []) d_M_write_75 (c_M_putEnd h) mw_4_214 mw_4_216 mp_4_4 mw_1_8 mw_4_217 (by decide) q1.1 q1.2 hyV_M_putEnd (Nat.le_of_ble_eq_true rfl) (Nat.le_of_ble_eq_true rfl) ⟨(Nat.le_of_ble_eq_true rfl), (Nat.le_of_ble_eq_true rfl)⟩ (Nat.le_of_ble_eq_true rfl) rfl (zk_v (fun σ6 h => ?_))
      refine zw_le (ls' := [some (.ref a0), some (.int a1), none]) (And.intro rfl (And.intro rfl True.intro)) ?_
      exact w_M_write_78 hr hK16 h
    · have h := hf hc; clear ht hf
      refine zw_aload_n d_M_write_57 rfl rfl ?_
      refine zw_iload_n d_M_write_58 rfl rfl ?_
      refine zw_callV (ci := 7) (b := a0) (As := [.int a2]) (r := []) d_M_write_59 (c_M_putStatement h) mw_4_195 mw_4_197 mp_4_0 mw_1_8 mw_4_198 (by decide) q1.1 q1.2 hyV_M_putStatement (Nat.le_of_ble_eq_true rfl) (Nat.le_of_ble_eq_true rfl) ⟨(Nat.le_of_ble_eq_true rfl), (Nat.le_of_ble_eq_true rfl)⟩ (Nat.le_of_ble_eq_true rfl) rfl (zk_v (fun σ8 h => ?_))
      refine zw_aload_n d_M_write_62 rfl rfl ?_
      refine zw_iload_n d_M_write_63 rfl rfl ?_
      refine zw_callV (ci := 7) (b := a0) (As := [.int a2]) (r := []) d_M_write_64 (c_M_follow h) mw_4_144 mw_4_146 mp_3_8 mw_1_8 mw_4_147 (by decide) q1.1 q1.2 hyV_M_follow (Nat.le_of_ble_eq_true rfl) (Nat.le_of_ble_eq_true rfl) ⟨(Nat.le_of_ble_eq_true rfl), (Nat.le_of_ble_eq_true rfl)⟩ (Nat.le_of_ble_eq_true rfl) rfl (zk_v (fun σ10 h => ?_))
      refine zw_iinc (v := (a2 + (1 : Int32))) d_M_write_67 rfl rfl (Nat.le_of_ble_eq_true rfl) rfl rfl ?_
      refine zw_goto (tgt := 45) d_M_write_70 rfl ?_
      exact ih _ _ _ _ h
def P_M_write_16 (n : Nat) (Q : Int32 → zS → Prop) : Nat → Nat → Int32 → zS → Prop
  | 0, _, _, _ => False
  | f + 1, a0, a1, σ => zk n a0 7 ∧ (((zi σ a0 6) ≤ a1 → Q (zi σ a0 28) σ) ∧ (¬ ((zi σ a0 6) ≤ a1) → ∃ c2, zr σ a0 20 = some c2 ∧ za n c2 11 a1 ∧ (((zi σ c2 a1.toNatClampNeg) = 0 → P_M_write_78 n Q (fun (a0 : Nat) (a1 : Int32) (σ : zS) => P_M_write_16 n Q f a0 a1 σ) a0 a1 σ) ∧ (¬ ((zi σ c2 a1.toNatClampNeg) = 0) → P_M_beginBlock n a0 a1 σ (fun σ6 => ∃ c7, zr σ6 a0 10 = some c7 ∧ za n c7 10 a1 ∧ ∃ g, P_M_write_45 n Q (fun (a0 : Nat) (a1 : Int32) (σ : zS) => P_M_write_16 n Q f a0 a1 σ) g a0 a1 (zi σ6 c7 a1.toNatClampNeg) σ6)))))
set_option maxHeartbeats 1000000 in
set_option maxRecDepth 10000 in
theorem w_M_write_16 {Q : Int32 → zS → Prop} (hr : meth.sig.returnType = some .int) : ∀ (f : Nat) (a0 : Nat) (a1 : Int32) (σ : zS), P_M_write_16 n Q f a0 a1 σ → zG p l e (zrm 5 0 0) s m args below meth c (MQ below (zQc (zA base) D cA base n ex (zqi Q)) args s 0 0 (zA base)) s.heap (zA base) base D cA 3 ex prog_9_method_45_code "ConstantFlowModel" n 0 0 16 [some (.ref a0), some (.int a1), none] [] σ := by
  intro f
  induction f with
  | zero => intro a0 a1 σ h; exact False.elim h
  | succ f ih =>
    intro a0 a1 σ h
    refine zw_iload_n d_M_write_16 rfl rfl ?_
    refine zw_aload_n d_M_write_17 rfl rfl ?_
    obtain ⟨q1, h⟩ := h
    refine zw_gfi (ci := 7) (j := 6) d_M_write_18 mw_3_191 q1.1 q1.2 (by decide) (by decide) rfl ?_
    obtain ⟨ht, hf⟩ := h
    refine zw_icmp_ge (tgt := 84) d_M_write_21 rfl (fun hc => ?_) (fun hc => ?_)
    · have h := ht hc; clear ht hf
      refine zw_aload_n d_M_write_84 rfl rfl ?_
      refine zw_gfi (ci := 7) (j := 28) d_M_write_85 mw_3_213 q1.1 q1.2 (by decide) (by decide) rfl ?_
      exact zw_iret d_M_write_88 hr h
    · have h := hf hc; clear ht hf
      refine zw_aload_n d_M_write_24 rfl rfl ?_
      obtain ⟨c2, q3, h⟩ := h
      refine zw_gfr (ci := 7) (j := 20) d_M_write_25 mw_3_205 q1.1 q1.2 (by decide) (by decide) rfl q3 ?_
      refine zw_iload_n d_M_write_28 rfl rfl ?_
      obtain ⟨q4, h⟩ := h
      refine zw_zald d_M_write_29 q4.1 (zkd_eta q4.2.1) q4.2.2 ?_
      obtain ⟨ht, hf⟩ := h
      refine zw_if_eq (tgt := 78) d_M_write_30 rfl (fun hc => ?_) (fun hc => ?_)
      · have h := ht hc; clear ht hf
        exact w_M_write_78 hr (fun a0 a1 σ hk => ih a0 a1 σ hk) h
      · have h := hf hc; clear ht hf
        refine zw_aload_n d_M_write_33 rfl rfl ?_
        refine zw_iload_n d_M_write_34 rfl rfl ?_
        refine zw_callV (ci := 7) (b := a0) (As := [.int a1]) (r := []) d_M_write_35 (c_M_beginBlock h) mw_4_140 mw_4_142 mp_3_7 mw_1_8 mw_4_143 (by decide) q1.1 q1.2 hyV_M_beginBlock (Nat.le_of_ble_eq_true rfl) (Nat.le_of_ble_eq_true rfl) ⟨(Nat.le_of_ble_eq_true rfl), (Nat.le_of_ble_eq_true rfl)⟩ (Nat.le_of_ble_eq_true rfl) rfl (zk_v (fun σ6 h => ?_))
        refine zw_aload_n d_M_write_38 rfl rfl ?_
        obtain ⟨c7, q8, h⟩ := h
        refine zw_gfr (ci := 7) (j := 10) d_M_write_39 mw_3_195 q1.1 q1.2 (by decide) (by decide) rfl q8 ?_
        refine zw_iload_n d_M_write_42 rfl rfl ?_
        obtain ⟨q9, h⟩ := h
        refine zw_iald d_M_write_43 q9.1 (zkd_eta q9.2.1) q9.2.2 ?_
        refine zw_istore_n d_M_write_44 rfl (Nat.le_of_ble_eq_true rfl) rfl rfl ?_
        obtain ⟨g, h⟩ := h
        exact w_M_write_45 hr (fun a0 a1 σ hk => ih a0 a1 σ hk) g _ _ _ _ h
def P_M_write (n : Nat) (a0 : Nat) (σ : zS) (Q : Int32 → zS → Prop) : Prop := zk n a0 7 ∧ P_M_know n a0 (zI σ a0 0 (0 : Int32)) (fun σ3 => ∃ g, P_M_write_16 n Q g a0 (0 : Int32) (zI σ3 a0 28 (0 : Int32)))
set_option maxHeartbeats 1000000 in
set_option maxRecDepth 10000 in
theorem w_M_write {Q : Int32 → zS → Prop} (hr : meth.sig.returnType = some .int) {a0 : Nat} {σ : zS} (h : P_M_write n a0 σ Q) : zG p l e (zrm 5 0 0) s m args below meth c (MQ below (zQc (zA base) D cA base n ex (zqi Q)) args s 0 0 (zA base)) s.heap (zA base) base D cA 3 ex prog_9_method_45_code "ConstantFlowModel" n 0 0 0 [some (.ref a0), none, none] [] σ := by
  unfold P_M_write at h
  refine zw_aload_n d_M_write_0 rfl rfl ?_
  refine zw_iconst (v := 0) d_M_write_1 rfl ?_
  obtain ⟨q1, h⟩ := h
  refine zw_pfi (ci := 7) (j := 0) d_M_write_2 mw_3_185 q1.1 q1.2 (by decide) (by decide) rfl rfl rfl rfl ?_
  refine zw_aload_n d_M_write_5 rfl rfl ?_
  refine zw_callV (ci := 7) (b := a0) (As := []) (r := []) d_M_write_6 (c_M_know h) mw_4_136 mw_4_138 mp_3_6 mw_1_8 mw_4_139 (by decide) q1.1 q1.2 hyV_M_know (Nat.le_of_ble_eq_true rfl) (Nat.le_of_ble_eq_true rfl) ⟨(Nat.le_of_ble_eq_true rfl), (Nat.le_of_ble_eq_true rfl)⟩ (Nat.le_of_ble_eq_true rfl) rfl (zk_v (fun σ3 h => ?_))
  refine zw_aload_n d_M_write_9 rfl rfl ?_
  refine zw_iconst (v := 0) d_M_write_10 rfl ?_
  refine zw_pfi (ci := 7) (j := 28) d_M_write_11 mw_3_213 q1.1 q1.2 (by decide) (by decide) rfl rfl rfl rfl ?_
  refine zw_iconst (v := 0) d_M_write_14 rfl ?_
  refine zw_istore_n d_M_write_15 rfl (Nat.le_of_ble_eq_true rfl) rfl rfl ?_
  obtain ⟨g, h⟩ := h
  exact w_M_write_16 hr g _ _ _ h
theorem c_M_write {l : Launch} {D : va_G} {cA : Nat → ClassId} {base n : Nat} {ex : Bool} {Q : Int32 → zS → Prop} {a0 : Nat} {σ : zS} (h : P_M_write n a0 σ Q) : zM l y_M_write prog_9_method_45_code 3 (some .int) 5 0 0 (zA base) D cA base n n ex [.ref a0] σ (zqi Q) :=
  zMet (by decide) rfl (Nat.le_of_ble_eq_true rfl) (fun p e s m args below meth c hr hnm => w_M_write hr h)
def P_F_rewriteBlock_21 (n : Nat) (Q : zS → Prop) : Nat → Nat → Nat → Int32 → Nat → Int32 → zS → Prop
  | 0, _, _, _, _, _, _ => False
  | f + 1, a0, a1, a2, a3, a4, σ => zk n a1 6 ∧ ∃ c2, zr σ a1 2 = some c2 ∧ za n c2 10 (a2 + (1 : Int32)) ∧ (((zi σ c2 (a2 + (1 : Int32)).toNatClampNeg) ≤ a4 → zk n a0 3 ∧ P_F_rewriteEnd n a0 a1 a2 a3 σ (fun σ6 => Q σ6)) ∧ (¬ ((zi σ c2 (a2 + (1 : Int32)).toNatClampNeg) ≤ a4) → ∃ c8, zr σ a1 3 = some c8 ∧ za n c8 10 a4 ∧ zk n a3 1 ∧ P_T_append n a3 ((97 : Int32) + (zi σ c8 a4.toNatClampNeg)) σ (fun σ12 => P_T_append n a3 (61 : Int32) σ12 (fun σ15 => zk n a0 3 ∧ P_F_rewriteValue n a0 a1 a4 a3 σ15 (fun σ17 => P_T_append n a3 (59 : Int32) σ17 (fun σ20 => ∃ c21, zr σ20 a0 5 = some c21 ∧ zk n c21 4 ∧ P_V_assign n c21 a1 a4 σ20 (fun σ24 => P_F_rewriteBlock_21 n Q f a0 a1 a2 a3 (a4 + (1 : Int32)) σ24)))))))
set_option maxHeartbeats 1000000 in
set_option maxRecDepth 10000 in
theorem w_F_rewriteBlock_21 {Q : zS → Prop} (hr : meth.sig.returnType = none) : ∀ (f : Nat) (a0 : Nat) (a1 : Nat) (a2 : Int32) (a3 : Nat) (a4 : Int32) (σ : zS), P_F_rewriteBlock_21 n Q f a0 a1 a2 a3 a4 σ → zG p l e (zrm 6 0 0) s m args below meth c (MQ below (zQc (zA base) D cA base n ex (zqv Q)) args s 0 0 (zA base)) s.heap (zA base) base D cA 5 ex prog_2_method_12_code "ConstantFlow$Facts" n 0 0 21 [some (.ref a0), some (.ref a1), some (.int a2), some (.ref a3), some (.int a4)] [] σ := by
  intro f
  induction f with
  | zero => intro a0 a1 a2 a3 a4 σ h; exact False.elim h
  | succ f ih =>
    intro a0 a1 a2 a3 a4 σ h
    refine zw_iload d_F_rewriteBlock_21 rfl ?_
    refine zw_aload_n d_F_rewriteBlock_23 rfl rfl ?_
    obtain ⟨q1, h⟩ := h
    obtain ⟨c2, q3, h⟩ := h
    refine zw_gfrN (ci := 6) (j := 2) d_F_rewriteBlock_24 mw_1_160 q1.1 q1.2 (by decide) (by decide) rfl q3 ?_
    refine zw_iload_n d_F_rewriteBlock_27 rfl rfl ?_
    refine zw_iconst (v := 1) d_F_rewriteBlock_28 rfl ?_
    refine zw_iadd d_F_rewriteBlock_29 ?_
    obtain ⟨q4, h⟩ := h
    refine zw_iald d_F_rewriteBlock_30 q4.1 (zkd_eta q4.2.1) q4.2.2 ?_
    obtain ⟨ht, hf⟩ := h
    refine zw_icmp_ge (tgt := 84) d_F_rewriteBlock_31 rfl (fun hc => ?_) (fun hc => ?_)
    · have h := ht hc; clear ht hf
      refine zw_aload_n d_F_rewriteBlock_84 rfl rfl ?_
      refine zw_aload_n d_F_rewriteBlock_85 rfl rfl ?_
      refine zw_iload_n d_F_rewriteBlock_86 rfl rfl ?_
      refine zw_aload_n d_F_rewriteBlock_87 rfl rfl ?_
      obtain ⟨q7, h⟩ := h
      refine zw_callV (ci := 3) (b := a0) (As := [.ref a1, .int a2, .ref a3]) (r := []) d_F_rewriteBlock_88 (c_F_rewriteEnd h) mw_2_206 mw_2_208 mp_2_4 mw_1_4 mw_2_209 (by decide) q7.1 q7.2 hyV_F_rewriteEnd (Nat.le_of_ble_eq_true rfl) (Nat.le_of_ble_eq_true rfl) ⟨(Nat.le_of_ble_eq_true rfl), (Nat.le_of_ble_eq_true rfl)⟩ (Nat.le_of_ble_eq_true rfl) rfl (zk_v (fun σ6 h => ?_))
      exact zw_vret d_F_rewriteBlock_91 hr h
    · have h := hf hc; clear ht hf
      refine zw_aload_n d_F_rewriteBlock_34 rfl rfl ?_
      refine zw_bipush (v := 97) d_F_rewriteBlock_35 rfl ?_
      refine zw_aload_n d_F_rewriteBlock_37 rfl rfl ?_
      obtain ⟨c8, q9, h⟩ := h
      refine zw_gfrN (ci := 6) (j := 3) d_F_rewriteBlock_38 mw_1_165 q1.1 q1.2 (by decide) (by decide) rfl q9 ?_
      refine zw_iload d_F_rewriteBlock_41 rfl ?_
      obtain ⟨q10, h⟩ := h
      refine zw_iald d_F_rewriteBlock_43 q10.1 (zkd_eta q10.2.1) q10.2.2 ?_
      refine zw_iadd d_F_rewriteBlock_44 ?_
      obtain ⟨q13, h⟩ := h
      refine zw_callV (ci := 1) (b := a3) (As := [.int ((97 : Int32) + (zi σ c8 a4.toNatClampNeg))]) (r := []) d_F_rewriteBlock_45 (c_T_append h) mw_2_180 mw_2_181 mw_2_182 mw_1_2 mw_2_183 (by decide) q13.1 q13.2 hyV_T_append (Nat.le_of_ble_eq_true rfl) (Nat.le_of_ble_eq_true rfl) ⟨(Nat.le_of_ble_eq_true rfl), (Nat.le_of_ble_eq_true rfl)⟩ (Nat.le_of_ble_eq_true rfl) rfl (zk_v (fun σ12 h => ?_))
      refine zw_aload_n d_F_rewriteBlock_48 rfl rfl ?_
      refine zw_bipush (v := 61) d_F_rewriteBlock_49 rfl ?_
      refine zw_callV (ci := 1) (b := a3) (As := [.int (61 : Int32)]) (r := []) d_F_rewriteBlock_51 (c_T_append h) mw_2_180 mw_2_181 mw_2_182 mw_1_2 mw_2_183 (by decide) q13.1 q13.2 hyV_T_append (Nat.le_of_ble_eq_true rfl) (Nat.le_of_ble_eq_true rfl) ⟨(Nat.le_of_ble_eq_true rfl), (Nat.le_of_ble_eq_true rfl)⟩ (Nat.le_of_ble_eq_true rfl) rfl (zk_v (fun σ15 h => ?_))
      refine zw_aload_n d_F_rewriteBlock_54 rfl rfl ?_
      refine zw_aload_n d_F_rewriteBlock_55 rfl rfl ?_
      refine zw_iload d_F_rewriteBlock_56 rfl ?_
      refine zw_aload_n d_F_rewriteBlock_58 rfl rfl ?_
      obtain ⟨q18, h⟩ := h
      refine zw_callV (ci := 3) (b := a0) (As := [.ref a1, .int a4, .ref a3]) (r := []) d_F_rewriteBlock_59 (c_F_rewriteValue h) mw_2_184 mw_2_186 mp_2_2 mw_1_4 mw_2_187 (by decide) q18.1 q18.2 hyV_F_rewriteValue (Nat.le_of_ble_eq_true rfl) (Nat.le_of_ble_eq_true rfl) ⟨(Nat.le_of_ble_eq_true rfl), (Nat.le_of_ble_eq_true rfl)⟩ (Nat.le_of_ble_eq_true rfl) rfl (zk_v (fun σ17 h => ?_))
      refine zw_aload_n d_F_rewriteBlock_62 rfl rfl ?_
      refine zw_bipush (v := 59) d_F_rewriteBlock_63 rfl ?_
      refine zw_callV (ci := 1) (b := a3) (As := [.int (59 : Int32)]) (r := []) d_F_rewriteBlock_65 (c_T_append h) mw_2_180 mw_2_181 mw_2_182 mw_1_2 mw_2_183 (by decide) q13.1 q13.2 hyV_T_append (Nat.le_of_ble_eq_true rfl) (Nat.le_of_ble_eq_true rfl) ⟨(Nat.le_of_ble_eq_true rfl), (Nat.le_of_ble_eq_true rfl)⟩ (Nat.le_of_ble_eq_true rfl) rfl (zk_v (fun σ20 h => ?_))
      refine zw_aload_n d_F_rewriteBlock_68 rfl rfl ?_
      obtain ⟨c21, q22, h⟩ := h
      refine zw_gfr (ci := 3) (j := 5) d_F_rewriteBlock_69 mw_1_101 q18.1 q18.2 (by decide) (by decide) rfl q22 ?_
      refine zw_aload_n d_F_rewriteBlock_72 rfl rfl ?_
      refine zw_iload d_F_rewriteBlock_73 rfl ?_
      obtain ⟨q25, h⟩ := h
      refine zw_callV (ci := 4) (b := c21) (As := [.ref a1, .int a4]) (r := []) d_F_rewriteBlock_75 (c_V_assign h) mw_1_227 mw_1_228 mw_1_229 mw_1_5 mw_1_230 (by decide) q25.1 q25.2 hyV_V_assign (Nat.le_of_ble_eq_true rfl) (Nat.le_of_ble_eq_true rfl) ⟨(Nat.le_of_ble_eq_true rfl), (Nat.le_of_ble_eq_true rfl)⟩ (Nat.le_of_ble_eq_true rfl) rfl (zk_v (fun σ24 h => ?_))
      refine zw_iinc (v := (a4 + (1 : Int32))) d_F_rewriteBlock_78 rfl rfl (Nat.le_of_ble_eq_true rfl) rfl rfl ?_
      refine zw_goto (tgt := 21) d_F_rewriteBlock_81 rfl ?_
      exact ih _ _ _ _ _ _ h
def P_F_rewriteBlock (n : Nat) (a0 : Nat) (a1 : Nat) (a2 : Int32) (a3 : Nat) (σ : zS) (Q : zS → Prop) : Prop := zk n a0 3 ∧ ∃ c2, zr σ a0 5 = some c2 ∧ ∃ c4, zr σ a0 2 = some c4 ∧ za n c4 13 a2 ∧ ∃ c7, zr σ c4 a2.toNatClampNeg = some c7 ∧ zk n c2 4 ∧ P_V_become n c2 c7 σ (fun σ10 => zk n a1 6 ∧ ∃ c13, zr σ10 a1 2 = some c13 ∧ za n c13 10 a2 ∧ ∃ g, P_F_rewriteBlock_21 n Q g a0 a1 a2 a3 (zi σ10 c13 a2.toNatClampNeg) σ10)
set_option maxHeartbeats 1000000 in
set_option maxRecDepth 10000 in
theorem w_F_rewriteBlock {Q : zS → Prop} (hr : meth.sig.returnType = none) {a0 : Nat} {a1 : Nat} {a2 : Int32} {a3 : Nat} {σ : zS} (h : P_F_rewriteBlock n a0 a1 a2 a3 σ Q) : zG p l e (zrm 6 0 0) s m args below meth c (MQ below (zQc (zA base) D cA base n ex (zqv Q)) args s 0 0 (zA base)) s.heap (zA base) base D cA 5 ex prog_2_method_12_code "ConstantFlow$Facts" n 0 0 0 [some (.ref a0), some (.ref a1), some (.int a2), some (.ref a3), none] [] σ := by
  unfold P_F_rewriteBlock at h
  refine zw_aload_n d_F_rewriteBlock_0 rfl rfl ?_
  obtain ⟨q1, h⟩ := h
  obtain ⟨c2, q3, h⟩ := h
  refine zw_gfr (ci := 3) (j := 5) d_F_rewriteBlock_1 mw_1_101 q1.1 q1.2 (by decide) (by decide) rfl q3 ?_
  refine zw_aload_n d_F_rewriteBlock_4 rfl rfl ?_
  obtain ⟨c4, q5, h⟩ := h
  refine zw_gfr (ci := 3) (j := 2) d_F_rewriteBlock_5 mw_1_98 q1.1 q1.2 (by decide) (by decide) rfl q5 ?_
  refine zw_iload_n d_F_rewriteBlock_8 rfl rfl ?_
  obtain ⟨q6, h⟩ := h
  obtain ⟨c7, q8, h⟩ := h
  refine zw_aald d_F_rewriteBlock_9 q6.1 (zkd_eta q6.2.1) q6.2.2 q8 ?_
  obtain ⟨q11, h⟩ := h
  refine zw_callV (ci := 4) (b := c2) (As := [.ref c7]) (r := []) d_F_rewriteBlock_10 (c_V_become h) mw_1_211 mw_1_212 mw_1_213 mw_1_5 mw_1_214 (by decide) q11.1 q11.2 hyV_V_become (Nat.le_of_ble_eq_true rfl) (Nat.le_of_ble_eq_true rfl) ⟨(Nat.le_of_ble_eq_true rfl), (Nat.le_of_ble_eq_true rfl)⟩ (Nat.le_of_ble_eq_true rfl) rfl (zk_v (fun σ10 h => ?_))
  refine zw_aload_n d_F_rewriteBlock_13 rfl rfl ?_
  obtain ⟨q12, h⟩ := h
  obtain ⟨c13, q14, h⟩ := h
  refine zw_gfrN (ci := 6) (j := 2) d_F_rewriteBlock_14 mw_1_160 q12.1 q12.2 (by decide) (by decide) rfl q14 ?_
  refine zw_iload_n d_F_rewriteBlock_17 rfl rfl ?_
  obtain ⟨q15, h⟩ := h
  refine zw_iald d_F_rewriteBlock_18 q15.1 (zkd_eta q15.2.1) q15.2.2 ?_
  refine zw_istore d_F_rewriteBlock_19 (Nat.le_of_ble_eq_true rfl) rfl rfl ?_
  obtain ⟨g, h⟩ := h
  exact w_F_rewriteBlock_21 hr g _ _ _ _ _ _ h
theorem c_F_rewriteBlock {l : Launch} {D : va_G} {cA : Nat → ClassId} {base n : Nat} {ex : Bool} {Q : zS → Prop} {a0 : Nat} {a1 : Nat} {a2 : Int32} {a3 : Nat} {σ : zS} (h : P_F_rewriteBlock n a0 a1 a2 a3 σ Q) : zM l y_F_rewriteBlock prog_2_method_12_code 5 (none) 6 0 0 (zA base) D cA base n n ex [.ref a0, .ref a1, .int a2, .ref a3] σ (zqv Q) :=
  zMet (by decide) rfl (Nat.le_of_ble_eq_true rfl) (fun p e s m args below meth c hr hnm => w_F_rewriteBlock hr h)
def P_F_flowOnce_36 (n : Nat) (Q : Int32 → zS → Prop) (K4 : Nat → Nat → Int32 → Int32 → zS → Prop) (a0 : Nat) (a1 : Nat) (a2 : Int32) (a3 : Int32) (σ : zS) : Prop := K4 a0 a1 a2 (a3 + (1 : Int32)) σ
set_option maxHeartbeats 1000000 in
set_option maxRecDepth 10000 in
theorem w_F_flowOnce_36 {Q : Int32 → zS → Prop} {K4 : Nat → Nat → Int32 → Int32 → zS → Prop} (hr : meth.sig.returnType = some .boolean) (hK4 : ∀ (a0 : Nat) (a1 : Nat) (a2 : Int32) (a3 : Int32) (σ : zS), K4 a0 a1 a2 a3 σ → zG p l e (zrm 6 0 0) s m args below meth c (MQ below (zQc (zA base) D cA base n ex (zqi Q)) args s 0 0 (zA base)) s.heap (zA base) base D cA 4 ex prog_2_method_4_code "ConstantFlow$Facts" n 0 0 4 [some (.ref a0), some (.ref a1), some (.int a2), some (.int a3)] [] σ) {a0 : Nat} {a1 : Nat} {a2 : Int32} {a3 : Int32} {σ : zS} (h : P_F_flowOnce_36 n Q K4 a0 a1 a2 a3 σ) : zG p l e (zrm 6 0 0) s m args below meth c (MQ below (zQc (zA base) D cA base n ex (zqi Q)) args s 0 0 (zA base)) s.heap (zA base) base D cA 4 ex prog_2_method_4_code "ConstantFlow$Facts" n 0 0 36 [some (.ref a0), some (.ref a1), some (.int a2), some (.int a3)] [] σ := by
  unfold P_F_flowOnce_36 at h
  refine zw_iinc (v := (a3 + (1 : Int32))) d_F_flowOnce_36 rfl rfl (Nat.le_of_ble_eq_true rfl) rfl rfl ?_
  refine zw_goto (tgt := 4) d_F_flowOnce_39 rfl ?_
  exact hK4 _ _ _ _ _ h
def P_F_flowOnce_4 (n : Nat) (Q : Int32 → zS → Prop) : Nat → Nat → Nat → Int32 → Int32 → zS → Prop
  | 0, _, _, _, _, _ => False
  | f + 1, a0, a1, a2, a3, σ => zk n a1 6 ∧ (((zi σ a1 0) ≤ a3 → (a2 = 0 ∨ a2 = 1) ∧ Q a2 σ) ∧ (¬ ((zi σ a1 0) ≤ a3) → zk n a0 3 ∧ ∃ c4, zr σ a0 1 = some c4 ∧ za n c4 11 a3 ∧ (((zi σ c4 a3.toNatClampNeg) = 0 → P_F_flowOnce_36 n Q (fun (a0 : Nat) (a1 : Nat) (a2 : Int32) (a3 : Int32) (σ : zS) => P_F_flowOnce_4 n Q f a0 a1 a2 a3 σ) a0 a1 a2 a3 σ) ∧ (¬ ((zi σ c4 a3.toNatClampNeg) = 0) → ∃ c7, zr σ a0 1 = some c7 ∧ za n c7 11 a3 ∧ P_F_flowThrough n a0 a1 a3 (zI σ c7 a3.toNatClampNeg (vp_nar .boolean (0 : Int32))) (fun σ11 => P_F_flowOnce_36 n Q (fun (a0 : Nat) (a1 : Nat) (a2 : Int32) (a3 : Int32) (σ : zS) => P_F_flowOnce_4 n Q f a0 a1 a2 a3 σ) a0 a1 (1 : Int32) a3 σ11)))))
set_option maxHeartbeats 1000000 in
set_option maxRecDepth 10000 in
theorem w_F_flowOnce_4 {Q : Int32 → zS → Prop} (hr : meth.sig.returnType = some .boolean) : ∀ (f : Nat) (a0 : Nat) (a1 : Nat) (a2 : Int32) (a3 : Int32) (σ : zS), P_F_flowOnce_4 n Q f a0 a1 a2 a3 σ → zG p l e (zrm 6 0 0) s m args below meth c (MQ below (zQc (zA base) D cA base n ex (zqi Q)) args s 0 0 (zA base)) s.heap (zA base) base D cA 4 ex prog_2_method_4_code "ConstantFlow$Facts" n 0 0 4 [some (.ref a0), some (.ref a1), some (.int a2), some (.int a3)] [] σ := by
  intro f
  induction f with
  | zero => intro a0 a1 a2 a3 σ h; exact False.elim h
  | succ f ih =>
    intro a0 a1 a2 a3 σ h
    refine zw_iload_n d_F_flowOnce_4 rfl rfl ?_
    refine zw_aload_n d_F_flowOnce_5 rfl rfl ?_
    obtain ⟨q1, h⟩ := h
    refine zw_gfiN (ci := 6) (j := 0) d_F_flowOnce_6 mw_1_152 q1.1 q1.2 (by decide) (by decide) rfl ?_
    obtain ⟨ht, hf⟩ := h
    refine zw_icmp_ge (tgt := 42) d_F_flowOnce_9 rfl (fun hc => ?_) (fun hc => ?_)
    · have h := ht hc; clear ht hf
      refine zw_iload_n d_F_flowOnce_42 rfl rfl ?_
      obtain ⟨q2, h⟩ := h
      exact zw_zret d_F_flowOnce_43 hr q2 h
    · have h := hf hc; clear ht hf
      refine zw_aload_n d_F_flowOnce_12 rfl rfl ?_
      obtain ⟨q3, h⟩ := h
      obtain ⟨c4, q5, h⟩ := h
      refine zw_gfr (ci := 3) (j := 1) d_F_flowOnce_13 mw_1_97 q3.1 q3.2 (by decide) (by decide) rfl q5 ?_
      refine zw_iload_n d_F_flowOnce_16 rfl rfl ?_
      obtain ⟨q6, h⟩ := h
      refine zw_zald d_F_flowOnce_17 q6.1 (zkd_eta q6.2.1) q6.2.2 ?_
      obtain ⟨ht, hf⟩ := h
      refine zw_if_eq (tgt := 36) d_F_flowOnce_18 rfl (fun hc => ?_) (fun hc => ?_)
      · have h := ht hc; clear ht hf
        exact w_F_flowOnce_36 hr (fun a0 a1 a2 a3 σ hk => ih a0 a1 a2 a3 σ hk) h
      · have h := hf hc; clear ht hf
        refine zw_aload_n d_F_flowOnce_21 rfl rfl ?_
        obtain ⟨c7, q8, h⟩ := h
        refine zw_gfr (ci := 3) (j := 1) d_F_flowOnce_22 mw_1_97 q3.1 q3.2 (by decide) (by decide) rfl q8 ?_
        refine zw_iload_n d_F_flowOnce_25 rfl rfl ?_
        refine zw_iconst (v := 0) d_F_flowOnce_26 rfl ?_
        obtain ⟨q9, h⟩ := h
        refine zw_zast d_F_flowOnce_27 q9.1 (zkd_eta q9.2.1) q9.2.2 ?_
        refine zw_aload_n d_F_flowOnce_28 rfl rfl ?_
        refine zw_aload_n d_F_flowOnce_29 rfl rfl ?_
        refine zw_iload_n d_F_flowOnce_30 rfl rfl ?_
        refine zw_callV (ci := 3) (b := a0) (As := [.ref a1, .int a3]) (r := []) d_F_flowOnce_31 (c_F_flowThrough h) mw_1_223 mw_1_225 mp_1_2 mw_1_4 mw_1_226 (by decide) q3.1 q3.2 hyV_F_flowThrough (Nat.le_of_ble_eq_true rfl) (Nat.le_of_ble_eq_true rfl) ⟨(Nat.le_of_ble_eq_true rfl), (Nat.le_of_ble_eq_true rfl)⟩ (Nat.le_of_ble_eq_true rfl) rfl (zk_v (fun σ11 h => ?_))
        refine zw_iconst (v := 1) d_F_flowOnce_34 rfl ?_
        refine zw_istore_n d_F_flowOnce_35 rfl (Nat.le_of_ble_eq_true rfl) rfl rfl ?_
        exact w_F_flowOnce_36 hr (fun a0 a1 a2 a3 σ hk => ih a0 a1 a2 a3 σ hk) h
def P_F_flowOnce (n : Nat) (a0 : Nat) (a1 : Nat) (σ : zS) (Q : Int32 → zS → Prop) : Prop := ∃ g, P_F_flowOnce_4 n Q g a0 a1 (0 : Int32) (0 : Int32) σ
set_option maxHeartbeats 1000000 in
set_option maxRecDepth 10000 in
theorem w_F_flowOnce {Q : Int32 → zS → Prop} (hr : meth.sig.returnType = some .boolean) {a0 : Nat} {a1 : Nat} {σ : zS} (h : P_F_flowOnce n a0 a1 σ Q) : zG p l e (zrm 6 0 0) s m args below meth c (MQ below (zQc (zA base) D cA base n ex (zqi Q)) args s 0 0 (zA base)) s.heap (zA base) base D cA 4 ex prog_2_method_4_code "ConstantFlow$Facts" n 0 0 0 [some (.ref a0), some (.ref a1), none, none] [] σ := by
  unfold P_F_flowOnce at h
  refine zw_iconst (v := 0) d_F_flowOnce_0 rfl ?_
  refine zw_istore_n d_F_flowOnce_1 rfl (Nat.le_of_ble_eq_true rfl) rfl rfl ?_
  refine zw_iconst (v := 0) d_F_flowOnce_2 rfl ?_
  refine zw_istore_n d_F_flowOnce_3 rfl (Nat.le_of_ble_eq_true rfl) rfl rfl ?_
  obtain ⟨g, h⟩ := h
  exact w_F_flowOnce_4 hr g _ _ _ _ _ h
theorem c_F_flowOnce {l : Launch} {D : va_G} {cA : Nat → ClassId} {base n : Nat} {ex : Bool} {Q : Int32 → zS → Prop} {a0 : Nat} {a1 : Nat} {σ : zS} (h : P_F_flowOnce n a0 a1 σ Q) : zM l y_F_flowOnce prog_2_method_4_code 4 (some .boolean) 6 0 0 (zA base) D cA base n n ex [.ref a0, .ref a1] σ (zqi Q) :=
  zMet (by decide) rfl (Nat.le_of_ble_eq_true rfl) (fun p e s m args below meth c hr hnm => w_F_flowOnce hr h)
end
