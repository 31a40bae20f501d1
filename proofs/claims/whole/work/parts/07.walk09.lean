section
variable {p : Program} {l : Launch} {e : Env} {s : State} {m : MethodId} {args : Array Value} {below : List Frame} {meth : Method} {c : Code} {base : Nat} {D : va_G} {cA : Nat → ClassId} {ex : Bool} {n : Nat}
def P_R_fill_49 (n : Nat) (Q : Int32 → zS → Prop) (σ : zS) : Prop := ((0 : Int32) = 0 ∨ (0 : Int32) = 1) ∧ Q (0 : Int32) σ
set_option maxHeartbeats 1000000 in
set_option maxRecDepth 10000 in
theorem w_R_fill_49 {Q : Int32 → zS → Prop} (hr : meth.sig.returnType = some .boolean) {σ : zS} (h : P_R_fill_49 n Q σ) : zG p l e (zrm 6 0 0) s m args below meth c (MQ below (zQc (zA base) D cA base n ex (zqi Q)) args s 0 0 (zA base)) s.heap (zA base) base D cA 3 ex prog_5_method_2_code "ConstantFlow$Reader" n 0 0 49 [none, none, none] [] σ := by
  unfold P_R_fill_49 at h
  refine zw_iconst (v := 0) d_R_fill_49 rfl ?_
  obtain ⟨q1, h⟩ := h
  exact zw_zret d_R_fill_50 hr q1 h
def P_R_fill_29 (n : Nat) (Q : Int32 → zS → Prop) : Nat → Nat → Int32 → zS → Prop
  | 0, _, _, _ => False
  | f + 1, a0, a2, σ => (((24 : Int32) ≤ a2 → zk n a0 2 ∧ P_R_refuse n a0 (3 : Int32) (zi σ a0 3) σ (fun x2 σ3 => (x2 = 0 ∨ x2 = 1) ∧ Q x2 σ3)) ∧ (¬ ((24 : Int32) ≤ a2) → zk n a0 2 ∧ P_R_fillStatements n a0 σ (fun x5 σ6 => ((x5 = 0 → P_R_fill_49 n Q σ6) ∧ (¬ (x5 = 0) → P_R_fillEnd n a0 σ6 (fun x8 σ9 => ((¬ x8 = 0 → P_R_next n a0 σ9 (fun x10 σ11 => ((¬ x10 = (-1 : Int32) → P_R_fill_29 n Q f a0 (a2 + (1 : Int32)) σ11) ∧ (x10 = (-1 : Int32) → P_R_allGoalsThere n a0 σ11 (fun x12 σ13 => (x12 = 0 ∨ x12 = 1) ∧ Q x12 σ13))))) ∧ (x8 = 0 → P_R_fill_49 n Q σ9))))))))
set_option maxHeartbeats 1000000 in
set_option maxRecDepth 10000 in
theorem w_R_fill_29 {Q : Int32 → zS → Prop} (hr : meth.sig.returnType = some .boolean) : ∀ (f : Nat) (a0 : Nat) (a2 : Int32) (σ : zS), P_R_fill_29 n Q f a0 a2 σ → zG p l e (zrm 6 0 0) s m args below meth c (MQ below (zQc (zA base) D cA base n ex (zqi Q)) args s 0 0 (zA base)) s.heap (zA base) base D cA 3 ex prog_5_method_2_code "ConstantFlow$Reader" n 0 0 29 [some (.ref a0), none, some (.int a2)] [] σ := by
  intro f
  induction f with
  | zero => intro a0 a2 σ h; exact False.elim h
  | succ f ih =>
    intro a0 a2 σ h
    refine zw_iload_n d_R_fill_29 rfl rfl ?_
    refine zw_bipush (v := 24) d_R_fill_30 rfl ?_
    obtain ⟨ht, hf⟩ := h
    refine zw_icmp_ge (tgt := 70) d_R_fill_32 rfl (fun hc => ?_) (fun hc => ?_)
    · have h := ht hc; clear ht hf
      refine zw_aload_n d_R_fill_70 rfl rfl ?_
      refine zw_iconst (v := 3) d_R_fill_71 rfl ?_
      refine zw_aload_n d_R_fill_72 rfl rfl ?_
      obtain ⟨q1, h⟩ := h
      refine zw_gfi (ci := 2) (j := 3) d_R_fill_73 mw_1_50 q1.1 q1.2 (by decide) (by decide) rfl ?_
      refine zw_callV (ci := 2) (b := a0) (As := [.int (3 : Int32), .int (zi σ a0 3)]) (r := []) d_R_fill_76 (c_R_refuse h) mw_2_103 mw_2_105 mp_1_9 mw_1_3 mw_2_106 (by decide) q1.1 q1.2 hyV_R_refuse (Nat.le_of_ble_eq_true rfl) (Nat.le_of_ble_eq_true rfl) ⟨(Nat.le_of_ble_eq_true rfl), (Nat.le_of_ble_eq_true rfl)⟩ (Nat.le_of_ble_eq_true rfl) rfl (zk_i (fun x2 σ3 h => ?_))
      obtain ⟨q4, h⟩ := h
      exact zw_zret d_R_fill_79 hr q4 h
    · have h := hf hc; clear ht hf
      refine zw_aload_n d_R_fill_35 rfl rfl ?_
      obtain ⟨q7, h⟩ := h
      refine zw_callV (ci := 2) (b := a0) (As := []) (r := []) d_R_fill_36 (c_R_fillStatements h) mw_2_88 mw_2_90 mp_1_7 mw_1_3 mw_2_91 (by decide) q7.1 q7.2 hyV_R_fillStatements (Nat.le_of_ble_eq_true rfl) (Nat.le_of_ble_eq_true rfl) ⟨(Nat.le_of_ble_eq_true rfl), (Nat.le_of_ble_eq_true rfl)⟩ (Nat.le_of_ble_eq_true rfl) rfl (zk_i (fun x5 σ6 h => ?_))
      obtain ⟨ht, hf⟩ := h
      refine zw_if_eq (tgt := 49) d_R_fill_39 rfl (fun hc => ?_) (fun hc => ?_)
      · have h := ht hc; clear ht hf
        refine zw_le (ls' := [none, none, none]) (True.intro) ?_
        exact w_R_fill_49 hr h
      · have h := hf hc; clear ht hf
        refine zw_aload_n d_R_fill_42 rfl rfl ?_
        refine zw_callV (ci := 2) (b := a0) (As := []) (r := []) d_R_fill_43 (c_R_fillEnd h) mw_2_141 mw_2_143 mp_1_14 mw_1_3 mw_2_144 (by decide) q7.1 q7.2 hyV_R_fillEnd (Nat.le_of_ble_eq_true rfl) (Nat.le_of_ble_eq_true rfl) ⟨(Nat.le_of_ble_eq_true rfl), (Nat.le_of_ble_eq_true rfl)⟩ (Nat.le_of_ble_eq_true rfl) rfl (zk_i (fun x8 σ9 h => ?_))
        obtain ⟨ht, hf⟩ := h
        refine zw_if_ne (tgt := 51) d_R_fill_46 rfl (fun hc => ?_) (fun hc => ?_)
        · have h := ht hc; clear ht hf
          refine zw_aload_n d_R_fill_51 rfl rfl ?_
          refine zw_callV (ci := 2) (b := a0) (As := []) (r := []) d_R_fill_52 (c_R_next h) mw_2_92 mw_2_94 mp_1_8 mw_1_3 mw_2_95 (by decide) q7.1 q7.2 hyV_R_next (Nat.le_of_ble_eq_true rfl) (Nat.le_of_ble_eq_true rfl) ⟨(Nat.le_of_ble_eq_true rfl), (Nat.le_of_ble_eq_true rfl)⟩ (Nat.le_of_ble_eq_true rfl) rfl (zk_i (fun x10 σ11 h => ?_))
          refine zw_iconst (v := -1) d_R_fill_55 rfl ?_
          obtain ⟨ht, hf⟩ := h
          refine zw_icmp_ne (tgt := 64) d_R_fill_56 rfl (fun hc => ?_) (fun hc => ?_)
          · have h := ht hc; clear ht hf
            refine zw_iinc (v := (a2 + (1 : Int32))) d_R_fill_64 rfl rfl (Nat.le_of_ble_eq_true rfl) rfl rfl ?_
            refine zw_goto (tgt := 29) d_R_fill_67 rfl ?_
            exact ih _ _ _ h
          · have h := hf hc; clear ht hf
            refine zw_aload_n d_R_fill_59 rfl rfl ?_
            refine zw_callV (ci := 2) (b := a0) (As := []) (r := []) d_R_fill_60 (c_R_allGoalsThere h) mw_2_155 mw_2_157 mp_2_0 mw_1_3 mw_2_158 (by decide) q7.1 q7.2 hyV_R_allGoalsThere (Nat.le_of_ble_eq_true rfl) (Nat.le_of_ble_eq_true rfl) ⟨(Nat.le_of_ble_eq_true rfl), (Nat.le_of_ble_eq_true rfl)⟩ (Nat.le_of_ble_eq_true rfl) rfl (zk_i (fun x12 σ13 h => ?_))
            obtain ⟨q14, h⟩ := h
            exact zw_zret d_R_fill_63 hr q14 h
        · have h := hf hc; clear ht hf
          refine zw_le (ls' := [none, none, none]) (True.intro) ?_
          exact w_R_fill_49 hr h
def P_R_fill (n : Nat) (a0 : Nat) (a1 : Nat) (σ : zS) (Q : Int32 → zS → Prop) : Prop := zk n a0 2 ∧ ∃ c2, zr (zR σ a0 2 (some a1)) a0 2 = some c2 ∧ zk n c2 6 ∧ P_G_empty n c2 (zR σ a0 2 (some a1)) (fun σ5 => ∃ g, P_R_fill_29 n Q g a0 (0 : Int32) (zI (zI (zI σ5 a0 3 (0 : Int32)) a0 5 (0 : Int32)) a0 6 (-1 : Int32)))
set_option maxHeartbeats 1000000 in
set_option maxRecDepth 10000 in
theorem w_R_fill {Q : Int32 → zS → Prop} (hr : meth.sig.returnType = some .boolean) {a0 : Nat} {a1 : Nat} {σ : zS} (h : P_R_fill n a0 a1 σ Q) : zG p l e (zrm 6 0 0) s m args below meth c (MQ below (zQc (zA base) D cA base n ex (zqi Q)) args s 0 0 (zA base)) s.heap (zA base) base D cA 3 ex prog_5_method_2_code "ConstantFlow$Reader" n 0 0 0 [some (.ref a0), some (.ref a1), none] [] σ := by
  unfold P_R_fill at h
  refine zw_aload_n d_R_fill_0 rfl rfl ?_
  refine zw_aload_n d_R_fill_1 rfl rfl ?_
  obtain ⟨q1, h⟩ := h
  refine zw_pfr (ci := 2) (j := 2) d_R_fill_2 mw_1_49 q1.1 q1.2 (by decide) (by decide) rfl rfl (fun _ => rfl) (fun _ => rfl) ?_
  refine zw_aload_n d_R_fill_5 rfl rfl ?_
  obtain ⟨c2, q3, h⟩ := h
  refine zw_gfr (ci := 2) (j := 2) d_R_fill_6 mw_1_49 q1.1 q1.2 (by decide) (by decide) rfl q3 ?_
  obtain ⟨q6, h⟩ := h
  refine zw_callV (ci := 6) (b := c2) (As := []) (r := []) d_R_fill_9 (c_G_empty h) mw_2_84 mw_2_85 mw_2_86 mw_1_7 mw_2_87 (by decide) q6.1 q6.2 hyV_G_empty (Nat.le_of_ble_eq_true rfl) (Nat.le_of_ble_eq_true rfl) ⟨(Nat.le_of_ble_eq_true rfl), (Nat.le_of_ble_eq_true rfl)⟩ (Nat.le_of_ble_eq_true rfl) rfl (zk_v (fun σ5 h => ?_))
  refine zw_aload_n d_R_fill_12 rfl rfl ?_
  refine zw_iconst (v := 0) d_R_fill_13 rfl ?_
  refine zw_pfi (ci := 2) (j := 3) d_R_fill_14 mw_1_50 q1.1 q1.2 (by decide) (by decide) rfl rfl rfl rfl ?_
  refine zw_aload_n d_R_fill_17 rfl rfl ?_
  refine zw_iconst (v := 0) d_R_fill_18 rfl ?_
  refine zw_pfi (ci := 2) (j := 5) d_R_fill_19 mw_1_52 q1.1 q1.2 (by decide) (by decide) rfl rfl rfl rfl ?_
  refine zw_aload_n d_R_fill_22 rfl rfl ?_
  refine zw_iconst (v := -1) d_R_fill_23 rfl ?_
  refine zw_pfi (ci := 2) (j := 6) d_R_fill_24 mw_1_54 q1.1 q1.2 (by decide) (by decide) rfl rfl rfl rfl ?_
  refine zw_iconst (v := 0) d_R_fill_27 rfl ?_
  refine zw_istore_n d_R_fill_28 rfl (Nat.le_of_ble_eq_true rfl) rfl rfl ?_
  refine zw_le (ls' := [some (.ref a0), none, some (.int (0 : Int32))]) (And.intro rfl (And.intro rfl True.intro)) ?_
  obtain ⟨g, h⟩ := h
  exact w_R_fill_29 hr g _ _ _ h
theorem c_R_fill {l : Launch} {D : va_G} {cA : Nat → ClassId} {base n : Nat} {ex : Bool} {Q : Int32 → zS → Prop} {a0 : Nat} {a1 : Nat} {σ : zS} (h : P_R_fill n a0 a1 σ Q) : zM l y_R_fill prog_5_method_2_code 3 (some .boolean) 6 0 0 (zA base) D cA base n n ex [.ref a0, .ref a1] σ (zqi Q) :=
  zMet (by decide) rfl (Nat.le_of_ble_eq_true rfl) (fun p e s m args below meth c hr hnm => w_R_fill hr h)
def P_M_read_179 (n : Nat) (Q : Int32 → zS → Prop) : Nat → Nat → Int32 → zS → Prop
  | 0, _, _, _ => False
  | f + 1, a0, a1, σ => zk n a0 7 ∧ (((zi σ a0 6) ≤ a1 → ∃ c2, zr σ a0 10 = some c2 ∧ za n c2 10 (zi σ a0 6) ∧ Q (zi (zI (zI σ c2 (zi σ a0 6).toNatClampNeg (zi σ a0 7)) a0 19 (0 : Int32)) a0 6) (zI (zI σ c2 (zi σ a0 6).toNatClampNeg (zi σ a0 7)) a0 19 (0 : Int32))) ∧ (¬ ((zi σ a0 6) ≤ a1) → ∃ c5, zr σ a0 10 = some c5 ∧ ∃ c7, zr σ a0 15 = some c7 ∧ za n c7 10 a1 ∧ za n c5 10 a1 ∧ P_M_read_179 n Q f a0 (a1 + (1 : Int32)) (zI σ c5 a1.toNatClampNeg (zi σ c7 a1.toNatClampNeg))))
set_option maxHeartbeats 1000000 in
set_option maxRecDepth 10000 in
theorem w_M_read_179 {Q : Int32 → zS → Prop} (hr : meth.sig.returnType = some .int) : ∀ (f : Nat) (a0 : Nat) (a1 : Int32) (σ : zS), P_M_read_179 n Q f a0 a1 σ → zG p l e (zrm 6 0 0) s m args below meth c (MQ below (zQc (zA base) D cA base n ex (zqi Q)) args s 0 0 (zA base)) s.heap (zA base) base D cA 2 ex prog_9_method_20_code "ConstantFlowModel" n 0 0 179 [some (.ref a0), some (.int a1)] [] σ := by
  intro f
  induction f with
  | zero => intro a0 a1 σ h; exact False.elim h
  | succ f ih =>
    intro a0 a1 σ h
    refine zw_iload_n d_M_read_179 rfl rfl ?_
    refine zw_aload_n d_M_read_180 rfl rfl ?_
    obtain ⟨q1, h⟩ := h
    refine zw_gfi (ci := 7) (j := 6) d_M_read_181 mw_3_191 q1.1 q1.2 (by decide) (by decide) rfl ?_
    obtain ⟨ht, hf⟩ := h
    refine zw_icmp_ge (tgt := 205) d_M_read_184 rfl (fun hc => ?_) (fun hc => ?_)
    · have h := ht hc; clear ht hf
      refine zw_aload_n d_M_read_205 rfl rfl ?_
      obtain ⟨c2, q3, h⟩ := h
      refine zw_gfr (ci := 7) (j := 10) d_M_read_206 mw_3_195 q1.1 q1.2 (by decide) (by decide) rfl q3 ?_
      refine zw_aload_n d_M_read_209 rfl rfl ?_
      refine zw_gfi (ci := 7) (j := 6) d_M_read_210 mw_3_191 q1.1 q1.2 (by decide) (by decide) rfl ?_
      refine zw_aload_n d_M_read_213 rfl rfl ?_
      refine zw_gfi (ci := 7) (j := 7) d_M_read_214 mw_3_192 q1.1 q1.2 (by decide) (by decide) rfl ?_
      obtain ⟨q4, h⟩ := h
      refine zw_iast d_M_read_217 q4.1 (zkd_eta q4.2.1) q4.2.2 ?_
      refine zw_aload_n d_M_read_218 rfl rfl ?_
      refine zw_iconst (v := 0) d_M_read_219 rfl ?_
      refine zw_pfi (ci := 7) (j := 19) d_M_read_220 mw_3_204 q1.1 q1.2 (by decide) (by decide) rfl rfl rfl rfl ?_
      refine zw_aload_n d_M_read_223 rfl rfl ?_
      refine zw_gfi (ci := 7) (j := 6) d_M_read_224 mw_3_191 q1.1 q1.2 (by decide) (by decide) rfl ?_
      exact zw_iret d_M_read_227 hr h
    · have h := hf hc; clear ht hf
      refine zw_aload_n d_M_read_187 rfl rfl ?_
      obtain ⟨c5, q6, h⟩ := h
      refine zw_gfr (ci := 7) (j := 10) d_M_read_188 mw_3_195 q1.1 q1.2 (by decide) (by decide) rfl q6 ?_
      refine zw_iload_n d_M_read_191 rfl rfl ?_
      refine zw_aload_n d_M_read_192 rfl rfl ?_
      obtain ⟨c7, q8, h⟩ := h
      refine zw_gfr (ci := 7) (j := 15) d_M_read_193 mw_3_200 q1.1 q1.2 (by decide) (by decide) rfl q8 ?_
      refine zw_iload_n d_M_read_196 rfl rfl ?_
      obtain ⟨q9, h⟩ := h
      refine zw_iald d_M_read_197 q9.1 (zkd_eta q9.2.1) q9.2.2 ?_
      obtain ⟨q10, h⟩ := h
      refine zw_iast d_M_read_198 q10.1 (zkd_eta q10.2.1) q10.2.2 ?_
      refine zw_iinc (v := (a1 + (1 : Int32))) d_M_read_199 rfl rfl (Nat.le_of_ble_eq_true rfl) rfl rfl ?_
      refine zw_goto (tgt := 179) d_M_read_202 rfl ?_
      exact ih _ _ _ h
def P_M_read_153 (n : Nat) (Q : Int32 → zS → Prop) : Nat → Nat → Int32 → zS → Prop
  | 0, _, _, _ => False
  | f + 1, a0, a1, σ => (((120 : Int32) ≤ a1 → ∃ g, P_M_read_179 n Q g a0 (0 : Int32) σ) ∧ (¬ ((120 : Int32) ≤ a1) → zk n a0 7 ∧ ∃ c2, zr σ a0 9 = some c2 ∧ ∃ c4, zr σ a0 14 = some c4 ∧ za n c4 10 a1 ∧ za n c2 10 a1 ∧ P_M_read_153 n Q f a0 (a1 + (1 : Int32)) (zI σ c2 a1.toNatClampNeg (zi σ c4 a1.toNatClampNeg))))
set_option maxHeartbeats 1000000 in
set_option maxRecDepth 10000 in
theorem w_M_read_153 {Q : Int32 → zS → Prop} (hr : meth.sig.returnType = some .int) : ∀ (f : Nat) (a0 : Nat) (a1 : Int32) (σ : zS), P_M_read_153 n Q f a0 a1 σ → zG p l e (zrm 6 0 0) s m args below meth c (MQ below (zQc (zA base) D cA base n ex (zqi Q)) args s 0 0 (zA base)) s.heap (zA base) base D cA 2 ex prog_9_method_20_code "ConstantFlowModel" n 0 0 153 [some (.ref a0), some (.int a1)] [] σ := by
  intro f
  induction f with
  | zero => intro a0 a1 σ h; exact False.elim h
  | succ f ih =>
    intro a0 a1 σ h
    refine zw_iload_n d_M_read_153 rfl rfl ?_
    refine zw_bipush (v := 120) d_M_read_154 rfl ?_
    obtain ⟨ht, hf⟩ := h
    refine zw_icmp_ge (tgt := 177) d_M_read_156 rfl (fun hc => ?_) (fun hc => ?_)
    · have h := ht hc; clear ht hf
      refine zw_iconst (v := 0) d_M_read_177 rfl ?_
      refine zw_istore_n d_M_read_178 rfl (Nat.le_of_ble_eq_true rfl) rfl rfl ?_
      obtain ⟨g, h⟩ := h
      exact w_M_read_179 hr g _ _ _ h
    · have h := hf hc; clear ht hf
      refine zw_aload_n d_M_read_159 rfl rfl ?_
      obtain ⟨q1, h⟩ := h
      obtain ⟨c2, q3, h⟩ := h
      refine zw_gfr (ci := 7) (j := 9) d_M_read_160 mw_3_194 q1.1 q1.2 (by decide) (by decide) rfl q3 ?_
      refine zw_iload_n d_M_read_163 rfl rfl ?_
      refine zw_aload_n d_M_read_164 rfl rfl ?_
      obtain ⟨c4, q5, h⟩ := h
      refine zw_gfr (ci := 7) (j := 14) d_M_read_165 mw_3_199 q1.1 q1.2 (by decide) (by decide) rfl q5 ?_
      refine zw_iload_n d_M_read_168 rfl rfl ?_
      obtain ⟨q6, h⟩ := h
      refine zw_iald d_M_read_169 q6.1 (zkd_eta q6.2.1) q6.2.2 ?_
      obtain ⟨q7, h⟩ := h
      refine zw_iast d_M_read_170 q7.1 (zkd_eta q7.2.1) q7.2.2 ?_
      refine zw_iinc (v := (a1 + (1 : Int32))) d_M_read_171 rfl rfl (Nat.le_of_ble_eq_true rfl) rfl rfl ?_
      refine zw_goto (tgt := 153) d_M_read_174 rfl ?_
      exact ih _ _ _ h
def P_M_read_126 (n : Nat) (Q : Int32 → zS → Prop) : Nat → Nat → Int32 → zS → Prop
  | 0, _, _, _ => False
  | f + 1, a0, a1, σ => (((560 : Int32) ≤ a1 → ∃ g, P_M_read_153 n Q g a0 (0 : Int32) σ) ∧ (¬ ((560 : Int32) ≤ a1) → zk n a0 7 ∧ ∃ c2, zr σ a0 8 = some c2 ∧ ∃ c4, zr σ a0 13 = some c4 ∧ za n c4 10 a1 ∧ za n c2 10 a1 ∧ P_M_read_126 n Q f a0 (a1 + (1 : Int32)) (zI σ c2 a1.toNatClampNeg (zi σ c4 a1.toNatClampNeg))))
set_option maxHeartbeats 1000000 in
set_option maxRecDepth 10000 in
theorem w_M_read_126 {Q : Int32 → zS → Prop} (hr : meth.sig.returnType = some .int) : ∀ (f : Nat) (a0 : Nat) (a1 : Int32) (σ : zS), P_M_read_126 n Q f a0 a1 σ → zG p l e (zrm 6 0 0) s m args below meth c (MQ below (zQc (zA base) D cA base n ex (zqi Q)) args s 0 0 (zA base)) s.heap (zA base) base D cA 2 ex prog_9_method_20_code "ConstantFlowModel" n 0 0 126 [some (.ref a0), some (.int a1)] [] σ := by
  intro f
  induction f with
  | zero => intro a0 a1 σ h; exact False.elim h
  | succ f ih =>
    intro a0 a1 σ h
    refine zw_iload_n d_M_read_126 rfl rfl ?_
    refine zw_sipush (v := 560) d_M_read_127 rfl ?_
    obtain ⟨ht, hf⟩ := h
    refine zw_icmp_ge (tgt := 151) d_M_read_130 rfl (fun hc => ?_) (fun hc => ?_)
    · have h := ht hc; clear ht hf
      refine zw_iconst (v := 0) d_M_read_151 rfl ?_
      refine zw_istore_n d_M_read_152 rfl (Nat.le_of_ble_eq_true rfl) rfl rfl ?_
      obtain ⟨g, h⟩ := h
      exact w_M_read_153 hr g _ _ _ h
    · have h := hf hc; clear ht hf
      refine zw_aload_n d_M_read_133 rfl rfl ?_
      obtain ⟨q1, h⟩ := h
      obtain ⟨c2, q3, h⟩ := h
      refine zw_gfr (ci := 7) (j := 8) d_M_read_134 mw_3_193 q1.1 q1.2 (by decide) (by decide) rfl q3 ?_
      refine zw_iload_n d_M_read_137 rfl rfl ?_
      refine zw_aload_n d_M_read_138 rfl rfl ?_
      obtain ⟨c4, q5, h⟩ := h
      refine zw_gfr (ci := 7) (j := 13) d_M_read_139 mw_3_198 q1.1 q1.2 (by decide) (by decide) rfl q5 ?_
      refine zw_iload_n d_M_read_142 rfl rfl ?_
      obtain ⟨q6, h⟩ := h
      refine zw_iald d_M_read_143 q6.1 (zkd_eta q6.2.1) q6.2.2 ?_
      obtain ⟨q7, h⟩ := h
      refine zw_iast d_M_read_144 q7.1 (zkd_eta q7.2.1) q7.2.2 ?_
      refine zw_iinc (v := (a1 + (1 : Int32))) d_M_read_145 rfl rfl (Nat.le_of_ble_eq_true rfl) rfl rfl ?_
      refine zw_goto (tgt := 126) d_M_read_148 rfl ?_
      exact ih _ _ _ h
def P_M_read_99 (n : Nat) (Q : Int32 → zS → Prop) (a0 : Nat) (σ : zS) : Prop := zk n a0 7 ∧ (((zi σ a0 3) ≤ 0 → ∃ g, P_M_read_126 n Q g a0 (0 : Int32) (zI (zI σ a0 6 (zi σ a0 11)) a0 7 (zi (zI σ a0 6 (zi σ a0 11)) a0 12))) ∧ (¬ ((zi σ a0 3) ≤ 0) → Q (-1 : Int32) σ))
set_option maxHeartbeats 1000000 in
set_option maxRecDepth 10000 in
theorem w_M_read_99 {Q : Int32 → zS → Prop} (hr : meth.sig.returnType = some .int) {a0 : Nat} {σ : zS} (h : P_M_read_99 n Q a0 σ) : zG p l e (zrm 6 0 0) s m args below meth c (MQ below (zQc (zA base) D cA base n ex (zqi Q)) args s 0 0 (zA base)) s.heap (zA base) base D cA 2 ex prog_9_method_20_code "ConstantFlowModel" n 0 0 99 [some (.ref a0), none] [] σ := by
  unfold P_M_read_99 at h
  refine zw_aload_n d_M_read_99 rfl rfl ?_
  obtain ⟨q1, h⟩ := h
  refine zw_gfi (ci := 7) (j := 3) d_M_read_100 mw_3_188 q1.1 q1.2 (by decide) (by decide) rfl ?_
  obtain ⟨ht, hf⟩ := h
  refine zw_if_le (tgt := 108) d_M_read_103 rfl (fun hc => ?_) (fun hc => ?_)
  · have h := ht hc; clear ht hf
    refine zw_aload_n d_M_read_108 rfl rfl ?_
    refine zw_aload_n d_M_read_109 rfl rfl ?_
    refine zw_gfi (ci := 7) (j := 11) d_M_read_110 mw_3_196 q1.1 q1.2 (by decide) (by decide) rfl ?_
    refine zw_pfi (ci := 7) (j := 6) d_M_read_113 mw_3_191 q1.1 q1.2 (by decide) (by decide) rfl rfl rfl rfl ?_
    refine zw_aload_n d_M_read_116 rfl rfl ?_
    refine zw_aload_n d_M_read_117 rfl rfl ?_
    refine zw_gfi (ci := 7) (j := 12) d_M_read_118 mw_3_197 q1.1 q1.2 (by decide) (by decide) rfl ?_
    refine zw_pfi (ci := 7) (j := 7) d_M_read_121 mw_3_192 q1.1 q1.2 (by decide) (by decide) rfl rfl rfl rfl ?_
    refine zw_iconst (v := 0) d_M_read_124 rfl ?_
    refine zw_istore_n d_M_read_125 rfl (Nat.le_of_ble_eq_true rfl) rfl rfl ?_
    obtain ⟨g, h⟩ := h
    exact w_M_read_126 hr g _ _ _ h
  · have h := hf hc; clear ht hf
    refine zw_iconst (v := -1) d_M_read_106 rfl ?_
    exact zw_iret d_M_read_107 hr h
def P_M_read_88 (n : Nat) (Q : Int32 → zS → Prop) (a0 : Nat) (σ : zS) : Prop := zk n a0 7 ∧ ((¬ (zi σ a0 3) = 0 → P_M_read_99 n Q a0 σ) ∧ ((zi σ a0 3) = 0 → P_M_checkTargets n a0 σ (fun σ3 => P_M_read_99 n Q a0 σ3)))
set_option maxHeartbeats 1000000 in
set_option maxRecDepth 10000 in
theorem w_M_read_88 {Q : Int32 → zS → Prop} (hr : meth.sig.returnType = some .int) {a0 : Nat} {σ : zS} (h : P_M_read_88 n Q a0 σ) : zG p l e (zrm 6 0 0) s m args below meth c (MQ below (zQc (zA base) D cA base n ex (zqi Q)) args s 0 0 (zA base)) s.heap (zA base) base D cA 2 ex prog_9_method_20_code "ConstantFlowModel" n 0 0 88 [some (.ref a0), none] [] σ := by
  unfold P_M_read_88 at h
  refine zw_aload_n d_M_read_88 rfl rfl ?_
  obtain ⟨q1, h⟩ := h
  refine zw_gfi (ci := 7) (j := 3) d_M_read_89 mw_3_188 q1.1 q1.2 (by decide) (by decide) rfl ?_
  obtain ⟨ht, hf⟩ := h
  refine zw_if_ne (tgt := 99) d_M_read_92 rfl (fun hc => ?_) (fun hc => ?_)
  · have h := ht hc; clear ht hf
    exact w_M_read_99 hr h
  · have h := hf hc; clear ht hf
    refine zw_aload_n d_M_read_95 rfl rfl ?_
    refine zw_callV (ci := 7) (b := a0) (As := []) (r := []) d_M_read_96 (c_M_checkTargets h) mw_4_116 mw_4_118 mp_3_4 mw_1_8 mw_4_119 (by decide) q1.1 q1.2 hyV_M_checkTargets (Nat.le_of_ble_eq_true rfl) (Nat.le_of_ble_eq_true rfl) ⟨(Nat.le_of_ble_eq_true rfl), (Nat.le_of_ble_eq_true rfl)⟩ (Nat.le_of_ble_eq_true rfl) rfl (zk_v (fun σ3 h => ?_))
    exact w_M_read_99 hr h
def P_M_read_38 (n : Nat) (Q : Int32 → zS → Prop) : Nat → Nat → zS → Prop
  | 0, _, _ => False
  | f + 1, a0, σ => zk n a0 7 ∧ ((¬ (zi σ a0 3) = 0 → P_M_read_88 n Q a0 σ) ∧ ((zi σ a0 3) = 0 → (((zi σ a0 2) ≤ (zi σ a0 5) → P_M_read_88 n Q a0 σ) ∧ (¬ ((zi σ a0 2) ≤ (zi σ a0 5)) → ((¬ (zi σ a0 11) = (24 : Int32) → P_M_block n a0 σ (fun σ3 => P_M_skip n a0 σ3 (fun σ5 => P_M_read_38 n Q f a0 σ5))) ∧ ((zi σ a0 11) = (24 : Int32) → P_M_fail n a0 (3 : Int32) (zi σ a0 5) σ (fun σ7 => P_M_read_38 n Q f a0 σ7)))))))
set_option maxHeartbeats 1000000 in
set_option maxRecDepth 10000 in
theorem w_M_read_38 {Q : Int32 → zS → Prop} (hr : meth.sig.returnType = some .int) : ∀ (f : Nat) (a0 : Nat) (σ : zS), P_M_read_38 n Q f a0 σ → zG p l e (zrm 6 0 0) s m args below meth c (MQ below (zQc (zA base) D cA base n ex (zqi Q)) args s 0 0 (zA base)) s.heap (zA base) base D cA 2 ex prog_9_method_20_code "ConstantFlowModel" n 0 0 38 [some (.ref a0), none] [] σ := by
  intro f
  induction f with
  | zero => intro a0 σ h; exact False.elim h
  | succ f ih =>
    intro a0 σ h
    refine zw_aload_n d_M_read_38 rfl rfl ?_
    obtain ⟨q1, h⟩ := h
    refine zw_gfi (ci := 7) (j := 3) d_M_read_39 mw_3_188 q1.1 q1.2 (by decide) (by decide) rfl ?_
    obtain ⟨ht, hf⟩ := h
    refine zw_if_ne (tgt := 88) d_M_read_42 rfl (fun hc => ?_) (fun hc => ?_)
    · have h := ht hc; clear ht hf
      exact w_M_read_88 hr h
    · have h := hf hc; clear ht hf
      refine zw_aload_n d_M_read_45 rfl rfl ?_
      refine zw_gfi (ci := 7) (j := 5) d_M_read_46 mw_3_190 q1.1 q1.2 (by decide) (by decide) rfl ?_
      refine zw_aload_n d_M_read_49 rfl rfl ?_
      refine zw_gfi (ci := 7) (j := 2) d_M_read_50 mw_3_187 q1.1 q1.2 (by decide) (by decide) rfl ?_
      obtain ⟨ht, hf⟩ := h
      refine zw_icmp_ge (tgt := 88) d_M_read_53 rfl (fun hc => ?_) (fun hc => ?_)
      · have h := ht hc; clear ht hf
        exact w_M_read_88 hr h
      · have h := hf hc; clear ht hf
        refine zw_aload_n d_M_read_56 rfl rfl ?_
        refine zw_gfi (ci := 7) (j := 11) d_M_read_57 mw_3_196 q1.1 q1.2 (by decide) (by decide) rfl ?_
        refine zw_bipush (v := 24) d_M_read_60 rfl ?_
        obtain ⟨ht, hf⟩ := h
        refine zw_icmp_ne (tgt := 77) d_M_read_62 rfl (fun hc => ?_) (fun hc => ?_)
        · have h := ht hc; clear ht hf
          refine zw_aload_n d_M_read_77 rfl rfl ?_
          refine zw_callV (ci := 7) (b := a0) (As := []) (r := []) d_M_read_78 (c_M_block h) mw_4_62 mw_4_64 mp_2_10 mw_1_8 mw_4_65 (by decide) q1.1 q1.2 hyV_M_block (Nat.le_of_ble_eq_true rfl) (Nat.le_of_ble_eq_true rfl) ⟨(Nat.le_of_ble_eq_true rfl), (Nat.le_of_ble_eq_true rfl)⟩ (Nat.le_of_ble_eq_true rfl) rfl (zk_v (fun σ3 h => ?_))
          refine zw_aload_n d_M_read_81 rfl rfl ?_
          refine zw_callV (ci := 7) (b := a0) (As := []) (r := []) d_M_read_82 (c_M_skip h) mw_4_66 mw_4_68 mp_2_11 mw_1_8 mw_4_69 (by decide) q1.1 q1.2 hyV_M_skip (Nat.le_of_ble_eq_true rfl) (Nat.le_of_ble_eq_true rfl) ⟨(Nat.le_of_ble_eq_true rfl), (Nat.le_of_ble_eq_true rfl)⟩ (Nat.le_of_ble_eq_true rfl) rfl (zk_v (fun σ5 h => ?_))
          refine zw_goto (tgt := 38) d_M_read_85 rfl ?_
          exact ih _ _ h
        · have h := hf hc; clear ht hf
          refine zw_aload_n d_M_read_65 rfl rfl ?_
          refine zw_iconst (v := 3) d_M_read_66 rfl ?_
          refine zw_aload_n d_M_read_67 rfl rfl ?_
          refine zw_gfi (ci := 7) (j := 5) d_M_read_68 mw_3_190 q1.1 q1.2 (by decide) (by decide) rfl ?_
          refine zw_callV (ci := 7) (b := a0) (As := [.int (3 : Int32), .int (zi σ a0 5)]) (r := []) d_M_read_71 (c_M_fail h) mw_4_85 mw_4_87 mp_2_15 mw_1_8 mw_4_88 (by decide) q1.1 q1.2 hyV_M_fail (Nat.le_of_ble_eq_true rfl) (Nat.le_of_ble_eq_true rfl) ⟨(Nat.le_of_ble_eq_true rfl), (Nat.le_of_ble_eq_true rfl)⟩ (Nat.le_of_ble_eq_true rfl) rfl (zk_v (fun σ7 h => ?_))
          refine zw_goto (tgt := 38) d_M_read_74 rfl ?_
          exact ih _ _ h
def P_M_read (n : Nat) (a0 : Nat) (σ : zS) (Q : Int32 → zS → Prop) : Prop := zk n a0 7 ∧ P_M_block n a0 (zI (zI (zI (zI (zI (zI σ a0 0 (0 : Int32)) a0 3 (0 : Int32)) a0 4 (-1 : Int32)) a0 5 (0 : Int32)) a0 11 (0 : Int32)) a0 12 (0 : Int32)) (fun σ3 => P_M_skip n a0 σ3 (fun σ5 => ∃ g, P_M_read_38 n Q g a0 σ5))
set_option maxHeartbeats 1000000 in
set_option maxRecDepth 10000 in
theorem w_M_read {Q : Int32 → zS → Prop} (hr : meth.sig.returnType = some .int) {a0 : Nat} {σ : zS} (h : P_M_read n a0 σ Q) : zG p l e (zrm 6 0 0) s m args below meth c (MQ below (zQc (zA base) D cA base n ex (zqi Q)) args s 0 0 (zA base)) s.heap (zA base) base D cA 2 ex prog_9_method_20_code "ConstantFlowModel" n 0 0 0 [some (.ref a0), none] [] σ := by
  unfold P_M_read at h
  refine zw_aload_n d_M_read_0 rfl rfl ?_
  refine zw_iconst (v := 0) d_M_read_1 rfl ?_
  obtain ⟨q1, h⟩ := h
  refine zw_pfi (ci := 7) (j := 0) d_M_read_2 mw_3_185 q1.1 q1.2 (by decide) (by decide) rfl rfl rfl rfl ?_
  refine zw_aload_n d_M_read_5 rfl rfl ?_
  refine zw_iconst (v := 0) d_M_read_6 rfl ?_
  refine zw_pfi (ci := 7) (j := 3) d_M_read_7 mw_3_188 q1.1 q1.2 (by decide) (by decide) rfl rfl rfl rfl ?_
  refine zw_aload_n d_M_read_10 rfl rfl ?_
  refine zw_iconst (v := -1) d_M_read_11 rfl ?_
  refine zw_pfi (ci := 7) (j := 4) d_M_read_12 mw_3_189 q1.1 q1.2 (by decide) (by decide) rfl rfl rfl rfl ?_
  refine zw_aload_n d_M_read_15 rfl rfl ?_
  refine zw_iconst (v := 0) d_M_read_16 rfl ?_
  refine zw_pfi (ci := 7) (j := 5) d_M_read_17 mw_3_190 q1.1 q1.2 (by decide) (by decide) rfl rfl rfl rfl ?_
  refine zw_aload_n d_M_read_20 rfl rfl ?_
  refine zw_iconst (v := 0) d_M_read_21 rfl ?_
  refine zw_pfi (ci := 7) (j := 11) d_M_read_22 mw_3_196 q1.1 q1.2 (by decide) (by decide) rfl rfl rfl rfl ?_
  refine zw_aload_n d_M_read_25 rfl rfl ?_
  refine zw_iconst (v := 0) d_M_read_26 rfl ?_
  refine zw_pfi (ci := 7) (j := 12) d_M_read_27 mw_3_197 q1.1 q1.2 (by decide) (by decide) rfl rfl rfl rfl ?_
  refine zw_aload_n d_M_read_30 rfl rfl ?_
  refine zw_callV (ci := 7) (b := a0) (As := []) (r := []) d_M_read_31 (c_M_block h) mw_4_62 mw_4_64 mp_2_10 mw_1_8 mw_4_65 (by decide) q1.1 q1.2 hyV_M_block (Nat.le_of_ble_eq_true rfl) (Nat.le_of_ble_eq_true rfl) ⟨(Nat.le_of_ble_eq_true rfl), (Nat.le_of_ble_eq_true rfl)⟩ (Nat.le_of_ble_eq_true rfl) rfl (zk_v (fun σ3 h => ?_))
  refine zw_aload_n d_M_read_34 rfl rfl ?_
  refine zw_callV (ci := 7) (b := a0) (As := []) (r := []) d_M_read_35 (c_M_skip h) mw_4_66 mw_4_68 mp_2_11 mw_1_8 mw_4_69 (by decide) q1.1 q1.2 hyV_M_skip (Nat.le_of_ble_eq_true rfl) (Nat.le_of_ble_eq_true rfl) ⟨(Nat.le_of_ble_eq_true rfl), (Nat.le_of_ble_eq_true rfl)⟩ (Nat.le_of_ble_eq_true rfl) rfl (zk_v (fun σ5 h => ?_))
  obtain ⟨g, h⟩ := h
  exact w_M_read_38 hr g _ _ h
theorem c_M_read {l : Launch} {D : va_G} {cA : Nat → ClassId} {base n : Nat} {ex : Bool} {Q : Int32 → zS → Prop} {a0 : Nat} {σ : zS} (h : P_M_read n a0 σ Q) : zM l y_M_read prog_9_method_20_code 2 (some .int) 6 0 0 (zA base) D cA base n n ex [.ref a0] σ (zqi Q) :=
  zMet (by decide) rfl (Nat.le_of_ble_eq_true rfl) (fun p e s m args below meth c hr hnm => w_M_read hr h)
def P_M_known_61 (n : Nat) (Q : Int32 → zS → Prop) (b0 : Int32) (σ : zS) : Prop := Q b0 σ
set_option maxHeartbeats 1000000 in
set_option maxRecDepth 10000 in
theorem w_M_known_61 {Q : Int32 → zS → Prop} (hr : meth.sig.returnType = some .int) {b0 : Int32} {σ : zS} (h : P_M_known_61 n Q b0 σ) : zG p l e (zrm 6 0 0) s m args below meth c (MQ below (zQc (zA base) D cA base n ex (zqi Q)) args s 0 0 (zA base)) s.heap (zA base) base D cA 4 ex prog_9_method_36_code "ConstantFlowModel" n 0 0 61 [none, none, none, none] [.int b0] σ := by
  unfold P_M_known_61 at h
  exact zw_iret d_M_known_61 hr h
def P_M_known_24 (n : Nat) (Q : Int32 → zS → Prop) (a0 : Nat) (a1 : Int32) (a2 : Int32) (a3 : Int32) (b0 : Nat) (b1 : Int32) (σ : zS) : Prop := zk n b0 7 ∧ zk n a0 7 ∧ (((zi (zI σ b0 0 b1) a0 0) ≤ 0 → P_M_goTo n a0 a1 a3 (zI σ b0 0 b1) (fun σ4 => ∃ c5, zr σ4 a0 20 = some c5 ∧ za n c5 11 a1 ∧ (((zi σ4 c5 a1.toNatClampNeg) = 0 → P_M_known_61 n Q (0 : Int32) σ4) ∧ (¬ ((zi σ4 c5 a1.toNatClampNeg) = 0) → ∃ c8, zr σ4 a0 23 = some c8 ∧ za n c8 10 a2 ∧ P_M_known_61 n Q (zi σ4 c8 a2.toNatClampNeg) σ4)))) ∧ (¬ ((zi (zI σ b0 0 b1) a0 0) ≤ 0) → Q (0 : Int32) (zI σ b0 0 b1)))
set_option maxHeartbeats 1000000 in
set_option maxRecDepth 10000 in
theorem w_M_known_24 {Q : Int32 → zS → Prop} (hr : meth.sig.returnType = some .int) {a0 : Nat} {a1 : Int32} {a2 : Int32} {a3 : Int32} {b0 : Nat} {b1 : Int32} {σ : zS} (h : P_M_known_24 n Q a0 a1 a2 a3 b0 b1 σ) : zG p l e (zrm 6 0 0) s m args below meth c (MQ below (zQc (zA base) D cA base n ex (zqi Q)) args s 0 0 (zA base)) s.heap (zA base) base D cA 4 ex prog_9_method_36_code "ConstantFlowModel" n 0 0 24 [some (.ref a0), some (.int a1), some (.int a2), some (.int a3)] [.int b1, .ref b0] σ := by
  unfold P_M_known_24 at h
  obtain ⟨q1, h⟩ := h
  refine zw_pfi (ci := 7) (j := 0) d_M_known_24 mw_3_185 q1.1 q1.2 (by decide) (by decide) rfl rfl rfl rfl ?_
  refine zw_aload_n d_M_known_27 rfl rfl ?_
  obtain ⟨q2, h⟩ := h
  refine zw_gfi (ci := 7) (j := 0) d_M_known_28 mw_3_185 q2.1 q2.2 (by decide) (by decide) rfl ?_
  obtain ⟨ht, hf⟩ := h
  refine zw_if_le (tgt := 36) d_M_known_31 rfl (fun hc => ?_) (fun hc => ?_)
  · have h := ht hc; clear ht hf
    refine zw_aload_n d_M_known_36 rfl rfl ?_
    refine zw_iload_n d_M_known_37 rfl rfl ?_
    refine zw_iload_n d_M_known_38 rfl rfl ?_
    refine zw_callV (ci := 7) (b := a0) (As := [.int a1, .int a3]) (r := []) d_M_known_39 (c_M_goTo h) mw_4_179 mw_4_181 mp_3_15 mw_1_8 mw_4_182 (by decide) q2.1 q2.2 hyV_M_goTo (Nat.le_of_ble_eq_true rfl) (Nat.le_of_ble_eq_true rfl) ⟨(Nat.le_of_ble_eq_true rfl), (Nat.le_of_ble_eq_true rfl)⟩ (Nat.le_of_ble_eq_true rfl) rfl (zk_v (fun σ4 h => ?_))
    refine zw_aload_n d_M_known_42 rfl rfl ?_
    obtain ⟨c5, q6, h⟩ := h
    refine zw_gfr (ci := 7) (j := 20) d_M_known_43 mw_3_205 q2.1 q2.2 (by decide) (by decide) rfl q6 ?_
    refine zw_iload_n d_M_known_46 rfl rfl ?_
    obtain ⟨q7, h⟩ := h
    refine zw_zald d_M_known_47 q7.1 (zkd_eta q7.2.1) q7.2.2 ?_
    obtain ⟨ht, hf⟩ := h
    refine zw_if_eq (tgt := 60) d_M_known_48 rfl (fun hc => ?_) (fun hc => ?_)
    · have h := ht hc; clear ht hf
      refine zw_iconst (v := 0) d_M_known_60 rfl ?_
      refine zw_le (ls' := [none, none, none, none]) (True.intro) ?_
      exact w_M_known_61 hr h
    · have h := hf hc; clear ht hf
      refine zw_aload_n d_M_known_51 rfl rfl ?_
      obtain ⟨c8, q9, h⟩ := h
      refine zw_gfr (ci := 7) (j := 23) d_M_known_52 mw_3_208 q2.1 q2.2 (by decide) (by decide) rfl q9 ?_
      refine zw_iload_n d_M_known_55 rfl rfl ?_
      obtain ⟨q10, h⟩ := h
      refine zw_iald d_M_known_56 q10.1 (zkd_eta q10.2.1) q10.2.2 ?_
      refine zw_goto (tgt := 61) d_M_known_57 rfl ?_
      refine zw_le (ls' := [none, none, none, none]) (True.intro) ?_
      exact w_M_known_61 hr h
  · have h := hf hc; clear ht hf
    refine zw_iconst (v := 0) d_M_known_34 rfl ?_
    exact zw_iret d_M_known_35 hr h
def P_M_known_19 (n : Nat) (Q : Int32 → zS → Prop) (a0 : Nat) (a1 : Int32) (a2 : Int32) (a3 : Int32) (b0 : Nat) (σ : zS) : Prop := P_M_known_24 n Q a0 a1 a2 a3 b0 (1 : Int32) σ
set_option maxHeartbeats 1000000 in
set_option maxRecDepth 10000 in
theorem w_M_known_19 {Q : Int32 → zS → Prop} (hr : meth.sig.returnType = some .int) {a0 : Nat} {a1 : Int32} {a2 : Int32} {a3 : Int32} {b0 : Nat} {σ : zS} (h : P_M_known_19 n Q a0 a1 a2 a3 b0 σ) : zG p l e (zrm 6 0 0) s m args below meth c (MQ below (zQc (zA base) D cA base n ex (zqi Q)) args s 0 0 (zA base)) s.heap (zA base) base D cA 4 ex prog_9_method_36_code "ConstantFlowModel" n 0 0 19 [some (.ref a0), some (.int a1), some (.int a2), some (.int a3)] [.ref b0] σ := by
  unfold P_M_known_19 at h
  refine zw_iconst (v := 1) d_M_known_19 rfl ?_
  refine zw_goto (tgt := 24) d_M_known_20 rfl ?_
  exact w_M_known_24 hr h
def P_M_known (n : Nat) (a0 : Nat) (a1 : Int32) (a2 : Int32) (a3 : Int32) (σ : zS) (Q : Int32 → zS → Prop) : Prop := zk n a0 7 ∧ P_M_noBlock n a0 a1 σ (fun x1 σ2 => ((¬ x1 = 0 → P_M_known_19 n Q a0 a1 a2 a3 a0 σ2) ∧ (x1 = 0 → ((a2 < 0 → P_M_known_19 n Q a0 a1 a2 a3 a0 σ2) ∧ (¬ (a2 < 0) → ((a2 < (8 : Int32) → P_M_known_24 n Q a0 a1 a2 a3 a0 (0 : Int32) σ2) ∧ (¬ (a2 < (8 : Int32)) → P_M_known_19 n Q a0 a1 a2 a3 a0 σ2)))))))
set_option maxHeartbeats 1000000 in
set_option maxRecDepth 10000 in
theorem w_M_known {Q : Int32 → zS → Prop} (hr : meth.sig.returnType = some .int) {a0 : Nat} {a1 : Int32} {a2 : Int32} {a3 : Int32} {σ : zS} (h : P_M_known n a0 a1 a2 a3 σ Q) : zG p l e (zrm 6 0 0) s m args below meth c (MQ below (zQc (zA base) D cA base n ex (zqi Q)) args s 0 0 (zA base)) s.heap (zA base) base D cA 4 ex prog_9_method_36_code "ConstantFlowModel" n 0 0 0 [some (.ref a0), some (.int a1), some (.int a2), some (.int a3)] [] σ := by
  unfold P_M_known at h
  refine zw_aload_n d_M_known_0 rfl rfl ?_
  refine zw_aload_n d_M_known_1 rfl rfl ?_
  refine zw_iload_n d_M_known_2 rfl rfl ?_
  obtain ⟨q3, h⟩ := h
  refine zw_callV (ci := 7) (b := a0) (As := [.int a1]) (r := [.ref a0]) d_M_known_3 (c_M_noBlock h) mw_4_132 mw_4_134 mp_3_5 mw_1_8 mw_4_135 (by decide) q3.1 q3.2 hyV_M_noBlock (Nat.le_of_ble_eq_true rfl) (Nat.le_of_ble_eq_true rfl) ⟨(Nat.le_of_ble_eq_true rfl), (Nat.le_of_ble_eq_true rfl)⟩ (Nat.le_of_ble_eq_true rfl) rfl (zk_i (fun x1 σ2 h => ?_))
  obtain ⟨ht, hf⟩ := h
  refine zw_if_ne (tgt := 19) d_M_known_6 rfl (fun hc => ?_) (fun hc => ?_)
  · have h := ht hc; clear ht hf
    exact w_M_known_19 hr h
  · have h := hf hc; clear ht hf
    refine zw_iload_n d_M_known_9 rfl rfl ?_
    obtain ⟨ht, hf⟩ := h
    refine zw_if_lt (tgt := 19) d_M_known_10 rfl (fun hc => ?_) (fun hc => ?_)
    · have h := ht hc; clear ht hf
      exact w_M_known_19 hr h
    · have h := hf hc; clear ht hf
      refine zw_iload_n d_M_known_13 rfl rfl ?_
      refine zw_bipush (v := 8) d_M_known_14 rfl ?_
      obtain ⟨ht, hf⟩ := h
      refine zw_icmp_lt (tgt := 23) d_M_known_16 rfl (fun hc => ?_) (fun hc => ?_)
      · have h := ht hc; clear ht hf
        refine zw_iconst (v := 0) d_M_known_23 rfl ?_
        exact w_M_known_24 hr h
      · have h := hf hc; clear ht hf
        exact w_M_known_19 hr h
theorem c_M_known {l : Launch} {D : va_G} {cA : Nat → ClassId} {base n : Nat} {ex : Bool} {Q : Int32 → zS → Prop} {a0 : Nat} {a1 : Int32} {a2 : Int32} {a3 : Int32} {σ : zS} (h : P_M_known n a0 a1 a2 a3 σ Q) : zM l y_M_known prog_9_method_36_code 4 (some .int) 6 0 0 (zA base) D cA base n n ex [.ref a0, .int a1, .int a2, .int a3] σ (zqi Q) :=
  zMet (by decide) rfl (Nat.le_of_ble_eq_true rfl) (fun p e s m args below meth c hr hnm => w_M_known hr h)
def P_M_number_87 (n : Nat) (Q : Int32 → zS → Prop) (b0 : Int32) (σ : zS) : Prop := Q b0 σ
set_option maxHeartbeats 1000000 in
set_option maxRecDepth 10000 in
theorem w_M_number_87 {Q : Int32 → zS → Prop} (hr : meth.sig.returnType = some .int) {b0 : Int32} {σ : zS} (h : P_M_number_87 n Q b0 σ) : zG p l e (zrm 6 0 0) s m args below meth c (MQ below (zQc (zA base) D cA base n ex (zqi Q)) args s 0 0 (zA base)) s.heap (zA base) base D cA 4 ex prog_9_method_37_code "ConstantFlowModel" n 0 0 87 [none, none, none, none] [.int b0] σ := by
  unfold P_M_number_87 at h
  exact zw_iret d_M_number_87 hr h
def P_M_number_67 (n : Nat) (Q : Int32 → zS → Prop) (a0 : Nat) (a2 : Int32) (b0 : Nat) (b1 : Int32) (σ : zS) : Prop := zk n b0 7 ∧ zk n a0 7 ∧ (((zi (zI σ b0 0 b1) a0 0) ≤ 0 → ∃ c3, zr (zI σ b0 0 b1) a0 24 = some c3 ∧ za n c3 10 a2 ∧ P_M_number_87 n Q (zi (zI σ b0 0 b1) c3 a2.toNatClampNeg) (zI σ b0 0 b1)) ∧ (¬ ((zi (zI σ b0 0 b1) a0 0) ≤ 0) → P_M_number_87 n Q (0 : Int32) (zI σ b0 0 b1)))
set_option maxHeartbeats 1000000 in
set_option maxRecDepth 10000 in
theorem w_M_number_67 {Q : Int32 → zS → Prop} (hr : meth.sig.returnType = some .int) {a0 : Nat} {a2 : Int32} {b0 : Nat} {b1 : Int32} {σ : zS} (h : P_M_number_67 n Q a0 a2 b0 b1 σ) : zG p l e (zrm 6 0 0) s m args below meth c (MQ below (zQc (zA base) D cA base n ex (zqi Q)) args s 0 0 (zA base)) s.heap (zA base) base D cA 4 ex prog_9_method_37_code "ConstantFlowModel" n 0 0 67 [some (.ref a0), none, some (.int a2), none] [.int b1, .ref b0] σ := by
  unfold P_M_number_67 at h
  obtain ⟨q1, h⟩ := h
  refine zw_pfi (ci := 7) (j := 0) d_M_number_67 mw_3_185 q1.1 q1.2 (by decide) (by decide) rfl rfl rfl rfl ?_
  refine zw_aload_n d_M_number_70 rfl rfl ?_
  obtain ⟨q2, h⟩ := h
  refine zw_gfi (ci := 7) (j := 0) d_M_number_71 mw_3_185 q2.1 q2.2 (by decide) (by decide) rfl ?_
  obtain ⟨ht, hf⟩ := h
  refine zw_if_le (tgt := 81) d_M_number_74 rfl (fun hc => ?_) (fun hc => ?_)
  · have h := ht hc; clear ht hf
    refine zw_aload_n d_M_number_81 rfl rfl ?_
    obtain ⟨c3, q4, h⟩ := h
    refine zw_gfr (ci := 7) (j := 24) d_M_number_82 mw_3_209 q2.1 q2.2 (by decide) (by decide) rfl q4 ?_
    refine zw_iload_n d_M_number_85 rfl rfl ?_
    obtain ⟨q5, h⟩ := h
    refine zw_iald d_M_number_86 q5.1 (zkd_eta q5.2.1) q5.2.2 ?_
    refine zw_le (ls' := [none, none, none, none]) (True.intro) ?_
    exact w_M_number_87 hr h
  · have h := hf hc; clear ht hf
    refine zw_iconst (v := 0) d_M_number_77 rfl ?_
    refine zw_goto (tgt := 87) d_M_number_78 rfl ?_
    refine zw_le (ls' := [none, none, none, none]) (True.intro) ?_
    exact w_M_number_87 hr h
def P_M_number_66 (n : Nat) (Q : Int32 → zS → Prop) (a0 : Nat) (a2 : Int32) (b0 : Nat) (σ : zS) : Prop := P_M_number_67 n Q a0 a2 b0 (2 : Int32) σ
set_option maxHeartbeats 1000000 in
set_option maxRecDepth 10000 in
theorem w_M_number_66 {Q : Int32 → zS → Prop} (hr : meth.sig.returnType = some .int) {a0 : Nat} {a2 : Int32} {b0 : Nat} {σ : zS} (h : P_M_number_66 n Q a0 a2 b0 σ) : zG p l e (zrm 6 0 0) s m args below meth c (MQ below (zQc (zA base) D cA base n ex (zqi Q)) args s 0 0 (zA base)) s.heap (zA base) base D cA 4 ex prog_9_method_37_code "ConstantFlowModel" n 0 0 66 [some (.ref a0), none, some (.int a2), none] [.ref b0] σ := by
  unfold P_M_number_66 at h
  refine zw_iconst (v := 2) d_M_number_66 rfl ?_
  exact w_M_number_67 hr h
def P_M_number_24 (n : Nat) (Q : Int32 → zS → Prop) (a0 : Nat) (a1 : Int32) (a2 : Int32) (a3 : Int32) (b0 : Nat) (b1 : Int32) (σ : zS) : Prop := zk n b0 7 ∧ zk n a0 7 ∧ (((zi (zI σ b0 0 b1) a0 0) ≤ 0 → P_M_goTo n a0 a1 a3 (zI σ b0 0 b1) (fun σ4 => ∃ c5, zr σ4 a0 20 = some c5 ∧ za n c5 11 a1 ∧ (((zi σ4 c5 a1.toNatClampNeg) = 0 → P_M_number_66 n Q a0 a2 a0 σ4) ∧ (¬ ((zi σ4 c5 a1.toNatClampNeg) = 0) → ∃ c8, zr σ4 a0 23 = some c8 ∧ za n c8 10 a2 ∧ ((¬ (zi σ4 c8 a2.toNatClampNeg) = (1 : Int32) → P_M_number_66 n Q a0 a2 a0 σ4) ∧ ((zi σ4 c8 a2.toNatClampNeg) = (1 : Int32) → P_M_number_67 n Q a0 a2 a0 (0 : Int32) σ4)))))) ∧ (¬ ((zi (zI σ b0 0 b1) a0 0) ≤ 0) → Q (0 : Int32) (zI σ b0 0 b1)))
set_option maxHeartbeats 1000000 in
set_option maxRecDepth 10000 in
theorem w_M_number_24 {Q : Int32 → zS → Prop} (hr : meth.sig.returnType = some .int) {a0 : Nat} {a1 : Int32} {a2 : Int32} {a3 : Int32} {b0 : Nat} {b1 : Int32} {σ : zS} (h : P_M_number_24 n Q a0 a1 a2 a3 b0 b1 σ) : zG p l e (zrm 6 0 0) s m args below meth c (MQ below (zQc (zA base) D cA base n ex (zqi Q)) args s 0 0 (zA base)) s.heap (zA base) base D cA 4 ex prog_9_method_37_code "ConstantFlowModel" n 0 0 24 [some (.ref a0), some (.int a1), some (.int a2), some (.int a3)] [.int b1, .ref b0] σ := by
  unfold P_M_number_24 at h
  obtain ⟨q1, h⟩ := h
  refine zw_pfi (ci := 7) (j := 0) d_M_number_24 mw_3_185 q1.1 q1.2 (by decide) (by decide) rfl rfl rfl rfl ?_
  refine zw_aload_n d_M_number_27 rfl rfl ?_
  obtain ⟨q2, h⟩ := h
  refine zw_gfi (ci := 7) (j := 0) d_M_number_28 mw_3_185 q2.1 q2.2 (by decide) (by decide) rfl ?_
  obtain ⟨ht, hf⟩ := h
  refine zw_if_le (tgt := 36) d_M_number_31 rfl (fun hc => ?_) (fun hc => ?_)
  · have h := ht hc; clear ht hf
    refine zw_aload_n d_M_number_36 rfl rfl ?_
    refine zw_iload_n d_M_number_37 rfl rfl ?_
    refine zw_iload_n d_M_number_38 rfl rfl ?_
    refine zw_callV (ci := 7) (b := a0) (As := [.int a1, .int a3]) (r := []) d_M_number_39 (c_M_goTo h) mw_4_179 mw_4_181 mp_3_15 mw_1_8 mw_4_182 (by decide) q2.1 q2.2 hyV_M_goTo (Nat.le_of_ble_eq_true rfl) (Nat.le_of_ble_eq_true rfl) ⟨(Nat.le_of_ble_eq_true rfl), (Nat.le_of_ble_eq_true rfl)⟩ (Nat.le_of_ble_eq_true rfl) rfl (zk_v (fun σ4 h => ?_))
    refine zw_aload_n d_M_number_42 rfl rfl ?_
    refine zw_aload_n d_M_number_43 rfl rfl ?_
    obtain ⟨c5, q6, h⟩ := h
    refine zw_gfr (ci := 7) (j := 20) d_M_number_44 mw_3_205 q2.1 q2.2 (by decide) (by decide) rfl q6 ?_
    refine zw_iload_n d_M_number_47 rfl rfl ?_
    obtain ⟨q7, h⟩ := h
    refine zw_zald d_M_number_48 q7.1 (zkd_eta q7.2.1) q7.2.2 ?_
    obtain ⟨ht, hf⟩ := h
    refine zw_if_eq (tgt := 66) d_M_number_49 rfl (fun hc => ?_) (fun hc => ?_)
    · have h := ht hc; clear ht hf
      refine zw_le (ls' := [some (.ref a0), none, some (.int a2), none]) (And.intro rfl (And.intro rfl True.intro)) ?_
      exact w_M_number_66 hr h
    · have h := hf hc; clear ht hf
      refine zw_aload_n d_M_number_52 rfl rfl ?_
      obtain ⟨c8, q9, h⟩ := h
      refine zw_gfr (ci := 7) (j := 23) d_M_number_53 mw_3_208 q2.1 q2.2 (by decide) (by decide) rfl q9 ?_
      refine zw_iload_n d_M_number_56 rfl rfl ?_
      obtain ⟨q10, h⟩ := h
      refine zw_iald d_M_number_57 q10.1 (zkd_eta q10.2.1) q10.2.2 ?_
      refine zw_iconst (v := 1) d_M_number_58 rfl ?_
      obtain ⟨ht, hf⟩ := h
      refine zw_icmp_ne (tgt := 66) d_M_number_59 rfl (fun hc => ?_) (fun hc => ?_)
      · have h := ht hc; clear ht hf
        refine zw_le (ls' := [some (.ref a0), none, some (.int a2), none]) (And.intro rfl (And.intro rfl True.intro)) ?_
        exact w_M_number_66 hr h
      · have h := hf hc; clear ht hf
        refine zw_iconst (v := 0) d_M_number_62 rfl ?_
        refine zw_goto (tgt := 67) d_M_number_63 rfl ?_
        refine zw_le (ls' := [some (.ref a0), none, some (.int a2), none]) (And.intro rfl (And.intro rfl True.intro)) ?_
        exact w_M_number_67 hr h
  · have h := hf hc; clear ht hf
    refine zw_iconst (v := 0) d_M_number_34 rfl ?_
    exact zw_iret d_M_number_35 hr h
def P_M_number_19 (n : Nat) (Q : Int32 → zS → Prop) (a0 : Nat) (a1 : Int32) (a2 : Int32) (a3 : Int32) (b0 : Nat) (σ : zS) : Prop := P_M_number_24 n Q a0 a1 a2 a3 b0 (1 : Int32) σ
set_option maxHeartbeats 1000000 in
set_option maxRecDepth 10000 in
theorem w_M_number_19 {Q : Int32 → zS → Prop} (hr : meth.sig.returnType = some .int) {a0 : Nat} {a1 : Int32} {a2 : Int32} {a3 : Int32} {b0 : Nat} {σ : zS} (h : P_M_number_19 n Q a0 a1 a2 a3 b0 σ) : zG p l e (zrm 6 0 0) s m args below meth c (MQ below (zQc (zA base) D cA base n ex (zqi Q)) args s 0 0 (zA base)) s.heap (zA base) base D cA 4 ex prog_9_method_37_code "ConstantFlowModel" n 0 0 19 [some (.ref a0), some (.int a1), some (.int a2), some (.int a3)] [.ref b0] σ := by
  unfold P_M_number_19 at h
  refine zw_iconst (v := 1) d_M_number_19 rfl ?_
  refine zw_goto (tgt := 24) d_M_number_20 rfl ?_
  exact w_M_number_24 hr h
def P_M_number (n : Nat) (a0 : Nat) (a1 : Int32) (a2 : Int32) (a3 : Int32) (σ : zS) (Q : Int32 → zS → Prop) : Prop := zk n a0 7 ∧ P_M_noBlock n a0 a1 σ (fun x1 σ2 => ((¬ x1 = 0 → P_M_number_19 n Q a0 a1 a2 a3 a0 σ2) ∧ (x1 = 0 → ((a2 < 0 → P_M_number_19 n Q a0 a1 a2 a3 a0 σ2) ∧ (¬ (a2 < 0) → ((a2 < (8 : Int32) → P_M_number_24 n Q a0 a1 a2 a3 a0 (0 : Int32) σ2) ∧ (¬ (a2 < (8 : Int32)) → P_M_number_19 n Q a0 a1 a2 a3 a0 σ2)))))))
set_option maxHeartbeats 1000000 in
set_option maxRecDepth 10000 in
theorem w_M_number {Q : Int32 → zS → Prop} (hr : meth.sig.returnType = some .int) {a0 : Nat} {a1 : Int32} {a2 : Int32} {a3 : Int32} {σ : zS} (h : P_M_number n a0 a1 a2 a3 σ Q) : zG p l e (zrm 6 0 0) s m args below meth c (MQ below (zQc (zA base) D cA base n ex (zqi Q)) args s 0 0 (zA base)) s.heap (zA base) base D cA 4 ex prog_9_method_37_code "ConstantFlowModel" n 0 0 0 [some (.ref a0), some (.int a1), some (.int a2), some (.int a3)] [] σ := by
  unfold P_M_number at h
  refine zw_aload_n d_M_number_0 rfl rfl ?_
  refine zw_aload_n d_M_number_1 rfl rfl ?_
  refine zw_iload_n d_M_number_2 rfl rfl ?_
  obtain ⟨q3, h⟩ := h
  refine zw_callV (ci := 7) (b := a0) (As := [.int a1]) (r := [.ref a0]) d_M_number_3 (c_M_noBlock h) mw_4_132 mw_4_134 mp_3_5 mw_1_8 mw_4_135 (by decide) q3.1 q3.2 hyV_M_noBlock (Nat.le_of_ble_eq_true rfl) (Nat.le_of_ble_eq_true rfl) ⟨(Nat.le_of_ble_eq_true rfl), (Nat.le_of_ble_eq_true rfl)⟩ (Nat.le_of_ble_eq_true rfl) rfl (zk_i (fun x1 σ2 h => ?_))
  obtain ⟨ht, hf⟩ := h
  refine zw_if_ne (tgt := 19) d_M_number_6 rfl (fun hc => ?_) (fun hc => ?_)
  · have h := ht hc; clear ht hf
    exact w_M_number_19 hr h
  · have h := hf hc; clear ht hf
    refine zw_iload_n d_M_number_9 rfl rfl ?_
    obtain ⟨ht, hf⟩ := h
    refine zw_if_lt (tgt := 19) d_M_number_10 rfl (fun hc => ?_) (fun hc => ?_)
    · have h := ht hc; clear ht hf
      exact w_M_number_19 hr h
    · have h := hf hc; clear ht hf
      refine zw_iload_n d_M_number_13 rfl rfl ?_
      refine zw_bipush (v := 8) d_M_number_14 rfl ?_
      obtain ⟨ht, hf⟩ := h
      refine zw_icmp_lt (tgt := 23) d_M_number_16 rfl (fun hc => ?_) (fun hc => ?_)
      · have h := ht hc; clear ht hf
        refine zw_iconst (v := 0) d_M_number_23 rfl ?_
        exact w_M_number_24 hr h
      · have h := hf hc; clear ht hf
        exact w_M_number_19 hr h
theorem c_M_number {l : Launch} {D : va_G} {cA : Nat → ClassId} {base n : Nat} {ex : Bool} {Q : Int32 → zS → Prop} {a0 : Nat} {a1 : Int32} {a2 : Int32} {a3 : Int32} {σ : zS} (h : P_M_number n a0 a1 a2 a3 σ Q) : zM l y_M_number prog_9_method_37_code 4 (some .int) 6 0 0 (zA base) D cA base n n ex [.ref a0, .int a1, .int a2, .int a3] σ (zqi Q) :=
  zMet (by decide) rfl (Nat.le_of_ble_eq_true rfl) (fun p e s m args below meth c hr hnm => w_M_number hr h)
def P_F_rewrite_76 (n : Nat) (Q : zS → Prop) (K49 : Nat → Nat → Nat → Int32 → zS → Prop) (a0 : Nat) (a1 : Nat) (a2 : Nat) (a4 : Int32) (σ : zS) : Prop := K49 a0 a1 a2 (a4 + (1 : Int32)) σ
set_option maxHeartbeats 1000000 in
set_option maxRecDepth 10000 in
theorem w_F_rewrite_76 {Q : zS → Prop} {K49 : Nat → Nat → Nat → Int32 → zS → Prop} (hr : meth.sig.returnType = none) (hK49 : ∀ (a0 : Nat) (a1 : Nat) (a2 : Nat) (a4 : Int32) (σ : zS), K49 a0 a1 a2 a4 σ → zG p l e (zrm 7 0 0) s m args below meth c (MQ below (zQc (zA base) D cA base n ex (zqv Q)) args s 0 0 (zA base)) s.heap (zA base) base D cA 5 ex prog_2_method_11_code "ConstantFlow$Facts" n 0 0 49 [some (.ref a0), some (.ref a1), some (.ref a2), none, some (.int a4)] [] σ) {a0 : Nat} {a1 : Nat} {a2 : Nat} {a4 : Int32} {σ : zS} (h : P_F_rewrite_76 n Q K49 a0 a1 a2 a4 σ) : zG p l e (zrm 7 0 0) s m args below meth c (MQ below (zQc (zA base) D cA base n ex (zqv Q)) args s 0 0 (zA base)) s.heap (zA base) base D cA 5 ex prog_2_method_11_code "ConstantFlow$Facts" n 0 0 76 [some (.ref a0), some (.ref a1), some (.ref a2), none, some (.int a4)] [] σ := by
  unfold P_F_rewrite_76 at h
  refine zw_iinc (v := (a4 + (1 : Int32))) d_F_rewrite_76 rfl rfl (Nat.le_of_ble_eq_true rfl) rfl rfl ?_
  refine zw_goto (tgt := 49) d_F_rewrite_79 rfl ?_
  exact hK49 _ _ _ _ _ h
def P_F_rewrite_49 (n : Nat) (Q : zS → Prop) : Nat → Nat → Nat → Nat → Int32 → zS → Prop
  | 0, _, _, _, _, _ => False
  | f + 1, a0, a1, a2, a4, σ => zk n a1 6 ∧ (((zi σ a1 0) ≤ a4 → Q σ) ∧ (¬ ((zi σ a1 0) ≤ a4) → zk n a0 3 ∧ ∃ c3, zr σ a0 0 = some c3 ∧ za n c3 11 a4 ∧ (((zi σ c3 a4.toNatClampNeg) = 0 → P_F_rewrite_76 n Q (fun (a0 : Nat) (a1 : Nat) (a2 : Nat) (a4 : Int32) (σ : zS) => P_F_rewrite_49 n Q f a0 a1 a2 a4 σ) a0 a1 a2 a4 σ) ∧ (¬ ((zi σ c3 a4.toNatClampNeg) = 0) → P_F_rewriteBlock n a0 a1 a4 a2 σ (fun σ7 => P_F_rewrite_76 n Q (fun (a0 : Nat) (a1 : Nat) (a2 : Nat) (a4 : Int32) (σ : zS) => P_F_rewrite_49 n Q f a0 a1 a2 a4 σ) a0 a1 a2 a4 σ7)))))
set_option maxHeartbeats 1000000 in
set_option maxRecDepth 10000 in
theorem w_F_rewrite_49 {Q : zS → Prop} (hr : meth.sig.returnType = none) : ∀ (f : Nat) (a0 : Nat) (a1 : Nat) (a2 : Nat) (a4 : Int32) (σ : zS), P_F_rewrite_49 n Q f a0 a1 a2 a4 σ → zG p l e (zrm 7 0 0) s m args below meth c (MQ below (zQc (zA base) D cA base n ex (zqv Q)) args s 0 0 (zA base)) s.heap (zA base) base D cA 5 ex prog_2_method_11_code "ConstantFlow$Facts" n 0 0 49 [some (.ref a0), some (.ref a1), some (.ref a2), none, some (.int a4)] [] σ := by
  intro f
  induction f with
  | zero => intro a0 a1 a2 a4 σ h; exact False.elim h
  | succ f ih =>
    intro a0 a1 a2 a4 σ h
    refine zw_iload d_F_rewrite_49 rfl ?_
    refine zw_aload_n d_F_rewrite_51 rfl rfl ?_
    obtain ⟨q1, h⟩ := h
    refine zw_gfiN (ci := 6) (j := 0) d_F_rewrite_52 mw_1_152 q1.1 q1.2 (by decide) (by decide) rfl ?_
    obtain ⟨ht, hf⟩ := h
    refine zw_icmp_ge (tgt := 82) d_F_rewrite_55 rfl (fun hc => ?_) (fun hc => ?_)
    · have h := ht hc; clear ht hf
      exact zw_vret d_F_rewrite_82 hr h
    · have h := hf hc; clear ht hf
      refine zw_aload_n d_F_rewrite_58 rfl rfl ?_
      obtain ⟨q2, h⟩ := h
      obtain ⟨c3, q4, h⟩ := h
      refine zw_gfr (ci := 3) (j := 0) d_F_rewrite_59 mw_1_95 q2.1 q2.2 (by decide) (by decide) rfl q4 ?_
      refine zw_iload d_F_rewrite_62 rfl ?_
      obtain ⟨q5, h⟩ := h
      refine zw_zald d_F_rewrite_64 q5.1 (zkd_eta q5.2.1) q5.2.2 ?_
      obtain ⟨ht, hf⟩ := h
      refine zw_if_eq (tgt := 76) d_F_rewrite_65 rfl (fun hc => ?_) (fun hc => ?_)
      · have h := ht hc; clear ht hf
        exact w_F_rewrite_76 hr (fun a0 a1 a2 a4 σ hk => ih a0 a1 a2 a4 σ hk) h
      · have h := hf hc; clear ht hf
        refine zw_aload_n d_F_rewrite_68 rfl rfl ?_
        refine zw_aload_n d_F_rewrite_69 rfl rfl ?_
        refine zw_iload d_F_rewrite_70 rfl ?_
        refine zw_aload_n d_F_rewrite_72 rfl rfl ?_
        refine zw_callV (ci := 3) (b := a0) (As := [.ref a1, .int a4, .ref a2]) (r := []) d_F_rewrite_73 (c_F_rewriteBlock h) mw_2_176 mw_2_178 mp_2_1 mw_1_4 mw_2_179 (by decide) q2.1 q2.2 hyV_F_rewriteBlock (Nat.le_of_ble_eq_true rfl) (Nat.le_of_ble_eq_true rfl) ⟨(Nat.le_of_ble_eq_true rfl), (Nat.le_of_ble_eq_true rfl)⟩ (Nat.le_of_ble_eq_true rfl) rfl (zk_v (fun σ7 h => ?_))
        exact w_F_rewrite_76 hr (fun a0 a1 a2 a4 σ hk => ih a0 a1 a2 a4 σ hk) h
def P_F_rewrite_40 (n : Nat) (Q : zS → Prop) (K10 : Nat → Nat → Nat → Int32 → Int32 → zS → Prop) (a0 : Nat) (a1 : Nat) (a2 : Nat) (a3 : Int32) (a4 : Int32) (σ : zS) : Prop := K10 a0 a1 a2 a3 (a4 + (1 : Int32)) σ
set_option maxHeartbeats 1000000 in
set_option maxRecDepth 10000 in
theorem w_F_rewrite_40 {Q : zS → Prop} {K10 : Nat → Nat → Nat → Int32 → Int32 → zS → Prop} (hr : meth.sig.returnType = none) (hK10 : ∀ (a0 : Nat) (a1 : Nat) (a2 : Nat) (a3 : Int32) (a4 : Int32) (σ : zS), K10 a0 a1 a2 a3 a4 σ → zG p l e (zrm 7 0 0) s m args below meth c (MQ below (zQc (zA base) D cA base n ex (zqv Q)) args s 0 0 (zA base)) s.heap (zA base) base D cA 5 ex prog_2_method_11_code "ConstantFlow$Facts" n 0 0 10 [some (.ref a0), some (.ref a1), some (.ref a2), some (.int a3), some (.int a4)] [] σ) {a0 : Nat} {a1 : Nat} {a2 : Nat} {a3 : Int32} {a4 : Int32} {σ : zS} (h : P_F_rewrite_40 n Q K10 a0 a1 a2 a3 a4 σ) : zG p l e (zrm 7 0 0) s m args below meth c (MQ below (zQc (zA base) D cA base n ex (zqv Q)) args s 0 0 (zA base)) s.heap (zA base) base D cA 5 ex prog_2_method_11_code "ConstantFlow$Facts" n 0 0 40 [some (.ref a0), some (.ref a1), some (.ref a2), some (.int a3), some (.int a4)] [] σ := by
  unfold P_F_rewrite_40 at h
  refine zw_iinc (v := (a4 + (1 : Int32))) d_F_rewrite_40 rfl rfl (Nat.le_of_ble_eq_true rfl) rfl rfl ?_
  refine zw_goto (tgt := 10) d_F_rewrite_43 rfl ?_
  exact hK10 _ _ _ _ _ _ h
def P_F_rewrite_10 (n : Nat) (Q : zS → Prop) : Nat → Nat → Nat → Nat → Int32 → Int32 → zS → Prop
  | 0, _, _, _, _, _, _ => False
  | f + 1, a0, a1, a2, a3, a4, σ => zk n a1 6 ∧ (((zi σ a1 0) ≤ a4 → ∃ g, P_F_rewrite_49 n Q g a0 a1 a2 (0 : Int32) σ) ∧ (¬ ((zi σ a1 0) ≤ a4) → zk n a0 3 ∧ ∃ c3, zr σ a0 6 = some c3 ∧ za n c3 10 a4 ∧ ∃ c6, zr (zI σ c3 a4.toNatClampNeg a3) a0 0 = some c6 ∧ za n c6 11 a4 ∧ (((zi (zI σ c3 a4.toNatClampNeg a3) c6 a4.toNatClampNeg) = 0 → P_F_rewrite_40 n Q (fun (a0 : Nat) (a1 : Nat) (a2 : Nat) (a3 : Int32) (a4 : Int32) (σ : zS) => P_F_rewrite_10 n Q f a0 a1 a2 a3 a4 σ) a0 a1 a2 a3 a4 (zI σ c3 a4.toNatClampNeg a3)) ∧ (¬ ((zi (zI σ c3 a4.toNatClampNeg a3) c6 a4.toNatClampNeg) = 0) → P_F_rewrite_40 n Q (fun (a0 : Nat) (a1 : Nat) (a2 : Nat) (a3 : Int32) (a4 : Int32) (σ : zS) => P_F_rewrite_10 n Q f a0 a1 a2 a3 a4 σ) a0 a1 a2 (a3 + (1 : Int32)) a4 (zI σ c3 a4.toNatClampNeg a3)))))
set_option maxHeartbeats 1000000 in
set_option maxRecDepth 10000 in
theorem w_F_rewrite_10 {Q : zS → Prop} (hr : meth.sig.returnType = none) : ∀ (f : Nat) (a0 : Nat) (a1 : Nat) (a2 : Nat) (a3 : Int32) (a4 : Int32) (σ : zS), P_F_rewrite_10 n Q f a0 a1 a2 a3 a4 σ → zG p l e (zrm 7 0 0) s m args below meth c (MQ below (zQc (zA base) D cA base n ex (zqv Q)) args s 0 0 (zA base)) s.heap (zA base) base D cA 5 ex prog_2_method_11_code "ConstantFlow$Facts" n 0 0 10 [some (.ref a0), some (.ref a1), some (.ref a2), some (.int a3), some (.int a4)] [] σ := by
  intro f
  induction f with
  | zero => intro a0 a1 a2 a3 a4 σ h; exact False.elim h
  | succ f ih =>
    intro a0 a1 a2 a3 a4 σ h
    refine zw_iload d_F_rewrite_10 rfl ?_
    refine zw_aload_n d_F_rewrite_12 rfl rfl ?_
    obtain ⟨q1, h⟩ := h
    refine zw_gfiN (ci := 6) (j := 0) d_F_rewrite_13 mw_1_152 q1.1 q1.2 (by decide) (by decide) rfl ?_
    obtain ⟨ht, hf⟩ := h
    refine zw_icmp_ge (tgt := 46) d_F_rewrite_16 rfl (fun hc => ?_) (fun hc => ?_)
    · have h := ht hc; clear ht hf
      refine zw_iconst (v := 0) d_F_rewrite_46 rfl ?_
      refine zw_istore d_F_rewrite_47 (Nat.le_of_ble_eq_true rfl) rfl rfl ?_
      refine zw_le (ls' := [some (.ref a0), some (.ref a1), some (.ref a2), none, some (.int (0 : Int32))]) (And.intro rfl (And.intro rfl (And.intro rfl (And.intro rfl True.intro)))) ?_
      obtain ⟨g, h⟩ := h
      exact w_F_rewrite_49 hr g _ _ _ _ _ h
    · have h := hf hc; clear ht hf
      refine zw_aload_n d_F_rewrite_19 rfl rfl ?_
      obtain ⟨q2, h⟩ := h
      obtain ⟨c3, q4, h⟩ := h
      refine zw_gfr (ci := 3) (j := 6) d_F_rewrite_20 mw_1_102 q2.1 q2.2 (by decide) (by decide) rfl q4 ?_
      refine zw_iload d_F_rewrite_23 rfl ?_
      refine zw_iload_n d_F_rewrite_25 rfl rfl ?_
      obtain ⟨q5, h⟩ := h
      refine zw_iast d_F_rewrite_26 q5.1 (zkd_eta q5.2.1) q5.2.2 ?_
      refine zw_aload_n d_F_rewrite_27 rfl rfl ?_
      obtain ⟨c6, q7, h⟩ := h
      refine zw_gfr (ci := 3) (j := 0) d_F_rewrite_28 mw_1_95 q2.1 q2.2 (by decide) (by decide) rfl q7 ?_
      refine zw_iload d_F_rewrite_31 rfl ?_
      obtain ⟨q8, h⟩ := h
      refine zw_zald d_F_rewrite_33 q8.1 (zkd_eta q8.2.1) q8.2.2 ?_
      obtain ⟨ht, hf⟩ := h
      refine zw_if_eq (tgt := 40) d_F_rewrite_34 rfl (fun hc => ?_) (fun hc => ?_)
      · have h := ht hc; clear ht hf
        exact w_F_rewrite_40 hr (fun a0 a1 a2 a3 a4 σ hk => ih a0 a1 a2 a3 a4 σ hk) h
      · have h := hf hc; clear ht hf
        refine zw_iinc (v := (a3 + (1 : Int32))) d_F_rewrite_37 rfl rfl (Nat.le_of_ble_eq_true rfl) rfl rfl ?_
        exact w_F_rewrite_40 hr (fun a0 a1 a2 a3 a4 σ hk => ih a0 a1 a2 a3 a4 σ hk) h
def P_F_rewrite (n : Nat) (a0 : Nat) (a1 : Nat) (a2 : Nat) (σ : zS) (Q : zS → Prop) : Prop := zk n a2 1 ∧ ∃ g, P_F_rewrite_10 n Q g a0 a1 a2 (0 : Int32) (0 : Int32) (zI σ a2 1 (0 : Int32))
set_option maxHeartbeats 1000000 in
set_option maxRecDepth 10000 in
theorem w_F_rewrite {Q : zS → Prop} (hr : meth.sig.returnType = none) {a0 : Nat} {a1 : Nat} {a2 : Nat} {σ : zS} (h : P_F_rewrite n a0 a1 a2 σ Q) : zG p l e (zrm 7 0 0) s m args below meth c (MQ below (zQc (zA base) D cA base n ex (zqv Q)) args s 0 0 (zA base)) s.heap (zA base) base D cA 5 ex prog_2_method_11_code "ConstantFlow$Facts" n 0 0 0 [some (.ref a0), some (.ref a1), some (.ref a2), none, none] [] σ := by
  unfold P_F_rewrite at h
  refine zw_aload_n d_F_rewrite_0 rfl rfl ?_
  refine zw_iconst (v := 0) d_F_rewrite_1 rfl ?_
  obtain ⟨q1, h⟩ := h
  refine zw_pfiN (ci := 1) (j := 1) d_F_rewrite_2 mw_1_34 q1.1 q1.2 (by decide) (by decide) rfl rfl rfl rfl ?_
  refine zw_iconst (v := 0) d_F_rewrite_5 rfl ?_
  refine zw_istore_n d_F_rewrite_6 rfl (Nat.le_of_ble_eq_true rfl) rfl rfl ?_
  refine zw_iconst (v := 0) d_F_rewrite_7 rfl ?_
  refine zw_istore d_F_rewrite_8 (Nat.le_of_ble_eq_true rfl) rfl rfl ?_
  obtain ⟨g, h⟩ := h
  exact w_F_rewrite_10 hr g _ _ _ _ _ _ h
theorem c_F_rewrite {l : Launch} {D : va_G} {cA : Nat → ClassId} {base n : Nat} {ex : Bool} {Q : zS → Prop} {a0 : Nat} {a1 : Nat} {a2 : Nat} {σ : zS} (h : P_F_rewrite n a0 a1 a2 σ Q) : zM l y_F_rewrite prog_2_method_11_code 5 (none) 7 0 0 (zA base) D cA base n n ex [.ref a0, .ref a1, .ref a2] σ (zqv Q) :=
  zMet (by decide) rfl (Nat.le_of_ble_eq_true rfl) (fun p e s m args below meth c hr hnm => w_F_rewrite hr h)
def P_F_find_64 (n : Nat) (Q : zS → Prop) (a0 : Nat) (a1 : Nat) (σ : zS) : Prop := zk n a0 3 ∧ P_F_count n a0 a1 σ (fun σ2 => Q σ2)
set_option maxHeartbeats 1000000 in
set_option maxRecDepth 10000 in
theorem w_F_find_64 {Q : zS → Prop} (hr : meth.sig.returnType = none) {a0 : Nat} {a1 : Nat} {σ : zS} (h : P_F_find_64 n Q a0 a1 σ) : zG p l e (zrm 7 0 0) s m args below meth c (MQ below (zQc (zA base) D cA base n ex (zqv Q)) args s 0 0 (zA base)) s.heap (zA base) base D cA 4 ex prog_2_method_3_code "ConstantFlow$Facts" n 0 0 64 [some (.ref a0), some (.ref a1), none, none] [] σ := by
  unfold P_F_find_64 at h
  refine zw_aload_n d_F_find_64 rfl rfl ?_
  refine zw_aload_n d_F_find_65 rfl rfl ?_
  obtain ⟨q3, h⟩ := h
  refine zw_callV (ci := 3) (b := a0) (As := [.ref a1]) (r := []) d_F_find_66 (c_F_count h) mw_2_41 mw_2_43 mp_1_5 mw_1_4 mw_2_44 (by decide) q3.1 q3.2 hyV_F_count (Nat.le_of_ble_eq_true rfl) (Nat.le_of_ble_eq_true rfl) ⟨(Nat.le_of_ble_eq_true rfl), (Nat.le_of_ble_eq_true rfl)⟩ (Nat.le_of_ble_eq_true rfl) rfl (zk_v (fun σ2 h => ?_))
  exact zw_vret d_F_find_69 hr h
def P_F_find_41 (n : Nat) (Q : zS → Prop) : Nat → Nat → Nat → Int32 → Int32 → zS → Prop
  | 0, _, _, _, _, _ => False
  | f + 1, a0, a1, a2, a3, σ => ((a2 = 0 → P_F_find_64 n Q a0 a1 σ) ∧ (¬ (a2 = 0) → (((217 : Int32) ≤ a3 → P_F_find_64 n Q a0 a1 σ) ∧ (¬ ((217 : Int32) ≤ a3) → zk n a0 3 ∧ P_F_flowOnce n a0 a1 σ (fun x1 σ2 => P_F_find_41 n Q f a0 a1 x1 (a3 + (1 : Int32)) σ2)))))
set_option maxHeartbeats 1000000 in
set_option maxRecDepth 10000 in
theorem w_F_find_41 {Q : zS → Prop} (hr : meth.sig.returnType = none) : ∀ (f : Nat) (a0 : Nat) (a1 : Nat) (a2 : Int32) (a3 : Int32) (σ : zS), P_F_find_41 n Q f a0 a1 a2 a3 σ → zG p l e (zrm 7 0 0) s m args below meth c (MQ below (zQc (zA base) D cA base n ex (zqv Q)) args s 0 0 (zA base)) s.heap (zA base) base D cA 4 ex prog_2_method_3_code "ConstantFlow$Facts" n 0 0 41 [some (.ref a0), some (.ref a1), some (.int a2), some (.int a3)] [] σ := by
  intro f
  induction f with
  | zero => intro a0 a1 a2 a3 σ h; exact False.elim h
  | succ f ih =>
    intro a0 a1 a2 a3 σ h
    refine zw_iload_n d_F_find_41 rfl rfl ?_
    obtain ⟨ht, hf⟩ := h
    refine zw_if_eq (tgt := 64) d_F_find_42 rfl (fun hc => ?_) (fun hc => ?_)
    · have h := ht hc; clear ht hf
      refine zw_le (ls' := [some (.ref a0), some (.ref a1), none, none]) (And.intro rfl (And.intro rfl True.intro)) ?_
      exact w_F_find_64 hr h
    · have h := hf hc; clear ht hf
      refine zw_iload_n d_F_find_45 rfl rfl ?_
      refine zw_sipush (v := 217) d_F_find_46 rfl ?_
      obtain ⟨ht, hf⟩ := h
      refine zw_icmp_ge (tgt := 64) d_F_find_49 rfl (fun hc => ?_) (fun hc => ?_)
      · have h := ht hc; clear ht hf
        refine zw_le (ls' := [some (.ref a0), some (.ref a1), none, none]) (And.intro rfl (And.intro rfl True.intro)) ?_
        exact w_F_find_64 hr h
      · have h := hf hc; clear ht hf
        refine zw_aload_n d_F_find_52 rfl rfl ?_
        refine zw_aload_n d_F_find_53 rfl rfl ?_
        obtain ⟨q3, h⟩ := h
        refine zw_callV (ci := 3) (b := a0) (As := [.ref a1]) (r := []) d_F_find_54 (c_F_flowOnce h) mw_1_219 mw_1_221 mp_1_1 mw_1_4 mw_1_222 (by decide) q3.1 q3.2 hyV_F_flowOnce (Nat.le_of_ble_eq_true rfl) (Nat.le_of_ble_eq_true rfl) ⟨(Nat.le_of_ble_eq_true rfl), (Nat.le_of_ble_eq_true rfl)⟩ (Nat.le_of_ble_eq_true rfl) rfl (zk_i (fun x1 σ2 h => ?_))
        refine zw_istore_n d_F_find_57 rfl (Nat.le_of_ble_eq_true rfl) rfl rfl ?_
        refine zw_iinc (v := (a3 + (1 : Int32))) d_F_find_58 rfl rfl (Nat.le_of_ble_eq_true rfl) rfl rfl ?_
        refine zw_goto (tgt := 41) d_F_find_61 rfl ?_
        exact ih _ _ _ _ _ h
def P_F_find_2 (n : Nat) (Q : zS → Prop) : Nat → Nat → Nat → Int32 → zS → Prop
  | 0, _, _, _, _ => False
  | f + 1, a0, a1, a2, σ => (((24 : Int32) ≤ a2 → zk n a0 3 ∧ ∃ c2, zr σ a0 4 = some c2 ∧ P_F_comeTo n a0 (0 : Int32) c2 σ (fun σ5 => ∃ g, P_F_find_41 n Q g a0 a1 (1 : Int32) (0 : Int32) σ5)) ∧ (¬ ((24 : Int32) ≤ a2) → zk n a0 3 ∧ ∃ c7, zr σ a0 0 = some c7 ∧ za n c7 11 a2 ∧ ∃ c10, zr (zI σ c7 a2.toNatClampNeg (vp_nar .boolean (0 : Int32))) a0 1 = some c10 ∧ za n c10 11 a2 ∧ P_F_find_2 n Q f a0 a1 (a2 + (1 : Int32)) (zI (zI σ c7 a2.toNatClampNeg (vp_nar .boolean (0 : Int32))) c10 a2.toNatClampNeg (vp_nar .boolean (0 : Int32)))))
set_option maxHeartbeats 1000000 in
set_option maxRecDepth 10000 in
theorem w_F_find_2 {Q : zS → Prop} (hr : meth.sig.returnType = none) : ∀ (f : Nat) (a0 : Nat) (a1 : Nat) (a2 : Int32) (σ : zS), P_F_find_2 n Q f a0 a1 a2 σ → zG p l e (zrm 7 0 0) s m args below meth c (MQ below (zQc (zA base) D cA base n ex (zqv Q)) args s 0 0 (zA base)) s.heap (zA base) base D cA 4 ex prog_2_method_3_code "ConstantFlow$Facts" n 0 0 2 [some (.ref a0), some (.ref a1), some (.int a2), none] [] σ := by
  intro f
  induction f with
  | zero => intro a0 a1 a2 σ h; exact False.elim h
  | succ f ih =>
    intro a0 a1 a2 σ h
    refine zw_iload_n d_F_find_2 rfl rfl ?_
    refine zw_bipush (v := 24) d_F_find_3 rfl ?_
    obtain ⟨ht, hf⟩ := h
    refine zw_icmp_ge (tgt := 28) d_F_find_5 rfl (fun hc => ?_) (fun hc => ?_)
    · have h := ht hc; clear ht hf
      refine zw_aload_n d_F_find_28 rfl rfl ?_
      refine zw_iconst (v := 0) d_F_find_29 rfl ?_
      refine zw_aload_n d_F_find_30 rfl rfl ?_
      obtain ⟨q1, h⟩ := h
      obtain ⟨c2, q3, h⟩ := h
      refine zw_gfr (ci := 3) (j := 4) d_F_find_31 mw_1_100 q1.1 q1.2 (by decide) (by decide) rfl q3 ?_
      refine zw_callV (ci := 3) (b := a0) (As := [.int (0 : Int32), .ref c2]) (r := []) d_F_find_34 (c_F_comeTo h) mw_1_207 mw_1_209 mp_1_0 mw_1_4 mw_1_210 (by decide) q1.1 q1.2 hyV_F_comeTo (Nat.le_of_ble_eq_true rfl) (Nat.le_of_ble_eq_true rfl) ⟨(Nat.le_of_ble_eq_true rfl), (Nat.le_of_ble_eq_true rfl)⟩ (Nat.le_of_ble_eq_true rfl) rfl (zk_v (fun σ5 h => ?_))
      refine zw_iconst (v := 1) d_F_find_37 rfl ?_
      refine zw_istore_n d_F_find_38 rfl (Nat.le_of_ble_eq_true rfl) rfl rfl ?_
      refine zw_iconst (v := 0) d_F_find_39 rfl ?_
      refine zw_istore_n d_F_find_40 rfl (Nat.le_of_ble_eq_true rfl) rfl rfl ?_
      obtain ⟨g, h⟩ := h
      exact w_F_find_41 hr g _ _ _ _ _ h
    · have h := hf hc; clear ht hf
      refine zw_aload_n d_F_find_8 rfl rfl ?_
      obtain ⟨q6, h⟩ := h
      obtain ⟨c7, q8, h⟩ := h
      refine zw_gfr (ci := 3) (j := 0) d_F_find_9 mw_1_95 q6.1 q6.2 (by decide) (by decide) rfl q8 ?_
      refine zw_iload_n d_F_find_12 rfl rfl ?_
      refine zw_iconst (v := 0) d_F_find_13 rfl ?_
      obtain ⟨q9, h⟩ := h
      refine zw_zast d_F_find_14 q9.1 (zkd_eta q9.2.1) q9.2.2 ?_
      refine zw_aload_n d_F_find_15 rfl rfl ?_
      obtain ⟨c10, q11, h⟩ := h
      refine zw_gfr (ci := 3) (j := 1) d_F_find_16 mw_1_97 q6.1 q6.2 (by decide) (by decide) rfl q11 ?_
      refine zw_iload_n d_F_find_19 rfl rfl ?_
      refine zw_iconst (v := 0) d_F_find_20 rfl ?_
      obtain ⟨q12, h⟩ := h
      refine zw_zast d_F_find_21 q12.1 (zkd_eta q12.2.1) q12.2.2 ?_
      refine zw_iinc (v := (a2 + (1 : Int32))) d_F_find_22 rfl rfl (Nat.le_of_ble_eq_true rfl) rfl rfl ?_
      refine zw_goto (tgt := 2) d_F_find_25 rfl ?_
      exact ih _ _ _ _ h
def P_F_find (n : Nat) (a0 : Nat) (a1 : Nat) (σ : zS) (Q : zS → Prop) : Prop := ∃ g, P_F_find_2 n Q g a0 a1 (0 : Int32) σ
set_option maxHeartbeats 1000000 in
set_option maxRecDepth 10000 in
theorem w_F_find {Q : zS → Prop} (hr : meth.sig.returnType = none) {a0 : Nat} {a1 : Nat} {σ : zS} (h : P_F_find n a0 a1 σ Q) : zG p l e (zrm 7 0 0) s m args below meth c (MQ below (zQc (zA base) D cA base n ex (zqv Q)) args s 0 0 (zA base)) s.heap (zA base) base D cA 4 ex prog_2_method_3_code "ConstantFlow$Facts" n 0 0 0 [some (.ref a0), some (.ref a1), none, none] [] σ := by
  unfold P_F_find at h
  refine zw_iconst (v := 0) d_F_find_0 rfl ?_
  refine zw_istore_n d_F_find_1 rfl (Nat.le_of_ble_eq_true rfl) rfl rfl ?_
  obtain ⟨g, h⟩ := h
  exact w_F_find_2 hr g _ _ _ _ h
theorem c_F_find {l : Launch} {D : va_G} {cA : Nat → ClassId} {base n : Nat} {ex : Bool} {Q : zS → Prop} {a0 : Nat} {a1 : Nat} {σ : zS} (h : P_F_find n a0 a1 σ Q) : zM l y_F_find prog_2_method_3_code 4 (none) 7 0 0 (zA base) D cA base n n ex [.ref a0, .ref a1] σ (zqv Q) :=
  zMet (by decide) rfl (Nat.le_of_ble_eq_true rfl) (fun p e s m args below meth c hr hnm => w_F_find hr h)
def P_C_write (n : Nat) (a0 : Nat) (σ : zS) (Q : Int32 → zS → Prop) : Prop := zk n a0 0 ∧ ∃ c2, zr σ a0 3 = some c2 ∧ ∃ c4, zr σ a0 5 = some c4 ∧ ∃ c6, zr σ a0 1 = some c6 ∧ zk n c2 3 ∧ P_F_rewrite n c2 c4 c6 σ (fun σ9 => ∃ c11, zr σ9 a0 1 = some c11 ∧ zk n c11 1 ∧ Q (zi σ9 c11 1) σ9)
set_option maxHeartbeats 1000000 in
set_option maxRecDepth 10000 in
theorem w_C_write {Q : Int32 → zS → Prop} (hr : meth.sig.returnType = some .int) {a0 : Nat} {σ : zS} (h : P_C_write n a0 σ Q) : zG p l e (zrm 8 0 0) s m args below meth c (MQ below (zQc (zA base) D cA base n ex (zqi Q)) args s 0 0 (zA base)) s.heap (zA base) base D cA 1 ex prog_1_method_11_code "ConstantFlow" n 0 0 0 [some (.ref a0)] [] σ := by
  unfold P_C_write at h
  refine zw_aload_n d_C_write_0 rfl rfl ?_
  obtain ⟨q1, h⟩ := h
  obtain ⟨c2, q3, h⟩ := h
  refine zw_gfr (ci := 0) (j := 3) d_C_write_1 mw_2_53 q1.1 q1.2 (by decide) (by decide) rfl q3 ?_
  refine zw_aload_n d_C_write_4 rfl rfl ?_
  obtain ⟨c4, q5, h⟩ := h
  refine zw_gfr (ci := 0) (j := 5) d_C_write_5 mw_2_55 q1.1 q1.2 (by decide) (by decide) rfl q5 ?_
  refine zw_aload_n d_C_write_8 rfl rfl ?_
  obtain ⟨c6, q7, h⟩ := h
  refine zw_gfr (ci := 0) (j := 1) d_C_write_9 mw_2_51 q1.1 q1.2 (by decide) (by decide) rfl q7 ?_
  obtain ⟨q10, h⟩ := h
  refine zw_callV (ci := 3) (b := c2) (As := [.ref c4, .ref c6]) (r := []) d_C_write_12 (c_F_rewrite h) mw_2_172 mw_2_173 mw_2_174 mw_1_4 mw_2_175 (by decide) q10.1 q10.2 hyV_F_rewrite (Nat.le_of_ble_eq_true rfl) (Nat.le_of_ble_eq_true rfl) ⟨(Nat.le_of_ble_eq_true rfl), (Nat.le_of_ble_eq_true rfl)⟩ (Nat.le_of_ble_eq_true rfl) rfl (zk_v (fun σ9 h => ?_))
  refine zw_aload_n d_C_write_15 rfl rfl ?_
  obtain ⟨c11, q12, h⟩ := h
  refine zw_gfr (ci := 0) (j := 1) d_C_write_16 mw_2_51 q1.1 q1.2 (by decide) (by decide) rfl q12 ?_
  obtain ⟨q13, h⟩ := h
  refine zw_gfiN (ci := 1) (j := 1) d_C_write_19 mw_1_32 q13.1 q13.2 (by decide) (by decide) rfl ?_
  exact zw_iret d_C_write_22 hr h
theorem c_C_write {l : Launch} {D : va_G} {cA : Nat → ClassId} {base n : Nat} {ex : Bool} {Q : Int32 → zS → Prop} {a0 : Nat} {σ : zS} (h : P_C_write n a0 σ Q) : zM l y_C_write prog_1_method_11_code 1 (some .int) 8 0 0 (zA base) D cA base n n ex [.ref a0] σ (zqi Q) :=
  zMet (by decide) rfl (Nat.le_of_ble_eq_true rfl) (fun p e s m args below meth c hr hnm => w_C_write hr h)
def P_C_read (n : Nat) (a0 : Nat) (σ : zS) (Q : Int32 → zS → Prop) : Prop := zk n a0 0 ∧ ∃ c2, zr σ a0 2 = some c2 ∧ ∃ c4, zr σ a0 6 = some c4 ∧ zk n c2 2 ∧ P_R_fill n c2 c4 σ (fun x6 σ7 => ((¬ x6 = 0 → ∃ c9, zr σ7 a0 5 = some c9 ∧ ∃ c11, zr σ7 a0 6 = some c11 ∧ ∃ c13, zr (zR (zR σ7 a0 5 (some c11)) a0 6 (some c9)) a0 3 = some c13 ∧ ∃ c15, zr (zR (zR σ7 a0 5 (some c11)) a0 6 (some c9)) a0 5 = some c15 ∧ zk n c13 3 ∧ P_F_find n c13 c15 (zR (zR σ7 a0 5 (some c11)) a0 6 (some c9)) (fun σ18 => ∃ c20, zr σ18 a0 5 = some c20 ∧ zk n c20 6 ∧ Q (zi σ18 c20 0) σ18)) ∧ (x6 = 0 → Q (-1 : Int32) σ7)))
set_option maxHeartbeats 1000000 in
set_option maxRecDepth 10000 in
theorem w_C_read {Q : Int32 → zS → Prop} (hr : meth.sig.returnType = some .int) {a0 : Nat} {σ : zS} (h : P_C_read n a0 σ Q) : zG p l e (zrm 8 0 0) s m args below meth c (MQ below (zQc (zA base) D cA base n ex (zqi Q)) args s 0 0 (zA base)) s.heap (zA base) base D cA 2 ex prog_1_method_4_code "ConstantFlow" n 0 0 0 [some (.ref a0), none] [] σ := by
  unfold P_C_read at h
  refine zw_aload_n d_C_read_0 rfl rfl ?_
  obtain ⟨q1, h⟩ := h
  obtain ⟨c2, q3, h⟩ := h
  refine zw_gfr (ci := 0) (j := 2) d_C_read_1 mw_2_52 q1.1 q1.2 (by decide) (by decide) rfl q3 ?_
  refine zw_aload_n d_C_read_4 rfl rfl ?_
  obtain ⟨c4, q5, h⟩ := h
  refine zw_gfr (ci := 0) (j := 6) d_C_read_5 mw_2_56 q1.1 q1.2 (by decide) (by decide) rfl q5 ?_
  obtain ⟨q8, h⟩ := h
  refine zw_callV (ci := 2) (b := c2) (As := [.ref c4]) (r := []) d_C_read_8 (c_R_fill h) mw_2_80 mw_2_81 mw_2_82 mw_1_3 mw_2_83 (by decide) q8.1 q8.2 hyV_R_fill (Nat.le_of_ble_eq_true rfl) (Nat.le_of_ble_eq_true rfl) ⟨(Nat.le_of_ble_eq_true rfl), (Nat.le_of_ble_eq_true rfl)⟩ (Nat.le_of_ble_eq_true rfl) rfl (zk_i (fun x6 σ7 h => ?_))
  obtain ⟨ht, hf⟩ := h
  refine zw_if_ne (tgt := 16) d_C_read_11 rfl (fun hc => ?_) (fun hc => ?_)
  · have h := ht hc; clear ht hf
    refine zw_aload_n d_C_read_16 rfl rfl ?_
    obtain ⟨c9, q10, h⟩ := h
    refine zw_gfr (ci := 0) (j := 5) d_C_read_17 mw_2_55 q1.1 q1.2 (by decide) (by decide) rfl q10 ?_
    refine zw_astore_n d_C_read_20 rfl (Nat.le_of_ble_eq_true rfl) rfl rfl ?_
    refine zw_aload_n d_C_read_21 rfl rfl ?_
    refine zw_aload_n d_C_read_22 rfl rfl ?_
    obtain ⟨c11, q12, h⟩ := h
    refine zw_gfr (ci := 0) (j := 6) d_C_read_23 mw_2_56 q1.1 q1.2 (by decide) (by decide) rfl q12 ?_
    refine zw_pfr (ci := 0) (j := 5) d_C_read_26 mw_2_55 q1.1 q1.2 (by decide) (by decide) rfl rfl (fun _ => rfl) (fun _ => rfl) ?_
    refine zw_aload_n d_C_read_29 rfl rfl ?_
    refine zw_aload_n d_C_read_30 rfl rfl ?_
    refine zw_pfr (ci := 0) (j := 6) d_C_read_31 mw_2_56 q1.1 q1.2 (by decide) (by decide) rfl rfl (fun _ => rfl) (fun _ => rfl) ?_
    refine zw_aload_n d_C_read_34 rfl rfl ?_
    obtain ⟨c13, q14, h⟩ := h
    refine zw_gfr (ci := 0) (j := 3) d_C_read_35 mw_2_53 q1.1 q1.2 (by decide) (by decide) rfl q14 ?_
    refine zw_aload_n d_C_read_38 rfl rfl ?_
    obtain ⟨c15, q16, h⟩ := h
    refine zw_gfr (ci := 0) (j := 5) d_C_read_39 mw_2_55 q1.1 q1.2 (by decide) (by decide) rfl q16 ?_
    obtain ⟨q19, h⟩ := h
    refine zw_callV (ci := 3) (b := c13) (As := [.ref c15]) (r := []) d_C_read_42 (c_F_find h) mw_1_203 mw_1_204 mw_1_205 mw_1_4 mw_1_206 (by decide) q19.1 q19.2 hyV_F_find (Nat.le_of_ble_eq_true rfl) (Nat.le_of_ble_eq_true rfl) ⟨(Nat.le_of_ble_eq_true rfl), (Nat.le_of_ble_eq_true rfl)⟩ (Nat.le_of_ble_eq_true rfl) rfl (zk_v (fun σ18 h => ?_))
    refine zw_aload_n d_C_read_45 rfl rfl ?_
    obtain ⟨c20, q21, h⟩ := h
    refine zw_gfr (ci := 0) (j := 5) d_C_read_46 mw_2_55 q1.1 q1.2 (by decide) (by decide) rfl q21 ?_
    obtain ⟨q22, h⟩ := h
    refine zw_gfiN (ci := 6) (j := 0) d_C_read_49 mw_1_153 q22.1 q22.2 (by decide) (by decide) rfl ?_
    exact zw_iret d_C_read_52 hr h
  · have h := hf hc; clear ht hf
    refine zw_iconst (v := -1) d_C_read_14 rfl ?_
    exact zw_iret d_C_read_15 hr h
theorem c_C_read {l : Launch} {D : va_G} {cA : Nat → ClassId} {base n : Nat} {ex : Bool} {Q : Int32 → zS → Prop} {a0 : Nat} {σ : zS} (h : P_C_read n a0 σ Q) : zM l y_C_read prog_1_method_4_code 2 (some .int) 8 0 0 (zA base) D cA base n n ex [.ref a0] σ (zqi Q) :=
  zMet (by decide) rfl (Nat.le_of_ble_eq_true rfl) (fun p e s m args below meth c hr hnm => w_C_read hr h)
end
