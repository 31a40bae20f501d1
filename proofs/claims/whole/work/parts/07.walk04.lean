section
variable {p : Program} {l : Launch} {e : Env} {s : State} {m : MethodId} {args : Array Value} {below : List Frame} {meth : Method} {c : Code} {base : Nat} {D : va_G} {cA : Nat → ClassId} {ex : Bool} {n : Nat}
def P_M_make_270 (n : Nat) (Q : zS → Prop) (σ : zS) : Prop := Q σ
set_option maxHeartbeats 1000000 in
set_option maxRecDepth 10000 in
theorem w_M_make_270 {Q : zS → Prop} (hr : meth.sig.returnType = none) {σ : zS} (h : P_M_make_270 n Q σ) : zG p l e (zrm 2 0 0) s m args below meth c (MQ below (zQc (zA base) D cA base n ex (zqv Q)) args s 0 0 (zA base)) s.heap (zA base) base D cA 9 ex prog_9_method_26_code "ConstantFlowModel" n 0 0 270 [none, none, none, none, none, none, none, none, none] [] σ := by
  unfold P_M_make_270 at h
  exact zw_vret d_M_make_270 hr h
def P_M_make_267 (n : Nat) (Q : zS → Prop) (b0 : Nat) (b1 : Int32) (σ : zS) : Prop := zk n b0 7 ∧ P_M_make_270 n Q (zI σ b0 26 b1)
set_option maxHeartbeats 1000000 in
set_option maxRecDepth 10000 in
theorem w_M_make_267 {Q : zS → Prop} (hr : meth.sig.returnType = none) {b0 : Nat} {b1 : Int32} {σ : zS} (h : P_M_make_267 n Q b0 b1 σ) : zG p l e (zrm 2 0 0) s m args below meth c (MQ below (zQc (zA base) D cA base n ex (zqv Q)) args s 0 0 (zA base)) s.heap (zA base) base D cA 9 ex prog_9_method_26_code "ConstantFlowModel" n 0 0 267 [none, none, none, none, none, none, none, none, none] [.int b1, .ref b0] σ := by
  unfold P_M_make_267 at h
  obtain ⟨q1, h⟩ := h
  refine zw_pfi (ci := 7) (j := 26) d_M_make_267 mw_3_211 q1.1 q1.2 (by decide) (by decide) rfl rfl rfl rfl ?_
  exact w_M_make_270 hr h
def P_M_make_249 (n : Nat) (Q : zS → Prop) (b0 : Nat) (σ : zS) : Prop := P_M_make_267 n Q b0 (0 : Int32) σ
set_option maxHeartbeats 1000000 in
set_option maxRecDepth 10000 in
theorem w_M_make_249 {Q : zS → Prop} (hr : meth.sig.returnType = none) {b0 : Nat} {σ : zS} (h : P_M_make_249 n Q b0 σ) : zG p l e (zrm 2 0 0) s m args below meth c (MQ below (zQc (zA base) D cA base n ex (zqv Q)) args s 0 0 (zA base)) s.heap (zA base) base D cA 9 ex prog_9_method_26_code "ConstantFlowModel" n 0 0 249 [none, none, none, none, none, none, none, none, none] [.ref b0] σ := by
  unfold P_M_make_249 at h
  refine zw_iconst (v := 0) d_M_make_249 rfl ?_
  refine zw_goto (tgt := 267) d_M_make_250 rfl ?_
  exact w_M_make_267 hr h
def P_M_make_232 (n : Nat) (Q : zS → Prop) (a0 : Nat) (a2 : Int32) (a3 : Int32) (a5 : Int32) (a8 : Int32) (b0 : Nat) (b1 : Int32) (σ : zS) : Prop := zk n b0 7 ∧ ((¬ a8 = 0 → P_M_make_249 n Q a0 (zI σ b0 25 b1)) ∧ (a8 = 0 → zk n a0 7 ∧ ((¬ (zi (zI σ b0 25 b1) a0 25) = (2 : Int32) → ∃ c3, zr (zI σ b0 25 b1) a0 8 = some c3 ∧ za n c3 10 (a2 + (2 : Int32)) ∧ P_M_reckoned n (zi (zI σ b0 25 b1) c3 (a2 + (2 : Int32)).toNatClampNeg) a3 a5 (zI σ b0 25 b1) (fun x6 σ7 => P_M_make_267 n Q a0 x6 σ7)) ∧ ((zi (zI σ b0 25 b1) a0 25) = (2 : Int32) → P_M_make_249 n Q a0 (zI σ b0 25 b1)))))
set_option maxHeartbeats 1000000 in
set_option maxRecDepth 10000 in
theorem w_M_make_232 {Q : zS → Prop} (hr : meth.sig.returnType = none) {a0 : Nat} {a2 : Int32} {a3 : Int32} {a5 : Int32} {a8 : Int32} {b0 : Nat} {b1 : Int32} {σ : zS} (h : P_M_make_232 n Q a0 a2 a3 a5 a8 b0 b1 σ) : zG p l e (zrm 2 0 0) s m args below meth c (MQ below (zQc (zA base) D cA base n ex (zqv Q)) args s 0 0 (zA base)) s.heap (zA base) base D cA 9 ex prog_9_method_26_code "ConstantFlowModel" n 0 0 232 [some (.ref a0), none, some (.int a2), some (.int a3), none, some (.int a5), none, none, some (.int a8)] [.int b1, .ref b0] σ := by
  unfold P_M_make_232 at h
  obtain ⟨q1, h⟩ := h
  refine zw_pfi (ci := 7) (j := 25) d_M_make_232 mw_3_210 q1.1 q1.2 (by decide) (by decide) rfl rfl rfl rfl ?_
  refine zw_aload_n d_M_make_235 rfl rfl ?_
  refine zw_iload d_M_make_236 rfl ?_
  obtain ⟨ht, hf⟩ := h
  refine zw_if_ne (tgt := 249) d_M_make_238 rfl (fun hc => ?_) (fun hc => ?_)
  · have h := ht hc; clear ht hf
    refine zw_le (ls' := [none, none, none, none, none, none, none, none, none]) (True.intro) ?_
    exact w_M_make_249 hr h
  · have h := hf hc; clear ht hf
    refine zw_aload_n d_M_make_241 rfl rfl ?_
    obtain ⟨q2, h⟩ := h
    refine zw_gfi (ci := 7) (j := 25) d_M_make_242 mw_3_210 q2.1 q2.2 (by decide) (by decide) rfl ?_
    refine zw_iconst (v := 2) d_M_make_245 rfl ?_
    obtain ⟨ht, hf⟩ := h
    refine zw_icmp_ne (tgt := 253) d_M_make_246 rfl (fun hc => ?_) (fun hc => ?_)
    · have h := ht hc; clear ht hf
      refine zw_aload_n d_M_make_253 rfl rfl ?_
      obtain ⟨c3, q4, h⟩ := h
      refine zw_gfr (ci := 7) (j := 8) d_M_make_254 mw_3_193 q2.1 q2.2 (by decide) (by decide) rfl q4 ?_
      refine zw_iload_n d_M_make_257 rfl rfl ?_
      refine zw_iconst (v := 2) d_M_make_258 rfl ?_
      refine zw_iadd d_M_make_259 ?_
      obtain ⟨q5, h⟩ := h
      refine zw_iald d_M_make_260 q5.1 (zkd_eta q5.2.1) q5.2.2 ?_
      refine zw_iload_n d_M_make_261 rfl rfl ?_
      refine zw_iload d_M_make_262 rfl ?_
      refine zw_callS (As := [.int (zi (zI σ b0 25 b1) c3 (a2 + (2 : Int32)).toNatClampNeg), .int a3, .int a5]) (r := [.ref a0]) d_M_make_264 (c_M_reckoned h) mw_4_160 mw_4_161 mw_1_8 mw_4_162 hyS_M_reckoned (Nat.le_of_ble_eq_true rfl) (Nat.le_of_ble_eq_true rfl) ⟨(Nat.le_of_ble_eq_true rfl), (Nat.le_of_ble_eq_true rfl)⟩ (Nat.le_of_ble_eq_true rfl) rfl (zk_i (fun x6 σ7 h => ?_))
      refine zw_le (ls' := [none, none, none, none, none, none, none, none, none]) (True.intro) ?_
      exact w_M_make_267 hr h
    · have h := hf hc; clear ht hf
      refine zw_le (ls' := [none, none, none, none, none, none, none, none, none]) (True.intro) ?_
      exact w_M_make_249 hr h
def P_M_make_227 (n : Nat) (Q : zS → Prop) (a0 : Nat) (a2 : Int32) (a3 : Int32) (a5 : Int32) (a8 : Int32) (b0 : Nat) (σ : zS) : Prop := P_M_make_232 n Q a0 a2 a3 a5 a8 b0 (1 : Int32) σ
set_option maxHeartbeats 1000000 in
set_option maxRecDepth 10000 in
theorem w_M_make_227 {Q : zS → Prop} (hr : meth.sig.returnType = none) {a0 : Nat} {a2 : Int32} {a3 : Int32} {a5 : Int32} {a8 : Int32} {b0 : Nat} {σ : zS} (h : P_M_make_227 n Q a0 a2 a3 a5 a8 b0 σ) : zG p l e (zrm 2 0 0) s m args below meth c (MQ below (zQc (zA base) D cA base n ex (zqv Q)) args s 0 0 (zA base)) s.heap (zA base) base D cA 9 ex prog_9_method_26_code "ConstantFlowModel" n 0 0 227 [some (.ref a0), none, some (.int a2), some (.int a3), none, some (.int a5), none, none, some (.int a8)] [.ref b0] σ := by
  unfold P_M_make_227 at h
  refine zw_iconst (v := 1) d_M_make_227 rfl ?_
  refine zw_goto (tgt := 232) d_M_make_228 rfl ?_
  exact w_M_make_232 hr h
def P_M_make_231 (n : Nat) (Q : zS → Prop) (a0 : Nat) (a2 : Int32) (a3 : Int32) (a5 : Int32) (a8 : Int32) (b0 : Nat) (σ : zS) : Prop := P_M_make_232 n Q a0 a2 a3 a5 a8 b0 (2 : Int32) σ
set_option maxHeartbeats 1000000 in
set_option maxRecDepth 10000 in
theorem w_M_make_231 {Q : zS → Prop} (hr : meth.sig.returnType = none) {a0 : Nat} {a2 : Int32} {a3 : Int32} {a5 : Int32} {a8 : Int32} {b0 : Nat} {σ : zS} (h : P_M_make_231 n Q a0 a2 a3 a5 a8 b0 σ) : zG p l e (zrm 2 0 0) s m args below meth c (MQ below (zQc (zA base) D cA base n ex (zqv Q)) args s 0 0 (zA base)) s.heap (zA base) base D cA 9 ex prog_9_method_26_code "ConstantFlowModel" n 0 0 231 [some (.ref a0), none, some (.int a2), some (.int a3), none, some (.int a5), none, none, some (.int a8)] [.ref b0] σ := by
  unfold P_M_make_231 at h
  refine zw_iconst (v := 2) d_M_make_231 rfl ?_
  exact w_M_make_232 hr h
def P_M_make_207 (n : Nat) (Q : zS → Prop) (a0 : Nat) (a2 : Int32) (a3 : Int32) (a4 : Int32) (a5 : Int32) (a6 : Int32) (b0 : Int32) (σ : zS) : Prop := ((¬ b0 = 0 → P_M_make_227 n Q a0 a2 a3 a5 b0 a0 σ) ∧ (b0 = 0 → ((¬ a4 = (1 : Int32) → P_M_make_231 n Q a0 a2 a3 a5 b0 a0 σ) ∧ (a4 = (1 : Int32) → ((¬ a6 = (1 : Int32) → P_M_make_231 n Q a0 a2 a3 a5 b0 a0 σ) ∧ (a6 = (1 : Int32) → P_M_make_227 n Q a0 a2 a3 a5 b0 a0 σ))))))
set_option maxHeartbeats 1000000 in
set_option maxRecDepth 10000 in
theorem w_M_make_207 {Q : zS → Prop} (hr : meth.sig.returnType = none) {a0 : Nat} {a2 : Int32} {a3 : Int32} {a4 : Int32} {a5 : Int32} {a6 : Int32} {b0 : Int32} {σ : zS} (h : P_M_make_207 n Q a0 a2 a3 a4 a5 a6 b0 σ) : zG p l e (zrm 2 0 0) s m args below meth c (MQ below (zQc (zA base) D cA base n ex (zqv Q)) args s 0 0 (zA base)) s.heap (zA base) base D cA 9 ex prog_9_method_26_code "ConstantFlowModel" n 0 0 207 [some (.ref a0), none, some (.int a2), some (.int a3), some (.int a4), some (.int a5), some (.int a6), none, none] [.int b0] σ := by
  unfold P_M_make_207 at h
  refine zw_istore d_M_make_207 (Nat.le_of_ble_eq_true rfl) rfl rfl ?_
  refine zw_aload_n d_M_make_209 rfl rfl ?_
  refine zw_iload d_M_make_210 rfl ?_
  obtain ⟨ht, hf⟩ := h
  refine zw_if_ne (tgt := 227) d_M_make_212 rfl (fun hc => ?_) (fun hc => ?_)
  · have h := ht hc; clear ht hf
    refine zw_le (ls' := [some (.ref a0), none, some (.int a2), some (.int a3), none, some (.int a5), none, none, some (.int b0)]) (And.intro rfl (And.intro rfl (And.intro rfl (And.intro rfl (And.intro rfl True.intro))))) ?_
    exact w_M_make_227 hr h
  · have h := hf hc; clear ht hf
    refine zw_iload d_M_make_215 rfl ?_
    refine zw_iconst (v := 1) d_M_make_217 rfl ?_
    obtain ⟨ht, hf⟩ := h
    refine zw_icmp_ne (tgt := 231) d_M_make_218 rfl (fun hc => ?_) (fun hc => ?_)
    · have h := ht hc; clear ht hf
      refine zw_le (ls' := [some (.ref a0), none, some (.int a2), some (.int a3), none, some (.int a5), none, none, some (.int b0)]) (And.intro rfl (And.intro rfl (And.intro rfl (And.intro rfl (And.intro rfl True.intro))))) ?_
      exact w_M_make_231 hr h
    · have h := hf hc; clear ht hf
      refine zw_iload d_M_make_221 rfl ?_
      refine zw_iconst (v := 1) d_M_make_223 rfl ?_
      obtain ⟨ht, hf⟩ := h
      refine zw_icmp_ne (tgt := 231) d_M_make_224 rfl (fun hc => ?_) (fun hc => ?_)
      · have h := ht hc; clear ht hf
        refine zw_le (ls' := [some (.ref a0), none, some (.int a2), some (.int a3), none, some (.int a5), none, none, some (.int b0)]) (And.intro rfl (And.intro rfl (And.intro rfl (And.intro rfl (And.intro rfl True.intro))))) ?_
        exact w_M_make_231 hr h
      · have h := hf hc; clear ht hf
        refine zw_le (ls' := [some (.ref a0), none, some (.int a2), some (.int a3), none, some (.int a5), none, none, some (.int b0)]) (And.intro rfl (And.intro rfl (And.intro rfl (And.intro rfl (And.intro rfl True.intro))))) ?_
        exact w_M_make_227 hr h
def P_M_make_206 (n : Nat) (Q : zS → Prop) (a0 : Nat) (a2 : Int32) (a3 : Int32) (a4 : Int32) (a5 : Int32) (a6 : Int32) (σ : zS) : Prop := P_M_make_207 n Q a0 a2 a3 a4 a5 a6 (0 : Int32) σ
set_option maxHeartbeats 1000000 in
set_option maxRecDepth 10000 in
theorem w_M_make_206 {Q : zS → Prop} (hr : meth.sig.returnType = none) {a0 : Nat} {a2 : Int32} {a3 : Int32} {a4 : Int32} {a5 : Int32} {a6 : Int32} {σ : zS} (h : P_M_make_206 n Q a0 a2 a3 a4 a5 a6 σ) : zG p l e (zrm 2 0 0) s m args below meth c (MQ below (zQc (zA base) D cA base n ex (zqv Q)) args s 0 0 (zA base)) s.heap (zA base) base D cA 9 ex prog_9_method_26_code "ConstantFlowModel" n 0 0 206 [some (.ref a0), none, some (.int a2), some (.int a3), some (.int a4), some (.int a5), some (.int a6), none, none] [] σ := by
  unfold P_M_make_206 at h
  refine zw_iconst (v := 0) d_M_make_206 rfl ?_
  exact w_M_make_207 hr h
def P_M_make_202 (n : Nat) (Q : zS → Prop) (a0 : Nat) (a2 : Int32) (a3 : Int32) (a4 : Int32) (a5 : Int32) (a6 : Int32) (σ : zS) : Prop := P_M_make_207 n Q a0 a2 a3 a4 a5 a6 (1 : Int32) σ
set_option maxHeartbeats 1000000 in
set_option maxRecDepth 10000 in
theorem w_M_make_202 {Q : zS → Prop} (hr : meth.sig.returnType = none) {a0 : Nat} {a2 : Int32} {a3 : Int32} {a4 : Int32} {a5 : Int32} {a6 : Int32} {σ : zS} (h : P_M_make_202 n Q a0 a2 a3 a4 a5 a6 σ) : zG p l e (zrm 2 0 0) s m args below meth c (MQ below (zQc (zA base) D cA base n ex (zqv Q)) args s 0 0 (zA base)) s.heap (zA base) base D cA 9 ex prog_9_method_26_code "ConstantFlowModel" n 0 0 202 [some (.ref a0), none, some (.int a2), some (.int a3), some (.int a4), some (.int a5), some (.int a6), none, none] [] σ := by
  unfold P_M_make_202 at h
  refine zw_iconst (v := 1) d_M_make_202 rfl ?_
  refine zw_goto (tgt := 207) d_M_make_203 rfl ?_
  exact w_M_make_207 hr h
def P_M_make_171 (n : Nat) (Q : zS → Prop) (a0 : Nat) (a2 : Int32) (a3 : Int32) (a4 : Int32) (a5 : Int32) (a6 : Int32) (b0 : Int32) (σ : zS) : Prop := ((b0 = 0 → P_M_make_206 n Q a0 a2 a3 a4 a5 a6 σ) ∧ (¬ (b0 = 0) → zk n a0 7 ∧ ∃ c2, zr σ a0 8 = some c2 ∧ za n c2 10 (a2 + (2 : Int32)) ∧ (((zi σ c2 (a2 + (2 : Int32)).toNatClampNeg) = (2 : Int32) → P_M_make_202 n Q a0 a2 a3 a4 a5 a6 σ) ∧ (¬ ((zi σ c2 (a2 + (2 : Int32)).toNatClampNeg) = (2 : Int32)) → ∃ c5, zr σ a0 8 = some c5 ∧ za n c5 10 (a2 + (2 : Int32)) ∧ ((¬ (zi σ c5 (a2 + (2 : Int32)).toNatClampNeg) = (5 : Int32) → P_M_make_206 n Q a0 a2 a3 a4 a5 a6 σ) ∧ ((zi σ c5 (a2 + (2 : Int32)).toNatClampNeg) = (5 : Int32) → P_M_make_202 n Q a0 a2 a3 a4 a5 a6 σ))))))
set_option maxHeartbeats 1000000 in
set_option maxRecDepth 10000 in
theorem w_M_make_171 {Q : zS → Prop} (hr : meth.sig.returnType = none) {a0 : Nat} {a2 : Int32} {a3 : Int32} {a4 : Int32} {a5 : Int32} {a6 : Int32} {b0 : Int32} {σ : zS} (h : P_M_make_171 n Q a0 a2 a3 a4 a5 a6 b0 σ) : zG p l e (zrm 2 0 0) s m args below meth c (MQ below (zQc (zA base) D cA base n ex (zqv Q)) args s 0 0 (zA base)) s.heap (zA base) base D cA 9 ex prog_9_method_26_code "ConstantFlowModel" n 0 0 171 [some (.ref a0), none, some (.int a2), some (.int a3), some (.int a4), some (.int a5), some (.int a6), none, none] [.int b0] σ := by
  unfold P_M_make_171 at h
  refine zw_istore d_M_make_171 (Nat.le_of_ble_eq_true rfl) rfl rfl ?_
  refine zw_iload d_M_make_173 rfl ?_
  obtain ⟨ht, hf⟩ := h
  refine zw_if_eq (tgt := 206) d_M_make_175 rfl (fun hc => ?_) (fun hc => ?_)
  · have h := ht hc; clear ht hf
    refine zw_le (ls' := [some (.ref a0), none, some (.int a2), some (.int a3), some (.int a4), some (.int a5), some (.int a6), none, none]) (And.intro rfl (And.intro rfl (And.intro rfl (And.intro rfl (And.intro rfl (And.intro rfl True.intro)))))) ?_
    exact w_M_make_206 hr h
  · have h := hf hc; clear ht hf
    refine zw_aload_n d_M_make_178 rfl rfl ?_
    obtain ⟨q1, h⟩ := h
    obtain ⟨c2, q3, h⟩ := h
    refine zw_gfr (ci := 7) (j := 8) d_M_make_179 mw_3_193 q1.1 q1.2 (by decide) (by decide) rfl q3 ?_
    refine zw_iload_n d_M_make_182 rfl rfl ?_
    refine zw_iconst (v := 2) d_M_make_183 rfl ?_
    refine zw_iadd d_M_make_184 ?_
    obtain ⟨q4, h⟩ := h
    refine zw_iald d_M_make_185 q4.1 (zkd_eta q4.2.1) q4.2.2 ?_
    refine zw_iconst (v := 2) d_M_make_186 rfl ?_
    obtain ⟨ht, hf⟩ := h
    refine zw_icmp_eq (tgt := 202) d_M_make_187 rfl (fun hc => ?_) (fun hc => ?_)
    · have h := ht hc; clear ht hf
      refine zw_le (ls' := [some (.ref a0), none, some (.int a2), some (.int a3), some (.int a4), some (.int a5), some (.int a6), none, none]) (And.intro rfl (And.intro rfl (And.intro rfl (And.intro rfl (And.intro rfl (And.intro rfl True.intro)))))) ?_
      exact w_M_make_202 hr h
    · have h := hf hc; clear ht hf
      refine zw_aload_n d_M_make_190 rfl rfl ?_
      obtain ⟨c5, q6, h⟩ := h
      refine zw_gfr (ci := 7) (j := 8) d_M_make_191 mw_3_193 q1.1 q1.2 (by decide) (by decide) rfl q6 ?_
      refine zw_iload_n d_M_make_194 rfl rfl ?_
      refine zw_iconst (v := 2) d_M_make_195 rfl ?_
      refine zw_iadd d_M_make_196 ?_
      obtain ⟨q7, h⟩ := h
      refine zw_iald d_M_make_197 q7.1 (zkd_eta q7.2.1) q7.2.2 ?_
      refine zw_iconst (v := 5) d_M_make_198 rfl ?_
      obtain ⟨ht, hf⟩ := h
      refine zw_icmp_ne (tgt := 206) d_M_make_199 rfl (fun hc => ?_) (fun hc => ?_)
      · have h := ht hc; clear ht hf
        refine zw_le (ls' := [some (.ref a0), none, some (.int a2), some (.int a3), some (.int a4), some (.int a5), some (.int a6), none, none]) (And.intro rfl (And.intro rfl (And.intro rfl (And.intro rfl (And.intro rfl (And.intro rfl True.intro)))))) ?_
        exact w_M_make_206 hr h
      · have h := hf hc; clear ht hf
        refine zw_le (ls' := [some (.ref a0), none, some (.int a2), some (.int a3), some (.int a4), some (.int a5), some (.int a6), none, none]) (And.intro rfl (And.intro rfl (And.intro rfl (And.intro rfl (And.intro rfl (And.intro rfl True.intro)))))) ?_
        exact w_M_make_202 hr h
def P_M_make_170 (n : Nat) (Q : zS → Prop) (a0 : Nat) (a2 : Int32) (a3 : Int32) (a4 : Int32) (a5 : Int32) (a6 : Int32) (σ : zS) : Prop := P_M_make_171 n Q a0 a2 a3 a4 a5 a6 (0 : Int32) σ
set_option maxHeartbeats 1000000 in
set_option maxRecDepth 10000 in
theorem w_M_make_170 {Q : zS → Prop} (hr : meth.sig.returnType = none) {a0 : Nat} {a2 : Int32} {a3 : Int32} {a4 : Int32} {a5 : Int32} {a6 : Int32} {σ : zS} (h : P_M_make_170 n Q a0 a2 a3 a4 a5 a6 σ) : zG p l e (zrm 2 0 0) s m args below meth c (MQ below (zQc (zA base) D cA base n ex (zqv Q)) args s 0 0 (zA base)) s.heap (zA base) base D cA 9 ex prog_9_method_26_code "ConstantFlowModel" n 0 0 170 [some (.ref a0), none, some (.int a2), some (.int a3), some (.int a4), some (.int a5), some (.int a6), none, none] [] σ := by
  unfold P_M_make_170 at h
  refine zw_iconst (v := 0) d_M_make_170 rfl ?_
  exact w_M_make_171 hr h
def P_M_make_166 (n : Nat) (Q : zS → Prop) (a0 : Nat) (a2 : Int32) (a3 : Int32) (a4 : Int32) (a5 : Int32) (a6 : Int32) (σ : zS) : Prop := P_M_make_171 n Q a0 a2 a3 a4 a5 a6 (1 : Int32) σ
set_option maxHeartbeats 1000000 in
set_option maxRecDepth 10000 in
theorem w_M_make_166 {Q : zS → Prop} (hr : meth.sig.returnType = none) {a0 : Nat} {a2 : Int32} {a3 : Int32} {a4 : Int32} {a5 : Int32} {a6 : Int32} {σ : zS} (h : P_M_make_166 n Q a0 a2 a3 a4 a5 a6 σ) : zG p l e (zrm 2 0 0) s m args below meth c (MQ below (zQc (zA base) D cA base n ex (zqv Q)) args s 0 0 (zA base)) s.heap (zA base) base D cA 9 ex prog_9_method_26_code "ConstantFlowModel" n 0 0 166 [some (.ref a0), none, some (.int a2), some (.int a3), some (.int a4), some (.int a5), some (.int a6), none, none] [] σ := by
  unfold P_M_make_166 at h
  refine zw_iconst (v := 1) d_M_make_166 rfl ?_
  refine zw_goto (tgt := 171) d_M_make_167 rfl ?_
  exact w_M_make_171 hr h
def P_M_make_155 (n : Nat) (Q : zS → Prop) (a0 : Nat) (a2 : Int32) (a3 : Int32) (a4 : Int32) (a5 : Int32) (a6 : Int32) (σ : zS) : Prop := ((¬ a6 = (1 : Int32) → P_M_make_170 n Q a0 a2 a3 a4 a5 a6 σ) ∧ (a6 = (1 : Int32) → ((¬ a5 = 0 → P_M_make_170 n Q a0 a2 a3 a4 a5 a6 σ) ∧ (a5 = 0 → P_M_make_166 n Q a0 a2 a3 a4 a5 a6 σ))))
set_option maxHeartbeats 1000000 in
set_option maxRecDepth 10000 in
theorem w_M_make_155 {Q : zS → Prop} (hr : meth.sig.returnType = none) {a0 : Nat} {a2 : Int32} {a3 : Int32} {a4 : Int32} {a5 : Int32} {a6 : Int32} {σ : zS} (h : P_M_make_155 n Q a0 a2 a3 a4 a5 a6 σ) : zG p l e (zrm 2 0 0) s m args below meth c (MQ below (zQc (zA base) D cA base n ex (zqv Q)) args s 0 0 (zA base)) s.heap (zA base) base D cA 9 ex prog_9_method_26_code "ConstantFlowModel" n 0 0 155 [some (.ref a0), none, some (.int a2), some (.int a3), some (.int a4), some (.int a5), some (.int a6), none, none] [] σ := by
  unfold P_M_make_155 at h
  refine zw_iload d_M_make_155 rfl ?_
  refine zw_iconst (v := 1) d_M_make_157 rfl ?_
  obtain ⟨ht, hf⟩ := h
  refine zw_icmp_ne (tgt := 170) d_M_make_158 rfl (fun hc => ?_) (fun hc => ?_)
  · have h := ht hc; clear ht hf
    exact w_M_make_170 hr h
  · have h := hf hc; clear ht hf
    refine zw_iload d_M_make_161 rfl ?_
    obtain ⟨ht, hf⟩ := h
    refine zw_if_ne (tgt := 170) d_M_make_163 rfl (fun hc => ?_) (fun hc => ?_)
    · have h := ht hc; clear ht hf
      exact w_M_make_170 hr h
    · have h := hf hc; clear ht hf
      exact w_M_make_166 hr h
def P_M_make (n : Nat) (a0 : Nat) (a1 : Int32) (σ : zS) (Q : zS → Prop) : Prop := zk n a0 7 ∧ ∃ c2, zr σ a0 8 = some c2 ∧ za n c2 10 (((7 : Int32) * a1) + (1 : Int32)) ∧ ((¬ (zi σ c2 (((7 : Int32) * a1) + (1 : Int32)).toNatClampNeg) = 0 → ∃ c5, zr σ a0 8 = some c5 ∧ za n c5 10 (((7 : Int32) * a1) + (3 : Int32)) ∧ ∃ c8, zr σ a0 8 = some c8 ∧ za n c8 10 ((((7 : Int32) * a1) + (3 : Int32)) + (1 : Int32)) ∧ P_M_numberOf n a0 (zi σ c5 (((7 : Int32) * a1) + (3 : Int32)).toNatClampNeg) (zi σ c8 ((((7 : Int32) * a1) + (3 : Int32)) + (1 : Int32)).toNatClampNeg) σ (fun x11 σ12 => ∃ c13, zr σ12 a0 8 = some c13 ∧ za n c13 10 (((7 : Int32) * a1) + (3 : Int32)) ∧ ∃ c16, zr σ12 a0 8 = some c16 ∧ za n c16 10 ((((7 : Int32) * a1) + (3 : Int32)) + (1 : Int32)) ∧ P_M_sortOf n a0 (zi σ12 c13 (((7 : Int32) * a1) + (3 : Int32)).toNatClampNeg) (zi σ12 c16 ((((7 : Int32) * a1) + (3 : Int32)) + (1 : Int32)).toNatClampNeg) σ12 (fun x19 σ20 => ∃ c21, zr (zI (zI σ20 a0 25 x19) a0 26 x11) a0 8 = some c21 ∧ za n c21 10 (((7 : Int32) * a1) + (1 : Int32)) ∧ ((¬ (zi (zI (zI σ20 a0 25 x19) a0 26 x11) c21 (((7 : Int32) * a1) + (1 : Int32)).toNatClampNeg) = (2 : Int32) → P_M_make_270 n Q (zI (zI σ20 a0 25 x19) a0 26 x11)) ∧ ((zi (zI (zI σ20 a0 25 x19) a0 26 x11) c21 (((7 : Int32) * a1) + (1 : Int32)).toNatClampNeg) = (2 : Int32) → ∃ c24, zr (zI (zI σ20 a0 25 x19) a0 26 x11) a0 8 = some c24 ∧ za n c24 10 (((7 : Int32) * a1) + (5 : Int32)) ∧ ∃ c27, zr (zI (zI σ20 a0 25 x19) a0 26 x11) a0 8 = some c27 ∧ za n c27 10 ((((7 : Int32) * a1) + (5 : Int32)) + (1 : Int32)) ∧ P_M_numberOf n a0 (zi (zI (zI σ20 a0 25 x19) a0 26 x11) c24 (((7 : Int32) * a1) + (5 : Int32)).toNatClampNeg) (zi (zI (zI σ20 a0 25 x19) a0 26 x11) c27 ((((7 : Int32) * a1) + (5 : Int32)) + (1 : Int32)).toNatClampNeg) (zI (zI σ20 a0 25 x19) a0 26 x11) (fun x30 σ31 => ∃ c32, zr σ31 a0 8 = some c32 ∧ za n c32 10 (((7 : Int32) * a1) + (5 : Int32)) ∧ ∃ c35, zr σ31 a0 8 = some c35 ∧ za n c35 10 ((((7 : Int32) * a1) + (5 : Int32)) + (1 : Int32)) ∧ P_M_sortOf n a0 (zi σ31 c32 (((7 : Int32) * a1) + (5 : Int32)).toNatClampNeg) (zi σ31 c35 ((((7 : Int32) * a1) + (5 : Int32)) + (1 : Int32)).toNatClampNeg) σ31 (fun x38 σ39 => ((¬ x19 = (1 : Int32) → P_M_make_155 n Q a0 ((7 : Int32) * a1) x11 x19 x30 x38 σ39) ∧ (x19 = (1 : Int32) → ((x11 = 0 → P_M_make_166 n Q a0 ((7 : Int32) * a1) x11 x19 x30 x38 σ39) ∧ (¬ (x11 = 0) → P_M_make_155 n Q a0 ((7 : Int32) * a1) x11 x19 x30 x38 σ39))))))))))) ∧ ((zi σ c2 (((7 : Int32) * a1) + (1 : Int32)).toNatClampNeg) = 0 → Q (zI (zI σ a0 25 (2 : Int32)) a0 26 (0 : Int32))))
set_option maxHeartbeats 1000000 in
set_option maxRecDepth 10000 in
theorem w_M_make {Q : zS → Prop} (hr : meth.sig.returnType = none) {a0 : Nat} {a1 : Int32} {σ : zS} (h : P_M_make n a0 a1 σ Q) : zG p l e (zrm 2 0 0) s m args below meth c (MQ below (zQc (zA base) D cA base n ex (zqv Q)) args s 0 0 (zA base)) s.heap (zA base) base D cA 9 ex prog_9_method_26_code "ConstantFlowModel" n 0 0 0 [some (.ref a0), some (.int a1), none, none, none, none, none, none, none] [] σ := by
  unfold P_M_make at h
  refine zw_bipush (v := 7) d_M_make_0 rfl ?_
  refine zw_iload_n d_M_make_2 rfl rfl ?_
  refine zw_imul d_M_make_3 ?_
  refine zw_istore_n d_M_make_4 rfl (Nat.le_of_ble_eq_true rfl) rfl rfl ?_
  refine zw_aload_n d_M_make_5 rfl rfl ?_
  obtain ⟨q1, h⟩ := h
  obtain ⟨c2, q3, h⟩ := h
  refine zw_gfr (ci := 7) (j := 8) d_M_make_6 mw_3_193 q1.1 q1.2 (by decide) (by decide) rfl q3 ?_
  refine zw_iload_n d_M_make_9 rfl rfl ?_
  refine zw_iconst (v := 1) d_M_make_10 rfl ?_
  refine zw_iadd d_M_make_11 ?_
  obtain ⟨q4, h⟩ := h
  refine zw_iald d_M_make_12 q4.1 (zkd_eta q4.2.1) q4.2.2 ?_
  obtain ⟨ht, hf⟩ := h
  refine zw_if_ne (tgt := 27) d_M_make_13 rfl (fun hc => ?_) (fun hc => ?_)
  · have h := ht hc; clear ht hf
    refine zw_aload_n d_M_make_27 rfl rfl ?_
    refine zw_aload_n d_M_make_28 rfl rfl ?_
    obtain ⟨c5, q6, h⟩ := h
    refine zw_gfr (ci := 7) (j := 8) d_M_make_29 mw_3_193 q1.1 q1.2 (by decide) (by decide) rfl q6 ?_
    refine zw_iload_n d_M_make_32 rfl rfl ?_
    refine zw_iconst (v := 3) d_M_make_33 rfl ?_
    refine zw_iadd d_M_make_34 ?_
    obtain ⟨q7, h⟩ := h
    refine zw_iald d_M_make_35 q7.1 (zkd_eta q7.2.1) q7.2.2 ?_
    refine zw_aload_n d_M_make_36 rfl rfl ?_
    obtain ⟨c8, q9, h⟩ := h
    refine zw_gfr (ci := 7) (j := 8) d_M_make_37 mw_3_193 q1.1 q1.2 (by decide) (by decide) rfl q9 ?_
    refine zw_iload_n d_M_make_40 rfl rfl ?_
    refine zw_iconst (v := 3) d_M_make_41 rfl ?_
    refine zw_iadd d_M_make_42 ?_
    refine zw_iconst (v := 1) d_M_make_43 rfl ?_
    refine zw_iadd d_M_make_44 ?_
    obtain ⟨q10, h⟩ := h
    refine zw_iald d_M_make_45 q10.1 (zkd_eta q10.2.1) q10.2.2 ?_
    refine zw_callV (ci := 7) (b := a0) (As := [.int (zi σ c5 (((7 : Int32) * a1) + (3 : Int32)).toNatClampNeg), .int (zi σ c8 ((((7 : Int32) * a1) + (3 : Int32)) + (1 : Int32)).toNatClampNeg)]) (r := []) d_M_make_46 (c_M_numberOf h) mw_4_152 mw_4_154 mp_3_10 mw_1_8 mw_4_155 (by decide) q1.1 q1.2 hyV_M_numberOf (Nat.le_of_ble_eq_true rfl) (Nat.le_of_ble_eq_true rfl) ⟨(Nat.le_of_ble_eq_true rfl), (Nat.le_of_ble_eq_true rfl)⟩ (Nat.le_of_ble_eq_true rfl) rfl (zk_i (fun x11 σ12 h => ?_))
    refine zw_istore_n d_M_make_49 rfl (Nat.le_of_ble_eq_true rfl) rfl rfl ?_
    refine zw_aload_n d_M_make_50 rfl rfl ?_
    refine zw_aload_n d_M_make_51 rfl rfl ?_
    obtain ⟨c13, q14, h⟩ := h
    refine zw_gfr (ci := 7) (j := 8) d_M_make_52 mw_3_193 q1.1 q1.2 (by decide) (by decide) rfl q14 ?_
    refine zw_iload_n d_M_make_55 rfl rfl ?_
    refine zw_iconst (v := 3) d_M_make_56 rfl ?_
    refine zw_iadd d_M_make_57 ?_
    obtain ⟨q15, h⟩ := h
    refine zw_iald d_M_make_58 q15.1 (zkd_eta q15.2.1) q15.2.2 ?_
    refine zw_aload_n d_M_make_59 rfl rfl ?_
    obtain ⟨c16, q17, h⟩ := h
    refine zw_gfr (ci := 7) (j := 8) d_M_make_60 mw_3_193 q1.1 q1.2 (by decide) (by decide) rfl q17 ?_
    refine zw_iload_n d_M_make_63 rfl rfl ?_
    refine zw_iconst (v := 3) d_M_make_64 rfl ?_
    refine zw_iadd d_M_make_65 ?_
    refine zw_iconst (v := 1) d_M_make_66 rfl ?_
    refine zw_iadd d_M_make_67 ?_
    obtain ⟨q18, h⟩ := h
    refine zw_iald d_M_make_68 q18.1 (zkd_eta q18.2.1) q18.2.2 ?_
    refine zw_callV (ci := 7) (b := a0) (As := [.int (zi σ12 c13 (((7 : Int32) * a1) + (3 : Int32)).toNatClampNeg), .int (zi σ12 c16 ((((7 : Int32) * a1) + (3 : Int32)) + (1 : Int32)).toNatClampNeg)]) (r := []) d_M_make_69 (c_M_sortOf h) mw_4_156 mw_4_158 mp_3_11 mw_1_8 mw_4_159 (by decide) q1.1 q1.2 hyV_M_sortOf (Nat.le_of_ble_eq_true rfl) (Nat.le_of_ble_eq_true rfl) ⟨(Nat.le_of_ble_eq_true rfl), (Nat.le_of_ble_eq_true rfl)⟩ (Nat.le_of_ble_eq_true rfl) rfl (zk_i (fun x19 σ20 h => ?_))
    refine zw_istore d_M_make_72 (Nat.le_of_ble_eq_true rfl) rfl rfl ?_
    refine zw_aload_n d_M_make_74 rfl rfl ?_
    refine zw_iload d_M_make_75 rfl ?_
    refine zw_pfi (ci := 7) (j := 25) d_M_make_77 mw_3_210 q1.1 q1.2 (by decide) (by decide) rfl rfl rfl rfl ?_
    refine zw_aload_n d_M_make_80 rfl rfl ?_
    refine zw_iload_n d_M_make_81 rfl rfl ?_
    refine zw_pfi (ci := 7) (j := 26) d_M_make_82 mw_3_211 q1.1 q1.2 (by decide) (by decide) rfl rfl rfl rfl ?_
    refine zw_aload_n d_M_make_85 rfl rfl ?_
    obtain ⟨c21, q22, h⟩ := h
    refine zw_gfr (ci := 7) (j := 8) d_M_make_86 mw_3_193 q1.1 q1.2 (by decide) (by decide) rfl q22 ?_
    refine zw_iload_n d_M_make_89 rfl rfl ?_
    refine zw_iconst (v := 1) d_M_make_90 rfl ?_
    refine zw_iadd d_M_make_91 ?_
    obtain ⟨q23, h⟩ := h
    refine zw_iald d_M_make_92 q23.1 (zkd_eta q23.2.1) q23.2.2 ?_
    refine zw_iconst (v := 2) d_M_make_93 rfl ?_
    obtain ⟨ht, hf⟩ := h
    refine zw_icmp_ne (tgt := 270) d_M_make_94 rfl (fun hc => ?_) (fun hc => ?_)
    · have h := ht hc; clear ht hf
      refine zw_le (ls' := [none, none, none, none, none, none, none, none, none]) (True.intro) ?_
      exact w_M_make_270 hr h
    · have h := hf hc; clear ht hf
      refine zw_aload_n d_M_make_97 rfl rfl ?_
      refine zw_aload_n d_M_make_98 rfl rfl ?_
      obtain ⟨c24, q25, h⟩ := h
      refine zw_gfr (ci := 7) (j := 8) d_M_make_99 mw_3_193 q1.1 q1.2 (by decide) (by decide) rfl q25 ?_
      refine zw_iload_n d_M_make_102 rfl rfl ?_
      refine zw_iconst (v := 5) d_M_make_103 rfl ?_
      refine zw_iadd d_M_make_104 ?_
      obtain ⟨q26, h⟩ := h
      refine zw_iald d_M_make_105 q26.1 (zkd_eta q26.2.1) q26.2.2 ?_
      refine zw_aload_n d_M_make_106 rfl rfl ?_
      obtain ⟨c27, q28, h⟩ := h
      refine zw_gfr (ci := 7) (j := 8) d_M_make_107 mw_3_193 q1.1 q1.2 (by decide) (by decide) rfl q28 ?_
      refine zw_iload_n d_M_make_110 rfl rfl ?_
      refine zw_iconst (v := 5) d_M_make_111 rfl ?_
      refine zw_iadd d_M_make_112 ?_
      refine zw_iconst (v := 1) d_M_make_113 rfl ?_
      refine zw_iadd d_M_make_114 ?_
      obtain ⟨q29, h⟩ := h
      refine zw_iald d_M_make_115 q29.1 (zkd_eta q29.2.1) q29.2.2 ?_
      refine zw_callV (ci := 7) (b := a0) (As := [.int (zi (zI (zI σ20 a0 25 x19) a0 26 x11) c24 (((7 : Int32) * a1) + (5 : Int32)).toNatClampNeg), .int (zi (zI (zI σ20 a0 25 x19) a0 26 x11) c27 ((((7 : Int32) * a1) + (5 : Int32)) + (1 : Int32)).toNatClampNeg)]) (r := []) d_M_make_116 (c_M_numberOf h) mw_4_152 mw_4_154 mp_3_10 mw_1_8 mw_4_155 (by decide) q1.1 q1.2 hyV_M_numberOf (Nat.le_of_ble_eq_true rfl) (Nat.le_of_ble_eq_true rfl) ⟨(Nat.le_of_ble_eq_true rfl), (Nat.le_of_ble_eq_true rfl)⟩ (Nat.le_of_ble_eq_true rfl) rfl (zk_i (fun x30 σ31 h => ?_))
      refine zw_istore d_M_make_119 (Nat.le_of_ble_eq_true rfl) rfl rfl ?_
      refine zw_aload_n d_M_make_121 rfl rfl ?_
      refine zw_aload_n d_M_make_122 rfl rfl ?_
      obtain ⟨c32, q33, h⟩ := h
      refine zw_gfr (ci := 7) (j := 8) d_M_make_123 mw_3_193 q1.1 q1.2 (by decide) (by decide) rfl q33 ?_
      refine zw_iload_n d_M_make_126 rfl rfl ?_
      refine zw_iconst (v := 5) d_M_make_127 rfl ?_
      refine zw_iadd d_M_make_128 ?_
      obtain ⟨q34, h⟩ := h
      refine zw_iald d_M_make_129 q34.1 (zkd_eta q34.2.1) q34.2.2 ?_
      refine zw_aload_n d_M_make_130 rfl rfl ?_
      obtain ⟨c35, q36, h⟩ := h
      refine zw_gfr (ci := 7) (j := 8) d_M_make_131 mw_3_193 q1.1 q1.2 (by decide) (by decide) rfl q36 ?_
      refine zw_iload_n d_M_make_134 rfl rfl ?_
      refine zw_iconst (v := 5) d_M_make_135 rfl ?_
      refine zw_iadd d_M_make_136 ?_
      refine zw_iconst (v := 1) d_M_make_137 rfl ?_
      refine zw_iadd d_M_make_138 ?_
      obtain ⟨q37, h⟩ := h
      refine zw_iald d_M_make_139 q37.1 (zkd_eta q37.2.1) q37.2.2 ?_
      refine zw_callV (ci := 7) (b := a0) (As := [.int (zi σ31 c32 (((7 : Int32) * a1) + (5 : Int32)).toNatClampNeg), .int (zi σ31 c35 ((((7 : Int32) * a1) + (5 : Int32)) + (1 : Int32)).toNatClampNeg)]) (r := []) d_M_make_140 (c_M_sortOf h) mw_4_156 mw_4_158 mp_3_11 mw_1_8 mw_4_159 (by decide) q1.1 q1.2 hyV_M_sortOf (Nat.le_of_ble_eq_true rfl) (Nat.le_of_ble_eq_true rfl) ⟨(Nat.le_of_ble_eq_true rfl), (Nat.le_of_ble_eq_true rfl)⟩ (Nat.le_of_ble_eq_true rfl) rfl (zk_i (fun x38 σ39 h => ?_))
      refine zw_istore d_M_make_143 (Nat.le_of_ble_eq_true rfl) rfl rfl ?_
      refine zw_iload d_M_make_145 rfl ?_
      refine zw_iconst (v := 1) d_M_make_147 rfl ?_
      obtain ⟨ht, hf⟩ := h
      refine zw_icmp_ne (tgt := 155) d_M_make_148 rfl (fun hc => ?_) (fun hc => ?_)
      · have h := ht hc; clear ht hf
        refine zw_le (ls' := [some (.ref a0), none, some (.int ((7 : Int32) * a1)), some (.int x11), some (.int x19), some (.int x30), some (.int x38), none, none]) (And.intro rfl (And.intro rfl (And.intro rfl (And.intro rfl (And.intro rfl (And.intro rfl True.intro)))))) ?_
        exact w_M_make_155 hr h
      · have h := hf hc; clear ht hf
        refine zw_iload_n d_M_make_151 rfl rfl ?_
        obtain ⟨ht, hf⟩ := h
        refine zw_if_eq (tgt := 166) d_M_make_152 rfl (fun hc => ?_) (fun hc => ?_)
        · have h := ht hc; clear ht hf
          refine zw_le (ls' := [some (.ref a0), none, some (.int ((7 : Int32) * a1)), some (.int x11), some (.int x19), some (.int x30), some (.int x38), none, none]) (And.intro rfl (And.intro rfl (And.intro rfl (And.intro rfl (And.intro rfl (And.intro rfl True.intro)))))) ?_
          exact w_M_make_166 hr h
        · have h := hf hc; clear ht hf
          refine zw_le (ls' := [some (.ref a0), none, some (.int ((7 : Int32) * a1)), some (.int x11), some (.int x19), some (.int x30), some (.int x38), none, none]) (And.intro rfl (And.intro rfl (And.intro rfl (And.intro rfl (And.intro rfl (And.intro rfl True.intro)))))) ?_
          exact w_M_make_155 hr h
  · have h := hf hc; clear ht hf
    refine zw_aload_n d_M_make_16 rfl rfl ?_
    refine zw_iconst (v := 2) d_M_make_17 rfl ?_
    refine zw_pfi (ci := 7) (j := 25) d_M_make_18 mw_3_210 q1.1 q1.2 (by decide) (by decide) rfl rfl rfl rfl ?_
    refine zw_aload_n d_M_make_21 rfl rfl ?_
    refine zw_iconst (v := 0) d_M_make_22 rfl ?_
    refine zw_pfi (ci := 7) (j := 26) d_M_make_23 mw_3_211 q1.1 q1.2 (by decide) (by decide) rfl rfl rfl rfl ?_
    exact zw_vret d_M_make_26 hr h
theorem c_M_make {l : Launch} {D : va_G} {cA : Nat → ClassId} {base n : Nat} {ex : Bool} {Q : zS → Prop} {a0 : Nat} {a1 : Int32} {σ : zS} (h : P_M_make n a0 a1 σ Q) : zM l y_M_make prog_9_method_26_code 9 (none) 2 0 0 (zA base) D cA base n n ex [.ref a0, .int a1] σ (zqv Q) :=
  zMet (by decide) rfl (Nat.le_of_ble_eq_true rfl) (fun p e s m args below meth c hr hnm => w_M_make hr h)
def P_M_goes_76 (n : Nat) (Q : Int32 → zS → Prop) (b0 : Int32) (σ : zS) : Prop := Q b0 σ
set_option maxHeartbeats 1000000 in
set_option maxRecDepth 10000 in
theorem w_M_goes_76 {Q : Int32 → zS → Prop} (hr : meth.sig.returnType = some .int) {b0 : Int32} {σ : zS} (h : P_M_goes_76 n Q b0 σ) : zG p l e (zrm 2 0 0) s m args below meth c (MQ below (zQc (zA base) D cA base n ex (zqi Q)) args s 0 0 (zA base)) s.heap (zA base) base D cA 3 ex prog_9_method_30_code "ConstantFlowModel" n 0 0 76 [none, none, none] [.int b0] σ := by
  unfold P_M_goes_76 at h
  exact zw_iret d_M_goes_76 hr h
def P_M_goes (n : Nat) (a0 : Nat) (a1 : Int32) (σ : zS) (Q : Int32 → zS → Prop) : Prop := zk n a0 7 ∧ ∃ c2, zr σ a0 9 = some c2 ∧ za n c2 10 (((5 : Int32) * a1) + (1 : Int32)) ∧ ∃ c5, zr σ a0 9 = some c5 ∧ za n c5 10 ((((5 : Int32) * a1) + (1 : Int32)) + (1 : Int32)) ∧ P_M_sortOf n a0 (zi σ c2 (((5 : Int32) * a1) + (1 : Int32)).toNatClampNeg) (zi σ c5 ((((5 : Int32) * a1) + (1 : Int32)) + (1 : Int32)).toNatClampNeg) σ (fun x8 σ9 => ((x8 = (1 : Int32) → ∃ c10, zr σ9 a0 9 = some c10 ∧ za n c10 10 (((5 : Int32) * a1) + (1 : Int32)) ∧ ∃ c13, zr σ9 a0 9 = some c13 ∧ za n c13 10 ((((5 : Int32) * a1) + (1 : Int32)) + (1 : Int32)) ∧ P_M_numberOf n a0 (zi σ9 c10 (((5 : Int32) * a1) + (1 : Int32)).toNatClampNeg) (zi σ9 c13 ((((5 : Int32) * a1) + (1 : Int32)) + (1 : Int32)).toNatClampNeg) σ9 (fun x16 σ17 => ((x16 = 0 → ∃ c18, zr σ17 a0 9 = some c18 ∧ za n c18 10 (((5 : Int32) * a1) + (4 : Int32)) ∧ P_M_goes_76 n Q (zi σ17 c18 (((5 : Int32) * a1) + (4 : Int32)).toNatClampNeg) σ17) ∧ (¬ (x16 = 0) → ∃ c21, zr σ17 a0 9 = some c21 ∧ za n c21 10 (((5 : Int32) * a1) + (3 : Int32)) ∧ P_M_goes_76 n Q (zi σ17 c21 (((5 : Int32) * a1) + (3 : Int32)).toNatClampNeg) σ17)))) ∧ (¬ (x8 = (1 : Int32)) → Q (-1 : Int32) σ9)))
set_option maxHeartbeats 1000000 in
set_option maxRecDepth 10000 in
theorem w_M_goes {Q : Int32 → zS → Prop} (hr : meth.sig.returnType = some .int) {a0 : Nat} {a1 : Int32} {σ : zS} (h : P_M_goes n a0 a1 σ Q) : zG p l e (zrm 2 0 0) s m args below meth c (MQ below (zQc (zA base) D cA base n ex (zqi Q)) args s 0 0 (zA base)) s.heap (zA base) base D cA 3 ex prog_9_method_30_code "ConstantFlowModel" n 0 0 0 [some (.ref a0), some (.int a1), none] [] σ := by
  unfold P_M_goes at h
  refine zw_iconst (v := 5) d_M_goes_0 rfl ?_
  refine zw_iload_n d_M_goes_1 rfl rfl ?_
  refine zw_imul d_M_goes_2 ?_
  refine zw_istore_n d_M_goes_3 rfl (Nat.le_of_ble_eq_true rfl) rfl rfl ?_
  refine zw_aload_n d_M_goes_4 rfl rfl ?_
  refine zw_aload_n d_M_goes_5 rfl rfl ?_
  obtain ⟨q1, h⟩ := h
  obtain ⟨c2, q3, h⟩ := h
  refine zw_gfr (ci := 7) (j := 9) d_M_goes_6 mw_3_194 q1.1 q1.2 (by decide) (by decide) rfl q3 ?_
  refine zw_iload_n d_M_goes_9 rfl rfl ?_
  refine zw_iconst (v := 1) d_M_goes_10 rfl ?_
  refine zw_iadd d_M_goes_11 ?_
  obtain ⟨q4, h⟩ := h
  refine zw_iald d_M_goes_12 q4.1 (zkd_eta q4.2.1) q4.2.2 ?_
  refine zw_aload_n d_M_goes_13 rfl rfl ?_
  obtain ⟨c5, q6, h⟩ := h
  refine zw_gfr (ci := 7) (j := 9) d_M_goes_14 mw_3_194 q1.1 q1.2 (by decide) (by decide) rfl q6 ?_
  refine zw_iload_n d_M_goes_17 rfl rfl ?_
  refine zw_iconst (v := 1) d_M_goes_18 rfl ?_
  refine zw_iadd d_M_goes_19 ?_
  refine zw_iconst (v := 1) d_M_goes_20 rfl ?_
  refine zw_iadd d_M_goes_21 ?_
  obtain ⟨q7, h⟩ := h
  refine zw_iald d_M_goes_22 q7.1 (zkd_eta q7.2.1) q7.2.2 ?_
  refine zw_callV (ci := 7) (b := a0) (As := [.int (zi σ c2 (((5 : Int32) * a1) + (1 : Int32)).toNatClampNeg), .int (zi σ c5 ((((5 : Int32) * a1) + (1 : Int32)) + (1 : Int32)).toNatClampNeg)]) (r := []) d_M_goes_23 (c_M_sortOf h) mw_4_156 mw_4_158 mp_3_11 mw_1_8 mw_4_159 (by decide) q1.1 q1.2 hyV_M_sortOf (Nat.le_of_ble_eq_true rfl) (Nat.le_of_ble_eq_true rfl) ⟨(Nat.le_of_ble_eq_true rfl), (Nat.le_of_ble_eq_true rfl)⟩ (Nat.le_of_ble_eq_true rfl) rfl (zk_i (fun x8 σ9 h => ?_))
  refine zw_iconst (v := 1) d_M_goes_26 rfl ?_
  obtain ⟨ht, hf⟩ := h
  refine zw_icmp_eq (tgt := 32) d_M_goes_27 rfl (fun hc => ?_) (fun hc => ?_)
  · have h := ht hc; clear ht hf
    refine zw_aload_n d_M_goes_32 rfl rfl ?_
    refine zw_aload_n d_M_goes_33 rfl rfl ?_
    obtain ⟨c10, q11, h⟩ := h
    refine zw_gfr (ci := 7) (j := 9) d_M_goes_34 mw_3_194 q1.1 q1.2 (by decide) (by decide) rfl q11 ?_
    refine zw_iload_n d_M_goes_37 rfl rfl ?_
    refine zw_iconst (v := 1) d_M_goes_38 rfl ?_
    refine zw_iadd d_M_goes_39 ?_
    obtain ⟨q12, h⟩ := h
    refine zw_iald d_M_goes_40 q12.1 (zkd_eta q12.2.1) q12.2.2 ?_
    refine zw_aload_n d_M_goes_41 rfl rfl ?_
    obtain ⟨c13, q14, h⟩ := h
    refine zw_gfr (ci := 7) (j := 9) d_M_goes_42 mw_3_194 q1.1 q1.2 (by decide) (by decide) rfl q14 ?_
    refine zw_iload_n d_M_goes_45 rfl rfl ?_
    refine zw_iconst (v := 1) d_M_goes_46 rfl ?_
    refine zw_iadd d_M_goes_47 ?_
    refine zw_iconst (v := 1) d_M_goes_48 rfl ?_
    refine zw_iadd d_M_goes_49 ?_
    obtain ⟨q15, h⟩ := h
    refine zw_iald d_M_goes_50 q15.1 (zkd_eta q15.2.1) q15.2.2 ?_
    refine zw_callV (ci := 7) (b := a0) (As := [.int (zi σ9 c10 (((5 : Int32) * a1) + (1 : Int32)).toNatClampNeg), .int (zi σ9 c13 ((((5 : Int32) * a1) + (1 : Int32)) + (1 : Int32)).toNatClampNeg)]) (r := []) d_M_goes_51 (c_M_numberOf h) mw_4_152 mw_4_154 mp_3_10 mw_1_8 mw_4_155 (by decide) q1.1 q1.2 hyV_M_numberOf (Nat.le_of_ble_eq_true rfl) (Nat.le_of_ble_eq_true rfl) ⟨(Nat.le_of_ble_eq_true rfl), (Nat.le_of_ble_eq_true rfl)⟩ (Nat.le_of_ble_eq_true rfl) rfl (zk_i (fun x16 σ17 h => ?_))
    obtain ⟨ht, hf⟩ := h
    refine zw_if_eq (tgt := 68) d_M_goes_54 rfl (fun hc => ?_) (fun hc => ?_)
    · have h := ht hc; clear ht hf
      refine zw_aload_n d_M_goes_68 rfl rfl ?_
      obtain ⟨c18, q19, h⟩ := h
      refine zw_gfr (ci := 7) (j := 9) d_M_goes_69 mw_3_194 q1.1 q1.2 (by decide) (by decide) rfl q19 ?_
      refine zw_iload_n d_M_goes_72 rfl rfl ?_
      refine zw_iconst (v := 4) d_M_goes_73 rfl ?_
      refine zw_iadd d_M_goes_74 ?_
      obtain ⟨q20, h⟩ := h
      refine zw_iald d_M_goes_75 q20.1 (zkd_eta q20.2.1) q20.2.2 ?_
      refine zw_le (ls' := [none, none, none]) (True.intro) ?_
      exact w_M_goes_76 hr h
    · have h := hf hc; clear ht hf
      refine zw_aload_n d_M_goes_57 rfl rfl ?_
      obtain ⟨c21, q22, h⟩ := h
      refine zw_gfr (ci := 7) (j := 9) d_M_goes_58 mw_3_194 q1.1 q1.2 (by decide) (by decide) rfl q22 ?_
      refine zw_iload_n d_M_goes_61 rfl rfl ?_
      refine zw_iconst (v := 3) d_M_goes_62 rfl ?_
      refine zw_iadd d_M_goes_63 ?_
      obtain ⟨q23, h⟩ := h
      refine zw_iald d_M_goes_64 q23.1 (zkd_eta q23.2.1) q23.2.2 ?_
      refine zw_goto (tgt := 76) d_M_goes_65 rfl ?_
      refine zw_le (ls' := [none, none, none]) (True.intro) ?_
      exact w_M_goes_76 hr h
  · have h := hf hc; clear ht hf
    refine zw_iconst (v := -1) d_M_goes_30 rfl ?_
    exact zw_iret d_M_goes_31 hr h
theorem c_M_goes {l : Launch} {D : va_G} {cA : Nat → ClassId} {base n : Nat} {ex : Bool} {Q : Int32 → zS → Prop} {a0 : Nat} {a1 : Int32} {σ : zS} (h : P_M_goes n a0 a1 σ Q) : zM l y_M_goes prog_9_method_30_code 3 (some .int) 2 0 0 (zA base) D cA base n n ex [.ref a0, .int a1] σ (zqi Q) :=
  zMet (by decide) rfl (Nat.le_of_ble_eq_true rfl) (fun p e s m args below meth c hr hnm => w_M_goes hr h)
def P_M_putNumber_41 (n : Nat) (Q : zS → Prop) : Nat → Nat → Int64 → Int64 → zS → Prop
  | 0, _, _, _, _ => False
  | f + 1, a0, a2, a4, σ => (((lg_cmp a4 (0 : Int64)) ≤ 0 → Q σ) ∧ (¬ ((lg_cmp a4 (0 : Int64)) ≤ 0) → (¬ a4 = 0) ∧ (¬ (10 : Int64) = 0) ∧ zk n a0 7 ∧ P_M_put n a0 ((48 : Int32) + (Int64.toInt32 ((a2 / a4) - (a2 / a4) / (10 : Int64) * (10 : Int64)))) σ (fun σ4 => (¬ (10 : Int64) = 0) ∧ P_M_putNumber_41 n Q f a0 a2 (a4 / (10 : Int64)) σ4)))
set_option maxHeartbeats 1000000 in
set_option maxRecDepth 10000 in
theorem w_M_putNumber_41 {Q : zS → Prop} (hr : meth.sig.returnType = none) : ∀ (f : Nat) (a0 : Nat) (a2 : Int64) (a4 : Int64) (σ : zS), P_M_putNumber_41 n Q f a0 a2 a4 σ → zG p l e (zrm 2 0 0) s m args below meth c (MQ below (zQc (zA base) D cA base n ex (zqv Q)) args s 0 0 (zA base)) s.heap (zA base) base D cA 6 ex prog_9_method_40_code "ConstantFlowModel" n 0 0 41 [some (.ref a0), none, some (.long a2), none, some (.long a4), none] [] σ := by
  intro f
  induction f with
  | zero => intro a0 a2 a4 σ h; exact False.elim h
  | succ f ih =>
    intro a0 a2 a4 σ h
    refine zw_lload d_M_putNumber_41 rfl ?_
    refine zw_lconst (v := 0) d_M_putNumber_43 rfl ?_
    refine zw_lcmp d_M_putNumber_44 ?_
    obtain ⟨ht, hf⟩ := h
    refine zw_if_le (tgt := 75) d_M_putNumber_45 rfl (fun hc => ?_) (fun hc => ?_)
    · have h := ht hc; clear ht hf
      exact zw_vret d_M_putNumber_75 hr h
    · have h := hf hc; clear ht hf
      refine zw_aload_n d_M_putNumber_48 rfl rfl ?_
      refine zw_bipush (v := 48) d_M_putNumber_49 rfl ?_
      refine zw_lload_n d_M_putNumber_51 rfl rfl ?_
      refine zw_lload d_M_putNumber_52 rfl ?_
      obtain ⟨q1, h⟩ := h
      refine zw_ldiv d_M_putNumber_54 q1 ?_
      refine zw_ldc2 (v := 10) d_M_putNumber_55 mw_4_89 ?_
      obtain ⟨q2, h⟩ := h
      refine zw_lrem d_M_putNumber_58 q2 ?_
      refine zw_l2i d_M_putNumber_59 ?_
      refine zw_iadd d_M_putNumber_60 ?_
      obtain ⟨q5, h⟩ := h
      refine zw_callV (ci := 7) (b := a0) (As := [.int ((48 : Int32) + (Int64.toInt32 ((a2 / a4) - (a2 / a4) / (10 : Int64) * (10 : Int64))))]) (r := []) d_M_putNumber_61 (c_M_put h) mw_4_199 mw_4_201 mp_4_1 mw_1_8 mw_4_202 (by decide) q5.1 q5.2 hyV_M_put (Nat.le_of_ble_eq_true rfl) (Nat.le_of_ble_eq_true rfl) ⟨(Nat.le_of_ble_eq_true rfl), (Nat.le_of_ble_eq_true rfl)⟩ (Nat.le_of_ble_eq_true rfl) rfl (zk_v (fun σ4 h => ?_))
      refine zw_lload d_M_putNumber_64 rfl ?_
      refine zw_ldc2 (v := 10) d_M_putNumber_66 mw_4_89 ?_
      obtain ⟨q6, h⟩ := h
      refine zw_ldiv d_M_putNumber_69 q6 ?_
      refine zw_lstore d_M_putNumber_70 (Nat.le_of_ble_eq_true rfl) rfl rfl ?_
      refine zw_goto (tgt := 41) d_M_putNumber_72 rfl ?_
      exact ih _ _ _ _ h
def P_M_putNumber_19 (n : Nat) (Q : zS → Prop) : Nat → Nat → Int64 → Int64 → zS → Prop
  | 0, _, _, _, _ => False
  | f + 1, a0, a2, a4, σ => ((0 < (lg_cmp (a4 * (10 : Int64)) a2) → ∃ g, P_M_putNumber_41 n Q g a0 a2 a4 σ) ∧ (¬ (0 < (lg_cmp (a4 * (10 : Int64)) a2)) → P_M_putNumber_19 n Q f a0 a2 (a4 * (10 : Int64)) σ))
set_option maxHeartbeats 1000000 in
set_option maxRecDepth 10000 in
theorem w_M_putNumber_19 {Q : zS → Prop} (hr : meth.sig.returnType = none) : ∀ (f : Nat) (a0 : Nat) (a2 : Int64) (a4 : Int64) (σ : zS), P_M_putNumber_19 n Q f a0 a2 a4 σ → zG p l e (zrm 2 0 0) s m args below meth c (MQ below (zQc (zA base) D cA base n ex (zqv Q)) args s 0 0 (zA base)) s.heap (zA base) base D cA 6 ex prog_9_method_40_code "ConstantFlowModel" n 0 0 19 [some (.ref a0), none, some (.long a2), none, some (.long a4), none] [] σ := by
  intro f
  induction f with
  | zero => intro a0 a2 a4 σ h; exact False.elim h
  | succ f ih =>
    intro a0 a2 a4 σ h
    refine zw_lload d_M_putNumber_19 rfl ?_
    refine zw_ldc2 (v := 10) d_M_putNumber_21 mw_4_89 ?_
    refine zw_lmul d_M_putNumber_24 ?_
    refine zw_lload_n d_M_putNumber_25 rfl rfl ?_
    refine zw_lcmp d_M_putNumber_26 ?_
    obtain ⟨ht, hf⟩ := h
    refine zw_if_gt (tgt := 41) d_M_putNumber_27 rfl (fun hc => ?_) (fun hc => ?_)
    · have h := ht hc; clear ht hf
      obtain ⟨g, h⟩ := h
      exact w_M_putNumber_41 hr g _ _ _ _ h
    · have h := hf hc; clear ht hf
      refine zw_lload d_M_putNumber_30 rfl ?_
      refine zw_ldc2 (v := 10) d_M_putNumber_32 mw_4_89 ?_
      refine zw_lmul d_M_putNumber_35 ?_
      refine zw_lstore d_M_putNumber_36 (Nat.le_of_ble_eq_true rfl) rfl rfl ?_
      refine zw_goto (tgt := 19) d_M_putNumber_38 rfl ?_
      exact ih _ _ _ _ h
def P_M_putNumber_16 (n : Nat) (Q : zS → Prop) (a0 : Nat) (a2 : Int64) (σ : zS) : Prop := ∃ g, P_M_putNumber_19 n Q g a0 a2 (1 : Int64) σ
set_option maxHeartbeats 1000000 in
set_option maxRecDepth 10000 in
theorem w_M_putNumber_16 {Q : zS → Prop} (hr : meth.sig.returnType = none) {a0 : Nat} {a2 : Int64} {σ : zS} (h : P_M_putNumber_16 n Q a0 a2 σ) : zG p l e (zrm 2 0 0) s m args below meth c (MQ below (zQc (zA base) D cA base n ex (zqv Q)) args s 0 0 (zA base)) s.heap (zA base) base D cA 6 ex prog_9_method_40_code "ConstantFlowModel" n 0 0 16 [some (.ref a0), none, some (.long a2), none, none, none] [] σ := by
  unfold P_M_putNumber_16 at h
  refine zw_lconst (v := 1) d_M_putNumber_16 rfl ?_
  refine zw_lstore d_M_putNumber_17 (Nat.le_of_ble_eq_true rfl) rfl rfl ?_
  obtain ⟨g, h⟩ := h
  exact w_M_putNumber_19 hr g _ _ _ _ h
def P_M_putNumber (n : Nat) (a0 : Nat) (a1 : Int32) (σ : zS) (Q : zS → Prop) : Prop := ((0 ≤ a1 → P_M_putNumber_16 n Q a0 (Int32.toInt64 a1) σ) ∧ (¬ (0 ≤ a1) → zk n a0 7 ∧ P_M_put n a0 (45 : Int32) σ (fun σ2 => P_M_putNumber_16 n Q a0 (-(Int32.toInt64 a1)) σ2)))
set_option maxHeartbeats 1000000 in
set_option maxRecDepth 10000 in
theorem w_M_putNumber {Q : zS → Prop} (hr : meth.sig.returnType = none) {a0 : Nat} {a1 : Int32} {σ : zS} (h : P_M_putNumber n a0 a1 σ Q) : zG p l e (zrm 2 0 0) s m args below meth c (MQ below (zQc (zA base) D cA base n ex (zqv Q)) args s 0 0 (zA base)) s.heap (zA base) base D cA 6 ex prog_9_method_40_code "ConstantFlowModel" n 0 0 0 [some (.ref a0), some (.int a1), none, none, none, none] [] σ := by
  unfold P_M_putNumber at h
  refine zw_iload_n d_M_putNumber_0 rfl rfl ?_
  refine zw_i2l d_M_putNumber_1 ?_
  refine zw_lstore_n d_M_putNumber_2 rfl (Nat.le_of_ble_eq_true rfl) rfl rfl ?_
  refine zw_iload_n d_M_putNumber_3 rfl rfl ?_
  obtain ⟨ht, hf⟩ := h
  refine zw_if_ge (tgt := 16) d_M_putNumber_4 rfl (fun hc => ?_) (fun hc => ?_)
  · have h := ht hc; clear ht hf
    refine zw_le (ls' := [some (.ref a0), none, some (.long (Int32.toInt64 a1)), none, none, none]) (And.intro rfl (And.intro rfl True.intro)) ?_
    exact w_M_putNumber_16 hr h
  · have h := hf hc; clear ht hf
    refine zw_aload_n d_M_putNumber_7 rfl rfl ?_
    refine zw_bipush (v := 45) d_M_putNumber_8 rfl ?_
    obtain ⟨q3, h⟩ := h
    refine zw_callV (ci := 7) (b := a0) (As := [.int (45 : Int32)]) (r := []) d_M_putNumber_10 (c_M_put h) mw_4_199 mw_4_201 mp_4_1 mw_1_8 mw_4_202 (by decide) q3.1 q3.2 hyV_M_put (Nat.le_of_ble_eq_true rfl) (Nat.le_of_ble_eq_true rfl) ⟨(Nat.le_of_ble_eq_true rfl), (Nat.le_of_ble_eq_true rfl)⟩ (Nat.le_of_ble_eq_true rfl) rfl (zk_v (fun σ2 h => ?_))
    refine zw_lload_n d_M_putNumber_13 rfl rfl ?_
    refine zw_lneg d_M_putNumber_14 ?_
    refine zw_lstore_n d_M_putNumber_15 rfl (Nat.le_of_ble_eq_true rfl) rfl rfl ?_
    refine zw_le (ls' := [some (.ref a0), none, some (.long (-(Int32.toInt64 a1))), none, none, none]) (And.intro rfl (And.intro rfl True.intro)) ?_
    exact w_M_putNumber_16 hr h
theorem c_M_putNumber {l : Launch} {D : va_G} {cA : Nat → ClassId} {base n : Nat} {ex : Bool} {Q : zS → Prop} {a0 : Nat} {a1 : Int32} {σ : zS} (h : P_M_putNumber n a0 a1 σ Q) : zM l y_M_putNumber prog_9_method_40_code 6 (none) 2 0 0 (zA base) D cA base n n ex [.ref a0, .int a1] σ (zqv Q) :=
  zMet (by decide) rfl (Nat.le_of_ble_eq_true rfl) (fun p e s m args below meth c hr hnm => w_M_putNumber hr h)
def P_M_done_130 (n : Nat) (Q : zS → Prop) (a0 : Nat) (a2 : Int32) (a3 : Int32) (σ : zS) : Prop := zk n a0 7 ∧ ∃ c2, zr σ a0 31 = some c2 ∧ ∃ c4, zr σ a0 8 = some c4 ∧ za n c4 10 (a2 + (0 : Int32)) ∧ za n c2 10 (zi σ c4 (a2 + (0 : Int32)).toNatClampNeg) ∧ Q (zI σ c2 (zi σ c4 (a2 + (0 : Int32)).toNatClampNeg).toNatClampNeg a3)
set_option maxHeartbeats 1000000 in
set_option maxRecDepth 10000 in
theorem w_M_done_130 {Q : zS → Prop} (hr : meth.sig.returnType = none) {a0 : Nat} {a2 : Int32} {a3 : Int32} {σ : zS} (h : P_M_done_130 n Q a0 a2 a3 σ) : zG p l e (zrm 2 0 0) s m args below meth c (MQ below (zQc (zA base) D cA base n ex (zqv Q)) args s 0 0 (zA base)) s.heap (zA base) base D cA 4 ex prog_9_method_51_code "ConstantFlowModel" n 0 0 130 [some (.ref a0), none, some (.int a2), some (.int a3)] [] σ := by
  unfold P_M_done_130 at h
  refine zw_aload_n d_M_done_130 rfl rfl ?_
  obtain ⟨q1, h⟩ := h
  obtain ⟨c2, q3, h⟩ := h
  refine zw_gfr (ci := 7) (j := 31) d_M_done_131 mw_3_216 q1.1 q1.2 (by decide) (by decide) rfl q3 ?_
  refine zw_aload_n d_M_done_134 rfl rfl ?_
  obtain ⟨c4, q5, h⟩ := h
  refine zw_gfr (ci := 7) (j := 8) d_M_done_135 mw_3_193 q1.1 q1.2 (by decide) (by decide) rfl q5 ?_
  refine zw_iload_n d_M_done_138 rfl rfl ?_
  refine zw_iconst (v := 0) d_M_done_139 rfl ?_
  refine zw_iadd d_M_done_140 ?_
  obtain ⟨q6, h⟩ := h
  refine zw_iald d_M_done_141 q6.1 (zkd_eta q6.2.1) q6.2.2 ?_
  refine zw_iload_n d_M_done_142 rfl rfl ?_
  obtain ⟨q7, h⟩ := h
  refine zw_iast d_M_done_143 q7.1 (zkd_eta q7.2.1) q7.2.2 ?_
  exact zw_vret d_M_done_144 hr h
def P_M_done_129 (n : Nat) (Q : zS → Prop) (a0 : Nat) (a2 : Int32) (b0 : Int32) (σ : zS) : Prop := P_M_done_130 n Q a0 a2 b0 σ
set_option maxHeartbeats 1000000 in
set_option maxRecDepth 10000 in
theorem w_M_done_129 {Q : zS → Prop} (hr : meth.sig.returnType = none) {a0 : Nat} {a2 : Int32} {b0 : Int32} {σ : zS} (h : P_M_done_129 n Q a0 a2 b0 σ) : zG p l e (zrm 2 0 0) s m args below meth c (MQ below (zQc (zA base) D cA base n ex (zqv Q)) args s 0 0 (zA base)) s.heap (zA base) base D cA 4 ex prog_9_method_51_code "ConstantFlowModel" n 0 0 129 [some (.ref a0), none, some (.int a2), none] [.int b0] σ := by
  unfold P_M_done_129 at h
  refine zw_istore_n d_M_done_129 rfl (Nat.le_of_ble_eq_true rfl) rfl rfl ?_
  exact w_M_done_130 hr h
def P_M_done_42 (n : Nat) (Q : zS → Prop) (a0 : Nat) (a2 : Int32) (b0 : Int32) (σ : zS) : Prop := zk n a0 7 ∧ P_M_done_130 n Q a0 a2 b0 (zI σ a0 32 ((zi σ a0 32) + (1 : Int32)))
set_option maxHeartbeats 1000000 in
set_option maxRecDepth 10000 in
theorem w_M_done_42 {Q : zS → Prop} (hr : meth.sig.returnType = none) {a0 : Nat} {a2 : Int32} {b0 : Int32} {σ : zS} (h : P_M_done_42 n Q a0 a2 b0 σ) : zG p l e (zrm 2 0 0) s m args below meth c (MQ below (zQc (zA base) D cA base n ex (zqv Q)) args s 0 0 (zA base)) s.heap (zA base) base D cA 4 ex prog_9_method_51_code "ConstantFlowModel" n 0 0 42 [some (.ref a0), none, some (.int a2), none] [.int b0] σ := by
  unfold P_M_done_42 at h
  refine zw_istore_n d_M_done_42 rfl (Nat.le_of_ble_eq_true rfl) rfl rfl ?_
  refine zw_aload_n d_M_done_43 rfl rfl ?_
  refine zw_dup d_M_done_44 rfl ?_
  obtain ⟨q1, h⟩ := h
  refine zw_gfi (ci := 7) (j := 32) d_M_done_45 mw_3_217 q1.1 q1.2 (by decide) (by decide) rfl ?_
  refine zw_iconst (v := 1) d_M_done_48 rfl ?_
  refine zw_iadd d_M_done_49 ?_
  refine zw_pfi (ci := 7) (j := 32) d_M_done_50 mw_3_217 q1.1 q1.2 (by decide) (by decide) rfl rfl rfl rfl ?_
  refine zw_goto (tgt := 130) d_M_done_53 rfl ?_
  exact w_M_done_130 hr h
def P_M_done (n : Nat) (a0 : Nat) (a1 : Int32) (σ : zS) (Q : zS → Prop) : Prop := zk n a0 7 ∧ ∃ c2, zr σ a0 8 = some c2 ∧ za n c2 10 (((7 : Int32) * a1) + (1 : Int32)) ∧ ((¬ (zi σ c2 (((7 : Int32) * a1) + (1 : Int32)).toNatClampNeg) = 0 → ∃ c5, zr σ a0 8 = some c5 ∧ za n c5 10 (((7 : Int32) * a1) + (3 : Int32)) ∧ ∃ c8, zr σ a0 8 = some c8 ∧ za n c8 10 ((((7 : Int32) * a1) + (3 : Int32)) + (1 : Int32)) ∧ P_M_valueOf n a0 (zi σ c5 (((7 : Int32) * a1) + (3 : Int32)).toNatClampNeg) (zi σ c8 ((((7 : Int32) * a1) + (3 : Int32)) + (1 : Int32)).toNatClampNeg) σ (fun x11 σ12 => ∃ c13, zr σ12 a0 8 = some c13 ∧ za n c13 10 (((7 : Int32) * a1) + (1 : Int32)) ∧ ((¬ (zi σ12 c13 (((7 : Int32) * a1) + (1 : Int32)).toNatClampNeg) = (2 : Int32) → P_M_done_129 n Q a0 ((7 : Int32) * a1) x11 σ12) ∧ ((zi σ12 c13 (((7 : Int32) * a1) + (1 : Int32)).toNatClampNeg) = (2 : Int32) → ∃ c16, zr σ12 a0 8 = some c16 ∧ za n c16 10 (((7 : Int32) * a1) + (2 : Int32)) ∧ ∃ c19, zr σ12 a0 8 = some c19 ∧ za n c19 10 (((7 : Int32) * a1) + (5 : Int32)) ∧ ∃ c22, zr σ12 a0 8 = some c22 ∧ za n c22 10 ((((7 : Int32) * a1) + (5 : Int32)) + (1 : Int32)) ∧ P_M_valueOf n a0 (zi σ12 c19 (((7 : Int32) * a1) + (5 : Int32)).toNatClampNeg) (zi σ12 c22 ((((7 : Int32) * a1) + (5 : Int32)) + (1 : Int32)).toNatClampNeg) σ12 (fun x25 σ26 => P_M_reckoned n (zi σ12 c16 (((7 : Int32) * a1) + (2 : Int32)).toNatClampNeg) x11 x25 σ26 (fun x27 σ28 => P_M_done_129 n Q a0 ((7 : Int32) * a1) x27 σ28)))))) ∧ ((zi σ c2 (((7 : Int32) * a1) + (1 : Int32)).toNatClampNeg) = 0 → (((zi σ a0 30) ≤ (zi σ a0 32) → P_M_done_42 n Q a0 ((7 : Int32) * a1) (0 : Int32) σ) ∧ (¬ ((zi σ a0 30) ≤ (zi σ a0 32)) → ∃ c29, zr σ a0 29 = some c29 ∧ za n c29 10 (zi σ a0 32) ∧ P_M_done_42 n Q a0 ((7 : Int32) * a1) (zi σ c29 (zi σ a0 32).toNatClampNeg) σ))))
set_option maxHeartbeats 1000000 in
set_option maxRecDepth 10000 in
theorem w_M_done {Q : zS → Prop} (hr : meth.sig.returnType = none) {a0 : Nat} {a1 : Int32} {σ : zS} (h : P_M_done n a0 a1 σ Q) : zG p l e (zrm 2 0 0) s m args below meth c (MQ below (zQc (zA base) D cA base n ex (zqv Q)) args s 0 0 (zA base)) s.heap (zA base) base D cA 4 ex prog_9_method_51_code "ConstantFlowModel" n 0 0 0 [some (.ref a0), some (.int a1), none, none] [] σ := by
  unfold P_M_done at h
  refine zw_bipush (v := 7) d_M_done_0 rfl ?_
  refine zw_iload_n d_M_done_2 rfl rfl ?_
  refine zw_imul d_M_done_3 ?_
  refine zw_istore_n d_M_done_4 rfl (Nat.le_of_ble_eq_true rfl) rfl rfl ?_
  refine zw_iconst (v := 0) d_M_done_5 rfl ?_
  refine zw_istore_n d_M_done_6 rfl (Nat.le_of_ble_eq_true rfl) rfl rfl ?_
  refine zw_aload_n d_M_done_7 rfl rfl ?_
  obtain ⟨q1, h⟩ := h
  obtain ⟨c2, q3, h⟩ := h
  refine zw_gfr (ci := 7) (j := 8) d_M_done_8 mw_3_193 q1.1 q1.2 (by decide) (by decide) rfl q3 ?_
  refine zw_iload_n d_M_done_11 rfl rfl ?_
  refine zw_iconst (v := 1) d_M_done_12 rfl ?_
  refine zw_iadd d_M_done_13 ?_
  obtain ⟨q4, h⟩ := h
  refine zw_iald d_M_done_14 q4.1 (zkd_eta q4.2.1) q4.2.2 ?_
  obtain ⟨ht, hf⟩ := h
  refine zw_if_ne (tgt := 56) d_M_done_15 rfl (fun hc => ?_) (fun hc => ?_)
  · have h := ht hc; clear ht hf
    refine zw_aload_n d_M_done_56 rfl rfl ?_
    refine zw_aload_n d_M_done_57 rfl rfl ?_
    obtain ⟨c5, q6, h⟩ := h
    refine zw_gfr (ci := 7) (j := 8) d_M_done_58 mw_3_193 q1.1 q1.2 (by decide) (by decide) rfl q6 ?_
    refine zw_iload_n d_M_done_61 rfl rfl ?_
    refine zw_iconst (v := 3) d_M_done_62 rfl ?_
    refine zw_iadd d_M_done_63 ?_
    obtain ⟨q7, h⟩ := h
    refine zw_iald d_M_done_64 q7.1 (zkd_eta q7.2.1) q7.2.2 ?_
    refine zw_aload_n d_M_done_65 rfl rfl ?_
    obtain ⟨c8, q9, h⟩ := h
    refine zw_gfr (ci := 7) (j := 8) d_M_done_66 mw_3_193 q1.1 q1.2 (by decide) (by decide) rfl q9 ?_
    refine zw_iload_n d_M_done_69 rfl rfl ?_
    refine zw_iconst (v := 3) d_M_done_70 rfl ?_
    refine zw_iadd d_M_done_71 ?_
    refine zw_iconst (v := 1) d_M_done_72 rfl ?_
    refine zw_iadd d_M_done_73 ?_
    obtain ⟨q10, h⟩ := h
    refine zw_iald d_M_done_74 q10.1 (zkd_eta q10.2.1) q10.2.2 ?_
    refine zw_callV (ci := 7) (b := a0) (As := [.int (zi σ c5 (((7 : Int32) * a1) + (3 : Int32)).toNatClampNeg), .int (zi σ c8 ((((7 : Int32) * a1) + (3 : Int32)) + (1 : Int32)).toNatClampNeg)]) (r := []) d_M_done_75 (c_M_valueOf h) mw_5_6 mw_5_8 mp_4_7 mw_1_8 mw_5_9 (by decide) q1.1 q1.2 hyV_M_valueOf (Nat.le_of_ble_eq_true rfl) (Nat.le_of_ble_eq_true rfl) ⟨(Nat.le_of_ble_eq_true rfl), (Nat.le_of_ble_eq_true rfl)⟩ (Nat.le_of_ble_eq_true rfl) rfl (zk_i (fun x11 σ12 h => ?_))
    refine zw_istore_n d_M_done_78 rfl (Nat.le_of_ble_eq_true rfl) rfl rfl ?_
    refine zw_aload_n d_M_done_79 rfl rfl ?_
    obtain ⟨c13, q14, h⟩ := h
    refine zw_gfr (ci := 7) (j := 8) d_M_done_80 mw_3_193 q1.1 q1.2 (by decide) (by decide) rfl q14 ?_
    refine zw_iload_n d_M_done_83 rfl rfl ?_
    refine zw_iconst (v := 1) d_M_done_84 rfl ?_
    refine zw_iadd d_M_done_85 ?_
    obtain ⟨q15, h⟩ := h
    refine zw_iald d_M_done_86 q15.1 (zkd_eta q15.2.1) q15.2.2 ?_
    refine zw_iconst (v := 2) d_M_done_87 rfl ?_
    obtain ⟨ht, hf⟩ := h
    refine zw_icmp_ne (tgt := 128) d_M_done_88 rfl (fun hc => ?_) (fun hc => ?_)
    · have h := ht hc; clear ht hf
      refine zw_iload_n d_M_done_128 rfl rfl ?_
      refine zw_le (ls' := [some (.ref a0), none, some (.int ((7 : Int32) * a1)), none]) (And.intro rfl (And.intro rfl True.intro)) ?_
      exact w_M_done_129 hr h
    · have h := hf hc; clear ht hf
      refine zw_aload_n d_M_done_91 rfl rfl ?_
      obtain ⟨c16, q17, h⟩ := h
      refine zw_gfr (ci := 7) (j := 8) d_M_done_92 mw_3_193 q1.1 q1.2 (by decide) (by decide) rfl q17 ?_
      refine zw_iload_n d_M_done_95 rfl rfl ?_
      refine zw_iconst (v := 2) d_M_done_96 rfl ?_
      refine zw_iadd d_M_done_97 ?_
      obtain ⟨q18, h⟩ := h
      refine zw_iald d_M_done_98 q18.1 (zkd_eta q18.2.1) q18.2.2 ?_
      refine zw_iload_n d_M_done_99 rfl rfl ?_
      refine zw_aload_n d_M_done_100 rfl rfl ?_
      refine zw_aload_n d_M_done_101 rfl rfl ?_
      obtain ⟨c19, q20, h⟩ := h
      refine zw_gfr (ci := 7) (j := 8) d_M_done_102 mw_3_193 q1.1 q1.2 (by decide) (by decide) rfl q20 ?_
      refine zw_iload_n d_M_done_105 rfl rfl ?_
      refine zw_iconst (v := 5) d_M_done_106 rfl ?_
      refine zw_iadd d_M_done_107 ?_
      obtain ⟨q21, h⟩ := h
      refine zw_iald d_M_done_108 q21.1 (zkd_eta q21.2.1) q21.2.2 ?_
      refine zw_aload_n d_M_done_109 rfl rfl ?_
      obtain ⟨c22, q23, h⟩ := h
      refine zw_gfr (ci := 7) (j := 8) d_M_done_110 mw_3_193 q1.1 q1.2 (by decide) (by decide) rfl q23 ?_
      refine zw_iload_n d_M_done_113 rfl rfl ?_
      refine zw_iconst (v := 5) d_M_done_114 rfl ?_
      refine zw_iadd d_M_done_115 ?_
      refine zw_iconst (v := 1) d_M_done_116 rfl ?_
      refine zw_iadd d_M_done_117 ?_
      obtain ⟨q24, h⟩ := h
      refine zw_iald d_M_done_118 q24.1 (zkd_eta q24.2.1) q24.2.2 ?_
      refine zw_callV (ci := 7) (b := a0) (As := [.int (zi σ12 c19 (((7 : Int32) * a1) + (5 : Int32)).toNatClampNeg), .int (zi σ12 c22 ((((7 : Int32) * a1) + (5 : Int32)) + (1 : Int32)).toNatClampNeg)]) (r := [.int x11, .int (zi σ12 c16 (((7 : Int32) * a1) + (2 : Int32)).toNatClampNeg)]) d_M_done_119 (c_M_valueOf h) mw_5_6 mw_5_8 mp_4_7 mw_1_8 mw_5_9 (by decide) q1.1 q1.2 hyV_M_valueOf (Nat.le_of_ble_eq_true rfl) (Nat.le_of_ble_eq_true rfl) ⟨(Nat.le_of_ble_eq_true rfl), (Nat.le_of_ble_eq_true rfl)⟩ (Nat.le_of_ble_eq_true rfl) rfl (zk_i (fun x25 σ26 h => ?_))
      refine zw_callS (As := [.int (zi σ12 c16 (((7 : Int32) * a1) + (2 : Int32)).toNatClampNeg), .int x11, .int x25]) (r := []) d_M_done_122 (c_M_reckoned h) mw_4_160 mw_4_161 mw_1_8 mw_4_162 hyS_M_reckoned (Nat.le_of_ble_eq_true rfl) (Nat.le_of_ble_eq_true rfl) ⟨(Nat.le_of_ble_eq_true rfl), (Nat.le_of_ble_eq_true rfl)⟩ (Nat.le_of_ble_eq_true rfl) rfl (zk_i (fun x27 σ28 h => ?_))
      refine zw_goto (tgt := 129) d_M_done_125 rfl ?_
      refine zw_le (ls' := [some (.ref a0), none, some (.int ((7 : Int32) * a1)), none]) (And.intro rfl (And.intro rfl True.intro)) ?_
      exact w_M_done_129 hr h
  · have h := hf hc; clear ht hf
    refine zw_aload_n d_M_done_18 rfl rfl ?_
    refine zw_gfi (ci := 7) (j := 32) d_M_done_19 mw_3_217 q1.1 q1.2 (by decide) (by decide) rfl ?_
    refine zw_aload_n d_M_done_22 rfl rfl ?_
    refine zw_gfi (ci := 7) (j := 30) d_M_done_23 mw_3_215 q1.1 q1.2 (by decide) (by decide) rfl ?_
    obtain ⟨ht, hf⟩ := h
    refine zw_icmp_ge (tgt := 41) d_M_done_26 rfl (fun hc => ?_) (fun hc => ?_)
    · have h := ht hc; clear ht hf
      refine zw_iconst (v := 0) d_M_done_41 rfl ?_
      refine zw_le (ls' := [some (.ref a0), none, some (.int ((7 : Int32) * a1)), none]) (And.intro rfl (And.intro rfl True.intro)) ?_
      exact w_M_done_42 hr h
    · have h := hf hc; clear ht hf
      refine zw_aload_n d_M_done_29 rfl rfl ?_
      obtain ⟨c29, q30, h⟩ := h
      refine zw_gfr (ci := 7) (j := 29) d_M_done_30 mw_3_214 q1.1 q1.2 (by decide) (by decide) rfl q30 ?_
      refine zw_aload_n d_M_done_33 rfl rfl ?_
      refine zw_gfi (ci := 7) (j := 32) d_M_done_34 mw_3_217 q1.1 q1.2 (by decide) (by decide) rfl ?_
      obtain ⟨q31, h⟩ := h
      refine zw_iald d_M_done_37 q31.1 (zkd_eta q31.2.1) q31.2.2 ?_
      refine zw_goto (tgt := 42) d_M_done_38 rfl ?_
      refine zw_le (ls' := [some (.ref a0), none, some (.int ((7 : Int32) * a1)), none]) (And.intro rfl (And.intro rfl True.intro)) ?_
      exact w_M_done_42 hr h
theorem c_M_done {l : Launch} {D : va_G} {cA : Nat → ClassId} {base n : Nat} {ex : Bool} {Q : zS → Prop} {a0 : Nat} {a1 : Int32} {σ : zS} (h : P_M_done n a0 a1 σ Q) : zM l y_M_done prog_9_method_51_code 4 (none) 2 0 0 (zA base) D cA base n n ex [.ref a0, .int a1] σ (zqv Q) :=
  zMet (by decide) rfl (Nat.le_of_ble_eq_true rfl) (fun p e s m args below meth c hr hnm => w_M_done hr h)
def P_F_rewriteOperand_41 (n : Nat) (Q : zS → Prop) (σ : zS) : Prop := Q σ
set_option maxHeartbeats 1000000 in
set_option maxRecDepth 10000 in
theorem w_F_rewriteOperand_41 {Q : zS → Prop} (hr : meth.sig.returnType = none) {σ : zS} (h : P_F_rewriteOperand_41 n Q σ) : zG p l e (zrm 3 0 0) s m args below meth c (MQ below (zQc (zA base) D cA base n ex (zqv Q)) args s 0 0 (zA base)) s.heap (zA base) base D cA 4 ex prog_2_method_14_code "ConstantFlow$Facts" n 0 0 41 [none, none, none, none] [] σ := by
  unfold P_F_rewriteOperand_41 at h
  exact zw_vret d_F_rewriteOperand_41 hr h
def P_F_rewriteOperand (n : Nat) (a0 : Nat) (a1 : Nat) (a2 : Int32) (a3 : Nat) (σ : zS) (Q : zS → Prop) : Prop := zk n a0 3 ∧ ∃ c2, zr σ a0 5 = some c2 ∧ zk n c2 4 ∧ P_V_knows n c2 a1 a2 σ (fun x4 σ5 => ((x4 = 0 → zk n a1 6 ∧ ∃ c8, zr σ5 a1 6 = some c8 ∧ za n c8 10 a2 ∧ zk n a3 1 ∧ P_T_append n a3 ((97 : Int32) + (zi σ5 c8 a2.toNatClampNeg)) σ5 (fun σ12 => P_F_rewriteOperand_41 n Q σ12)) ∧ (¬ (x4 = 0) → ∃ c14, zr σ5 a0 5 = some c14 ∧ zk n c14 4 ∧ P_V_numberOf n c14 a1 a2 σ5 (fun x16 σ17 => zk n a3 1 ∧ P_T_appendNumber n a3 x16 σ17 (fun σ20 => P_F_rewriteOperand_41 n Q σ20)))))
set_option maxHeartbeats 1000000 in
set_option maxRecDepth 10000 in
theorem w_F_rewriteOperand {Q : zS → Prop} (hr : meth.sig.returnType = none) {a0 : Nat} {a1 : Nat} {a2 : Int32} {a3 : Nat} {σ : zS} (h : P_F_rewriteOperand n a0 a1 a2 a3 σ Q) : zG p l e (zrm 3 0 0) s m args below meth c (MQ below (zQc (zA base) D cA base n ex (zqv Q)) args s 0 0 (zA base)) s.heap (zA base) base D cA 4 ex prog_2_method_14_code "ConstantFlow$Facts" n 0 0 0 [some (.ref a0), some (.ref a1), some (.int a2), some (.ref a3)] [] σ := by
  unfold P_F_rewriteOperand at h
  refine zw_aload_n d_F_rewriteOperand_0 rfl rfl ?_
  obtain ⟨q1, h⟩ := h
  obtain ⟨c2, q3, h⟩ := h
  refine zw_gfr (ci := 3) (j := 5) d_F_rewriteOperand_1 mw_1_101 q1.1 q1.2 (by decide) (by decide) rfl q3 ?_
  refine zw_aload_n d_F_rewriteOperand_4 rfl rfl ?_
  refine zw_iload_n d_F_rewriteOperand_5 rfl rfl ?_
  obtain ⟨q6, h⟩ := h
  refine zw_callV (ci := 4) (b := c2) (As := [.ref a1, .int a2]) (r := []) d_F_rewriteOperand_6 (c_V_knows h) mw_2_23 mw_2_2 mw_2_3 mw_1_5 mw_2_4 (by decide) q6.1 q6.2 hyV_V_knows (Nat.le_of_ble_eq_true rfl) (Nat.le_of_ble_eq_true rfl) ⟨(Nat.le_of_ble_eq_true rfl), (Nat.le_of_ble_eq_true rfl)⟩ (Nat.le_of_ble_eq_true rfl) rfl (zk_i (fun x4 σ5 h => ?_))
  obtain ⟨ht, hf⟩ := h
  refine zw_if_eq (tgt := 28) d_F_rewriteOperand_9 rfl (fun hc => ?_) (fun hc => ?_)
  · have h := ht hc; clear ht hf
    refine zw_aload_n d_F_rewriteOperand_28 rfl rfl ?_
    refine zw_bipush (v := 97) d_F_rewriteOperand_29 rfl ?_
    refine zw_aload_n d_F_rewriteOperand_31 rfl rfl ?_
    obtain ⟨q7, h⟩ := h
    obtain ⟨c8, q9, h⟩ := h
    refine zw_gfrN (ci := 6) (j := 6) d_F_rewriteOperand_32 mw_1_177 q7.1 q7.2 (by decide) (by decide) rfl q9 ?_
    refine zw_iload_n d_F_rewriteOperand_35 rfl rfl ?_
    obtain ⟨q10, h⟩ := h
    refine zw_iald d_F_rewriteOperand_36 q10.1 (zkd_eta q10.2.1) q10.2.2 ?_
    refine zw_iadd d_F_rewriteOperand_37 ?_
    obtain ⟨q13, h⟩ := h
    refine zw_callV (ci := 1) (b := a3) (As := [.int ((97 : Int32) + (zi σ5 c8 a2.toNatClampNeg))]) (r := []) d_F_rewriteOperand_38 (c_T_append h) mw_2_180 mw_2_181 mw_2_182 mw_1_2 mw_2_183 (by decide) q13.1 q13.2 hyV_T_append (Nat.le_of_ble_eq_true rfl) (Nat.le_of_ble_eq_true rfl) ⟨(Nat.le_of_ble_eq_true rfl), (Nat.le_of_ble_eq_true rfl)⟩ (Nat.le_of_ble_eq_true rfl) rfl (zk_v (fun σ12 h => ?_))
    refine zw_le (ls' := [none, none, none, none]) (True.intro) ?_
    exact w_F_rewriteOperand_41 hr h
  · have h := hf hc; clear ht hf
    refine zw_aload_n d_F_rewriteOperand_12 rfl rfl ?_
    refine zw_aload_n d_F_rewriteOperand_13 rfl rfl ?_
    obtain ⟨c14, q15, h⟩ := h
    refine zw_gfr (ci := 3) (j := 5) d_F_rewriteOperand_14 mw_1_101 q1.1 q1.2 (by decide) (by decide) rfl q15 ?_
    refine zw_aload_n d_F_rewriteOperand_17 rfl rfl ?_
    refine zw_iload_n d_F_rewriteOperand_18 rfl rfl ?_
    obtain ⟨q18, h⟩ := h
    refine zw_callV (ci := 4) (b := c14) (As := [.ref a1, .int a2]) (r := [.ref a3]) d_F_rewriteOperand_19 (c_V_numberOf h) mw_2_35 mw_2_6 mw_2_7 mw_1_5 mw_2_8 (by decide) q18.1 q18.2 hyV_V_numberOf (Nat.le_of_ble_eq_true rfl) (Nat.le_of_ble_eq_true rfl) ⟨(Nat.le_of_ble_eq_true rfl), (Nat.le_of_ble_eq_true rfl)⟩ (Nat.le_of_ble_eq_true rfl) rfl (zk_i (fun x16 σ17 h => ?_))
    obtain ⟨q21, h⟩ := h
    refine zw_callV (ci := 1) (b := a3) (As := [.int x16]) (r := []) d_F_rewriteOperand_22 (c_T_appendNumber h) mw_2_189 mw_2_190 mw_2_191 mw_1_2 mw_2_192 (by decide) q21.1 q21.2 hyV_T_appendNumber (Nat.le_of_ble_eq_true rfl) (Nat.le_of_ble_eq_true rfl) ⟨(Nat.le_of_ble_eq_true rfl), (Nat.le_of_ble_eq_true rfl)⟩ (Nat.le_of_ble_eq_true rfl) rfl (zk_v (fun σ20 h => ?_))
    refine zw_goto (tgt := 41) d_F_rewriteOperand_25 rfl ?_
    refine zw_le (ls' := [none, none, none, none]) (True.intro) ?_
    exact w_F_rewriteOperand_41 hr h
theorem c_F_rewriteOperand {l : Launch} {D : va_G} {cA : Nat → ClassId} {base n : Nat} {ex : Bool} {Q : zS → Prop} {a0 : Nat} {a1 : Nat} {a2 : Int32} {a3 : Nat} {σ : zS} (h : P_F_rewriteOperand n a0 a1 a2 a3 σ Q) : zM l y_F_rewriteOperand prog_2_method_14_code 4 (none) 3 0 0 (zA base) D cA base n n ex [.ref a0, .ref a1, .int a2, .ref a3] σ (zqv Q) :=
  zMet (by decide) rfl (Nat.le_of_ble_eq_true rfl) (fun p e s m args below meth c hr hnm => w_F_rewriteOperand hr h)
def P_G_goalFor_31 (n : Nat) (Q : Int32 → zS → Prop) (b0 : Nat) (b1 : Int32) (b2 : Int32) (σ : zS) : Prop := zk n b0 6 ∧ P_G_goal n b0 b1 b2 σ (fun x1 σ2 => Q x1 σ2)
set_option maxHeartbeats 1000000 in
set_option maxRecDepth 10000 in
theorem w_G_goalFor_31 {Q : Int32 → zS → Prop} (hr : meth.sig.returnType = some .int) {b0 : Nat} {b1 : Int32} {b2 : Int32} {σ : zS} (h : P_G_goalFor_31 n Q b0 b1 b2 σ) : zG p l e (zrm 3 0 0) s m args below meth c (MQ below (zQc (zA base) D cA base n ex (zqi Q)) args s 0 0 (zA base)) s.heap (zA base) base D cA 4 ex prog_4_method_10_code "ConstantFlow$Program" n 0 0 31 [none, none, none, none] [.int b2, .int b1, .ref b0] σ := by
  unfold P_G_goalFor_31 at h
  obtain ⟨q3, h⟩ := h
  refine zw_callV (ci := 6) (b := b0) (As := [.int b1, .int b2]) (r := []) d_G_goalFor_31 (c_G_goal h) mw_2_40 mw_2_25 mw_2_26 mw_1_7 mw_2_27 (by decide) q3.1 q3.2 hyV_G_goal (Nat.le_of_ble_eq_true rfl) (Nat.le_of_ble_eq_true rfl) ⟨(Nat.le_of_ble_eq_true rfl), (Nat.le_of_ble_eq_true rfl)⟩ (Nat.le_of_ble_eq_true rfl) rfl (zk_i (fun x1 σ2 h => ?_))
  exact zw_iret d_G_goalFor_34 hr h
def P_G_goalFor_19 (n : Nat) (Q : Int32 → zS → Prop) (a0 : Nat) (a1 : Int32) (b0 : Int32) (σ : zS) : Prop := ((b0 = 0 → P_G_goalFor_31 n Q a0 a1 (0 : Int32) σ) ∧ (¬ (b0 = 0) → P_G_goalFor_31 n Q a0 a1 (1 : Int32) σ))
set_option maxHeartbeats 1000000 in
set_option maxRecDepth 10000 in
theorem w_G_goalFor_19 {Q : Int32 → zS → Prop} (hr : meth.sig.returnType = some .int) {a0 : Nat} {a1 : Int32} {b0 : Int32} {σ : zS} (h : P_G_goalFor_19 n Q a0 a1 b0 σ) : zG p l e (zrm 3 0 0) s m args below meth c (MQ below (zQc (zA base) D cA base n ex (zqi Q)) args s 0 0 (zA base)) s.heap (zA base) base D cA 4 ex prog_4_method_10_code "ConstantFlow$Program" n 0 0 19 [some (.ref a0), some (.int a1), none, none] [.int b0] σ := by
  unfold P_G_goalFor_19 at h
  refine zw_istore_n d_G_goalFor_19 rfl (Nat.le_of_ble_eq_true rfl) rfl rfl ?_
  refine zw_aload_n d_G_goalFor_20 rfl rfl ?_
  refine zw_iload_n d_G_goalFor_21 rfl rfl ?_
  refine zw_iload_n d_G_goalFor_22 rfl rfl ?_
  obtain ⟨ht, hf⟩ := h
  refine zw_if_eq (tgt := 30) d_G_goalFor_23 rfl (fun hc => ?_) (fun hc => ?_)
  · have h := ht hc; clear ht hf
    refine zw_iconst (v := 0) d_G_goalFor_30 rfl ?_
    refine zw_le (ls' := [none, none, none, none]) (True.intro) ?_
    exact w_G_goalFor_31 hr h
  · have h := hf hc; clear ht hf
    refine zw_iconst (v := 1) d_G_goalFor_26 rfl ?_
    refine zw_goto (tgt := 31) d_G_goalFor_27 rfl ?_
    refine zw_le (ls' := [none, none, none, none]) (True.intro) ?_
    exact w_G_goalFor_31 hr h
def P_G_goalFor_18 (n : Nat) (Q : Int32 → zS → Prop) (a0 : Nat) (a1 : Int32) (σ : zS) : Prop := P_G_goalFor_19 n Q a0 a1 (0 : Int32) σ
set_option maxHeartbeats 1000000 in
set_option maxRecDepth 10000 in
theorem w_G_goalFor_18 {Q : Int32 → zS → Prop} (hr : meth.sig.returnType = some .int) {a0 : Nat} {a1 : Int32} {σ : zS} (h : P_G_goalFor_18 n Q a0 a1 σ) : zG p l e (zrm 3 0 0) s m args below meth c (MQ below (zQc (zA base) D cA base n ex (zqi Q)) args s 0 0 (zA base)) s.heap (zA base) base D cA 4 ex prog_4_method_10_code "ConstantFlow$Program" n 0 0 18 [some (.ref a0), some (.int a1), none, none] [] σ := by
  unfold P_G_goalFor_18 at h
  refine zw_iconst (v := 0) d_G_goalFor_18 rfl ?_
  exact w_G_goalFor_19 hr h
def P_G_goalFor (n : Nat) (a0 : Nat) (a1 : Int32) (a2 : Int32) (σ : zS) (Q : Int32 → zS → Prop) : Prop := zk n a0 6 ∧ ∃ c2, zr σ a0 7 = some c2 ∧ za n c2 10 a1 ∧ ((¬ (zi σ c2 a1.toNatClampNeg) = (2 : Int32) → P_G_goalFor_18 n Q a0 a1 σ) ∧ ((zi σ c2 a1.toNatClampNeg) = (2 : Int32) → ((¬ a2 = 0 → P_G_goalFor_18 n Q a0 a1 σ) ∧ (a2 = 0 → P_G_goalFor_19 n Q a0 a1 (1 : Int32) σ))))
set_option maxHeartbeats 1000000 in
set_option maxRecDepth 10000 in
theorem w_G_goalFor {Q : Int32 → zS → Prop} (hr : meth.sig.returnType = some .int) {a0 : Nat} {a1 : Int32} {a2 : Int32} {σ : zS} (h : P_G_goalFor n a0 a1 a2 σ Q) : zG p l e (zrm 3 0 0) s m args below meth c (MQ below (zQc (zA base) D cA base n ex (zqi Q)) args s 0 0 (zA base)) s.heap (zA base) base D cA 4 ex prog_4_method_10_code "ConstantFlow$Program" n 0 0 0 [some (.ref a0), some (.int a1), some (.int a2), none] [] σ := by
  unfold P_G_goalFor at h
  refine zw_aload_n d_G_goalFor_0 rfl rfl ?_
  obtain ⟨q1, h⟩ := h
  obtain ⟨c2, q3, h⟩ := h
  refine zw_gfr (ci := 6) (j := 7) d_G_goalFor_1 mw_1_178 q1.1 q1.2 (by decide) (by decide) rfl q3 ?_
  refine zw_iload_n d_G_goalFor_4 rfl rfl ?_
  obtain ⟨q4, h⟩ := h
  refine zw_iald d_G_goalFor_5 q4.1 (zkd_eta q4.2.1) q4.2.2 ?_
  refine zw_iconst (v := 2) d_G_goalFor_6 rfl ?_
  obtain ⟨ht, hf⟩ := h
  refine zw_icmp_ne (tgt := 18) d_G_goalFor_7 rfl (fun hc => ?_) (fun hc => ?_)
  · have h := ht hc; clear ht hf
    refine zw_le (ls' := [some (.ref a0), some (.int a1), none, none]) (And.intro rfl (And.intro rfl True.intro)) ?_
    exact w_G_goalFor_18 hr h
  · have h := hf hc; clear ht hf
    refine zw_iload_n d_G_goalFor_10 rfl rfl ?_
    obtain ⟨ht, hf⟩ := h
    refine zw_if_ne (tgt := 18) d_G_goalFor_11 rfl (fun hc => ?_) (fun hc => ?_)
    · have h := ht hc; clear ht hf
      refine zw_le (ls' := [some (.ref a0), some (.int a1), none, none]) (And.intro rfl (And.intro rfl True.intro)) ?_
      exact w_G_goalFor_18 hr h
    · have h := hf hc; clear ht hf
      refine zw_iconst (v := 1) d_G_goalFor_14 rfl ?_
      refine zw_goto (tgt := 19) d_G_goalFor_15 rfl ?_
      refine zw_le (ls' := [some (.ref a0), some (.int a1), none, none]) (And.intro rfl (And.intro rfl True.intro)) ?_
      exact w_G_goalFor_19 hr h
theorem c_G_goalFor {l : Launch} {D : va_G} {cA : Nat → ClassId} {base n : Nat} {ex : Bool} {Q : Int32 → zS → Prop} {a0 : Nat} {a1 : Int32} {a2 : Int32} {σ : zS} (h : P_G_goalFor n a0 a1 a2 σ Q) : zM l y_G_goalFor prog_4_method_10_code 4 (some .int) 3 0 0 (zA base) D cA base n n ex [.ref a0, .int a1, .int a2] σ (zqi Q) :=
  zMet (by decide) rfl (Nat.le_of_ble_eq_true rfl) (fun p e s m args below meth c hr hnm => w_G_goalFor hr h)
def P_R_fillGoal (n : Nat) (a0 : Nat) (a1 : Int32) (σ : zS) (Q : Int32 → zS → Prop) : Prop := zk n a0 2 ∧ ∃ c2, zr σ a0 2 = some c2 ∧ zk n c2 6 ∧ P_G_goalSlot n (zi σ c2 0) a1 σ (fun x5 σ6 => P_R_next n a0 σ6 (fun x7 σ8 => ∃ c9, zr σ8 a0 1 = some c9 ∧ za n c9 10 x5 ∧ P_R_passNumber n a0 (0 : Int32) (zI σ8 c9 x5.toNatClampNeg (zi σ8 a0 3)) (fun x12 σ13 => ((¬ x12 = 0 → ∃ c14, zr σ13 a0 2 = some c14 ∧ zk n c14 6 ∧ ∃ c17, zr σ13 c14 8 = some c17 ∧ za n c17 10 x5 ∧ ((1 : Int32) = 0 ∨ (1 : Int32) = 1) ∧ Q (1 : Int32) (zI σ13 c17 x5.toNatClampNeg (zi σ13 a0 4))) ∧ (x12 = 0 → ((0 : Int32) = 0 ∨ (0 : Int32) = 1) ∧ Q (0 : Int32) σ13)))))
set_option maxHeartbeats 1000000 in
set_option maxRecDepth 10000 in
theorem w_R_fillGoal {Q : Int32 → zS → Prop} (hr : meth.sig.returnType = some .boolean) {a0 : Nat} {a1 : Int32} {σ : zS} (h : P_R_fillGoal n a0 a1 σ Q) : zG p l e (zrm 3 0 0) s m args below meth c (MQ below (zQc (zA base) D cA base n ex (zqi Q)) args s 0 0 (zA base)) s.heap (zA base) base D cA 3 ex prog_5_method_10_code "ConstantFlow$Reader" n 0 0 0 [some (.ref a0), some (.int a1), none] [] σ := by
  unfold P_R_fillGoal at h
  refine zw_aload_n d_R_fillGoal_0 rfl rfl ?_
  obtain ⟨q1, h⟩ := h
  obtain ⟨c2, q3, h⟩ := h
  refine zw_gfr (ci := 2) (j := 2) d_R_fillGoal_1 mw_1_49 q1.1 q1.2 (by decide) (by decide) rfl q3 ?_
  obtain ⟨q4, h⟩ := h
  refine zw_gfiN (ci := 6) (j := 0) d_R_fillGoal_4 mw_1_154 q4.1 q4.2 (by decide) (by decide) rfl ?_
  refine zw_iload_n d_R_fillGoal_7 rfl rfl ?_
  refine zw_callS (As := [.int (zi σ c2 0), .int a1]) (r := []) d_R_fillGoal_8 (c_G_goalSlot h) mw_2_150 mw_2_29 mw_1_7 mw_2_30 hyS_G_goalSlot (Nat.le_of_ble_eq_true rfl) (Nat.le_of_ble_eq_true rfl) ⟨(Nat.le_of_ble_eq_true rfl), (Nat.le_of_ble_eq_true rfl)⟩ (Nat.le_of_ble_eq_true rfl) rfl (zk_i (fun x5 σ6 h => ?_))
  refine zw_istore_n d_R_fillGoal_11 rfl (Nat.le_of_ble_eq_true rfl) rfl rfl ?_
  refine zw_aload_n d_R_fillGoal_12 rfl rfl ?_
  refine zw_callV (ci := 2) (b := a0) (As := []) (r := []) d_R_fillGoal_13 (c_R_next h) mw_2_92 mw_2_94 mp_1_8 mw_1_3 mw_2_95 (by decide) q1.1 q1.2 hyV_R_next (Nat.le_of_ble_eq_true rfl) (Nat.le_of_ble_eq_true rfl) ⟨(Nat.le_of_ble_eq_true rfl), (Nat.le_of_ble_eq_true rfl)⟩ (Nat.le_of_ble_eq_true rfl) rfl (zk_i (fun x7 σ8 h => ?_))
  refine zw_pop d_R_fillGoal_16 rfl ?_
  refine zw_aload_n d_R_fillGoal_17 rfl rfl ?_
  obtain ⟨c9, q10, h⟩ := h
  refine zw_gfr (ci := 2) (j := 1) d_R_fillGoal_18 mw_1_48 q1.1 q1.2 (by decide) (by decide) rfl q10 ?_
  refine zw_iload_n d_R_fillGoal_21 rfl rfl ?_
  refine zw_aload_n d_R_fillGoal_22 rfl rfl ?_
  refine zw_gfi (ci := 2) (j := 3) d_R_fillGoal_23 mw_1_50 q1.1 q1.2 (by decide) (by decide) rfl ?_
  obtain ⟨q11, h⟩ := h
  refine zw_iast d_R_fillGoal_26 q11.1 (zkd_eta q11.2.1) q11.2.2 ?_
  refine zw_aload_n d_R_fillGoal_27 rfl rfl ?_
  refine zw_iconst (v := 0) d_R_fillGoal_28 rfl ?_
  refine zw_callV (ci := 2) (b := a0) (As := [.int (0 : Int32)]) (r := []) d_R_fillGoal_29 (c_R_passNumber h) mw_2_124 mw_2_126 mp_1_13 mw_1_3 mw_2_127 (by decide) q1.1 q1.2 hyV_R_passNumber (Nat.le_of_ble_eq_true rfl) (Nat.le_of_ble_eq_true rfl) ⟨(Nat.le_of_ble_eq_true rfl), (Nat.le_of_ble_eq_true rfl)⟩ (Nat.le_of_ble_eq_true rfl) rfl (zk_i (fun x12 σ13 h => ?_))
  obtain ⟨ht, hf⟩ := h
  refine zw_if_ne (tgt := 37) d_R_fillGoal_32 rfl (fun hc => ?_) (fun hc => ?_)
  · have h := ht hc; clear ht hf
    refine zw_aload_n d_R_fillGoal_37 rfl rfl ?_
    obtain ⟨c14, q15, h⟩ := h
    refine zw_gfr (ci := 2) (j := 2) d_R_fillGoal_38 mw_1_49 q1.1 q1.2 (by decide) (by decide) rfl q15 ?_
    obtain ⟨q16, h⟩ := h
    obtain ⟨c17, q18, h⟩ := h
    refine zw_gfrN (ci := 6) (j := 8) d_R_fillGoal_41 mw_1_183 q16.1 q16.2 (by decide) (by decide) rfl q18 ?_
    refine zw_iload_n d_R_fillGoal_44 rfl rfl ?_
    refine zw_aload_n d_R_fillGoal_45 rfl rfl ?_
    refine zw_gfi (ci := 2) (j := 4) d_R_fillGoal_46 mw_1_51 q1.1 q1.2 (by decide) (by decide) rfl ?_
    obtain ⟨q19, h⟩ := h
    refine zw_iast d_R_fillGoal_49 q19.1 (zkd_eta q19.2.1) q19.2.2 ?_
    refine zw_iconst (v := 1) d_R_fillGoal_50 rfl ?_
    obtain ⟨q20, h⟩ := h
    exact zw_zret d_R_fillGoal_51 hr q20 h
  · have h := hf hc; clear ht hf
    refine zw_iconst (v := 0) d_R_fillGoal_35 rfl ?_
    obtain ⟨q21, h⟩ := h
    exact zw_zret d_R_fillGoal_36 hr q21 h
theorem c_R_fillGoal {l : Launch} {D : va_G} {cA : Nat → ClassId} {base n : Nat} {ex : Bool} {Q : Int32 → zS → Prop} {a0 : Nat} {a1 : Int32} {σ : zS} (h : P_R_fillGoal n a0 a1 σ Q) : zM l y_R_fillGoal prog_5_method_10_code 3 (some .boolean) 3 0 0 (zA base) D cA base n n ex [.ref a0, .int a1] σ (zqi Q) :=
  zMet (by decide) rfl (Nat.le_of_ble_eq_true rfl) (fun p e s m args below meth c hr hnm => w_R_fillGoal hr h)
def P_R_allGoalsThere_15 (n : Nat) (Q : Int32 → zS → Prop) (K2 : Nat → Int32 → zS → Prop) : Nat → Nat → Int32 → Int32 → zS → Prop
  | 0, _, _, _, _ => False
  | f + 1, a0, a1, a2, σ => zk n a0 2 ∧ ∃ c2, zr σ a0 2 = some c2 ∧ zk n c2 6 ∧ ∃ c5, zr σ c2 7 = some c5 ∧ za n c5 10 a1 ∧ (((zi σ c5 a1.toNatClampNeg) ≤ a2 → K2 a0 (a1 + (1 : Int32)) σ) ∧ (¬ ((zi σ c5 a1.toNatClampNeg) ≤ a2) → ∃ c8, zr σ a0 2 = some c8 ∧ zk n c8 6 ∧ P_G_goal n c8 a1 a2 σ (fun x10 σ11 => ∃ c13, zr σ11 a0 2 = some c13 ∧ zk n c13 6 ∧ ((x10 < (zi σ11 c13 0) → P_R_allGoalsThere_15 n Q K2 f a0 a1 (a2 + (1 : Int32)) σ11) ∧ (¬ (x10 < (zi σ11 c13 0)) → ∃ c16, zr σ11 a0 1 = some c16 ∧ P_G_goalSlot n a1 a2 σ11 (fun x18 σ19 => za n c16 10 x18 ∧ P_R_refuse n a0 (4 : Int32) (zi σ19 c16 x18.toNatClampNeg) σ19 (fun x21 σ22 => (x21 = 0 ∨ x21 = 1) ∧ Q x21 σ22)))))))
set_option maxHeartbeats 1000000 in
set_option maxRecDepth 10000 in
theorem w_R_allGoalsThere_15 {Q : Int32 → zS → Prop} {K2 : Nat → Int32 → zS → Prop} (hr : meth.sig.returnType = some .boolean) (hK2 : ∀ (a0 : Nat) (a1 : Int32) (σ : zS), K2 a0 a1 σ → zG p l e (zrm 3 0 0) s m args below meth c (MQ below (zQc (zA base) D cA base n ex (zqi Q)) args s 0 0 (zA base)) s.heap (zA base) base D cA 3 ex prog_5_method_12_code "ConstantFlow$Reader" n 0 0 2 [some (.ref a0), some (.int a1), none] [] σ) : ∀ (f : Nat) (a0 : Nat) (a1 : Int32) (a2 : Int32) (σ : zS), P_R_allGoalsThere_15 n Q K2 f a0 a1 a2 σ → zG p l e (zrm 3 0 0) s m args below meth c (MQ below (zQc (zA base) D cA base n ex (zqi Q)) args s 0 0 (zA base)) s.heap (zA base) base D cA 3 ex prog_5_method_12_code "ConstantFlow$Reader" n 0 0 15 [some (.ref a0), some (.int a1), some (.int a2)] [] σ := by
  intro f
  induction f with
  | zero => intro a0 a1 a2 σ h; exact False.elim h
  | succ f ih =>
    intro a0 a1 a2 σ h
    refine zw_iload_n d_R_allGoalsThere_15 rfl rfl ?_
    refine zw_aload_n d_R_allGoalsThere_16 rfl rfl ?_
    obtain ⟨q1, h⟩ := h
    obtain ⟨c2, q3, h⟩ := h
    refine zw_gfr (ci := 2) (j := 2) d_R_allGoalsThere_17 mw_1_49 q1.1 q1.2 (by decide) (by decide) rfl q3 ?_
    obtain ⟨q4, h⟩ := h
    obtain ⟨c5, q6, h⟩ := h
    refine zw_gfrN (ci := 6) (j := 7) d_R_allGoalsThere_20 mw_1_181 q4.1 q4.2 (by decide) (by decide) rfl q6 ?_
    refine zw_iload_n d_R_allGoalsThere_23 rfl rfl ?_
    obtain ⟨q7, h⟩ := h
    refine zw_iald d_R_allGoalsThere_24 q7.1 (zkd_eta q7.2.1) q7.2.2 ?_
    obtain ⟨ht, hf⟩ := h
    refine zw_icmp_ge (tgt := 69) d_R_allGoalsThere_25 rfl (fun hc => ?_) (fun hc => ?_)
    · have h := ht hc; clear ht hf
      refine zw_iinc (v := (a1 + (1 : Int32))) d_R_allGoalsThere_69 rfl rfl (Nat.le_of_ble_eq_true rfl) rfl rfl ?_
      refine zw_goto (tgt := 2) d_R_allGoalsThere_72 rfl ?_
      refine zw_le (ls' := [some (.ref a0), some (.int (a1 + (1 : Int32))), none]) (And.intro rfl (And.intro rfl True.intro)) ?_
      exact hK2 _ _ _ h
    · have h := hf hc; clear ht hf
      refine zw_aload_n d_R_allGoalsThere_28 rfl rfl ?_
      obtain ⟨c8, q9, h⟩ := h
      refine zw_gfr (ci := 2) (j := 2) d_R_allGoalsThere_29 mw_1_49 q1.1 q1.2 (by decide) (by decide) rfl q9 ?_
      refine zw_iload_n d_R_allGoalsThere_32 rfl rfl ?_
      refine zw_iload_n d_R_allGoalsThere_33 rfl rfl ?_
      obtain ⟨q12, h⟩ := h
      refine zw_callV (ci := 6) (b := c8) (As := [.int a1, .int a2]) (r := []) d_R_allGoalsThere_34 (c_G_goal h) mw_2_159 mw_2_25 mw_2_26 mw_1_7 mw_2_27 (by decide) q12.1 q12.2 hyV_G_goal (Nat.le_of_ble_eq_true rfl) (Nat.le_of_ble_eq_true rfl) ⟨(Nat.le_of_ble_eq_true rfl), (Nat.le_of_ble_eq_true rfl)⟩ (Nat.le_of_ble_eq_true rfl) rfl (zk_i (fun x10 σ11 h => ?_))
      refine zw_aload_n d_R_allGoalsThere_37 rfl rfl ?_
      obtain ⟨c13, q14, h⟩ := h
      refine zw_gfr (ci := 2) (j := 2) d_R_allGoalsThere_38 mw_1_49 q1.1 q1.2 (by decide) (by decide) rfl q14 ?_
      obtain ⟨q15, h⟩ := h
      refine zw_gfiN (ci := 6) (j := 0) d_R_allGoalsThere_41 mw_1_154 q15.1 q15.2 (by decide) (by decide) rfl ?_
      obtain ⟨ht, hf⟩ := h
      refine zw_icmp_lt (tgt := 63) d_R_allGoalsThere_44 rfl (fun hc => ?_) (fun hc => ?_)
      · have h := ht hc; clear ht hf
        refine zw_iinc (v := (a2 + (1 : Int32))) d_R_allGoalsThere_63 rfl rfl (Nat.le_of_ble_eq_true rfl) rfl rfl ?_
        refine zw_goto (tgt := 15) d_R_allGoalsThere_66 rfl ?_
        exact ih _ _ _ _ h
      · have h := hf hc; clear ht hf
        refine zw_aload_n d_R_allGoalsThere_47 rfl rfl ?_
        refine zw_iconst (v := 4) d_R_allGoalsThere_48 rfl ?_
        refine zw_aload_n d_R_allGoalsThere_49 rfl rfl ?_
        obtain ⟨c16, q17, h⟩ := h
        refine zw_gfr (ci := 2) (j := 1) d_R_allGoalsThere_50 mw_1_48 q1.1 q1.2 (by decide) (by decide) rfl q17 ?_
        refine zw_iload_n d_R_allGoalsThere_53 rfl rfl ?_
        refine zw_iload_n d_R_allGoalsThere_54 rfl rfl ?_
        refine zw_callS (As := [.int a1, .int a2]) (r := [.ref c16, .int (4 : Int32), .ref a0]) d_R_allGoalsThere_55 (c_G_goalSlot h) mw_2_150 mw_2_29 mw_1_7 mw_2_30 hyS_G_goalSlot (Nat.le_of_ble_eq_true rfl) (Nat.le_of_ble_eq_true rfl) ⟨(Nat.le_of_ble_eq_true rfl), (Nat.le_of_ble_eq_true rfl)⟩ (Nat.le_of_ble_eq_true rfl) rfl (zk_i (fun x18 σ19 h => ?_))
        obtain ⟨q20, h⟩ := h
        refine zw_iald d_R_allGoalsThere_58 q20.1 (zkd_eta q20.2.1) q20.2.2 ?_
        refine zw_callV (ci := 2) (b := a0) (As := [.int (4 : Int32), .int (zi σ19 c16 x18.toNatClampNeg)]) (r := []) d_R_allGoalsThere_59 (c_R_refuse h) mw_2_103 mw_2_105 mp_1_9 mw_1_3 mw_2_106 (by decide) q1.1 q1.2 hyV_R_refuse (Nat.le_of_ble_eq_true rfl) (Nat.le_of_ble_eq_true rfl) ⟨(Nat.le_of_ble_eq_true rfl), (Nat.le_of_ble_eq_true rfl)⟩ (Nat.le_of_ble_eq_true rfl) rfl (zk_i (fun x21 σ22 h => ?_))
        obtain ⟨q23, h⟩ := h
        exact zw_zret d_R_allGoalsThere_62 hr q23 h
def P_R_allGoalsThere_2 (n : Nat) (Q : Int32 → zS → Prop) : Nat → Nat → Int32 → zS → Prop
  | 0, _, _, _ => False
  | f + 1, a0, a1, σ => zk n a0 2 ∧ ∃ c2, zr σ a0 2 = some c2 ∧ zk n c2 6 ∧ (((zi σ c2 0) ≤ a1 → ((1 : Int32) = 0 ∨ (1 : Int32) = 1) ∧ Q (1 : Int32) σ) ∧ (¬ ((zi σ c2 0) ≤ a1) → ∃ g, P_R_allGoalsThere_15 n Q (fun (a0 : Nat) (a1 : Int32) (σ : zS) => P_R_allGoalsThere_2 n Q f a0 a1 σ) g a0 a1 (0 : Int32) σ))
set_option maxHeartbeats 1000000 in
set_option maxRecDepth 10000 in
theorem w_R_allGoalsThere_2 {Q : Int32 → zS → Prop} (hr : meth.sig.returnType = some .boolean) : ∀ (f : Nat) (a0 : Nat) (a1 : Int32) (σ : zS), P_R_allGoalsThere_2 n Q f a0 a1 σ → zG p l e (zrm 3 0 0) s m args below meth c (MQ below (zQc (zA base) D cA base n ex (zqi Q)) args s 0 0 (zA base)) s.heap (zA base) base D cA 3 ex prog_5_method_12_code "ConstantFlow$Reader" n 0 0 2 [some (.ref a0), some (.int a1), none] [] σ := by
  intro f
  induction f with
  | zero => intro a0 a1 σ h; exact False.elim h
  | succ f ih =>
    intro a0 a1 σ h
    refine zw_iload_n d_R_allGoalsThere_2 rfl rfl ?_
    refine zw_aload_n d_R_allGoalsThere_3 rfl rfl ?_
    obtain ⟨q1, h⟩ := h
    obtain ⟨c2, q3, h⟩ := h
    refine zw_gfr (ci := 2) (j := 2) d_R_allGoalsThere_4 mw_1_49 q1.1 q1.2 (by decide) (by decide) rfl q3 ?_
    obtain ⟨q4, h⟩ := h
    refine zw_gfiN (ci := 6) (j := 0) d_R_allGoalsThere_7 mw_1_154 q4.1 q4.2 (by decide) (by decide) rfl ?_
    obtain ⟨ht, hf⟩ := h
    refine zw_icmp_ge (tgt := 75) d_R_allGoalsThere_10 rfl (fun hc => ?_) (fun hc => ?_)
    · have h := ht hc; clear ht hf
      refine zw_iconst (v := 1) d_R_allGoalsThere_75 rfl ?_
      obtain ⟨q5, h⟩ := h
      exact zw_zret d_R_allGoalsThere_76 hr q5 h
    · have h := hf hc; clear ht hf
      refine zw_iconst (v := 0) d_R_allGoalsThere_13 rfl ?_
      refine zw_istore_n d_R_allGoalsThere_14 rfl (Nat.le_of_ble_eq_true rfl) rfl rfl ?_
      obtain ⟨g, h⟩ := h
      exact w_R_allGoalsThere_15 hr (fun a0 a1 σ hk => ih a0 a1 σ hk) g _ _ _ _ h
def P_R_allGoalsThere (n : Nat) (a0 : Nat) (σ : zS) (Q : Int32 → zS → Prop) : Prop := ∃ g, P_R_allGoalsThere_2 n Q g a0 (0 : Int32) σ
set_option maxHeartbeats 1000000 in
set_option maxRecDepth 10000 in
theorem w_R_allGoalsThere {Q : Int32 → zS → Prop} (hr : meth.sig.returnType = some .boolean) {a0 : Nat} {σ : zS} (h : P_R_allGoalsThere n a0 σ Q) : zG p l e (zrm 3 0 0) s m args below meth c (MQ below (zQc (zA base) D cA base n ex (zqi Q)) args s 0 0 (zA base)) s.heap (zA base) base D cA 3 ex prog_5_method_12_code "ConstantFlow$Reader" n 0 0 0 [some (.ref a0), none, none] [] σ := by
  unfold P_R_allGoalsThere at h
  refine zw_iconst (v := 0) d_R_allGoalsThere_0 rfl ?_
  refine zw_istore_n d_R_allGoalsThere_1 rfl (Nat.le_of_ble_eq_true rfl) rfl rfl ?_
  obtain ⟨g, h⟩ := h
  exact w_R_allGoalsThere_2 hr g _ _ _ h
theorem c_R_allGoalsThere {l : Launch} {D : va_G} {cA : Nat → ClassId} {base n : Nat} {ex : Bool} {Q : Int32 → zS → Prop} {a0 : Nat} {σ : zS} (h : P_R_allGoalsThere n a0 σ Q) : zM l y_R_allGoalsThere prog_5_method_12_code 3 (some .boolean) 3 0 0 (zA base) D cA base n n ex [.ref a0] σ (zqi Q) :=
  zMet (by decide) rfl (Nat.le_of_ble_eq_true rfl) (fun p e s m args below meth c hr hnm => w_R_allGoalsThere hr h)
def P_R_pass (n : Nat) (a0 : Nat) (a1 : Int32) (σ : zS) (Q : Int32 → zS → Prop) : Prop := zk n a0 2 ∧ P_R_next n a0 σ (fun x1 σ2 => ((x1 = a1 → ((1 : Int32) = 0 ∨ (1 : Int32) = 1) ∧ Q (1 : Int32) (zI σ2 a0 3 ((zi σ2 a0 3) + (1 : Int32)))) ∧ (¬ (x1 = a1) → P_R_refuse n a0 (1 : Int32) (zi σ2 a0 3) σ2 (fun x5 σ6 => (x5 = 0 ∨ x5 = 1) ∧ Q x5 σ6))))
set_option maxHeartbeats 1000000 in
set_option maxRecDepth 10000 in
theorem w_R_pass {Q : Int32 → zS → Prop} (hr : meth.sig.returnType = some .boolean) {a0 : Nat} {a1 : Int32} {σ : zS} (h : P_R_pass n a0 a1 σ Q) : zG p l e (zrm 3 0 0) s m args below meth c (MQ below (zQc (zA base) D cA base n ex (zqi Q)) args s 0 0 (zA base)) s.heap (zA base) base D cA 2 ex prog_5_method_5_code "ConstantFlow$Reader" n 0 0 0 [some (.ref a0), some (.int a1)] [] σ := by
  unfold P_R_pass at h
  refine zw_aload_n d_R_pass_0 rfl rfl ?_
  obtain ⟨q3, h⟩ := h
  refine zw_callV (ci := 2) (b := a0) (As := []) (r := []) d_R_pass_1 (c_R_next h) mw_2_92 mw_2_94 mp_1_8 mw_1_3 mw_2_95 (by decide) q3.1 q3.2 hyV_R_next (Nat.le_of_ble_eq_true rfl) (Nat.le_of_ble_eq_true rfl) ⟨(Nat.le_of_ble_eq_true rfl), (Nat.le_of_ble_eq_true rfl)⟩ (Nat.le_of_ble_eq_true rfl) rfl (zk_i (fun x1 σ2 h => ?_))
  refine zw_iload_n d_R_pass_4 rfl rfl ?_
  obtain ⟨ht, hf⟩ := h
  refine zw_icmp_eq (tgt := 18) d_R_pass_5 rfl (fun hc => ?_) (fun hc => ?_)
  · have h := ht hc; clear ht hf
    refine zw_aload_n d_R_pass_18 rfl rfl ?_
    refine zw_dup d_R_pass_19 rfl ?_
    refine zw_gfi (ci := 2) (j := 3) d_R_pass_20 mw_1_50 q3.1 q3.2 (by decide) (by decide) rfl ?_
    refine zw_iconst (v := 1) d_R_pass_23 rfl ?_
    refine zw_iadd d_R_pass_24 ?_
    refine zw_pfi (ci := 2) (j := 3) d_R_pass_25 mw_1_50 q3.1 q3.2 (by decide) (by decide) rfl rfl rfl rfl ?_
    refine zw_iconst (v := 1) d_R_pass_28 rfl ?_
    obtain ⟨q4, h⟩ := h
    exact zw_zret d_R_pass_29 hr q4 h
  · have h := hf hc; clear ht hf
    refine zw_aload_n d_R_pass_8 rfl rfl ?_
    refine zw_iconst (v := 1) d_R_pass_9 rfl ?_
    refine zw_aload_n d_R_pass_10 rfl rfl ?_
    refine zw_gfi (ci := 2) (j := 3) d_R_pass_11 mw_1_50 q3.1 q3.2 (by decide) (by decide) rfl ?_
    refine zw_callV (ci := 2) (b := a0) (As := [.int (1 : Int32), .int (zi σ2 a0 3)]) (r := []) d_R_pass_14 (c_R_refuse h) mw_2_103 mw_2_105 mp_1_9 mw_1_3 mw_2_106 (by decide) q3.1 q3.2 hyV_R_refuse (Nat.le_of_ble_eq_true rfl) (Nat.le_of_ble_eq_true rfl) ⟨(Nat.le_of_ble_eq_true rfl), (Nat.le_of_ble_eq_true rfl)⟩ (Nat.le_of_ble_eq_true rfl) rfl (zk_i (fun x5 σ6 h => ?_))
    obtain ⟨q7, h⟩ := h
    exact zw_zret d_R_pass_17 hr q7 h
theorem c_R_pass {l : Launch} {D : va_G} {cA : Nat → ClassId} {base n : Nat} {ex : Bool} {Q : Int32 → zS → Prop} {a0 : Nat} {a1 : Int32} {σ : zS} (h : P_R_pass n a0 a1 σ Q) : zM l y_R_pass prog_5_method_5_code 2 (some .boolean) 3 0 0 (zA base) D cA base n n ex [.ref a0, .int a1] σ (zqi Q) :=
  zMet (by decide) rfl (Nat.le_of_ble_eq_true rfl) (fun p e s m args below meth c hr hnm => w_R_pass hr h)
end
