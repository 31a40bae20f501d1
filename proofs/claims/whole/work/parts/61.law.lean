/-! THE CLAIM OUT OF ONE WALK OF THE LAW'S BODY. Your part is whole_start (and what it stands on); all else here is the same for every law, but numbers. -/
def R_law : String := "ConstantFlowLaw"
def lw_P (b : Addr) (xs : List Int32) (args : Array Value) (s : State) : Prop := args = #[.ref b] ∧ s.IntsAt b xs ∧ xs.length ≤ 2048 ∧ (Jvm.Cond.and given_1 narrow_1).before args s = true
def lw_Q (_ : Array Value) (s : State) (o : Outcome) (t : State) : Prop := o = .returned (some (.int 1)) ∧ Framed s o t [] 601024 7293034
def lw_Z (below : List Frame) (a : Array Value) (s : State) : State → Prop := fun t => ∃ o, t.status = .running ∧ Ended t below o ∧ lw_Q a s o t
/-- the law's own end, with 1 on the stack, nothing written that was there before, its room as the claim has it -/
theorem lw_ret {p : Program} {l : Launch} {e : Env} {s : State} {m : MethodId} {below : List Frame} {meth : Method} {c : Code} {b : Nat} (hx : p.tables.exec = Jvm.exec) (hb : c.code = code) (hr : meth.sig.returnType = ret) (hlocks : meth.locks = false) {pc : Nat} {H : Heap} {ls : Array Slot} (hdg : decode code pc = .ok (.ireturn, 1)) : W p l e room_1 s m #[Value.ref b] below meth c H [] 601024 7293034 (lw_Z below #[Value.ref b] s) (F0 m pc ls [.int 1]) := by
  intro T hT X
  obtain ⟨fs, hret, hrun, hended, hW, hframe⟩ := X.leave (v := some (.int 1)) (hlocks := hlocks) (fun h => by rw [hr] at h; cases h)
  have hmeth' : T.vm.method? m = some meth := X.method'
  refine ⟨T.setFrames fs, ?_, .returned (some (.int 1)), hrun, hended, rfl, ⟨_, rfl⟩, hW, hframe⟩
  jvm_step X.here [X.here.top, hx, hb, hdg, hmeth', hr, ret, narrow_b1]
  (try refine ⟨rfl, ?_⟩); (try refine ⟨rfl, ?_⟩)
  first | (intro acts; rw [hret _ acts rfl rfl rfl]) | rw [hret _ _ rfl rfl rfl]
  exact Steps.refl _
/-- what holds at the law's entry: the machine, the code, the tables' words (any of lw_tbl by 'hts w (by decide +kernel)'), the script of L ints xs at the cell b, what the Statement gives of the start (any of its parts by flat_of_before) -/
def lw_At (p : Program) (s : State) (m : MethodId) (meth : Method) (c : Code) (b L : Nat) (xs : Nat → Int32) : Prop :=
  p.tables.exec = Jvm.exec ∧ c.code = code ∧ meth.sig.returnType = ret ∧ c.maxLocals = 7 ∧ s.vm.findClass R_law = some m.cls ∧ (∀ w ∈ lw_tbl, w.before #[Value.ref b] s = true) ∧ va_X b L xs s s.heap ∧ b < s.heap.size ∧ meth.locks = false ∧ (Jvm.Cond.and given_1 narrow_1).before #[Value.ref b] s = true
/-! Rows of the law's own walk. -/
section
variable {p : Program} {l : Launch} {e : Env} {R : Room} {s : State} {m : MethodId} {args : Array Value} {below : List Frame} {meth : Method} {c : Code} {Q : State → Prop} {H0 : Heap} {A : Nat → Prop} {base : Nat} {D : va_G} {cA : Nat → ClassId} {nL : Nat} {ex : Bool} {cc : ByteArray} {own : String} {n cu su pc : Nat} {ls : List (Option Value)} {st r : List Value} {σ : zS}
theorem zw_aload_nq {k : Fin 4} {i : Nat} {x : Nat} (hd : decode cc pc = .ok (.aload_n k, 1)) (hi : (k : Nat) = i) (hx : ls[i]? = some (some (.retAddr x))) (kk : zG p l e R s m args below meth c Q H0 A base D cA nL ex cc own n cu su (pc + 1) ls (.retAddr x :: r) σ) : zG p l e R s m args below meth c Q H0 A base D cA nL ex cc own n cu su pc ls r σ :=
  fun F H locs la hW hS hL => lv_aload_n F.1 F.2.1 hd hi (hL.at hx) (kk F H locs la hW hS hL)
theorem zA_no {b : Nat} {P : Prop} (h : P ∧ b < base) : ¬ zA base b := fun q => by have := q.1; have := h.2; omega
theorem zw_slen {b L : Nat} {xs : Nat → Int32} {P : Prop} (hd : decode cc pc = .ok (.arraylength, 1)) (hX : va_X b L xs s H0) (hb : b < H0.size ∧ P) (hA : b < H0.size ∧ P → ¬ A b) (kk : zG p l e R s m args below meth c Q H0 A base D cA nL ex cc own n cu su (pc + 1) ls (.int (Int32.ofNat L) :: r) σ) : zG p l e R s m args below meth c Q H0 A base D cA nL ex cc own n cu su pc ls (.retAddr b :: r) σ :=
  fun F H locs la hW hS hL => va_slen F.1 F.2.1 hX hb.1 (hA hb) hS hd (kk F H locs la hW hS hL)
theorem zw_sld {b L : Nat} {xs : Nat → Int32} {i : Int32} {P : Prop} (hd : decode cc pc = .ok (.iaload, 1)) (hX : va_X b L xs s H0) (hb : b < H0.size ∧ P) (hA : b < H0.size ∧ P → ¬ A b) (hin : vp_in i L) (kk : zG p l e R s m args below meth c Q H0 A base D cA nL ex cc own n cu su (pc + 1) ls (.int (xs i.toNatClampNeg) :: r) σ) : zG p l e R s m args below meth c Q H0 A base D cA nL ex cc own n cu su pc ls (.int i :: .retAddr b :: r) σ :=
  fun F H locs la hW hS hL => va_sld F.1 F.2.1 hX hb.1 (hA hb) hS hin hd (kk F H locs la hW hS hL)
theorem zw_weak (kk : zG p l e R s m args below meth c Q H0 A base D cA nL false cc own n cu su pc ls st σ) : zG p l e R s m args below meth c Q H0 A base D cA nL true cc own n cu su pc ls st σ :=
  fun F H locs la hW hS hL => kk F H locs la ⟨hW.1, fun h => absurd h (by decide), hW.2.2⟩ hS hL
theorem law_end {b : Nat} (hr : meth.sig.returnType = ret) (hbase : s.heap.size ≤ base) (h1 : cu ≤ 601024) (h2 : su ≤ 7293034) : zG p l e room_1 s m #[Value.ref b] below meth c (lw_Z below #[Value.ref b] s) s.heap (zA base) base D cA 7 false code own n cu su 804 ls [] σ := by
  refine zw_iconst (v := 1) d_L_law_804 rfl ?_
  refine zw_widen (k := 601024) (z := 7293034) h1 h2 ?_
  intro F H locs la hW hS hL
  refine va_forget (fun q hq => Nat.le_trans hbase (hS.2.2 q hq).1) ?_
  exact lw_ret F.1 F.2.1 hr F.2.2.2.2.2.2.2.2 d_L_law_805
end
theorem ml_1_0 : Cond.initialized "ConstantFlowLaw" ∈ zWD := zw_in (zt1 (List.mem_of_getElem? (i := 0) rfl)) rfl
theorem ml_1_16 : Cond.classLink "ConstantFlowLaw" 8 "ConstantFlow" ∈ zWD := zw_in (zt1 (List.mem_of_getElem? (i := 16) rfl)) rfl
theorem ml_1_17 : Cond.instantiable "ConstantFlow" 7 ∈ zWD := zw_in (zt1 (List.mem_of_getElem? (i := 17) rfl)) rfl
theorem ml_1_18 : Cond.methodLink "ConstantFlowLaw" 40 y_C_init ∈ zWD := zw_in (zt1 (List.mem_of_getElem? (i := 18) rfl)) rfl
theorem ml_1_19 : Cond.instanceMethod y_C_init ∈ zWD := zw_in (zt1 (List.mem_of_getElem? (i := 19) rfl)) rfl
theorem ml_1_20 : Cond.code y_C_init prog_1_method_1_code 1 none ∈ zWD := zw_in (zt1 (List.mem_of_getElem? (i := 20) rfl)) rfl
theorem ml_2_160 : Cond.methodLink "ConstantFlowLaw" 64 y_C_fault ∈ zWD := zw_in (zt2 (List.mem_of_getElem? (i := 160) rfl)) rfl
theorem ml_2_161 : Cond.instanceMethod y_C_fault ∈ zWD := zw_in (zt2 (List.mem_of_getElem? (i := 161) rfl)) rfl
theorem ml_2_162 : Cond.selects "ConstantFlow" y_C_fault y_C_fault ∈ zWD := zw_in (zt2 (List.mem_of_getElem? (i := 162) rfl)) rfl
theorem ml_2_163 : Cond.code y_C_fault prog_1_method_5_code 1 (some .int) ∈ zWD := zw_in (zt2 (List.mem_of_getElem? (i := 163) rfl)) rfl
theorem ml_2_164 : Cond.methodLink "ConstantFlowLaw" 68 y_C_place ∈ zWD := zw_in (zt2 (List.mem_of_getElem? (i := 164) rfl)) rfl
theorem ml_2_165 : Cond.instanceMethod y_C_place ∈ zWD := zw_in (zt2 (List.mem_of_getElem? (i := 165) rfl)) rfl
theorem ml_2_166 : Cond.selects "ConstantFlow" y_C_place y_C_place ∈ zWD := zw_in (zt2 (List.mem_of_getElem? (i := 166) rfl)) rfl
theorem ml_2_167 : Cond.code y_C_place prog_1_method_6_code 1 (some .int) ∈ zWD := zw_in (zt2 (List.mem_of_getElem? (i := 167) rfl)) rfl
theorem ml_2_168 : Cond.methodLink "ConstantFlowLaw" 86 y_C_write ∈ zWD := zw_in (zt2 (List.mem_of_getElem? (i := 168) rfl)) rfl
theorem ml_2_169 : Cond.instanceMethod y_C_write ∈ zWD := zw_in (zt2 (List.mem_of_getElem? (i := 169) rfl)) rfl
theorem ml_2_170 : Cond.selects "ConstantFlow" y_C_write y_C_write ∈ zWD := zw_in (zt2 (List.mem_of_getElem? (i := 170) rfl)) rfl
theorem ml_2_171 : Cond.code y_C_write prog_1_method_11_code 1 (some .int) ∈ zWD := zw_in (zt2 (List.mem_of_getElem? (i := 171) rfl)) rfl
theorem ml_2_210 : Cond.methodLink "ConstantFlowLaw" 90 y_C_written ∈ zWD := zw_in (zt2 (List.mem_of_getElem? (i := 210) rfl)) rfl
theorem ml_2_211 : Cond.instanceMethod y_C_written ∈ zWD := zw_in (zt2 (List.mem_of_getElem? (i := 211) rfl)) rfl
theorem ml_2_212 : Cond.selects "ConstantFlow" y_C_written y_C_written ∈ zWD := zw_in (zt2 (List.mem_of_getElem? (i := 212) rfl)) rfl
theorem ml_2_213 : Cond.code y_C_written prog_1_method_12_code 6 (some .long) ∈ zWD := zw_in (zt2 (List.mem_of_getElem? (i := 213) rfl)) rfl
theorem ml_2_215 : Cond.methodLink "ConstantFlowLaw" 95 y_C_take ∈ zWD := zw_in (zt2 (List.mem_of_getElem? (i := 215) rfl)) rfl
theorem ml_2_216 : Cond.instanceMethod y_C_take ∈ zWD := zw_in (zt2 (List.mem_of_getElem? (i := 216) rfl)) rfl
theorem ml_2_217 : Cond.selects "ConstantFlow" y_C_take y_C_take ∈ zWD := zw_in (zt2 (List.mem_of_getElem? (i := 217) rfl)) rfl
theorem ml_2_218 : Cond.code y_C_take prog_1_method_13_code 2 (some .int) ∈ zWD := zw_in (zt2 (List.mem_of_getElem? (i := 218) rfl)) rfl
theorem ml_2_220 : Cond.methodLink "ConstantFlowLaw" 99 y_C_input ∈ zWD := zw_in (zt2 (List.mem_of_getElem? (i := 220) rfl)) rfl
theorem ml_2_221 : Cond.instanceMethod y_C_input ∈ zWD := zw_in (zt2 (List.mem_of_getElem? (i := 221) rfl)) rfl
theorem ml_2_222 : Cond.selects "ConstantFlow" y_C_input y_C_input ∈ zWD := zw_in (zt2 (List.mem_of_getElem? (i := 222) rfl)) rfl
theorem ml_2_223 : Cond.code y_C_input prog_1_method_14_code 2 (some .int) ∈ zWD := zw_in (zt2 (List.mem_of_getElem? (i := 223) rfl)) rfl
theorem ml_2_224 : Cond.methodLink "ConstantFlowLaw" 103 y_C_clear ∈ zWD := zw_in (zt2 (List.mem_of_getElem? (i := 224) rfl)) rfl
theorem ml_2_225 : Cond.instanceMethod y_C_clear ∈ zWD := zw_in (zt2 (List.mem_of_getElem? (i := 225) rfl)) rfl
theorem ml_2_226 : Cond.selects "ConstantFlow" y_C_clear y_C_clear ∈ zWD := zw_in (zt2 (List.mem_of_getElem? (i := 226) rfl)) rfl
theorem ml_2_227 : Cond.code y_C_clear prog_1_method_15_code 2 (some .int) ∈ zWD := zw_in (zt2 (List.mem_of_getElem? (i := 227) rfl)) rfl
theorem ml_2_228 : Cond.methodLink "ConstantFlowLaw" 113 y_C_asked ∈ zWD := zw_in (zt2 (List.mem_of_getElem? (i := 228) rfl)) rfl
theorem ml_2_229 : Cond.instanceMethod y_C_asked ∈ zWD := zw_in (zt2 (List.mem_of_getElem? (i := 229) rfl)) rfl
theorem ml_2_230 : Cond.selects "ConstantFlow" y_C_asked y_C_asked ∈ zWD := zw_in (zt2 (List.mem_of_getElem? (i := 230) rfl)) rfl
theorem ml_2_231 : Cond.code y_C_asked prog_1_method_18_code 1 (some .int) ∈ zWD := zw_in (zt2 (List.mem_of_getElem? (i := 231) rfl)) rfl
theorem ml_2_232 : Cond.methodLink "ConstantFlowLaw" 46 y_L_feed ∈ zWD := zw_in (zt2 (List.mem_of_getElem? (i := 232) rfl)) rfl
theorem ml_2_233 : Cond.static y_L_feed ∈ zWD := zw_in (zt2 (List.mem_of_getElem? (i := 233) rfl)) rfl
theorem ml_2_234 : Cond.codeWith y_L_feed method_3_code 6 (some .int) [(0, 11, 14, 13)] ∈ zWD := zw_in (zt2 (List.mem_of_getElem? (i := 234) rfl)) rfl
theorem ml_2_72 : Cond.methodLink "ConstantFlowLaw" 56 y_C_wipe ∈ zWD := zw_in (zt2 (List.mem_of_getElem? (i := 72) rfl)) rfl
theorem ml_2_73 : Cond.instanceMethod y_C_wipe ∈ zWD := zw_in (zt2 (List.mem_of_getElem? (i := 73) rfl)) rfl
theorem ml_2_74 : Cond.selects "ConstantFlow" y_C_wipe y_C_wipe ∈ zWD := zw_in (zt2 (List.mem_of_getElem? (i := 74) rfl)) rfl
theorem ml_2_75 : Cond.code y_C_wipe prog_1_method_3_code 2 (some .int) ∈ zWD := zw_in (zt2 (List.mem_of_getElem? (i := 75) rfl)) rfl
theorem ml_2_76 : Cond.methodLink "ConstantFlowLaw" 60 y_C_read ∈ zWD := zw_in (zt2 (List.mem_of_getElem? (i := 76) rfl)) rfl
theorem ml_2_77 : Cond.instanceMethod y_C_read ∈ zWD := zw_in (zt2 (List.mem_of_getElem? (i := 77) rfl)) rfl
theorem ml_2_78 : Cond.selects "ConstantFlow" y_C_read y_C_read ∈ zWD := zw_in (zt2 (List.mem_of_getElem? (i := 78) rfl)) rfl
theorem ml_2_79 : Cond.code y_C_read prog_1_method_4_code 2 (some .int) ∈ zWD := zw_in (zt2 (List.mem_of_getElem? (i := 79) rfl)) rfl
theorem ml_3_110 : Cond.methodLink "ConstantFlowLaw" 80 y_L_number ∈ zWD := zw_in (zt3 (List.mem_of_getElem? (i := 110) rfl)) rfl
theorem ml_3_111 : Cond.static y_L_number ∈ zWD := zw_in (zt3 (List.mem_of_getElem? (i := 111) rfl)) rfl
theorem ml_3_112 : Cond.codeWith y_L_number method_6_code 6 (some .int) [(0, 12, 15, 19), (0, 12, 19, 28)] ∈ zWD := zw_in (zt3 (List.mem_of_getElem? (i := 112) rfl)) rfl
theorem ml_3_134 : Cond.methodLink "ConstantFlowLaw" 83 y_L_told ∈ zWD := zw_in (zt3 (List.mem_of_getElem? (i := 134) rfl)) rfl
theorem ml_3_135 : Cond.static y_L_told ∈ zWD := zw_in (zt3 (List.mem_of_getElem? (i := 135) rfl)) rfl
theorem ml_3_136 : Cond.codeWith y_L_told method_7_code 4 (some .int) [(0, 9, 12, 13)] ∈ zWD := zw_in (zt3 (List.mem_of_getElem? (i := 136) rfl)) rfl
theorem ml_3_142 : Cond.methodLink "ConstantFlowLaw" 107 y_L_run ∈ zWD := zw_in (zt3 (List.mem_of_getElem? (i := 142) rfl)) rfl
theorem ml_3_143 : Cond.static y_L_run ∈ zWD := zw_in (zt3 (List.mem_of_getElem? (i := 143) rfl)) rfl
theorem ml_3_144 : Cond.codeWith y_L_run method_8_code 4 (some .int) [(0, 9, 12, 13)] ∈ zWD := zw_in (zt3 (List.mem_of_getElem? (i := 144) rfl)) rfl
theorem ml_3_171 : Cond.methodLink "ConstantFlowLaw" 110 y_L_value ∈ zWD := zw_in (zt3 (List.mem_of_getElem? (i := 171) rfl)) rfl
theorem ml_3_172 : Cond.static y_L_value ∈ zWD := zw_in (zt3 (List.mem_of_getElem? (i := 172) rfl)) rfl
theorem ml_3_173 : Cond.codeWith y_L_value method_9_code 4 (some .int) [(0, 9, 12, 19)] ∈ zWD := zw_in (zt3 (List.mem_of_getElem? (i := 173) rfl)) rfl
theorem ml_3_179 : Cond.classLink "ConstantFlowLaw" 41 "ConstantFlowModel" ∈ zWD := zw_in (zt3 (List.mem_of_getElem? (i := 179) rfl)) rfl
theorem ml_3_180 : Cond.instantiable "ConstantFlowModel" 33 ∈ zWD := zw_in (zt3 (List.mem_of_getElem? (i := 180) rfl)) rfl
theorem ml_3_181 : Cond.methodLink "ConstantFlowLaw" 43 y_M_init ∈ zWD := zw_in (zt3 (List.mem_of_getElem? (i := 181) rfl)) rfl
theorem ml_3_182 : Cond.instanceMethod y_M_init ∈ zWD := zw_in (zt3 (List.mem_of_getElem? (i := 182) rfl)) rfl
theorem ml_3_183 : Cond.code y_M_init prog_9_method_1_code 1 none ∈ zWD := zw_in (zt3 (List.mem_of_getElem? (i := 183) rfl)) rfl
theorem ml_3_67 : Cond.methodLink "ConstantFlowLaw" 72 y_L_comes ∈ zWD := zw_in (zt3 (List.mem_of_getElem? (i := 67) rfl)) rfl
theorem ml_3_68 : Cond.static y_L_comes ∈ zWD := zw_in (zt3 (List.mem_of_getElem? (i := 68) rfl)) rfl
theorem ml_3_69 : Cond.codeWith y_L_comes method_4_code 4 (some .int) [(0, 16, 19, 19)] ∈ zWD := zw_in (zt3 (List.mem_of_getElem? (i := 69) rfl)) rfl
theorem ml_3_95 : Cond.methodLink "ConstantFlowLaw" 76 y_L_known ∈ zWD := zw_in (zt3 (List.mem_of_getElem? (i := 95) rfl)) rfl
theorem ml_3_96 : Cond.static y_L_known ∈ zWD := zw_in (zt3 (List.mem_of_getElem? (i := 96) rfl)) rfl
theorem ml_3_97 : Cond.codeWith y_L_known method_5_code 6 (some .int) [(0, 12, 15, 19)] ∈ zWD := zw_in (zt3 (List.mem_of_getElem? (i := 97) rfl)) rfl
theorem ml_4_120 : Cond.methodLink "ConstantFlowLaw" 67 y_M_fault ∈ zWD := zw_in (zt4 (List.mem_of_getElem? (i := 120) rfl)) rfl
theorem ml_4_121 : Cond.instanceMethod y_M_fault ∈ zWD := zw_in (zt4 (List.mem_of_getElem? (i := 121) rfl)) rfl
theorem ml_4_122 : Cond.selects "ConstantFlowModel" y_M_fault y_M_fault ∈ zWD := zw_in (zt4 (List.mem_of_getElem? (i := 122) rfl)) rfl
theorem ml_4_123 : Cond.code y_M_fault prog_9_method_21_code 1 (some .int) ∈ zWD := zw_in (zt4 (List.mem_of_getElem? (i := 123) rfl)) rfl
theorem ml_4_124 : Cond.methodLink "ConstantFlowLaw" 71 y_M_place ∈ zWD := zw_in (zt4 (List.mem_of_getElem? (i := 124) rfl)) rfl
theorem ml_4_125 : Cond.instanceMethod y_M_place ∈ zWD := zw_in (zt4 (List.mem_of_getElem? (i := 125) rfl)) rfl
theorem ml_4_126 : Cond.selects "ConstantFlowModel" y_M_place y_M_place ∈ zWD := zw_in (zt4 (List.mem_of_getElem? (i := 126) rfl)) rfl
theorem ml_4_127 : Cond.code y_M_place prog_9_method_22_code 1 (some .int) ∈ zWD := zw_in (zt4 (List.mem_of_getElem? (i := 127) rfl)) rfl
theorem ml_4_128 : Cond.methodLink "ConstantFlowLaw" 75 y_M_comes ∈ zWD := zw_in (zt4 (List.mem_of_getElem? (i := 128) rfl)) rfl
theorem ml_4_129 : Cond.instanceMethod y_M_comes ∈ zWD := zw_in (zt4 (List.mem_of_getElem? (i := 129) rfl)) rfl
theorem ml_4_130 : Cond.selects "ConstantFlowModel" y_M_comes y_M_comes ∈ zWD := zw_in (zt4 (List.mem_of_getElem? (i := 130) rfl)) rfl
theorem ml_4_131 : Cond.code y_M_comes prog_9_method_34_code 2 (some .boolean) ∈ zWD := zw_in (zt4 (List.mem_of_getElem? (i := 131) rfl)) rfl
theorem ml_4_175 : Cond.methodLink "ConstantFlowLaw" 79 y_M_known ∈ zWD := zw_in (zt4 (List.mem_of_getElem? (i := 175) rfl)) rfl
theorem ml_4_176 : Cond.instanceMethod y_M_known ∈ zWD := zw_in (zt4 (List.mem_of_getElem? (i := 176) rfl)) rfl
theorem ml_4_177 : Cond.selects "ConstantFlowModel" y_M_known y_M_known ∈ zWD := zw_in (zt4 (List.mem_of_getElem? (i := 177) rfl)) rfl
theorem ml_4_178 : Cond.code y_M_known prog_9_method_36_code 4 (some .int) ∈ zWD := zw_in (zt4 (List.mem_of_getElem? (i := 178) rfl)) rfl
theorem ml_4_183 : Cond.methodLink "ConstantFlowLaw" 82 y_M_number ∈ zWD := zw_in (zt4 (List.mem_of_getElem? (i := 183) rfl)) rfl
theorem ml_4_184 : Cond.instanceMethod y_M_number ∈ zWD := zw_in (zt4 (List.mem_of_getElem? (i := 184) rfl)) rfl
theorem ml_4_185 : Cond.selects "ConstantFlowModel" y_M_number y_M_number ∈ zWD := zw_in (zt4 (List.mem_of_getElem? (i := 185) rfl)) rfl
theorem ml_4_186 : Cond.code y_M_number prog_9_method_37_code 4 (some .int) ∈ zWD := zw_in (zt4 (List.mem_of_getElem? (i := 186) rfl)) rfl
theorem ml_4_187 : Cond.methodLink "ConstantFlowLaw" 85 y_M_told ∈ zWD := zw_in (zt4 (List.mem_of_getElem? (i := 187) rfl)) rfl
theorem ml_4_188 : Cond.instanceMethod y_M_told ∈ zWD := zw_in (zt4 (List.mem_of_getElem? (i := 188) rfl)) rfl
theorem ml_4_189 : Cond.selects "ConstantFlowModel" y_M_told y_M_told ∈ zWD := zw_in (zt4 (List.mem_of_getElem? (i := 189) rfl)) rfl
theorem ml_4_190 : Cond.code y_M_told prog_9_method_38_code 9 (some .int) ∈ zWD := zw_in (zt4 (List.mem_of_getElem? (i := 190) rfl)) rfl
theorem ml_4_191 : Cond.methodLink "ConstantFlowLaw" 89 y_M_write ∈ zWD := zw_in (zt4 (List.mem_of_getElem? (i := 191) rfl)) rfl
theorem ml_4_192 : Cond.instanceMethod y_M_write ∈ zWD := zw_in (zt4 (List.mem_of_getElem? (i := 192) rfl)) rfl
theorem ml_4_193 : Cond.selects "ConstantFlowModel" y_M_write y_M_write ∈ zWD := zw_in (zt4 (List.mem_of_getElem? (i := 193) rfl)) rfl
theorem ml_4_194 : Cond.code y_M_write prog_9_method_45_code 3 (some .int) ∈ zWD := zw_in (zt4 (List.mem_of_getElem? (i := 194) rfl)) rfl
theorem ml_4_222 : Cond.methodLink "ConstantFlowLaw" 94 y_M_written ∈ zWD := zw_in (zt4 (List.mem_of_getElem? (i := 222) rfl)) rfl
theorem ml_4_223 : Cond.instanceMethod y_M_written ∈ zWD := zw_in (zt4 (List.mem_of_getElem? (i := 223) rfl)) rfl
theorem ml_4_224 : Cond.selects "ConstantFlowModel" y_M_written y_M_written ∈ zWD := zw_in (zt4 (List.mem_of_getElem? (i := 224) rfl)) rfl
theorem ml_4_225 : Cond.code y_M_written prog_9_method_46_code 7 (some .long) ∈ zWD := zw_in (zt4 (List.mem_of_getElem? (i := 225) rfl)) rfl
theorem ml_4_226 : Cond.methodLink "ConstantFlowLaw" 98 y_M_take ∈ zWD := zw_in (zt4 (List.mem_of_getElem? (i := 226) rfl)) rfl
theorem ml_4_227 : Cond.instanceMethod y_M_take ∈ zWD := zw_in (zt4 (List.mem_of_getElem? (i := 227) rfl)) rfl
theorem ml_4_228 : Cond.selects "ConstantFlowModel" y_M_take y_M_take ∈ zWD := zw_in (zt4 (List.mem_of_getElem? (i := 228) rfl)) rfl
theorem ml_4_229 : Cond.code y_M_take prog_9_method_47_code 2 (some .int) ∈ zWD := zw_in (zt4 (List.mem_of_getElem? (i := 229) rfl)) rfl
theorem ml_4_230 : Cond.methodLink "ConstantFlowLaw" 102 y_M_input ∈ zWD := zw_in (zt4 (List.mem_of_getElem? (i := 230) rfl)) rfl
theorem ml_4_231 : Cond.instanceMethod y_M_input ∈ zWD := zw_in (zt4 (List.mem_of_getElem? (i := 231) rfl)) rfl
theorem ml_4_232 : Cond.selects "ConstantFlowModel" y_M_input y_M_input ∈ zWD := zw_in (zt4 (List.mem_of_getElem? (i := 232) rfl)) rfl
theorem ml_4_233 : Cond.code y_M_input prog_9_method_48_code 2 (some .int) ∈ zWD := zw_in (zt4 (List.mem_of_getElem? (i := 233) rfl)) rfl
theorem ml_4_234 : Cond.methodLink "ConstantFlowLaw" 106 y_M_clear ∈ zWD := zw_in (zt4 (List.mem_of_getElem? (i := 234) rfl)) rfl
theorem ml_4_235 : Cond.instanceMethod y_M_clear ∈ zWD := zw_in (zt4 (List.mem_of_getElem? (i := 235) rfl)) rfl
theorem ml_4_236 : Cond.selects "ConstantFlowModel" y_M_clear y_M_clear ∈ zWD := zw_in (zt4 (List.mem_of_getElem? (i := 236) rfl)) rfl
theorem ml_4_237 : Cond.code y_M_clear prog_9_method_49_code 2 (some .int) ∈ zWD := zw_in (zt4 (List.mem_of_getElem? (i := 237) rfl)) rfl
theorem ml_4_238 : Cond.methodLink "ConstantFlowLaw" 109 y_M_run ∈ zWD := zw_in (zt4 (List.mem_of_getElem? (i := 238) rfl)) rfl
theorem ml_4_239 : Cond.instanceMethod y_M_run ∈ zWD := zw_in (zt4 (List.mem_of_getElem? (i := 239) rfl)) rfl
theorem ml_4_45 : Cond.methodLink "ConstantFlowLaw" 52 y_M_thrown ∈ zWD := zw_in (zt4 (List.mem_of_getElem? (i := 45) rfl)) rfl
theorem ml_4_46 : Cond.instanceMethod y_M_thrown ∈ zWD := zw_in (zt4 (List.mem_of_getElem? (i := 46) rfl)) rfl
theorem ml_4_47 : Cond.selects "ConstantFlowModel" y_M_thrown y_M_thrown ∈ zWD := zw_in (zt4 (List.mem_of_getElem? (i := 47) rfl)) rfl
theorem ml_4_48 : Cond.code y_M_thrown prog_9_method_2_code 1 (some .int) ∈ zWD := zw_in (zt4 (List.mem_of_getElem? (i := 48) rfl)) rfl
theorem ml_4_49 : Cond.methodLink "ConstantFlowLaw" 51 y_M_feed ∈ zWD := zw_in (zt4 (List.mem_of_getElem? (i := 49) rfl)) rfl
theorem ml_4_50 : Cond.instanceMethod y_M_feed ∈ zWD := zw_in (zt4 (List.mem_of_getElem? (i := 50) rfl)) rfl
theorem ml_4_51 : Cond.selects "ConstantFlowModel" y_M_feed y_M_feed ∈ zWD := zw_in (zt4 (List.mem_of_getElem? (i := 51) rfl)) rfl
theorem ml_4_52 : Cond.code y_M_feed prog_9_method_3_code 5 (some .int) ∈ zWD := zw_in (zt4 (List.mem_of_getElem? (i := 52) rfl)) rfl
theorem ml_4_54 : Cond.methodLink "ConstantFlowLaw" 59 y_M_wipe ∈ zWD := zw_in (zt4 (List.mem_of_getElem? (i := 54) rfl)) rfl
theorem ml_4_55 : Cond.instanceMethod y_M_wipe ∈ zWD := zw_in (zt4 (List.mem_of_getElem? (i := 55) rfl)) rfl
theorem ml_4_56 : Cond.selects "ConstantFlowModel" y_M_wipe y_M_wipe ∈ zWD := zw_in (zt4 (List.mem_of_getElem? (i := 56) rfl)) rfl
theorem ml_4_57 : Cond.code y_M_wipe prog_9_method_4_code 2 (some .int) ∈ zWD := zw_in (zt4 (List.mem_of_getElem? (i := 57) rfl)) rfl
theorem ml_4_58 : Cond.methodLink "ConstantFlowLaw" 63 y_M_read ∈ zWD := zw_in (zt4 (List.mem_of_getElem? (i := 58) rfl)) rfl
theorem ml_4_59 : Cond.instanceMethod y_M_read ∈ zWD := zw_in (zt4 (List.mem_of_getElem? (i := 59) rfl)) rfl
theorem ml_4_60 : Cond.selects "ConstantFlowModel" y_M_read y_M_read ∈ zWD := zw_in (zt4 (List.mem_of_getElem? (i := 60) rfl)) rfl
theorem ml_4_61 : Cond.code y_M_read prog_9_method_20_code 2 (some .int) ∈ zWD := zw_in (zt4 (List.mem_of_getElem? (i := 61) rfl)) rfl
theorem ml_5_0 : Cond.selects "ConstantFlowModel" y_M_run y_M_run ∈ zWD := zw_in (zt5 (List.mem_of_getElem? (i := 0) rfl)) rfl
theorem ml_5_1 : Cond.code y_M_run prog_9_method_52_code 7 (some .int) ∈ zWD := zw_in (zt5 (List.mem_of_getElem? (i := 1) rfl)) rfl
theorem ml_5_10 : Cond.methodLink "ConstantFlowLaw" 112 y_M_value ∈ zWD := zw_in (zt5 (List.mem_of_getElem? (i := 10) rfl)) rfl
theorem ml_5_11 : Cond.instanceMethod y_M_value ∈ zWD := zw_in (zt5 (List.mem_of_getElem? (i := 11) rfl)) rfl
theorem ml_5_12 : Cond.selects "ConstantFlowModel" y_M_value y_M_value ∈ zWD := zw_in (zt5 (List.mem_of_getElem? (i := 12) rfl)) rfl
theorem ml_5_13 : Cond.code y_M_value prog_9_method_53_code 2 (some .int) ∈ zWD := zw_in (zt5 (List.mem_of_getElem? (i := 13) rfl)) rfl
theorem ml_5_14 : Cond.methodLink "ConstantFlowLaw" 116 y_M_asked ∈ zWD := zw_in (zt5 (List.mem_of_getElem? (i := 14) rfl)) rfl
theorem ml_5_15 : Cond.instanceMethod y_M_asked ∈ zWD := zw_in (zt5 (List.mem_of_getElem? (i := 15) rfl)) rfl
theorem ml_5_16 : Cond.selects "ConstantFlowModel" y_M_asked y_M_asked ∈ zWD := zw_in (zt5 (List.mem_of_getElem? (i := 16) rfl)) rfl
theorem ml_5_17 : Cond.code y_M_asked prog_9_method_54_code 1 (some .int) ∈ zWD := zw_in (zt5 (List.mem_of_getElem? (i := 17) rfl)) rfl
theorem ml_5_18 : Cond.constantLong "ConstantFlowLaw" 44 4294967295 ∈ zWD := zw_in (zt5 (List.mem_of_getElem? (i := 18) rfl)) rfl
theorem ml_5_19 : Cond.arrayClass .long ∈ zWD := zw_in (zt5 (List.mem_of_getElem? (i := 19) rfl)) rfl
section
variable {p : Program} {l : Launch} {e : Env} {s : State} {m : MethodId} {below : List Frame} {meth : Method} {c : Code} {base b L : Nat} {xs : Nat → Int32} {D : va_G} {cA : Nat → ClassId}
def P_law_120 (L : Nat) (xs : Nat → Int32) (a4 : Int32) (K : zS → Prop) (σ : zS) : Prop := vp_in (a4 + (1 : Int32)) L ∧ vp_in (a4 + (2 : Int32)) L ∧ vp_in (a4 + (3 : Int32)) L ∧ P_L_feed 201 0 (xs (a4 + (1 : Int32)).toNatClampNeg) (((Int32.toInt64 (xs (a4 + (2 : Int32)).toNatClampNeg)) <<< ((32 : Int32).toInt64 &&& 63)) ||| ((Int32.toInt64 (xs (a4 + (3 : Int32)).toNatClampNeg)) &&& (4294967295 : Int64))) 200 σ (fun x4 σ5 => vp_in (a4 + (1 : Int32)) L ∧ vp_in (a4 + (2 : Int32)) L ∧ vp_in (a4 + (3 : Int32)) L ∧ zk 201 183 7 ∧ P_M_feed 201 183 (xs (a4 + (1 : Int32)).toNatClampNeg) (((Int32.toInt64 (xs (a4 + (2 : Int32)).toNatClampNeg)) <<< ((32 : Int32).toInt64 &&& 63)) ||| ((Int32.toInt64 (xs (a4 + (3 : Int32)).toNatClampNeg)) &&& (4294967295 : Int64))) σ5 (fun x9 σ10 => P_M_thrown 201 183 σ10 (fun x12 σ13 => ((x12 = x4 → ((¬ x4 = 0 → K σ13) ∧ (x4 = 0 → za 201 200 14 (0 : Int32) ∧ (((lg_cmp (zl σ13 200 (0 : Int32).toNatClampNeg) (Int32.toInt64 x9)) = 0 → K σ13) ∧ (¬ ((lg_cmp (zl σ13 200 (0 : Int32).toNatClampNeg) (Int32.toInt64 x9)) = 0) → False))))) ∧ (¬ (x12 = x4) → False)))))
set_option maxHeartbeats 2000000 in
set_option maxRecDepth 10000 in
theorem w_law_120 (hX : va_X b L xs s s.heap) (hbl : b < s.heap.size ∧ b < base) (hTh : zTh base s) (hfl : l.flags = pinnedFlags ++ [noTraceFlag]) {K : zS → Prop} {cu su : Nat} {a4 : Int32} {σ : zS} (hcu : cu + 1 ≤ 600000) (hsu : su + 6 ≤ 7200000) (hK : ∀ (cu' su' : Nat) (σ : zS), cu' ≤ cu + 1 → su' ≤ su + 6 → K σ → zG p l e room_1 s m #[Value.ref b] below meth c (lw_Z below #[Value.ref b] s) s.heap (zA base) base D cA 7 false code "ConstantFlowLaw" 201 cu' su' 798 [some (.retAddr b), some (.ref 0), some (.ref 183), some (.ref 200), some (.int a4), none, none] [] σ) (h : P_law_120 L xs a4 K σ) : zG p l e room_1 s m #[Value.ref b] below meth c (lw_Z below #[Value.ref b] s) s.heap (zA base) base D cA 7 false code "ConstantFlowLaw" 201 cu su 120 [some (.retAddr b), some (.ref 0), some (.ref 183), some (.ref 200), some (.int a4), none, none] [] σ := by
  unfold P_law_120 at h
  refine zw_aload_n d_L_law_120 rfl rfl ?_
  refine zw_aload_nq d_L_law_121 rfl rfl ?_
  refine zw_iload d_L_law_122 rfl ?_
  refine zw_iconst (v := 1) d_L_law_124 rfl ?_
  refine zw_iadd d_L_law_125 ?_
  obtain ⟨q1, h⟩ := h
  refine zw_sld d_L_law_126 hX hbl zA_no q1 ?_
  refine zw_aload_nq d_L_law_127 rfl rfl ?_
  refine zw_iload d_L_law_128 rfl ?_
  refine zw_iconst (v := 2) d_L_law_130 rfl ?_
  refine zw_iadd d_L_law_131 ?_
  obtain ⟨q2, h⟩ := h
  refine zw_sld d_L_law_132 hX hbl zA_no q2 ?_
  refine zw_i2l d_L_law_133 ?_
  refine zw_bipush (v := 32) d_L_law_134 rfl ?_
  refine zw_lshl d_L_law_136 ?_
  refine zw_aload_nq d_L_law_137 rfl rfl ?_
  refine zw_iload d_L_law_138 rfl ?_
  refine zw_iconst (v := 3) d_L_law_140 rfl ?_
  refine zw_iadd d_L_law_141 ?_
  obtain ⟨q3, h⟩ := h
  refine zw_sld d_L_law_142 hX hbl zA_no q3 ?_
  refine zw_i2l d_L_law_143 ?_
  refine zw_ldc2 (v := 4294967295) d_L_law_144 ml_5_18 ?_
  refine zw_land d_L_law_147 ?_
  refine zw_lor d_L_law_148 ?_
  refine zw_aload_n d_L_law_149 rfl rfl ?_
  refine zw_callSW (As := [.ref 0, .int (xs (a4 + (1 : Int32)).toNatClampNeg), .long (((Int32.toInt64 (xs (a4 + (2 : Int32)).toNatClampNeg)) <<< ((32 : Int32).toInt64 &&& 63)) ||| ((Int32.toInt64 (xs (a4 + (3 : Int32)).toNatClampNeg)) &&& (4294967295 : Int64))), .ref 200]) (r := []) d_L_law_150 (c_L_feed hfl h) ml_2_232 ml_2_233 ml_1_0 ml_2_234 hyS_L_feed (Nat.le_of_ble_eq_true rfl) (Nat.le_of_ble_eq_true rfl) ⟨by show _ ≤ 601024; omega, by show _ ≤ 7293034; omega⟩ (Nat.le_of_ble_eq_true rfl) rfl hTh (zk_i (fun x4 σ5 h => ?_))
  refine zw_istore d_L_law_153 (Nat.le_of_ble_eq_true rfl) rfl rfl ?_
  refine zw_aload_n d_L_law_155 rfl rfl ?_
  refine zw_aload_nq d_L_law_156 rfl rfl ?_
  refine zw_iload d_L_law_157 rfl ?_
  refine zw_iconst (v := 1) d_L_law_159 rfl ?_
  refine zw_iadd d_L_law_160 ?_
  obtain ⟨q6, h⟩ := h
  refine zw_sld d_L_law_161 hX hbl zA_no q6 ?_
  refine zw_aload_nq d_L_law_162 rfl rfl ?_
  refine zw_iload d_L_law_163 rfl ?_
  refine zw_iconst (v := 2) d_L_law_165 rfl ?_
  refine zw_iadd d_L_law_166 ?_
  obtain ⟨q7, h⟩ := h
  refine zw_sld d_L_law_167 hX hbl zA_no q7 ?_
  refine zw_i2l d_L_law_168 ?_
  refine zw_bipush (v := 32) d_L_law_169 rfl ?_
  refine zw_lshl d_L_law_171 ?_
  refine zw_aload_nq d_L_law_172 rfl rfl ?_
  refine zw_iload d_L_law_173 rfl ?_
  refine zw_iconst (v := 3) d_L_law_175 rfl ?_
  refine zw_iadd d_L_law_176 ?_
  obtain ⟨q8, h⟩ := h
  refine zw_sld d_L_law_177 hX hbl zA_no q8 ?_
  refine zw_i2l d_L_law_178 ?_
  refine zw_ldc2 (v := 4294967295) d_L_law_179 ml_5_18 ?_
  refine zw_land d_L_law_182 ?_
  refine zw_lor d_L_law_183 ?_
  obtain ⟨q11, h⟩ := h
  refine zw_callV (ci := 7) (b := 183) (As := [.int (xs (a4 + (1 : Int32)).toNatClampNeg), .long (((Int32.toInt64 (xs (a4 + (2 : Int32)).toNatClampNeg)) <<< ((32 : Int32).toInt64 &&& 63)) ||| ((Int32.toInt64 (xs (a4 + (3 : Int32)).toNatClampNeg)) &&& (4294967295 : Int64)))]) (r := []) d_L_law_184 (c_M_feed h) ml_4_49 ml_4_50 ml_4_51 mw_1_8 ml_4_52 (by decide) q11.1 q11.2 hyV_M_feed (Nat.le_of_ble_eq_true rfl) (Nat.le_of_ble_eq_true rfl) ⟨by show _ ≤ 601024; omega, by show _ ≤ 7293034; omega⟩ (Nat.le_of_ble_eq_true rfl) rfl (zk_i (fun x9 σ10 h => ?_))
  refine zw_istore d_L_law_187 (Nat.le_of_ble_eq_true rfl) rfl rfl ?_
  refine zw_aload_n d_L_law_189 rfl rfl ?_
  refine zw_callV (ci := 7) (b := 183) (As := []) (r := []) d_L_law_190 (c_M_thrown h) ml_4_45 ml_4_46 ml_4_47 mw_1_8 ml_4_48 (by decide) q11.1 q11.2 hyV_M_thrown (Nat.le_of_ble_eq_true rfl) (Nat.le_of_ble_eq_true rfl) ⟨by show _ ≤ 601024; omega, by show _ ≤ 7293034; omega⟩ (Nat.le_of_ble_eq_true rfl) rfl (zk_i (fun x12 σ13 h => ?_))
  refine zw_iload d_L_law_193 rfl ?_
  obtain ⟨ht, hf⟩ := h
  refine zw_icmp_eq (tgt := 200) d_L_law_195 rfl (fun hc => ?_) (fun hc => ?_)
  · have h := ht hc; clear ht hf
    refine zw_iload d_L_law_200 rfl ?_
    obtain ⟨ht, hf⟩ := h
    refine zw_if_ne (tgt := 217) d_L_law_202 rfl (fun hc => ?_) (fun hc => ?_)
    · have h := ht hc; clear ht hf
      refine zw_goto (tgt := 798) d_L_law_217 rfl ?_
      refine zw_le (ls' := [some (.retAddr b), some (.ref 0), some (.ref 183), some (.ref 200), some (.int a4), none, none]) (And.intro rfl (And.intro rfl (And.intro rfl (And.intro rfl (And.intro rfl True.intro))))) ?_
      exact hK _ _ _ (by omega) (by omega) h
    · have h := hf hc; clear ht hf
      refine zw_aload_n d_L_law_205 rfl rfl ?_
      refine zw_iconst (v := 0) d_L_law_206 rfl ?_
      obtain ⟨q14, h⟩ := h
      refine zw_lald d_L_law_207 q14.1 (zkd_eta q14.2.1) q14.2.2 ?_
      refine zw_iload d_L_law_208 rfl ?_
      refine zw_i2l d_L_law_210 ?_
      refine zw_lcmp d_L_law_211 ?_
      obtain ⟨ht, hf⟩ := h
      refine zw_if_eq (tgt := 217) d_L_law_212 rfl (fun hc => ?_) (fun hc => ?_)
      · have h := ht hc; clear ht hf
        refine zw_goto (tgt := 798) d_L_law_217 rfl ?_
        refine zw_le (ls' := [some (.retAddr b), some (.ref 0), some (.ref 183), some (.ref 200), some (.int a4), none, none]) (And.intro rfl (And.intro rfl (And.intro rfl (And.intro rfl (And.intro rfl True.intro))))) ?_
        exact hK _ _ _ (by omega) (by omega) h
      · have h := hf hc; clear ht hf
        refine zw_iconst (v := 0) d_L_law_215 rfl ?_
        exact False.elim h
  · have h := hf hc; clear ht hf
    refine zw_iconst (v := 0) d_L_law_198 rfl ?_
    exact False.elim h
def P_law_220 (L : Nat) (xs : Nat → Int32) (a4 : Int32) (K : zS → Prop) (σ : zS) : Prop := zk 201 0 0 ∧ P_C_wipe 201 0 σ (fun x1 σ2 => zk 201 183 7 ∧ P_M_wipe 201 183 σ2 (fun x4 σ5 => ((x1 = x4 → K σ5) ∧ (¬ (x1 = x4) → False))))
set_option maxHeartbeats 2000000 in
set_option maxRecDepth 10000 in
theorem w_law_220 (hX : va_X b L xs s s.heap) (hbl : b < s.heap.size ∧ b < base) (hTh : zTh base s) (hfl : l.flags = pinnedFlags ++ [noTraceFlag]) {K : zS → Prop} {cu su : Nat} {a4 : Int32} {σ : zS} (hcu : cu + 1 ≤ 600000) (hsu : su + 6 ≤ 7200000) (hK : ∀ (cu' su' : Nat) (σ : zS), cu' ≤ cu + 1 → su' ≤ su + 6 → K σ → zG p l e room_1 s m #[Value.ref b] below meth c (lw_Z below #[Value.ref b] s) s.heap (zA base) base D cA 7 false code "ConstantFlowLaw" 201 cu' su' 798 [some (.retAddr b), some (.ref 0), some (.ref 183), some (.ref 200), some (.int a4), none, none] [] σ) (h : P_law_220 L xs a4 K σ) : zG p l e room_1 s m #[Value.ref b] below meth c (lw_Z below #[Value.ref b] s) s.heap (zA base) base D cA 7 false code "ConstantFlowLaw" 201 cu su 220 [some (.retAddr b), some (.ref 0), some (.ref 183), some (.ref 200), some (.int a4), none, none] [] σ := by
  unfold P_law_220 at h
  refine zw_aload_n d_L_law_220 rfl rfl ?_
  obtain ⟨q3, h⟩ := h
  refine zw_callV (ci := 0) (b := 0) (As := []) (r := []) d_L_law_221 (c_C_wipe h) ml_2_72 ml_2_73 ml_2_74 mw_1_1 ml_2_75 (by decide) q3.1 q3.2 hyV_C_wipe (Nat.le_of_ble_eq_true rfl) (Nat.le_of_ble_eq_true rfl) ⟨by show _ ≤ 601024; omega, by show _ ≤ 7293034; omega⟩ (Nat.le_of_ble_eq_true rfl) rfl (zk_i (fun x1 σ2 h => ?_))
  refine zw_aload_n d_L_law_224 rfl rfl ?_
  obtain ⟨q6, h⟩ := h
  refine zw_callV (ci := 7) (b := 183) (As := []) (r := [.int x1]) d_L_law_225 (c_M_wipe h) ml_4_54 ml_4_55 ml_4_56 mw_1_8 ml_4_57 (by decide) q6.1 q6.2 hyV_M_wipe (Nat.le_of_ble_eq_true rfl) (Nat.le_of_ble_eq_true rfl) ⟨by show _ ≤ 601024; omega, by show _ ≤ 7293034; omega⟩ (Nat.le_of_ble_eq_true rfl) rfl (zk_i (fun x4 σ5 h => ?_))
  obtain ⟨ht, hf⟩ := h
  refine zw_icmp_eq (tgt := 798) d_L_law_228 rfl (fun hc => ?_) (fun hc => ?_)
  · have h := ht hc; clear ht hf
    exact hK _ _ _ (by omega) (by omega) h
  · have h := hf hc; clear ht hf
    refine zw_iconst (v := 0) d_L_law_231 rfl ?_
    exact False.elim h
def P_law_233 (L : Nat) (xs : Nat → Int32) (a4 : Int32) (K : zS → Prop) (σ : zS) : Prop := zk 201 0 0 ∧ P_C_read 201 0 σ (fun x1 σ2 => zk 201 183 7 ∧ P_M_read 201 183 σ2 (fun x4 σ5 => ((x1 = x4 → K σ5) ∧ (¬ (x1 = x4) → False))))
set_option maxHeartbeats 2000000 in
set_option maxRecDepth 10000 in
theorem w_law_233 (hX : va_X b L xs s s.heap) (hbl : b < s.heap.size ∧ b < base) (hTh : zTh base s) (hfl : l.flags = pinnedFlags ++ [noTraceFlag]) {K : zS → Prop} {cu su : Nat} {a4 : Int32} {σ : zS} (hcu : cu + 1 ≤ 600000) (hsu : su + 6 ≤ 7200000) (hK : ∀ (cu' su' : Nat) (σ : zS), cu' ≤ cu + 1 → su' ≤ su + 6 → K σ → zG p l e room_1 s m #[Value.ref b] below meth c (lw_Z below #[Value.ref b] s) s.heap (zA base) base D cA 7 false code "ConstantFlowLaw" 201 cu' su' 798 [some (.retAddr b), some (.ref 0), some (.ref 183), some (.ref 200), some (.int a4), none, none] [] σ) (h : P_law_233 L xs a4 K σ) : zG p l e room_1 s m #[Value.ref b] below meth c (lw_Z below #[Value.ref b] s) s.heap (zA base) base D cA 7 false code "ConstantFlowLaw" 201 cu su 233 [some (.retAddr b), some (.ref 0), some (.ref 183), some (.ref 200), some (.int a4), none, none] [] σ := by
  unfold P_law_233 at h
  refine zw_aload_n d_L_law_233 rfl rfl ?_
  obtain ⟨q3, h⟩ := h
  refine zw_callV (ci := 0) (b := 0) (As := []) (r := []) d_L_law_234 (c_C_read h) ml_2_76 ml_2_77 ml_2_78 mw_1_1 ml_2_79 (by decide) q3.1 q3.2 hyV_C_read (Nat.le_of_ble_eq_true rfl) (Nat.le_of_ble_eq_true rfl) ⟨by show _ ≤ 601024; omega, by show _ ≤ 7293034; omega⟩ (Nat.le_of_ble_eq_true rfl) rfl (zk_i (fun x1 σ2 h => ?_))
  refine zw_aload_n d_L_law_237 rfl rfl ?_
  obtain ⟨q6, h⟩ := h
  refine zw_callV (ci := 7) (b := 183) (As := []) (r := [.int x1]) d_L_law_238 (c_M_read h) ml_4_58 ml_4_59 ml_4_60 mw_1_8 ml_4_61 (by decide) q6.1 q6.2 hyV_M_read (Nat.le_of_ble_eq_true rfl) (Nat.le_of_ble_eq_true rfl) ⟨by show _ ≤ 601024; omega, by show _ ≤ 7293034; omega⟩ (Nat.le_of_ble_eq_true rfl) rfl (zk_i (fun x4 σ5 h => ?_))
  obtain ⟨ht, hf⟩ := h
  refine zw_icmp_eq (tgt := 798) d_L_law_241 rfl (fun hc => ?_) (fun hc => ?_)
  · have h := ht hc; clear ht hf
    exact hK _ _ _ (by omega) (by omega) h
  · have h := hf hc; clear ht hf
    refine zw_iconst (v := 0) d_L_law_244 rfl ?_
    exact False.elim h
def P_law_246 (L : Nat) (xs : Nat → Int32) (a4 : Int32) (K : zS → Prop) (σ : zS) : Prop := zk 201 0 0 ∧ P_C_fault 201 0 σ (fun x1 σ2 => zk 201 183 7 ∧ P_M_fault 201 183 σ2 (fun x4 σ5 => ((x1 = x4 → K σ5) ∧ (¬ (x1 = x4) → False))))
set_option maxHeartbeats 2000000 in
set_option maxRecDepth 10000 in
theorem w_law_246 (hX : va_X b L xs s s.heap) (hbl : b < s.heap.size ∧ b < base) (hTh : zTh base s) (hfl : l.flags = pinnedFlags ++ [noTraceFlag]) {K : zS → Prop} {cu su : Nat} {a4 : Int32} {σ : zS} (hcu : cu + 1 ≤ 600000) (hsu : su + 6 ≤ 7200000) (hK : ∀ (cu' su' : Nat) (σ : zS), cu' ≤ cu + 1 → su' ≤ su + 6 → K σ → zG p l e room_1 s m #[Value.ref b] below meth c (lw_Z below #[Value.ref b] s) s.heap (zA base) base D cA 7 false code "ConstantFlowLaw" 201 cu' su' 798 [some (.retAddr b), some (.ref 0), some (.ref 183), some (.ref 200), some (.int a4), none, none] [] σ) (h : P_law_246 L xs a4 K σ) : zG p l e room_1 s m #[Value.ref b] below meth c (lw_Z below #[Value.ref b] s) s.heap (zA base) base D cA 7 false code "ConstantFlowLaw" 201 cu su 246 [some (.retAddr b), some (.ref 0), some (.ref 183), some (.ref 200), some (.int a4), none, none] [] σ := by
  unfold P_law_246 at h
  refine zw_aload_n d_L_law_246 rfl rfl ?_
  obtain ⟨q3, h⟩ := h
  refine zw_callV (ci := 0) (b := 0) (As := []) (r := []) d_L_law_247 (c_C_fault h) ml_2_160 ml_2_161 ml_2_162 mw_1_1 ml_2_163 (by decide) q3.1 q3.2 hyV_C_fault (Nat.le_of_ble_eq_true rfl) (Nat.le_of_ble_eq_true rfl) ⟨by show _ ≤ 601024; omega, by show _ ≤ 7293034; omega⟩ (Nat.le_of_ble_eq_true rfl) rfl (zk_i (fun x1 σ2 h => ?_))
  refine zw_aload_n d_L_law_250 rfl rfl ?_
  obtain ⟨q6, h⟩ := h
  refine zw_callV (ci := 7) (b := 183) (As := []) (r := [.int x1]) d_L_law_251 (c_M_fault h) ml_4_120 ml_4_121 ml_4_122 mw_1_8 ml_4_123 (by decide) q6.1 q6.2 hyV_M_fault (Nat.le_of_ble_eq_true rfl) (Nat.le_of_ble_eq_true rfl) ⟨by show _ ≤ 601024; omega, by show _ ≤ 7293034; omega⟩ (Nat.le_of_ble_eq_true rfl) rfl (zk_i (fun x4 σ5 h => ?_))
  obtain ⟨ht, hf⟩ := h
  refine zw_icmp_eq (tgt := 798) d_L_law_254 rfl (fun hc => ?_) (fun hc => ?_)
  · have h := ht hc; clear ht hf
    exact hK _ _ _ (by omega) (by omega) h
  · have h := hf hc; clear ht hf
    refine zw_iconst (v := 0) d_L_law_257 rfl ?_
    exact False.elim h
def P_law_259 (L : Nat) (xs : Nat → Int32) (a4 : Int32) (K : zS → Prop) (σ : zS) : Prop := zk 201 0 0 ∧ P_C_place 201 0 σ (fun x1 σ2 => zk 201 183 7 ∧ P_M_place 201 183 σ2 (fun x4 σ5 => ((x1 = x4 → K σ5) ∧ (¬ (x1 = x4) → False))))
set_option maxHeartbeats 2000000 in
set_option maxRecDepth 10000 in
theorem w_law_259 (hX : va_X b L xs s s.heap) (hbl : b < s.heap.size ∧ b < base) (hTh : zTh base s) (hfl : l.flags = pinnedFlags ++ [noTraceFlag]) {K : zS → Prop} {cu su : Nat} {a4 : Int32} {σ : zS} (hcu : cu + 1 ≤ 600000) (hsu : su + 6 ≤ 7200000) (hK : ∀ (cu' su' : Nat) (σ : zS), cu' ≤ cu + 1 → su' ≤ su + 6 → K σ → zG p l e room_1 s m #[Value.ref b] below meth c (lw_Z below #[Value.ref b] s) s.heap (zA base) base D cA 7 false code "ConstantFlowLaw" 201 cu' su' 798 [some (.retAddr b), some (.ref 0), some (.ref 183), some (.ref 200), some (.int a4), none, none] [] σ) (h : P_law_259 L xs a4 K σ) : zG p l e room_1 s m #[Value.ref b] below meth c (lw_Z below #[Value.ref b] s) s.heap (zA base) base D cA 7 false code "ConstantFlowLaw" 201 cu su 259 [some (.retAddr b), some (.ref 0), some (.ref 183), some (.ref 200), some (.int a4), none, none] [] σ := by
  unfold P_law_259 at h
  refine zw_aload_n d_L_law_259 rfl rfl ?_
  obtain ⟨q3, h⟩ := h
  refine zw_callV (ci := 0) (b := 0) (As := []) (r := []) d_L_law_260 (c_C_place h) ml_2_164 ml_2_165 ml_2_166 mw_1_1 ml_2_167 (by decide) q3.1 q3.2 hyV_C_place (Nat.le_of_ble_eq_true rfl) (Nat.le_of_ble_eq_true rfl) ⟨by show _ ≤ 601024; omega, by show _ ≤ 7293034; omega⟩ (Nat.le_of_ble_eq_true rfl) rfl (zk_i (fun x1 σ2 h => ?_))
  refine zw_aload_n d_L_law_263 rfl rfl ?_
  obtain ⟨q6, h⟩ := h
  refine zw_callV (ci := 7) (b := 183) (As := []) (r := [.int x1]) d_L_law_264 (c_M_place h) ml_4_124 ml_4_125 ml_4_126 mw_1_8 ml_4_127 (by decide) q6.1 q6.2 hyV_M_place (Nat.le_of_ble_eq_true rfl) (Nat.le_of_ble_eq_true rfl) ⟨by show _ ≤ 601024; omega, by show _ ≤ 7293034; omega⟩ (Nat.le_of_ble_eq_true rfl) rfl (zk_i (fun x4 σ5 h => ?_))
  obtain ⟨ht, hf⟩ := h
  refine zw_icmp_eq (tgt := 798) d_L_law_267 rfl (fun hc => ?_) (fun hc => ?_)
  · have h := ht hc; clear ht hf
    exact hK _ _ _ (by omega) (by omega) h
  · have h := hf hc; clear ht hf
    refine zw_iconst (v := 0) d_L_law_270 rfl ?_
    exact False.elim h
def P_law_272 (L : Nat) (xs : Nat → Int32) (a4 : Int32) (K : zS → Prop) (σ : zS) : Prop := vp_in (a4 + (1 : Int32)) L ∧ P_L_comes 201 0 (xs (a4 + (1 : Int32)).toNatClampNeg) 200 σ (fun x2 σ3 => vp_in (a4 + (1 : Int32)) L ∧ zk 201 183 7 ∧ P_M_comes 201 183 (xs (a4 + (1 : Int32)).toNatClampNeg) σ3 (fun x5 σ6 => P_M_thrown 201 183 σ6 (fun x8 σ9 => ((x8 = x2 → ((¬ x2 = 0 → K σ9) ∧ (x2 = 0 → za 201 200 14 (0 : Int32) ∧ ((x5 = 0 → (((lg_cmp (zl σ9 200 (0 : Int32).toNatClampNeg) (0 : Int64)) = 0 → K σ9) ∧ (¬ ((lg_cmp (zl σ9 200 (0 : Int32).toNatClampNeg) (0 : Int64)) = 0) → False))) ∧ (¬ (x5 = 0) → (((lg_cmp (zl σ9 200 (0 : Int32).toNatClampNeg) (1 : Int64)) = 0 → K σ9) ∧ (¬ ((lg_cmp (zl σ9 200 (0 : Int32).toNatClampNeg) (1 : Int64)) = 0) → False))))))) ∧ (¬ (x8 = x2) → False)))))
set_option maxHeartbeats 2000000 in
set_option maxRecDepth 10000 in
theorem w_law_272 (hX : va_X b L xs s s.heap) (hbl : b < s.heap.size ∧ b < base) (hTh : zTh base s) (hfl : l.flags = pinnedFlags ++ [noTraceFlag]) {K : zS → Prop} {cu su : Nat} {a4 : Int32} {σ : zS} (hcu : cu + 1 ≤ 600000) (hsu : su + 6 ≤ 7200000) (hK : ∀ (cu' su' : Nat) (σ : zS), cu' ≤ cu + 1 → su' ≤ su + 6 → K σ → zG p l e room_1 s m #[Value.ref b] below meth c (lw_Z below #[Value.ref b] s) s.heap (zA base) base D cA 7 false code "ConstantFlowLaw" 201 cu' su' 798 [some (.retAddr b), some (.ref 0), some (.ref 183), some (.ref 200), some (.int a4), none, none] [] σ) (h : P_law_272 L xs a4 K σ) : zG p l e room_1 s m #[Value.ref b] below meth c (lw_Z below #[Value.ref b] s) s.heap (zA base) base D cA 7 false code "ConstantFlowLaw" 201 cu su 272 [some (.retAddr b), some (.ref 0), some (.ref 183), some (.ref 200), some (.int a4), none, none] [] σ := by
  unfold P_law_272 at h
  refine zw_aload_n d_L_law_272 rfl rfl ?_
  refine zw_aload_nq d_L_law_273 rfl rfl ?_
  refine zw_iload d_L_law_274 rfl ?_
  refine zw_iconst (v := 1) d_L_law_276 rfl ?_
  refine zw_iadd d_L_law_277 ?_
  obtain ⟨q1, h⟩ := h
  refine zw_sld d_L_law_278 hX hbl zA_no q1 ?_
  refine zw_aload_n d_L_law_279 rfl rfl ?_
  refine zw_callSW (As := [.ref 0, .int (xs (a4 + (1 : Int32)).toNatClampNeg), .ref 200]) (r := []) d_L_law_280 (c_L_comes hfl h) ml_3_67 ml_3_68 ml_1_0 ml_3_69 hyS_L_comes (Nat.le_of_ble_eq_true rfl) (Nat.le_of_ble_eq_true rfl) ⟨by show _ ≤ 601024; omega, by show _ ≤ 7293034; omega⟩ (Nat.le_of_ble_eq_true rfl) rfl hTh (zk_i (fun x2 σ3 h => ?_))
  refine zw_istore d_L_law_283 (Nat.le_of_ble_eq_true rfl) rfl rfl ?_
  refine zw_aload_n d_L_law_285 rfl rfl ?_
  refine zw_aload_nq d_L_law_286 rfl rfl ?_
  refine zw_iload d_L_law_287 rfl ?_
  refine zw_iconst (v := 1) d_L_law_289 rfl ?_
  refine zw_iadd d_L_law_290 ?_
  obtain ⟨q4, h⟩ := h
  refine zw_sld d_L_law_291 hX hbl zA_no q4 ?_
  obtain ⟨q7, h⟩ := h
  refine zw_callV (ci := 7) (b := 183) (As := [.int (xs (a4 + (1 : Int32)).toNatClampNeg)]) (r := []) d_L_law_292 (c_M_comes h) ml_4_128 ml_4_129 ml_4_130 mw_1_8 ml_4_131 (by decide) q7.1 q7.2 hyV_M_comes (Nat.le_of_ble_eq_true rfl) (Nat.le_of_ble_eq_true rfl) ⟨by show _ ≤ 601024; omega, by show _ ≤ 7293034; omega⟩ (Nat.le_of_ble_eq_true rfl) rfl (zk_i (fun x5 σ6 h => ?_))
  refine zw_istore d_L_law_295 (Nat.le_of_ble_eq_true rfl) rfl rfl ?_
  refine zw_aload_n d_L_law_297 rfl rfl ?_
  refine zw_callV (ci := 7) (b := 183) (As := []) (r := []) d_L_law_298 (c_M_thrown h) ml_4_45 ml_4_46 ml_4_47 mw_1_8 ml_4_48 (by decide) q7.1 q7.2 hyV_M_thrown (Nat.le_of_ble_eq_true rfl) (Nat.le_of_ble_eq_true rfl) ⟨by show _ ≤ 601024; omega, by show _ ≤ 7293034; omega⟩ (Nat.le_of_ble_eq_true rfl) rfl (zk_i (fun x8 σ9 h => ?_))
  refine zw_iload d_L_law_301 rfl ?_
  obtain ⟨ht, hf⟩ := h
  refine zw_icmp_eq (tgt := 308) d_L_law_303 rfl (fun hc => ?_) (fun hc => ?_)
  · have h := ht hc; clear ht hf
    refine zw_iload d_L_law_308 rfl ?_
    obtain ⟨ht, hf⟩ := h
    refine zw_if_ne (tgt := 332) d_L_law_310 rfl (fun hc => ?_) (fun hc => ?_)
    · have h := ht hc; clear ht hf
      refine zw_goto (tgt := 798) d_L_law_332 rfl ?_
      refine zw_le (ls' := [some (.retAddr b), some (.ref 0), some (.ref 183), some (.ref 200), some (.int a4), none, none]) (And.intro rfl (And.intro rfl (And.intro rfl (And.intro rfl (And.intro rfl True.intro))))) ?_
      exact hK _ _ _ (by omega) (by omega) h
    · have h := hf hc; clear ht hf
      refine zw_aload_n d_L_law_313 rfl rfl ?_
      refine zw_iconst (v := 0) d_L_law_314 rfl ?_
      obtain ⟨q10, h⟩ := h
      refine zw_lald d_L_law_315 q10.1 (zkd_eta q10.2.1) q10.2.2 ?_
      refine zw_iload d_L_law_316 rfl ?_
      obtain ⟨ht, hf⟩ := h
      refine zw_if_eq (tgt := 325) d_L_law_318 rfl (fun hc => ?_) (fun hc => ?_)
      · have h := ht hc; clear ht hf
        refine zw_lconst (v := 0) d_L_law_325 rfl ?_
        refine zw_lcmp d_L_law_326 ?_
        obtain ⟨ht, hf⟩ := h
        refine zw_if_eq (tgt := 332) d_L_law_327 rfl (fun hc => ?_) (fun hc => ?_)
        · have h := ht hc; clear ht hf
          refine zw_goto (tgt := 798) d_L_law_332 rfl ?_
          refine zw_le (ls' := [some (.retAddr b), some (.ref 0), some (.ref 183), some (.ref 200), some (.int a4), none, none]) (And.intro rfl (And.intro rfl (And.intro rfl (And.intro rfl (And.intro rfl True.intro))))) ?_
          exact hK _ _ _ (by omega) (by omega) h
        · have h := hf hc; clear ht hf
          refine zw_iconst (v := 0) d_L_law_330 rfl ?_
          exact False.elim h
      · have h := hf hc; clear ht hf
        refine zw_lconst (v := 1) d_L_law_321 rfl ?_
        refine zw_goto (tgt := 326) d_L_law_322 rfl ?_
        refine zw_lcmp d_L_law_326 ?_
        obtain ⟨ht, hf⟩ := h
        refine zw_if_eq (tgt := 332) d_L_law_327 rfl (fun hc => ?_) (fun hc => ?_)
        · have h := ht hc; clear ht hf
          refine zw_goto (tgt := 798) d_L_law_332 rfl ?_
          refine zw_le (ls' := [some (.retAddr b), some (.ref 0), some (.ref 183), some (.ref 200), some (.int a4), none, none]) (And.intro rfl (And.intro rfl (And.intro rfl (And.intro rfl (And.intro rfl True.intro))))) ?_
          exact hK _ _ _ (by omega) (by omega) h
        · have h := hf hc; clear ht hf
          refine zw_iconst (v := 0) d_L_law_330 rfl ?_
          exact False.elim h
  · have h := hf hc; clear ht hf
    refine zw_iconst (v := 0) d_L_law_306 rfl ?_
    exact False.elim h
def P_law_335 (L : Nat) (xs : Nat → Int32) (a4 : Int32) (K : zS → Prop) (σ : zS) : Prop := vp_in (a4 + (1 : Int32)) L ∧ vp_in (a4 + (2 : Int32)) L ∧ vp_in (a4 + (3 : Int32)) L ∧ (((xs (a4 + (3 : Int32)).toNatClampNeg) = 0 → P_L_known 201 0 (xs (a4 + (1 : Int32)).toNatClampNeg) (xs (a4 + (2 : Int32)).toNatClampNeg) (0 : Int32) 200 σ (fun x4 σ5 => vp_in (a4 + (1 : Int32)) L ∧ vp_in (a4 + (2 : Int32)) L ∧ vp_in (a4 + (3 : Int32)) L ∧ (((xs (a4 + (3 : Int32)).toNatClampNeg) = 0 → zk 201 183 7 ∧ P_M_known 201 183 (xs (a4 + (1 : Int32)).toNatClampNeg) (xs (a4 + (2 : Int32)).toNatClampNeg) (0 : Int32) σ5 (fun x9 σ10 => P_M_thrown 201 183 σ10 (fun x12 σ13 => ((x12 = x4 → ((¬ x4 = 0 → K σ13) ∧ (x4 = 0 → za 201 200 14 (0 : Int32) ∧ (((lg_cmp (zl σ13 200 (0 : Int32).toNatClampNeg) (Int32.toInt64 x9)) = 0 → K σ13) ∧ (¬ ((lg_cmp (zl σ13 200 (0 : Int32).toNatClampNeg) (Int32.toInt64 x9)) = 0) → False))))) ∧ (¬ (x12 = x4) → False))))) ∧ (¬ ((xs (a4 + (3 : Int32)).toNatClampNeg) = 0) → zk 201 183 7 ∧ P_M_known 201 183 (xs (a4 + (1 : Int32)).toNatClampNeg) (xs (a4 + (2 : Int32)).toNatClampNeg) (1 : Int32) σ5 (fun x15 σ16 => P_M_thrown 201 183 σ16 (fun x18 σ19 => ((x18 = x4 → ((¬ x4 = 0 → K σ19) ∧ (x4 = 0 → za 201 200 14 (0 : Int32) ∧ (((lg_cmp (zl σ19 200 (0 : Int32).toNatClampNeg) (Int32.toInt64 x15)) = 0 → K σ19) ∧ (¬ ((lg_cmp (zl σ19 200 (0 : Int32).toNatClampNeg) (Int32.toInt64 x15)) = 0) → False))))) ∧ (¬ (x18 = x4) → False)))))))) ∧ (¬ ((xs (a4 + (3 : Int32)).toNatClampNeg) = 0) → P_L_known 201 0 (xs (a4 + (1 : Int32)).toNatClampNeg) (xs (a4 + (2 : Int32)).toNatClampNeg) (1 : Int32) 200 σ (fun x21 σ22 => vp_in (a4 + (1 : Int32)) L ∧ vp_in (a4 + (2 : Int32)) L ∧ vp_in (a4 + (3 : Int32)) L ∧ (((xs (a4 + (3 : Int32)).toNatClampNeg) = 0 → zk 201 183 7 ∧ P_M_known 201 183 (xs (a4 + (1 : Int32)).toNatClampNeg) (xs (a4 + (2 : Int32)).toNatClampNeg) (0 : Int32) σ22 (fun x26 σ27 => P_M_thrown 201 183 σ27 (fun x29 σ30 => ((x29 = x21 → ((¬ x21 = 0 → K σ30) ∧ (x21 = 0 → za 201 200 14 (0 : Int32) ∧ (((lg_cmp (zl σ30 200 (0 : Int32).toNatClampNeg) (Int32.toInt64 x26)) = 0 → K σ30) ∧ (¬ ((lg_cmp (zl σ30 200 (0 : Int32).toNatClampNeg) (Int32.toInt64 x26)) = 0) → False))))) ∧ (¬ (x29 = x21) → False))))) ∧ (¬ ((xs (a4 + (3 : Int32)).toNatClampNeg) = 0) → zk 201 183 7 ∧ P_M_known 201 183 (xs (a4 + (1 : Int32)).toNatClampNeg) (xs (a4 + (2 : Int32)).toNatClampNeg) (1 : Int32) σ22 (fun x32 σ33 => P_M_thrown 201 183 σ33 (fun x35 σ36 => ((x35 = x21 → ((¬ x21 = 0 → K σ36) ∧ (x21 = 0 → za 201 200 14 (0 : Int32) ∧ (((lg_cmp (zl σ36 200 (0 : Int32).toNatClampNeg) (Int32.toInt64 x32)) = 0 → K σ36) ∧ (¬ ((lg_cmp (zl σ36 200 (0 : Int32).toNatClampNeg) (Int32.toInt64 x32)) = 0) → False))))) ∧ (¬ (x35 = x21) → False)))))))))
set_option maxHeartbeats 2000000 in
set_option maxRecDepth 10000 in
theorem w_law_335 (hX : va_X b L xs s s.heap) (hbl : b < s.heap.size ∧ b < base) (hTh : zTh base s) (hfl : l.flags = pinnedFlags ++ [noTraceFlag]) {K : zS → Prop} {cu su : Nat} {a4 : Int32} {σ : zS} (hcu : cu + 1 ≤ 600000) (hsu : su + 6 ≤ 7200000) (hK : ∀ (cu' su' : Nat) (σ : zS), cu' ≤ cu + 1 → su' ≤ su + 6 → K σ → zG p l e room_1 s m #[Value.ref b] below meth c (lw_Z below #[Value.ref b] s) s.heap (zA base) base D cA 7 false code "ConstantFlowLaw" 201 cu' su' 798 [some (.retAddr b), some (.ref 0), some (.ref 183), some (.ref 200), some (.int a4), none, none] [] σ) (h : P_law_335 L xs a4 K σ) : zG p l e room_1 s m #[Value.ref b] below meth c (lw_Z below #[Value.ref b] s) s.heap (zA base) base D cA 7 false code "ConstantFlowLaw" 201 cu su 335 [some (.retAddr b), some (.ref 0), some (.ref 183), some (.ref 200), some (.int a4), none, none] [] σ := by
  unfold P_law_335 at h
  refine zw_aload_n d_L_law_335 rfl rfl ?_
  refine zw_aload_nq d_L_law_336 rfl rfl ?_
  refine zw_iload d_L_law_337 rfl ?_
  refine zw_iconst (v := 1) d_L_law_339 rfl ?_
  refine zw_iadd d_L_law_340 ?_
  obtain ⟨q1, h⟩ := h
  refine zw_sld d_L_law_341 hX hbl zA_no q1 ?_
  refine zw_aload_nq d_L_law_342 rfl rfl ?_
  refine zw_iload d_L_law_343 rfl ?_
  refine zw_iconst (v := 2) d_L_law_345 rfl ?_
  refine zw_iadd d_L_law_346 ?_
  obtain ⟨q2, h⟩ := h
  refine zw_sld d_L_law_347 hX hbl zA_no q2 ?_
  refine zw_aload_nq d_L_law_348 rfl rfl ?_
  refine zw_iload d_L_law_349 rfl ?_
  refine zw_iconst (v := 3) d_L_law_351 rfl ?_
  refine zw_iadd d_L_law_352 ?_
  obtain ⟨q3, h⟩ := h
  refine zw_sld d_L_law_353 hX hbl zA_no q3 ?_
  obtain ⟨ht, hf⟩ := h
  refine zw_if_eq (tgt := 361) d_L_law_354 rfl (fun hc => ?_) (fun hc => ?_)
  · have h := ht hc; clear ht hf
    refine zw_iconst (v := 0) d_L_law_361 rfl ?_
    refine zw_aload_n d_L_law_362 rfl rfl ?_
    refine zw_callSW (As := [.ref 0, .int (xs (a4 + (1 : Int32)).toNatClampNeg), .int (xs (a4 + (2 : Int32)).toNatClampNeg), .int (0 : Int32), .ref 200]) (r := []) d_L_law_363 (c_L_known hfl h) ml_3_95 ml_3_96 ml_1_0 ml_3_97 hyS_L_known (Nat.le_of_ble_eq_true rfl) (Nat.le_of_ble_eq_true rfl) ⟨by show _ ≤ 601024; omega, by show _ ≤ 7293034; omega⟩ (Nat.le_of_ble_eq_true rfl) rfl hTh (zk_i (fun x4 σ5 h => ?_))
    refine zw_istore d_L_law_366 (Nat.le_of_ble_eq_true rfl) rfl rfl ?_
    refine zw_aload_n d_L_law_368 rfl rfl ?_
    refine zw_aload_nq d_L_law_369 rfl rfl ?_
    refine zw_iload d_L_law_370 rfl ?_
    refine zw_iconst (v := 1) d_L_law_372 rfl ?_
    refine zw_iadd d_L_law_373 ?_
    obtain ⟨q6, h⟩ := h
    refine zw_sld d_L_law_374 hX hbl zA_no q6 ?_
    refine zw_aload_nq d_L_law_375 rfl rfl ?_
    refine zw_iload d_L_law_376 rfl ?_
    refine zw_iconst (v := 2) d_L_law_378 rfl ?_
    refine zw_iadd d_L_law_379 ?_
    obtain ⟨q7, h⟩ := h
    refine zw_sld d_L_law_380 hX hbl zA_no q7 ?_
    refine zw_aload_nq d_L_law_381 rfl rfl ?_
    refine zw_iload d_L_law_382 rfl ?_
    refine zw_iconst (v := 3) d_L_law_384 rfl ?_
    refine zw_iadd d_L_law_385 ?_
    obtain ⟨q8, h⟩ := h
    refine zw_sld d_L_law_386 hX hbl zA_no q8 ?_
    obtain ⟨ht, hf⟩ := h
    refine zw_if_eq (tgt := 394) d_L_law_387 rfl (fun hc => ?_) (fun hc => ?_)
    · have h := ht hc; clear ht hf
      refine zw_iconst (v := 0) d_L_law_394 rfl ?_
      obtain ⟨q11, h⟩ := h
      refine zw_callV (ci := 7) (b := 183) (As := [.int (xs (a4 + (1 : Int32)).toNatClampNeg), .int (xs (a4 + (2 : Int32)).toNatClampNeg), .int (0 : Int32)]) (r := []) d_L_law_395 (c_M_known h) ml_4_175 ml_4_176 ml_4_177 mw_1_8 ml_4_178 (by decide) q11.1 q11.2 hyV_M_known (Nat.le_of_ble_eq_true rfl) (Nat.le_of_ble_eq_true rfl) ⟨by show _ ≤ 601024; omega, by show _ ≤ 7293034; omega⟩ (Nat.le_of_ble_eq_true rfl) rfl (zk_i (fun x9 σ10 h => ?_))
      refine zw_istore d_L_law_398 (Nat.le_of_ble_eq_true rfl) rfl rfl ?_
      refine zw_aload_n d_L_law_400 rfl rfl ?_
      refine zw_callV (ci := 7) (b := 183) (As := []) (r := []) d_L_law_401 (c_M_thrown h) ml_4_45 ml_4_46 ml_4_47 mw_1_8 ml_4_48 (by decide) q11.1 q11.2 hyV_M_thrown (Nat.le_of_ble_eq_true rfl) (Nat.le_of_ble_eq_true rfl) ⟨by show _ ≤ 601024; omega, by show _ ≤ 7293034; omega⟩ (Nat.le_of_ble_eq_true rfl) rfl (zk_i (fun x12 σ13 h => ?_))
      refine zw_iload d_L_law_404 rfl ?_
      obtain ⟨ht, hf⟩ := h
      refine zw_icmp_eq (tgt := 411) d_L_law_406 rfl (fun hc => ?_) (fun hc => ?_)
      · have h := ht hc; clear ht hf
        refine zw_iload d_L_law_411 rfl ?_
        obtain ⟨ht, hf⟩ := h
        refine zw_if_ne (tgt := 428) d_L_law_413 rfl (fun hc => ?_) (fun hc => ?_)
        · have h := ht hc; clear ht hf
          refine zw_goto (tgt := 798) d_L_law_428 rfl ?_
          refine zw_le (ls' := [some (.retAddr b), some (.ref 0), some (.ref 183), some (.ref 200), some (.int a4), none, none]) (And.intro rfl (And.intro rfl (And.intro rfl (And.intro rfl (And.intro rfl True.intro))))) ?_
          exact hK _ _ _ (by omega) (by omega) h
        · have h := hf hc; clear ht hf
          refine zw_aload_n d_L_law_416 rfl rfl ?_
          refine zw_iconst (v := 0) d_L_law_417 rfl ?_
          obtain ⟨q14, h⟩ := h
          refine zw_lald d_L_law_418 q14.1 (zkd_eta q14.2.1) q14.2.2 ?_
          refine zw_iload d_L_law_419 rfl ?_
          refine zw_i2l d_L_law_421 ?_
          refine zw_lcmp d_L_law_422 ?_
          obtain ⟨ht, hf⟩ := h
          refine zw_if_eq (tgt := 428) d_L_law_423 rfl (fun hc => ?_) (fun hc => ?_)
          · have h := ht hc; clear ht hf
            refine zw_goto (tgt := 798) d_L_law_428 rfl ?_
            refine zw_le (ls' := [some (.retAddr b), some (.ref 0), some (.ref 183), some (.ref 200), some (.int a4), none, none]) (And.intro rfl (And.intro rfl (And.intro rfl (And.intro rfl (And.intro rfl True.intro))))) ?_
            exact hK _ _ _ (by omega) (by omega) h
          · have h := hf hc; clear ht hf
            refine zw_iconst (v := 0) d_L_law_426 rfl ?_
            exact False.elim h
      · have h := hf hc; clear ht hf
        refine zw_iconst (v := 0) d_L_law_409 rfl ?_
        exact False.elim h
    · have h := hf hc; clear ht hf
      refine zw_iconst (v := 1) d_L_law_390 rfl ?_
      refine zw_goto (tgt := 395) d_L_law_391 rfl ?_
      obtain ⟨q17, h⟩ := h
      refine zw_callV (ci := 7) (b := 183) (As := [.int (xs (a4 + (1 : Int32)).toNatClampNeg), .int (xs (a4 + (2 : Int32)).toNatClampNeg), .int (1 : Int32)]) (r := []) d_L_law_395 (c_M_known h) ml_4_175 ml_4_176 ml_4_177 mw_1_8 ml_4_178 (by decide) q17.1 q17.2 hyV_M_known (Nat.le_of_ble_eq_true rfl) (Nat.le_of_ble_eq_true rfl) ⟨by show _ ≤ 601024; omega, by show _ ≤ 7293034; omega⟩ (Nat.le_of_ble_eq_true rfl) rfl (zk_i (fun x15 σ16 h => ?_))
      refine zw_istore d_L_law_398 (Nat.le_of_ble_eq_true rfl) rfl rfl ?_
      refine zw_aload_n d_L_law_400 rfl rfl ?_
      refine zw_callV (ci := 7) (b := 183) (As := []) (r := []) d_L_law_401 (c_M_thrown h) ml_4_45 ml_4_46 ml_4_47 mw_1_8 ml_4_48 (by decide) q17.1 q17.2 hyV_M_thrown (Nat.le_of_ble_eq_true rfl) (Nat.le_of_ble_eq_true rfl) ⟨by show _ ≤ 601024; omega, by show _ ≤ 7293034; omega⟩ (Nat.le_of_ble_eq_true rfl) rfl (zk_i (fun x18 σ19 h => ?_))
      refine zw_iload d_L_law_404 rfl ?_
      obtain ⟨ht, hf⟩ := h
      refine zw_icmp_eq (tgt := 411) d_L_law_406 rfl (fun hc => ?_) (fun hc => ?_)
      · have h := ht hc; clear ht hf
        refine zw_iload d_L_law_411 rfl ?_
        obtain ⟨ht, hf⟩ := h
        refine zw_if_ne (tgt := 428) d_L_law_413 rfl (fun hc => ?_) (fun hc => ?_)
        · have h := ht hc; clear ht hf
          refine zw_goto (tgt := 798) d_L_law_428 rfl ?_
          refine zw_le (ls' := [some (.retAddr b), some (.ref 0), some (.ref 183), some (.ref 200), some (.int a4), none, none]) (And.intro rfl (And.intro rfl (And.intro rfl (And.intro rfl (And.intro rfl True.intro))))) ?_
          exact hK _ _ _ (by omega) (by omega) h
        · have h := hf hc; clear ht hf
          refine zw_aload_n d_L_law_416 rfl rfl ?_
          refine zw_iconst (v := 0) d_L_law_417 rfl ?_
          obtain ⟨q20, h⟩ := h
          refine zw_lald d_L_law_418 q20.1 (zkd_eta q20.2.1) q20.2.2 ?_
          refine zw_iload d_L_law_419 rfl ?_
          refine zw_i2l d_L_law_421 ?_
          refine zw_lcmp d_L_law_422 ?_
          obtain ⟨ht, hf⟩ := h
          refine zw_if_eq (tgt := 428) d_L_law_423 rfl (fun hc => ?_) (fun hc => ?_)
          · have h := ht hc; clear ht hf
            refine zw_goto (tgt := 798) d_L_law_428 rfl ?_
            refine zw_le (ls' := [some (.retAddr b), some (.ref 0), some (.ref 183), some (.ref 200), some (.int a4), none, none]) (And.intro rfl (And.intro rfl (And.intro rfl (And.intro rfl (And.intro rfl True.intro))))) ?_
            exact hK _ _ _ (by omega) (by omega) h
          · have h := hf hc; clear ht hf
            refine zw_iconst (v := 0) d_L_law_426 rfl ?_
            exact False.elim h
      · have h := hf hc; clear ht hf
        refine zw_iconst (v := 0) d_L_law_409 rfl ?_
        exact False.elim h
  · have h := hf hc; clear ht hf
    refine zw_iconst (v := 1) d_L_law_357 rfl ?_
    refine zw_goto (tgt := 362) d_L_law_358 rfl ?_
    refine zw_aload_n d_L_law_362 rfl rfl ?_
    refine zw_callSW (As := [.ref 0, .int (xs (a4 + (1 : Int32)).toNatClampNeg), .int (xs (a4 + (2 : Int32)).toNatClampNeg), .int (1 : Int32), .ref 200]) (r := []) d_L_law_363 (c_L_known hfl h) ml_3_95 ml_3_96 ml_1_0 ml_3_97 hyS_L_known (Nat.le_of_ble_eq_true rfl) (Nat.le_of_ble_eq_true rfl) ⟨by show _ ≤ 601024; omega, by show _ ≤ 7293034; omega⟩ (Nat.le_of_ble_eq_true rfl) rfl hTh (zk_i (fun x21 σ22 h => ?_))
    refine zw_istore d_L_law_366 (Nat.le_of_ble_eq_true rfl) rfl rfl ?_
    refine zw_aload_n d_L_law_368 rfl rfl ?_
    refine zw_aload_nq d_L_law_369 rfl rfl ?_
    refine zw_iload d_L_law_370 rfl ?_
    refine zw_iconst (v := 1) d_L_law_372 rfl ?_
    refine zw_iadd d_L_law_373 ?_
    obtain ⟨q23, h⟩ := h
    refine zw_sld d_L_law_374 hX hbl zA_no q23 ?_
    refine zw_aload_nq d_L_law_375 rfl rfl ?_
    refine zw_iload d_L_law_376 rfl ?_
    refine zw_iconst (v := 2) d_L_law_378 rfl ?_
    refine zw_iadd d_L_law_379 ?_
    obtain ⟨q24, h⟩ := h
    refine zw_sld d_L_law_380 hX hbl zA_no q24 ?_
    refine zw_aload_nq d_L_law_381 rfl rfl ?_
    refine zw_iload d_L_law_382 rfl ?_
    refine zw_iconst (v := 3) d_L_law_384 rfl ?_
    refine zw_iadd d_L_law_385 ?_
    obtain ⟨q25, h⟩ := h
    refine zw_sld d_L_law_386 hX hbl zA_no q25 ?_
    obtain ⟨ht, hf⟩ := h
    refine zw_if_eq (tgt := 394) d_L_law_387 rfl (fun hc => ?_) (fun hc => ?_)
    · have h := ht hc; clear ht hf
      refine zw_iconst (v := 0) d_L_law_394 rfl ?_
      obtain ⟨q28, h⟩ := h
      refine zw_callV (ci := 7) (b := 183) (As := [.int (xs (a4 + (1 : Int32)).toNatClampNeg), .int (xs (a4 + (2 : Int32)).toNatClampNeg), .int (0 : Int32)]) (r := []) d_L_law_395 (c_M_known h) ml_4_175 ml_4_176 ml_4_177 mw_1_8 ml_4_178 (by decide) q28.1 q28.2 hyV_M_known (Nat.le_of_ble_eq_true rfl) (Nat.le_of_ble_eq_true rfl) ⟨by show _ ≤ 601024; omega, by show _ ≤ 7293034; omega⟩ (Nat.le_of_ble_eq_true rfl) rfl (zk_i (fun x26 σ27 h => ?_))
      refine zw_istore d_L_law_398 (Nat.le_of_ble_eq_true rfl) rfl rfl ?_
      refine zw_aload_n d_L_law_400 rfl rfl ?_
      refine zw_callV (ci := 7) (b := 183) (As := []) (r := []) d_L_law_401 (c_M_thrown h) ml_4_45 ml_4_46 ml_4_47 mw_1_8 ml_4_48 (by decide) q28.1 q28.2 hyV_M_thrown (Nat.le_of_ble_eq_true rfl) (Nat.le_of_ble_eq_true rfl) ⟨by show _ ≤ 601024; omega, by show _ ≤ 7293034; omega⟩ (Nat.le_of_ble_eq_true rfl) rfl (zk_i (fun x29 σ30 h => ?_))
      refine zw_iload d_L_law_404 rfl ?_
      obtain ⟨ht, hf⟩ := h
      refine zw_icmp_eq (tgt := 411) d_L_law_406 rfl (fun hc => ?_) (fun hc => ?_)
      · have h := ht hc; clear ht hf
        refine zw_iload d_L_law_411 rfl ?_
        obtain ⟨ht, hf⟩ := h
        refine zw_if_ne (tgt := 428) d_L_law_413 rfl (fun hc => ?_) (fun hc => ?_)
        · have h := ht hc; clear ht hf
          refine zw_goto (tgt := 798) d_L_law_428 rfl ?_
          refine zw_le (ls' := [some (.retAddr b), some (.ref 0), some (.ref 183), some (.ref 200), some (.int a4), none, none]) (And.intro rfl (And.intro rfl (And.intro rfl (And.intro rfl (And.intro rfl True.intro))))) ?_
          exact hK _ _ _ (by omega) (by omega) h
        · have h := hf hc; clear ht hf
          refine zw_aload_n d_L_law_416 rfl rfl ?_
          refine zw_iconst (v := 0) d_L_law_417 rfl ?_
          obtain ⟨q31, h⟩ := h
          refine zw_lald d_L_law_418 q31.1 (zkd_eta q31.2.1) q31.2.2 ?_
          refine zw_iload d_L_law_419 rfl ?_
          refine zw_i2l d_L_law_421 ?_
          refine zw_lcmp d_L_law_422 ?_
          obtain ⟨ht, hf⟩ := h
          refine zw_if_eq (tgt := 428) d_L_law_423 rfl (fun hc => ?_) (fun hc => ?_)
          · have h := ht hc; clear ht hf
            refine zw_goto (tgt := 798) d_L_law_428 rfl ?_
            refine zw_le (ls' := [some (.retAddr b), some (.ref 0), some (.ref 183), some (.ref 200), some (.int a4), none, none]) (And.intro rfl (And.intro rfl (And.intro rfl (And.intro rfl (And.intro rfl True.intro))))) ?_
            exact hK _ _ _ (by omega) (by omega) h
          · have h := hf hc; clear ht hf
            refine zw_iconst (v := 0) d_L_law_426 rfl ?_
            exact False.elim h
      · have h := hf hc; clear ht hf
        refine zw_iconst (v := 0) d_L_law_409 rfl ?_
        exact False.elim h
    · have h := hf hc; clear ht hf
      refine zw_iconst (v := 1) d_L_law_390 rfl ?_
      refine zw_goto (tgt := 395) d_L_law_391 rfl ?_
      obtain ⟨q34, h⟩ := h
      refine zw_callV (ci := 7) (b := 183) (As := [.int (xs (a4 + (1 : Int32)).toNatClampNeg), .int (xs (a4 + (2 : Int32)).toNatClampNeg), .int (1 : Int32)]) (r := []) d_L_law_395 (c_M_known h) ml_4_175 ml_4_176 ml_4_177 mw_1_8 ml_4_178 (by decide) q34.1 q34.2 hyV_M_known (Nat.le_of_ble_eq_true rfl) (Nat.le_of_ble_eq_true rfl) ⟨by show _ ≤ 601024; omega, by show _ ≤ 7293034; omega⟩ (Nat.le_of_ble_eq_true rfl) rfl (zk_i (fun x32 σ33 h => ?_))
      refine zw_istore d_L_law_398 (Nat.le_of_ble_eq_true rfl) rfl rfl ?_
      refine zw_aload_n d_L_law_400 rfl rfl ?_
      refine zw_callV (ci := 7) (b := 183) (As := []) (r := []) d_L_law_401 (c_M_thrown h) ml_4_45 ml_4_46 ml_4_47 mw_1_8 ml_4_48 (by decide) q34.1 q34.2 hyV_M_thrown (Nat.le_of_ble_eq_true rfl) (Nat.le_of_ble_eq_true rfl) ⟨by show _ ≤ 601024; omega, by show _ ≤ 7293034; omega⟩ (Nat.le_of_ble_eq_true rfl) rfl (zk_i (fun x35 σ36 h => ?_))
      refine zw_iload d_L_law_404 rfl ?_
      obtain ⟨ht, hf⟩ := h
      refine zw_icmp_eq (tgt := 411) d_L_law_406 rfl (fun hc => ?_) (fun hc => ?_)
      · have h := ht hc; clear ht hf
        refine zw_iload d_L_law_411 rfl ?_
        obtain ⟨ht, hf⟩ := h
        refine zw_if_ne (tgt := 428) d_L_law_413 rfl (fun hc => ?_) (fun hc => ?_)
        · have h := ht hc; clear ht hf
          refine zw_goto (tgt := 798) d_L_law_428 rfl ?_
          refine zw_le (ls' := [some (.retAddr b), some (.ref 0), some (.ref 183), some (.ref 200), some (.int a4), none, none]) (And.intro rfl (And.intro rfl (And.intro rfl (And.intro rfl (And.intro rfl True.intro))))) ?_
          exact hK _ _ _ (by omega) (by omega) h
        · have h := hf hc; clear ht hf
          refine zw_aload_n d_L_law_416 rfl rfl ?_
          refine zw_iconst (v := 0) d_L_law_417 rfl ?_
          obtain ⟨q37, h⟩ := h
          refine zw_lald d_L_law_418 q37.1 (zkd_eta q37.2.1) q37.2.2 ?_
          refine zw_iload d_L_law_419 rfl ?_
          refine zw_i2l d_L_law_421 ?_
          refine zw_lcmp d_L_law_422 ?_
          obtain ⟨ht, hf⟩ := h
          refine zw_if_eq (tgt := 428) d_L_law_423 rfl (fun hc => ?_) (fun hc => ?_)
          · have h := ht hc; clear ht hf
            refine zw_goto (tgt := 798) d_L_law_428 rfl ?_
            refine zw_le (ls' := [some (.retAddr b), some (.ref 0), some (.ref 183), some (.ref 200), some (.int a4), none, none]) (And.intro rfl (And.intro rfl (And.intro rfl (And.intro rfl (And.intro rfl True.intro))))) ?_
            exact hK _ _ _ (by omega) (by omega) h
          · have h := hf hc; clear ht hf
            refine zw_iconst (v := 0) d_L_law_426 rfl ?_
            exact False.elim h
      · have h := hf hc; clear ht hf
        refine zw_iconst (v := 0) d_L_law_409 rfl ?_
        exact False.elim h
def P_law_431 (L : Nat) (xs : Nat → Int32) (a4 : Int32) (K : zS → Prop) (σ : zS) : Prop := vp_in (a4 + (1 : Int32)) L ∧ vp_in (a4 + (2 : Int32)) L ∧ vp_in (a4 + (3 : Int32)) L ∧ (((xs (a4 + (3 : Int32)).toNatClampNeg) = 0 → P_L_number 201 0 (xs (a4 + (1 : Int32)).toNatClampNeg) (xs (a4 + (2 : Int32)).toNatClampNeg) (0 : Int32) 200 σ (fun x4 σ5 => vp_in (a4 + (1 : Int32)) L ∧ vp_in (a4 + (2 : Int32)) L ∧ vp_in (a4 + (3 : Int32)) L ∧ (((xs (a4 + (3 : Int32)).toNatClampNeg) = 0 → zk 201 183 7 ∧ P_M_number 201 183 (xs (a4 + (1 : Int32)).toNatClampNeg) (xs (a4 + (2 : Int32)).toNatClampNeg) (0 : Int32) σ5 (fun x9 σ10 => P_M_thrown 201 183 σ10 (fun x12 σ13 => ((x12 = x4 → ((¬ x4 = 0 → K σ13) ∧ (x4 = 0 → za 201 200 14 (0 : Int32) ∧ (((lg_cmp (zl σ13 200 (0 : Int32).toNatClampNeg) (Int32.toInt64 x9)) = 0 → K σ13) ∧ (¬ ((lg_cmp (zl σ13 200 (0 : Int32).toNatClampNeg) (Int32.toInt64 x9)) = 0) → False))))) ∧ (¬ (x12 = x4) → False))))) ∧ (¬ ((xs (a4 + (3 : Int32)).toNatClampNeg) = 0) → zk 201 183 7 ∧ P_M_number 201 183 (xs (a4 + (1 : Int32)).toNatClampNeg) (xs (a4 + (2 : Int32)).toNatClampNeg) (1 : Int32) σ5 (fun x15 σ16 => P_M_thrown 201 183 σ16 (fun x18 σ19 => ((x18 = x4 → ((¬ x4 = 0 → K σ19) ∧ (x4 = 0 → za 201 200 14 (0 : Int32) ∧ (((lg_cmp (zl σ19 200 (0 : Int32).toNatClampNeg) (Int32.toInt64 x15)) = 0 → K σ19) ∧ (¬ ((lg_cmp (zl σ19 200 (0 : Int32).toNatClampNeg) (Int32.toInt64 x15)) = 0) → False))))) ∧ (¬ (x18 = x4) → False)))))))) ∧ (¬ ((xs (a4 + (3 : Int32)).toNatClampNeg) = 0) → P_L_number 201 0 (xs (a4 + (1 : Int32)).toNatClampNeg) (xs (a4 + (2 : Int32)).toNatClampNeg) (1 : Int32) 200 σ (fun x21 σ22 => vp_in (a4 + (1 : Int32)) L ∧ vp_in (a4 + (2 : Int32)) L ∧ vp_in (a4 + (3 : Int32)) L ∧ (((xs (a4 + (3 : Int32)).toNatClampNeg) = 0 → zk 201 183 7 ∧ P_M_number 201 183 (xs (a4 + (1 : Int32)).toNatClampNeg) (xs (a4 + (2 : Int32)).toNatClampNeg) (0 : Int32) σ22 (fun x26 σ27 => P_M_thrown 201 183 σ27 (fun x29 σ30 => ((x29 = x21 → ((¬ x21 = 0 → K σ30) ∧ (x21 = 0 → za 201 200 14 (0 : Int32) ∧ (((lg_cmp (zl σ30 200 (0 : Int32).toNatClampNeg) (Int32.toInt64 x26)) = 0 → K σ30) ∧ (¬ ((lg_cmp (zl σ30 200 (0 : Int32).toNatClampNeg) (Int32.toInt64 x26)) = 0) → False))))) ∧ (¬ (x29 = x21) → False))))) ∧ (¬ ((xs (a4 + (3 : Int32)).toNatClampNeg) = 0) → zk 201 183 7 ∧ P_M_number 201 183 (xs (a4 + (1 : Int32)).toNatClampNeg) (xs (a4 + (2 : Int32)).toNatClampNeg) (1 : Int32) σ22 (fun x32 σ33 => P_M_thrown 201 183 σ33 (fun x35 σ36 => ((x35 = x21 → ((¬ x21 = 0 → K σ36) ∧ (x21 = 0 → za 201 200 14 (0 : Int32) ∧ (((lg_cmp (zl σ36 200 (0 : Int32).toNatClampNeg) (Int32.toInt64 x32)) = 0 → K σ36) ∧ (¬ ((lg_cmp (zl σ36 200 (0 : Int32).toNatClampNeg) (Int32.toInt64 x32)) = 0) → False))))) ∧ (¬ (x35 = x21) → False)))))))))
set_option maxHeartbeats 2000000 in
set_option maxRecDepth 10000 in
theorem w_law_431 (hX : va_X b L xs s s.heap) (hbl : b < s.heap.size ∧ b < base) (hTh : zTh base s) (hfl : l.flags = pinnedFlags ++ [noTraceFlag]) {K : zS → Prop} {cu su : Nat} {a4 : Int32} {σ : zS} (hcu : cu + 1 ≤ 600000) (hsu : su + 6 ≤ 7200000) (hK : ∀ (cu' su' : Nat) (σ : zS), cu' ≤ cu + 1 → su' ≤ su + 6 → K σ → zG p l e room_1 s m #[Value.ref b] below meth c (lw_Z below #[Value.ref b] s) s.heap (zA base) base D cA 7 false code "ConstantFlowLaw" 201 cu' su' 798 [some (.retAddr b), some (.ref 0), some (.ref 183), some (.ref 200), some (.int a4), none, none] [] σ) (h : P_law_431 L xs a4 K σ) : zG p l e room_1 s m #[Value.ref b] below meth c (lw_Z below #[Value.ref b] s) s.heap (zA base) base D cA 7 false code "ConstantFlowLaw" 201 cu su 431 [some (.retAddr b), some (.ref 0), some (.ref 183), some (.ref 200), some (.int a4), none, none] [] σ := by
  unfold P_law_431 at h
  refine zw_aload_n d_L_law_431 rfl rfl ?_
  refine zw_aload_nq d_L_law_432 rfl rfl ?_
  refine zw_iload d_L_law_433 rfl ?_
  refine zw_iconst (v := 1) d_L_law_435 rfl ?_
  refine zw_iadd d_L_law_436 ?_
  obtain ⟨q1, h⟩ := h
  refine zw_sld d_L_law_437 hX hbl zA_no q1 ?_
  refine zw_aload_nq d_L_law_438 rfl rfl ?_
  refine zw_iload d_L_law_439 rfl ?_
  refine zw_iconst (v := 2) d_L_law_441 rfl ?_
  refine zw_iadd d_L_law_442 ?_
  obtain ⟨q2, h⟩ := h
  refine zw_sld d_L_law_443 hX hbl zA_no q2 ?_
  refine zw_aload_nq d_L_law_444 rfl rfl ?_
  refine zw_iload d_L_law_445 rfl ?_
  refine zw_iconst (v := 3) d_L_law_447 rfl ?_
  refine zw_iadd d_L_law_448 ?_
  obtain ⟨q3, h⟩ := h
  refine zw_sld d_L_law_449 hX hbl zA_no q3 ?_
  obtain ⟨ht, hf⟩ := h
  refine zw_if_eq (tgt := 457) d_L_law_450 rfl (fun hc => ?_) (fun hc => ?_)
  · have h := ht hc; clear ht hf
    refine zw_iconst (v := 0) d_L_law_457 rfl ?_
    refine zw_aload_n d_L_law_458 rfl rfl ?_
    refine zw_callSW (As := [.ref 0, .int (xs (a4 + (1 : Int32)).toNatClampNeg), .int (xs (a4 + (2 : Int32)).toNatClampNeg), .int (0 : Int32), .ref 200]) (r := []) d_L_law_459 (c_L_number hfl h) ml_3_110 ml_3_111 ml_1_0 ml_3_112 hyS_L_number (Nat.le_of_ble_eq_true rfl) (Nat.le_of_ble_eq_true rfl) ⟨by show _ ≤ 601024; omega, by show _ ≤ 7293034; omega⟩ (Nat.le_of_ble_eq_true rfl) rfl hTh (zk_i (fun x4 σ5 h => ?_))
    refine zw_istore d_L_law_462 (Nat.le_of_ble_eq_true rfl) rfl rfl ?_
    refine zw_aload_n d_L_law_464 rfl rfl ?_
    refine zw_aload_nq d_L_law_465 rfl rfl ?_
    refine zw_iload d_L_law_466 rfl ?_
    refine zw_iconst (v := 1) d_L_law_468 rfl ?_
    refine zw_iadd d_L_law_469 ?_
    obtain ⟨q6, h⟩ := h
    refine zw_sld d_L_law_470 hX hbl zA_no q6 ?_
    refine zw_aload_nq d_L_law_471 rfl rfl ?_
    refine zw_iload d_L_law_472 rfl ?_
    refine zw_iconst (v := 2) d_L_law_474 rfl ?_
    refine zw_iadd d_L_law_475 ?_
    obtain ⟨q7, h⟩ := h
    refine zw_sld d_L_law_476 hX hbl zA_no q7 ?_
    refine zw_aload_nq d_L_law_477 rfl rfl ?_
    refine zw_iload d_L_law_478 rfl ?_
    refine zw_iconst (v := 3) d_L_law_480 rfl ?_
    refine zw_iadd d_L_law_481 ?_
    obtain ⟨q8, h⟩ := h
    refine zw_sld d_L_law_482 hX hbl zA_no q8 ?_
    obtain ⟨ht, hf⟩ := h
    refine zw_if_eq (tgt := 490) d_L_law_483 rfl (fun hc => ?_) (fun hc => ?_)
    · have h := ht hc; clear ht hf
      refine zw_iconst (v := 0) d_L_law_490 rfl ?_
      obtain ⟨q11, h⟩ := h
      refine zw_callV (ci := 7) (b := 183) (As := [.int (xs (a4 + (1 : Int32)).toNatClampNeg), .int (xs (a4 + (2 : Int32)).toNatClampNeg), .int (0 : Int32)]) (r := []) d_L_law_491 (c_M_number h) ml_4_183 ml_4_184 ml_4_185 mw_1_8 ml_4_186 (by decide) q11.1 q11.2 hyV_M_number (Nat.le_of_ble_eq_true rfl) (Nat.le_of_ble_eq_true rfl) ⟨by show _ ≤ 601024; omega, by show _ ≤ 7293034; omega⟩ (Nat.le_of_ble_eq_true rfl) rfl (zk_i (fun x9 σ10 h => ?_))
      refine zw_istore d_L_law_494 (Nat.le_of_ble_eq_true rfl) rfl rfl ?_
      refine zw_aload_n d_L_law_496 rfl rfl ?_
      refine zw_callV (ci := 7) (b := 183) (As := []) (r := []) d_L_law_497 (c_M_thrown h) ml_4_45 ml_4_46 ml_4_47 mw_1_8 ml_4_48 (by decide) q11.1 q11.2 hyV_M_thrown (Nat.le_of_ble_eq_true rfl) (Nat.le_of_ble_eq_true rfl) ⟨by show _ ≤ 601024; omega, by show _ ≤ 7293034; omega⟩ (Nat.le_of_ble_eq_true rfl) rfl (zk_i (fun x12 σ13 h => ?_))
      refine zw_iload d_L_law_500 rfl ?_
      obtain ⟨ht, hf⟩ := h
      refine zw_icmp_eq (tgt := 507) d_L_law_502 rfl (fun hc => ?_) (fun hc => ?_)
      · have h := ht hc; clear ht hf
        refine zw_iload d_L_law_507 rfl ?_
        obtain ⟨ht, hf⟩ := h
        refine zw_if_ne (tgt := 524) d_L_law_509 rfl (fun hc => ?_) (fun hc => ?_)
        · have h := ht hc; clear ht hf
          refine zw_goto (tgt := 798) d_L_law_524 rfl ?_
          refine zw_le (ls' := [some (.retAddr b), some (.ref 0), some (.ref 183), some (.ref 200), some (.int a4), none, none]) (And.intro rfl (And.intro rfl (And.intro rfl (And.intro rfl (And.intro rfl True.intro))))) ?_
          exact hK _ _ _ (by omega) (by omega) h
        · have h := hf hc; clear ht hf
          refine zw_aload_n d_L_law_512 rfl rfl ?_
          refine zw_iconst (v := 0) d_L_law_513 rfl ?_
          obtain ⟨q14, h⟩ := h
          refine zw_lald d_L_law_514 q14.1 (zkd_eta q14.2.1) q14.2.2 ?_
          refine zw_iload d_L_law_515 rfl ?_
          refine zw_i2l d_L_law_517 ?_
          refine zw_lcmp d_L_law_518 ?_
          obtain ⟨ht, hf⟩ := h
          refine zw_if_eq (tgt := 524) d_L_law_519 rfl (fun hc => ?_) (fun hc => ?_)
          · have h := ht hc; clear ht hf
            refine zw_goto (tgt := 798) d_L_law_524 rfl ?_
            refine zw_le (ls' := [some (.retAddr b), some (.ref 0), some (.ref 183), some (.ref 200), some (.int a4), none, none]) (And.intro rfl (And.intro rfl (And.intro rfl (And.intro rfl (And.intro rfl True.intro))))) ?_
            exact hK _ _ _ (by omega) (by omega) h
          · have h := hf hc; clear ht hf
            refine zw_iconst (v := 0) d_L_law_522 rfl ?_
            exact False.elim h
      · have h := hf hc; clear ht hf
        refine zw_iconst (v := 0) d_L_law_505 rfl ?_
        exact False.elim h
    · have h := hf hc; clear ht hf
      refine zw_iconst (v := 1) d_L_law_486 rfl ?_
      refine zw_goto (tgt := 491) d_L_law_487 rfl ?_
      obtain ⟨q17, h⟩ := h
      refine zw_callV (ci := 7) (b := 183) (As := [.int (xs (a4 + (1 : Int32)).toNatClampNeg), .int (xs (a4 + (2 : Int32)).toNatClampNeg), .int (1 : Int32)]) (r := []) d_L_law_491 (c_M_number h) ml_4_183 ml_4_184 ml_4_185 mw_1_8 ml_4_186 (by decide) q17.1 q17.2 hyV_M_number (Nat.le_of_ble_eq_true rfl) (Nat.le_of_ble_eq_true rfl) ⟨by show _ ≤ 601024; omega, by show _ ≤ 7293034; omega⟩ (Nat.le_of_ble_eq_true rfl) rfl (zk_i (fun x15 σ16 h => ?_))
      refine zw_istore d_L_law_494 (Nat.le_of_ble_eq_true rfl) rfl rfl ?_
      refine zw_aload_n d_L_law_496 rfl rfl ?_
      refine zw_callV (ci := 7) (b := 183) (As := []) (r := []) d_L_law_497 (c_M_thrown h) ml_4_45 ml_4_46 ml_4_47 mw_1_8 ml_4_48 (by decide) q17.1 q17.2 hyV_M_thrown (Nat.le_of_ble_eq_true rfl) (Nat.le_of_ble_eq_true rfl) ⟨by show _ ≤ 601024; omega, by show _ ≤ 7293034; omega⟩ (Nat.le_of_ble_eq_true rfl) rfl (zk_i (fun x18 σ19 h => ?_))
      refine zw_iload d_L_law_500 rfl ?_
      obtain ⟨ht, hf⟩ := h
      refine zw_icmp_eq (tgt := 507) d_L_law_502 rfl (fun hc => ?_) (fun hc => ?_)
      · have h := ht hc; clear ht hf
        refine zw_iload d_L_law_507 rfl ?_
        obtain ⟨ht, hf⟩ := h
        refine zw_if_ne (tgt := 524) d_L_law_509 rfl (fun hc => ?_) (fun hc => ?_)
        · have h := ht hc; clear ht hf
          refine zw_goto (tgt := 798) d_L_law_524 rfl ?_
          refine zw_le (ls' := [some (.retAddr b), some (.ref 0), some (.ref 183), some (.ref 200), some (.int a4), none, none]) (And.intro rfl (And.intro rfl (And.intro rfl (And.intro rfl (And.intro rfl True.intro))))) ?_
          exact hK _ _ _ (by omega) (by omega) h
        · have h := hf hc; clear ht hf
          refine zw_aload_n d_L_law_512 rfl rfl ?_
          refine zw_iconst (v := 0) d_L_law_513 rfl ?_
          obtain ⟨q20, h⟩ := h
          refine zw_lald d_L_law_514 q20.1 (zkd_eta q20.2.1) q20.2.2 ?_
          refine zw_iload d_L_law_515 rfl ?_
          refine zw_i2l d_L_law_517 ?_
          refine zw_lcmp d_L_law_518 ?_
          obtain ⟨ht, hf⟩ := h
          refine zw_if_eq (tgt := 524) d_L_law_519 rfl (fun hc => ?_) (fun hc => ?_)
          · have h := ht hc; clear ht hf
            refine zw_goto (tgt := 798) d_L_law_524 rfl ?_
            refine zw_le (ls' := [some (.retAddr b), some (.ref 0), some (.ref 183), some (.ref 200), some (.int a4), none, none]) (And.intro rfl (And.intro rfl (And.intro rfl (And.intro rfl (And.intro rfl True.intro))))) ?_
            exact hK _ _ _ (by omega) (by omega) h
          · have h := hf hc; clear ht hf
            refine zw_iconst (v := 0) d_L_law_522 rfl ?_
            exact False.elim h
      · have h := hf hc; clear ht hf
        refine zw_iconst (v := 0) d_L_law_505 rfl ?_
        exact False.elim h
  · have h := hf hc; clear ht hf
    refine zw_iconst (v := 1) d_L_law_453 rfl ?_
    refine zw_goto (tgt := 458) d_L_law_454 rfl ?_
    refine zw_aload_n d_L_law_458 rfl rfl ?_
    refine zw_callSW (As := [.ref 0, .int (xs (a4 + (1 : Int32)).toNatClampNeg), .int (xs (a4 + (2 : Int32)).toNatClampNeg), .int (1 : Int32), .ref 200]) (r := []) d_L_law_459 (c_L_number hfl h) ml_3_110 ml_3_111 ml_1_0 ml_3_112 hyS_L_number (Nat.le_of_ble_eq_true rfl) (Nat.le_of_ble_eq_true rfl) ⟨by show _ ≤ 601024; omega, by show _ ≤ 7293034; omega⟩ (Nat.le_of_ble_eq_true rfl) rfl hTh (zk_i (fun x21 σ22 h => ?_))
    refine zw_istore d_L_law_462 (Nat.le_of_ble_eq_true rfl) rfl rfl ?_
    refine zw_aload_n d_L_law_464 rfl rfl ?_
    refine zw_aload_nq d_L_law_465 rfl rfl ?_
    refine zw_iload d_L_law_466 rfl ?_
    refine zw_iconst (v := 1) d_L_law_468 rfl ?_
    refine zw_iadd d_L_law_469 ?_
    obtain ⟨q23, h⟩ := h
    refine zw_sld d_L_law_470 hX hbl zA_no q23 ?_
    refine zw_aload_nq d_L_law_471 rfl rfl ?_
    refine zw_iload d_L_law_472 rfl ?_
    refine zw_iconst (v := 2) d_L_law_474 rfl ?_
    refine zw_iadd d_L_law_475 ?_
    obtain ⟨q24, h⟩ := h
    refine zw_sld d_L_law_476 hX hbl zA_no q24 ?_
    refine zw_aload_nq d_L_law_477 rfl rfl ?_
    refine zw_iload d_L_law_478 rfl ?_
    refine zw_iconst (v := 3) d_L_law_480 rfl ?_
    refine zw_iadd d_L_law_481 ?_
    obtain ⟨q25, h⟩ := h
    refine zw_sld d_L_law_482 hX hbl zA_no q25 ?_
    obtain ⟨ht, hf⟩ := h
    refine zw_if_eq (tgt := 490) d_L_law_483 rfl (fun hc => ?_) (fun hc => ?_)
    · have h := ht hc; clear ht hf
      refine zw_iconst (v := 0) d_L_law_490 rfl ?_
      obtain ⟨q28, h⟩ := h
      refine zw_callV (ci := 7) (b := 183) (As := [.int (xs (a4 + (1 : Int32)).toNatClampNeg), .int (xs (a4 + (2 : Int32)).toNatClampNeg), .int (0 : Int32)]) (r := []) d_L_law_491 (c_M_number h) ml_4_183 ml_4_184 ml_4_185 mw_1_8 ml_4_186 (by decide) q28.1 q28.2 hyV_M_number (Nat.le_of_ble_eq_true rfl) (Nat.le_of_ble_eq_true rfl) ⟨by show _ ≤ 601024; omega, by show _ ≤ 7293034; omega⟩ (Nat.le_of_ble_eq_true rfl) rfl (zk_i (fun x26 σ27 h => ?_))
      refine zw_istore d_L_law_494 (Nat.le_of_ble_eq_true rfl) rfl rfl ?_
      refine zw_aload_n d_L_law_496 rfl rfl ?_
      refine zw_callV (ci := 7) (b := 183) (As := []) (r := []) d_L_law_497 (c_M_thrown h) ml_4_45 ml_4_46 ml_4_47 mw_1_8 ml_4_48 (by decide) q28.1 q28.2 hyV_M_thrown (Nat.le_of_ble_eq_true rfl) (Nat.le_of_ble_eq_true rfl) ⟨by show _ ≤ 601024; omega, by show _ ≤ 7293034; omega⟩ (Nat.le_of_ble_eq_true rfl) rfl (zk_i (fun x29 σ30 h => ?_))
      refine zw_iload d_L_law_500 rfl ?_
      obtain ⟨ht, hf⟩ := h
      refine zw_icmp_eq (tgt := 507) d_L_law_502 rfl (fun hc => ?_) (fun hc => ?_)
      · have h := ht hc; clear ht hf
        refine zw_iload d_L_law_507 rfl ?_
        obtain ⟨ht, hf⟩ := h
        refine zw_if_ne (tgt := 524) d_L_law_509 rfl (fun hc => ?_) (fun hc => ?_)
        · have h := ht hc; clear ht hf
          refine zw_goto (tgt := 798) d_L_law_524 rfl ?_
          refine zw_le (ls' := [some (.retAddr b), some (.ref 0), some (.ref 183), some (.ref 200), some (.int a4), none, none]) (And.intro rfl (And.intro rfl (And.intro rfl (And.intro rfl (And.intro rfl True.intro))))) ?_
          exact hK _ _ _ (by omega) (by omega) h
        · have h := hf hc; clear ht hf
          refine zw_aload_n d_L_law_512 rfl rfl ?_
          refine zw_iconst (v := 0) d_L_law_513 rfl ?_
          obtain ⟨q31, h⟩ := h
          refine zw_lald d_L_law_514 q31.1 (zkd_eta q31.2.1) q31.2.2 ?_
          refine zw_iload d_L_law_515 rfl ?_
          refine zw_i2l d_L_law_517 ?_
          refine zw_lcmp d_L_law_518 ?_
          obtain ⟨ht, hf⟩ := h
          refine zw_if_eq (tgt := 524) d_L_law_519 rfl (fun hc => ?_) (fun hc => ?_)
          · have h := ht hc; clear ht hf
            refine zw_goto (tgt := 798) d_L_law_524 rfl ?_
            refine zw_le (ls' := [some (.retAddr b), some (.ref 0), some (.ref 183), some (.ref 200), some (.int a4), none, none]) (And.intro rfl (And.intro rfl (And.intro rfl (And.intro rfl (And.intro rfl True.intro))))) ?_
            exact hK _ _ _ (by omega) (by omega) h
          · have h := hf hc; clear ht hf
            refine zw_iconst (v := 0) d_L_law_522 rfl ?_
            exact False.elim h
      · have h := hf hc; clear ht hf
        refine zw_iconst (v := 0) d_L_law_505 rfl ?_
        exact False.elim h
    · have h := hf hc; clear ht hf
      refine zw_iconst (v := 1) d_L_law_486 rfl ?_
      refine zw_goto (tgt := 491) d_L_law_487 rfl ?_
      obtain ⟨q34, h⟩ := h
      refine zw_callV (ci := 7) (b := 183) (As := [.int (xs (a4 + (1 : Int32)).toNatClampNeg), .int (xs (a4 + (2 : Int32)).toNatClampNeg), .int (1 : Int32)]) (r := []) d_L_law_491 (c_M_number h) ml_4_183 ml_4_184 ml_4_185 mw_1_8 ml_4_186 (by decide) q34.1 q34.2 hyV_M_number (Nat.le_of_ble_eq_true rfl) (Nat.le_of_ble_eq_true rfl) ⟨by show _ ≤ 601024; omega, by show _ ≤ 7293034; omega⟩ (Nat.le_of_ble_eq_true rfl) rfl (zk_i (fun x32 σ33 h => ?_))
      refine zw_istore d_L_law_494 (Nat.le_of_ble_eq_true rfl) rfl rfl ?_
      refine zw_aload_n d_L_law_496 rfl rfl ?_
      refine zw_callV (ci := 7) (b := 183) (As := []) (r := []) d_L_law_497 (c_M_thrown h) ml_4_45 ml_4_46 ml_4_47 mw_1_8 ml_4_48 (by decide) q34.1 q34.2 hyV_M_thrown (Nat.le_of_ble_eq_true rfl) (Nat.le_of_ble_eq_true rfl) ⟨by show _ ≤ 601024; omega, by show _ ≤ 7293034; omega⟩ (Nat.le_of_ble_eq_true rfl) rfl (zk_i (fun x35 σ36 h => ?_))
      refine zw_iload d_L_law_500 rfl ?_
      obtain ⟨ht, hf⟩ := h
      refine zw_icmp_eq (tgt := 507) d_L_law_502 rfl (fun hc => ?_) (fun hc => ?_)
      · have h := ht hc; clear ht hf
        refine zw_iload d_L_law_507 rfl ?_
        obtain ⟨ht, hf⟩ := h
        refine zw_if_ne (tgt := 524) d_L_law_509 rfl (fun hc => ?_) (fun hc => ?_)
        · have h := ht hc; clear ht hf
          refine zw_goto (tgt := 798) d_L_law_524 rfl ?_
          refine zw_le (ls' := [some (.retAddr b), some (.ref 0), some (.ref 183), some (.ref 200), some (.int a4), none, none]) (And.intro rfl (And.intro rfl (And.intro rfl (And.intro rfl (And.intro rfl True.intro))))) ?_
          exact hK _ _ _ (by omega) (by omega) h
        · have h := hf hc; clear ht hf
          refine zw_aload_n d_L_law_512 rfl rfl ?_
          refine zw_iconst (v := 0) d_L_law_513 rfl ?_
          obtain ⟨q37, h⟩ := h
          refine zw_lald d_L_law_514 q37.1 (zkd_eta q37.2.1) q37.2.2 ?_
          refine zw_iload d_L_law_515 rfl ?_
          refine zw_i2l d_L_law_517 ?_
          refine zw_lcmp d_L_law_518 ?_
          obtain ⟨ht, hf⟩ := h
          refine zw_if_eq (tgt := 524) d_L_law_519 rfl (fun hc => ?_) (fun hc => ?_)
          · have h := ht hc; clear ht hf
            refine zw_goto (tgt := 798) d_L_law_524 rfl ?_
            refine zw_le (ls' := [some (.retAddr b), some (.ref 0), some (.ref 183), some (.ref 200), some (.int a4), none, none]) (And.intro rfl (And.intro rfl (And.intro rfl (And.intro rfl (And.intro rfl True.intro))))) ?_
            exact hK _ _ _ (by omega) (by omega) h
          · have h := hf hc; clear ht hf
            refine zw_iconst (v := 0) d_L_law_522 rfl ?_
            exact False.elim h
      · have h := hf hc; clear ht hf
        refine zw_iconst (v := 0) d_L_law_505 rfl ?_
        exact False.elim h
def P_law_527 (L : Nat) (xs : Nat → Int32) (a4 : Int32) (K : zS → Prop) (σ : zS) : Prop := vp_in (a4 + (1 : Int32)) L ∧ P_L_told 201 0 (xs (a4 + (1 : Int32)).toNatClampNeg) 200 σ (fun x2 σ3 => vp_in (a4 + (1 : Int32)) L ∧ zk 201 183 7 ∧ P_M_told 201 183 (xs (a4 + (1 : Int32)).toNatClampNeg) σ3 (fun x5 σ6 => P_M_thrown 201 183 σ6 (fun x8 σ9 => ((x8 = x2 → ((¬ x2 = 0 → K σ9) ∧ (x2 = 0 → za 201 200 14 (0 : Int32) ∧ (((lg_cmp (zl σ9 200 (0 : Int32).toNatClampNeg) (Int32.toInt64 x5)) = 0 → K σ9) ∧ (¬ ((lg_cmp (zl σ9 200 (0 : Int32).toNatClampNeg) (Int32.toInt64 x5)) = 0) → False))))) ∧ (¬ (x8 = x2) → False)))))
set_option maxHeartbeats 2000000 in
set_option maxRecDepth 10000 in
theorem w_law_527 (hX : va_X b L xs s s.heap) (hbl : b < s.heap.size ∧ b < base) (hTh : zTh base s) (hfl : l.flags = pinnedFlags ++ [noTraceFlag]) {K : zS → Prop} {cu su : Nat} {a4 : Int32} {σ : zS} (hcu : cu + 1 ≤ 600000) (hsu : su + 6 ≤ 7200000) (hK : ∀ (cu' su' : Nat) (σ : zS), cu' ≤ cu + 1 → su' ≤ su + 6 → K σ → zG p l e room_1 s m #[Value.ref b] below meth c (lw_Z below #[Value.ref b] s) s.heap (zA base) base D cA 7 false code "ConstantFlowLaw" 201 cu' su' 798 [some (.retAddr b), some (.ref 0), some (.ref 183), some (.ref 200), some (.int a4), none, none] [] σ) (h : P_law_527 L xs a4 K σ) : zG p l e room_1 s m #[Value.ref b] below meth c (lw_Z below #[Value.ref b] s) s.heap (zA base) base D cA 7 false code "ConstantFlowLaw" 201 cu su 527 [some (.retAddr b), some (.ref 0), some (.ref 183), some (.ref 200), some (.int a4), none, none] [] σ := by
  unfold P_law_527 at h
  refine zw_aload_n d_L_law_527 rfl rfl ?_
  refine zw_aload_nq d_L_law_528 rfl rfl ?_
  refine zw_iload d_L_law_529 rfl ?_
  refine zw_iconst (v := 1) d_L_law_531 rfl ?_
  refine zw_iadd d_L_law_532 ?_
  obtain ⟨q1, h⟩ := h
  refine zw_sld d_L_law_533 hX hbl zA_no q1 ?_
  refine zw_aload_n d_L_law_534 rfl rfl ?_
  refine zw_callSW (As := [.ref 0, .int (xs (a4 + (1 : Int32)).toNatClampNeg), .ref 200]) (r := []) d_L_law_535 (c_L_told hfl h) ml_3_134 ml_3_135 ml_1_0 ml_3_136 hyS_L_told (Nat.le_of_ble_eq_true rfl) (Nat.le_of_ble_eq_true rfl) ⟨by show _ ≤ 601024; omega, by show _ ≤ 7293034; omega⟩ (Nat.le_of_ble_eq_true rfl) rfl hTh (zk_i (fun x2 σ3 h => ?_))
  refine zw_istore d_L_law_538 (Nat.le_of_ble_eq_true rfl) rfl rfl ?_
  refine zw_aload_n d_L_law_540 rfl rfl ?_
  refine zw_aload_nq d_L_law_541 rfl rfl ?_
  refine zw_iload d_L_law_542 rfl ?_
  refine zw_iconst (v := 1) d_L_law_544 rfl ?_
  refine zw_iadd d_L_law_545 ?_
  obtain ⟨q4, h⟩ := h
  refine zw_sld d_L_law_546 hX hbl zA_no q4 ?_
  obtain ⟨q7, h⟩ := h
  refine zw_callV (ci := 7) (b := 183) (As := [.int (xs (a4 + (1 : Int32)).toNatClampNeg)]) (r := []) d_L_law_547 (c_M_told h) ml_4_187 ml_4_188 ml_4_189 mw_1_8 ml_4_190 (by decide) q7.1 q7.2 hyV_M_told (Nat.le_of_ble_eq_true rfl) (Nat.le_of_ble_eq_true rfl) ⟨by show _ ≤ 601024; omega, by show _ ≤ 7293034; omega⟩ (Nat.le_of_ble_eq_true rfl) rfl (zk_i (fun x5 σ6 h => ?_))
  refine zw_istore d_L_law_550 (Nat.le_of_ble_eq_true rfl) rfl rfl ?_
  refine zw_aload_n d_L_law_552 rfl rfl ?_
  refine zw_callV (ci := 7) (b := 183) (As := []) (r := []) d_L_law_553 (c_M_thrown h) ml_4_45 ml_4_46 ml_4_47 mw_1_8 ml_4_48 (by decide) q7.1 q7.2 hyV_M_thrown (Nat.le_of_ble_eq_true rfl) (Nat.le_of_ble_eq_true rfl) ⟨by show _ ≤ 601024; omega, by show _ ≤ 7293034; omega⟩ (Nat.le_of_ble_eq_true rfl) rfl (zk_i (fun x8 σ9 h => ?_))
  refine zw_iload d_L_law_556 rfl ?_
  obtain ⟨ht, hf⟩ := h
  refine zw_icmp_eq (tgt := 563) d_L_law_558 rfl (fun hc => ?_) (fun hc => ?_)
  · have h := ht hc; clear ht hf
    refine zw_iload d_L_law_563 rfl ?_
    obtain ⟨ht, hf⟩ := h
    refine zw_if_ne (tgt := 580) d_L_law_565 rfl (fun hc => ?_) (fun hc => ?_)
    · have h := ht hc; clear ht hf
      refine zw_goto (tgt := 798) d_L_law_580 rfl ?_
      refine zw_le (ls' := [some (.retAddr b), some (.ref 0), some (.ref 183), some (.ref 200), some (.int a4), none, none]) (And.intro rfl (And.intro rfl (And.intro rfl (And.intro rfl (And.intro rfl True.intro))))) ?_
      exact hK _ _ _ (by omega) (by omega) h
    · have h := hf hc; clear ht hf
      refine zw_aload_n d_L_law_568 rfl rfl ?_
      refine zw_iconst (v := 0) d_L_law_569 rfl ?_
      obtain ⟨q10, h⟩ := h
      refine zw_lald d_L_law_570 q10.1 (zkd_eta q10.2.1) q10.2.2 ?_
      refine zw_iload d_L_law_571 rfl ?_
      refine zw_i2l d_L_law_573 ?_
      refine zw_lcmp d_L_law_574 ?_
      obtain ⟨ht, hf⟩ := h
      refine zw_if_eq (tgt := 580) d_L_law_575 rfl (fun hc => ?_) (fun hc => ?_)
      · have h := ht hc; clear ht hf
        refine zw_goto (tgt := 798) d_L_law_580 rfl ?_
        refine zw_le (ls' := [some (.retAddr b), some (.ref 0), some (.ref 183), some (.ref 200), some (.int a4), none, none]) (And.intro rfl (And.intro rfl (And.intro rfl (And.intro rfl (And.intro rfl True.intro))))) ?_
        exact hK _ _ _ (by omega) (by omega) h
      · have h := hf hc; clear ht hf
        refine zw_iconst (v := 0) d_L_law_578 rfl ?_
        exact False.elim h
  · have h := hf hc; clear ht hf
    refine zw_iconst (v := 0) d_L_law_561 rfl ?_
    exact False.elim h
def P_law_583 (L : Nat) (xs : Nat → Int32) (a4 : Int32) (K : zS → Prop) (σ : zS) : Prop := zk 201 0 0 ∧ P_C_write 201 0 σ (fun x1 σ2 => zk 201 183 7 ∧ P_M_write 201 183 σ2 (fun x4 σ5 => ((x1 = x4 → K σ5) ∧ (¬ (x1 = x4) → False))))
set_option maxHeartbeats 2000000 in
set_option maxRecDepth 10000 in
theorem w_law_583 (hX : va_X b L xs s s.heap) (hbl : b < s.heap.size ∧ b < base) (hTh : zTh base s) (hfl : l.flags = pinnedFlags ++ [noTraceFlag]) {K : zS → Prop} {cu su : Nat} {a4 : Int32} {σ : zS} (hcu : cu + 1 ≤ 600000) (hsu : su + 6 ≤ 7200000) (hK : ∀ (cu' su' : Nat) (σ : zS), cu' ≤ cu + 1 → su' ≤ su + 6 → K σ → zG p l e room_1 s m #[Value.ref b] below meth c (lw_Z below #[Value.ref b] s) s.heap (zA base) base D cA 7 false code "ConstantFlowLaw" 201 cu' su' 798 [some (.retAddr b), some (.ref 0), some (.ref 183), some (.ref 200), some (.int a4), none, none] [] σ) (h : P_law_583 L xs a4 K σ) : zG p l e room_1 s m #[Value.ref b] below meth c (lw_Z below #[Value.ref b] s) s.heap (zA base) base D cA 7 false code "ConstantFlowLaw" 201 cu su 583 [some (.retAddr b), some (.ref 0), some (.ref 183), some (.ref 200), some (.int a4), none, none] [] σ := by
  unfold P_law_583 at h
  refine zw_aload_n d_L_law_583 rfl rfl ?_
  obtain ⟨q3, h⟩ := h
  refine zw_callV (ci := 0) (b := 0) (As := []) (r := []) d_L_law_584 (c_C_write h) ml_2_168 ml_2_169 ml_2_170 mw_1_1 ml_2_171 (by decide) q3.1 q3.2 hyV_C_write (Nat.le_of_ble_eq_true rfl) (Nat.le_of_ble_eq_true rfl) ⟨by show _ ≤ 601024; omega, by show _ ≤ 7293034; omega⟩ (Nat.le_of_ble_eq_true rfl) rfl (zk_i (fun x1 σ2 h => ?_))
  refine zw_aload_n d_L_law_587 rfl rfl ?_
  obtain ⟨q6, h⟩ := h
  refine zw_callV (ci := 7) (b := 183) (As := []) (r := [.int x1]) d_L_law_588 (c_M_write h) ml_4_191 ml_4_192 ml_4_193 mw_1_8 ml_4_194 (by decide) q6.1 q6.2 hyV_M_write (Nat.le_of_ble_eq_true rfl) (Nat.le_of_ble_eq_true rfl) ⟨by show _ ≤ 601024; omega, by show _ ≤ 7293034; omega⟩ (Nat.le_of_ble_eq_true rfl) rfl (zk_i (fun x4 σ5 h => ?_))
  obtain ⟨ht, hf⟩ := h
  refine zw_icmp_eq (tgt := 798) d_L_law_591 rfl (fun hc => ?_) (fun hc => ?_)
  · have h := ht hc; clear ht hf
    exact hK _ _ _ (by omega) (by omega) h
  · have h := hf hc; clear ht hf
    refine zw_iconst (v := 0) d_L_law_594 rfl ?_
    exact False.elim h
def P_law_596 (L : Nat) (xs : Nat → Int32) (a4 : Int32) (K : zS → Prop) (σ : zS) : Prop := vp_in (a4 + (1 : Int32)) L ∧ zk 201 0 0 ∧ P_C_written 201 0 (xs (a4 + (1 : Int32)).toNatClampNeg) σ (fun x2 σ3 => vp_in (a4 + (1 : Int32)) L ∧ zk 201 183 7 ∧ P_M_written 201 183 (xs (a4 + (1 : Int32)).toNatClampNeg) σ3 (fun x6 σ7 => (((lg_cmp x2 x6) = 0 → K σ7) ∧ (¬ ((lg_cmp x2 x6) = 0) → False))))
set_option maxHeartbeats 2000000 in
set_option maxRecDepth 10000 in
theorem w_law_596 (hX : va_X b L xs s s.heap) (hbl : b < s.heap.size ∧ b < base) (hTh : zTh base s) (hfl : l.flags = pinnedFlags ++ [noTraceFlag]) {K : zS → Prop} {cu su : Nat} {a4 : Int32} {σ : zS} (hcu : cu + 1 ≤ 600000) (hsu : su + 6 ≤ 7200000) (hK : ∀ (cu' su' : Nat) (σ : zS), cu' ≤ cu + 1 → su' ≤ su + 6 → K σ → zG p l e room_1 s m #[Value.ref b] below meth c (lw_Z below #[Value.ref b] s) s.heap (zA base) base D cA 7 false code "ConstantFlowLaw" 201 cu' su' 798 [some (.retAddr b), some (.ref 0), some (.ref 183), some (.ref 200), some (.int a4), none, none] [] σ) (h : P_law_596 L xs a4 K σ) : zG p l e room_1 s m #[Value.ref b] below meth c (lw_Z below #[Value.ref b] s) s.heap (zA base) base D cA 7 false code "ConstantFlowLaw" 201 cu su 596 [some (.retAddr b), some (.ref 0), some (.ref 183), some (.ref 200), some (.int a4), none, none] [] σ := by
  unfold P_law_596 at h
  refine zw_aload_n d_L_law_596 rfl rfl ?_
  refine zw_aload_nq d_L_law_597 rfl rfl ?_
  refine zw_iload d_L_law_598 rfl ?_
  refine zw_iconst (v := 1) d_L_law_600 rfl ?_
  refine zw_iadd d_L_law_601 ?_
  obtain ⟨q1, h⟩ := h
  refine zw_sld d_L_law_602 hX hbl zA_no q1 ?_
  obtain ⟨q4, h⟩ := h
  refine zw_callV (ci := 0) (b := 0) (As := [.int (xs (a4 + (1 : Int32)).toNatClampNeg)]) (r := []) d_L_law_603 (c_C_written h) ml_2_210 ml_2_211 ml_2_212 mw_1_1 ml_2_213 (by decide) q4.1 q4.2 hyV_C_written (Nat.le_of_ble_eq_true rfl) (Nat.le_of_ble_eq_true rfl) ⟨by show _ ≤ 601024; omega, by show _ ≤ 7293034; omega⟩ (Nat.le_of_ble_eq_true rfl) rfl (zk_l (fun x2 σ3 h => ?_))
  refine zw_aload_n d_L_law_606 rfl rfl ?_
  refine zw_aload_nq d_L_law_607 rfl rfl ?_
  refine zw_iload d_L_law_608 rfl ?_
  refine zw_iconst (v := 1) d_L_law_610 rfl ?_
  refine zw_iadd d_L_law_611 ?_
  obtain ⟨q5, h⟩ := h
  refine zw_sld d_L_law_612 hX hbl zA_no q5 ?_
  obtain ⟨q8, h⟩ := h
  refine zw_callV (ci := 7) (b := 183) (As := [.int (xs (a4 + (1 : Int32)).toNatClampNeg)]) (r := [.long x2]) d_L_law_613 (c_M_written h) ml_4_222 ml_4_223 ml_4_224 mw_1_8 ml_4_225 (by decide) q8.1 q8.2 hyV_M_written (Nat.le_of_ble_eq_true rfl) (Nat.le_of_ble_eq_true rfl) ⟨by show _ ≤ 601024; omega, by show _ ≤ 7293034; omega⟩ (Nat.le_of_ble_eq_true rfl) rfl (zk_l (fun x6 σ7 h => ?_))
  refine zw_lcmp d_L_law_616 ?_
  obtain ⟨ht, hf⟩ := h
  refine zw_if_eq (tgt := 798) d_L_law_617 rfl (fun hc => ?_) (fun hc => ?_)
  · have h := ht hc; clear ht hf
    exact hK _ _ _ (by omega) (by omega) h
  · have h := hf hc; clear ht hf
    refine zw_iconst (v := 0) d_L_law_620 rfl ?_
    exact False.elim h
def P_law_622 (L : Nat) (xs : Nat → Int32) (a4 : Int32) (K : zS → Prop) (σ : zS) : Prop := zk 201 0 0 ∧ P_C_take 201 0 σ (fun x1 σ2 => zk 201 183 7 ∧ P_M_take 201 183 σ2 (fun x4 σ5 => ((x1 = x4 → K σ5) ∧ (¬ (x1 = x4) → False))))
set_option maxHeartbeats 2000000 in
set_option maxRecDepth 10000 in
theorem w_law_622 (hX : va_X b L xs s s.heap) (hbl : b < s.heap.size ∧ b < base) (hTh : zTh base s) (hfl : l.flags = pinnedFlags ++ [noTraceFlag]) {K : zS → Prop} {cu su : Nat} {a4 : Int32} {σ : zS} (hcu : cu + 1 ≤ 600000) (hsu : su + 6 ≤ 7200000) (hK : ∀ (cu' su' : Nat) (σ : zS), cu' ≤ cu + 1 → su' ≤ su + 6 → K σ → zG p l e room_1 s m #[Value.ref b] below meth c (lw_Z below #[Value.ref b] s) s.heap (zA base) base D cA 7 false code "ConstantFlowLaw" 201 cu' su' 798 [some (.retAddr b), some (.ref 0), some (.ref 183), some (.ref 200), some (.int a4), none, none] [] σ) (h : P_law_622 L xs a4 K σ) : zG p l e room_1 s m #[Value.ref b] below meth c (lw_Z below #[Value.ref b] s) s.heap (zA base) base D cA 7 false code "ConstantFlowLaw" 201 cu su 622 [some (.retAddr b), some (.ref 0), some (.ref 183), some (.ref 200), some (.int a4), none, none] [] σ := by
  unfold P_law_622 at h
  refine zw_aload_n d_L_law_622 rfl rfl ?_
  obtain ⟨q3, h⟩ := h
  refine zw_callV (ci := 0) (b := 0) (As := []) (r := []) d_L_law_623 (c_C_take h) ml_2_215 ml_2_216 ml_2_217 mw_1_1 ml_2_218 (by decide) q3.1 q3.2 hyV_C_take (Nat.le_of_ble_eq_true rfl) (Nat.le_of_ble_eq_true rfl) ⟨by show _ ≤ 601024; omega, by show _ ≤ 7293034; omega⟩ (Nat.le_of_ble_eq_true rfl) rfl (zk_i (fun x1 σ2 h => ?_))
  refine zw_aload_n d_L_law_626 rfl rfl ?_
  obtain ⟨q6, h⟩ := h
  refine zw_callV (ci := 7) (b := 183) (As := []) (r := [.int x1]) d_L_law_627 (c_M_take h) ml_4_226 ml_4_227 ml_4_228 mw_1_8 ml_4_229 (by decide) q6.1 q6.2 hyV_M_take (Nat.le_of_ble_eq_true rfl) (Nat.le_of_ble_eq_true rfl) ⟨by show _ ≤ 601024; omega, by show _ ≤ 7293034; omega⟩ (Nat.le_of_ble_eq_true rfl) rfl (zk_i (fun x4 σ5 h => ?_))
  obtain ⟨ht, hf⟩ := h
  refine zw_icmp_eq (tgt := 798) d_L_law_630 rfl (fun hc => ?_) (fun hc => ?_)
  · have h := ht hc; clear ht hf
    exact hK _ _ _ (by omega) (by omega) h
  · have h := hf hc; clear ht hf
    refine zw_iconst (v := 0) d_L_law_633 rfl ?_
    exact False.elim h
def P_law_635 (L : Nat) (xs : Nat → Int32) (a4 : Int32) (K : zS → Prop) (σ : zS) : Prop := vp_in (a4 + (1 : Int32)) L ∧ zk 201 0 0 ∧ P_C_input 201 0 (xs (a4 + (1 : Int32)).toNatClampNeg) σ (fun x2 σ3 => vp_in (a4 + (1 : Int32)) L ∧ zk 201 183 7 ∧ P_M_input 201 183 (xs (a4 + (1 : Int32)).toNatClampNeg) σ3 (fun x6 σ7 => ((x2 = x6 → K σ7) ∧ (¬ (x2 = x6) → False))))
set_option maxHeartbeats 2000000 in
set_option maxRecDepth 10000 in
theorem w_law_635 (hX : va_X b L xs s s.heap) (hbl : b < s.heap.size ∧ b < base) (hTh : zTh base s) (hfl : l.flags = pinnedFlags ++ [noTraceFlag]) {K : zS → Prop} {cu su : Nat} {a4 : Int32} {σ : zS} (hcu : cu + 1 ≤ 600000) (hsu : su + 6 ≤ 7200000) (hK : ∀ (cu' su' : Nat) (σ : zS), cu' ≤ cu + 1 → su' ≤ su + 6 → K σ → zG p l e room_1 s m #[Value.ref b] below meth c (lw_Z below #[Value.ref b] s) s.heap (zA base) base D cA 7 false code "ConstantFlowLaw" 201 cu' su' 798 [some (.retAddr b), some (.ref 0), some (.ref 183), some (.ref 200), some (.int a4), none, none] [] σ) (h : P_law_635 L xs a4 K σ) : zG p l e room_1 s m #[Value.ref b] below meth c (lw_Z below #[Value.ref b] s) s.heap (zA base) base D cA 7 false code "ConstantFlowLaw" 201 cu su 635 [some (.retAddr b), some (.ref 0), some (.ref 183), some (.ref 200), some (.int a4), none, none] [] σ := by
  unfold P_law_635 at h
  refine zw_aload_n d_L_law_635 rfl rfl ?_
  refine zw_aload_nq d_L_law_636 rfl rfl ?_
  refine zw_iload d_L_law_637 rfl ?_
  refine zw_iconst (v := 1) d_L_law_639 rfl ?_
  refine zw_iadd d_L_law_640 ?_
  obtain ⟨q1, h⟩ := h
  refine zw_sld d_L_law_641 hX hbl zA_no q1 ?_
  obtain ⟨q4, h⟩ := h
  refine zw_callV (ci := 0) (b := 0) (As := [.int (xs (a4 + (1 : Int32)).toNatClampNeg)]) (r := []) d_L_law_642 (c_C_input h) ml_2_220 ml_2_221 ml_2_222 mw_1_1 ml_2_223 (by decide) q4.1 q4.2 hyV_C_input (Nat.le_of_ble_eq_true rfl) (Nat.le_of_ble_eq_true rfl) ⟨by show _ ≤ 601024; omega, by show _ ≤ 7293034; omega⟩ (Nat.le_of_ble_eq_true rfl) rfl (zk_i (fun x2 σ3 h => ?_))
  refine zw_aload_n d_L_law_645 rfl rfl ?_
  refine zw_aload_nq d_L_law_646 rfl rfl ?_
  refine zw_iload d_L_law_647 rfl ?_
  refine zw_iconst (v := 1) d_L_law_649 rfl ?_
  refine zw_iadd d_L_law_650 ?_
  obtain ⟨q5, h⟩ := h
  refine zw_sld d_L_law_651 hX hbl zA_no q5 ?_
  obtain ⟨q8, h⟩ := h
  refine zw_callV (ci := 7) (b := 183) (As := [.int (xs (a4 + (1 : Int32)).toNatClampNeg)]) (r := [.int x2]) d_L_law_652 (c_M_input h) ml_4_230 ml_4_231 ml_4_232 mw_1_8 ml_4_233 (by decide) q8.1 q8.2 hyV_M_input (Nat.le_of_ble_eq_true rfl) (Nat.le_of_ble_eq_true rfl) ⟨by show _ ≤ 601024; omega, by show _ ≤ 7293034; omega⟩ (Nat.le_of_ble_eq_true rfl) rfl (zk_i (fun x6 σ7 h => ?_))
  obtain ⟨ht, hf⟩ := h
  refine zw_icmp_eq (tgt := 798) d_L_law_655 rfl (fun hc => ?_) (fun hc => ?_)
  · have h := ht hc; clear ht hf
    exact hK _ _ _ (by omega) (by omega) h
  · have h := hf hc; clear ht hf
    refine zw_iconst (v := 0) d_L_law_658 rfl ?_
    exact False.elim h
def P_law_660 (L : Nat) (xs : Nat → Int32) (a4 : Int32) (K : zS → Prop) (σ : zS) : Prop := zk 201 0 0 ∧ P_C_clear 201 0 σ (fun x1 σ2 => zk 201 183 7 ∧ P_M_clear 201 183 σ2 (fun x4 σ5 => ((x1 = x4 → K σ5) ∧ (¬ (x1 = x4) → False))))
set_option maxHeartbeats 2000000 in
set_option maxRecDepth 10000 in
theorem w_law_660 (hX : va_X b L xs s s.heap) (hbl : b < s.heap.size ∧ b < base) (hTh : zTh base s) (hfl : l.flags = pinnedFlags ++ [noTraceFlag]) {K : zS → Prop} {cu su : Nat} {a4 : Int32} {σ : zS} (hcu : cu + 1 ≤ 600000) (hsu : su + 6 ≤ 7200000) (hK : ∀ (cu' su' : Nat) (σ : zS), cu' ≤ cu + 1 → su' ≤ su + 6 → K σ → zG p l e room_1 s m #[Value.ref b] below meth c (lw_Z below #[Value.ref b] s) s.heap (zA base) base D cA 7 false code "ConstantFlowLaw" 201 cu' su' 798 [some (.retAddr b), some (.ref 0), some (.ref 183), some (.ref 200), some (.int a4), none, none] [] σ) (h : P_law_660 L xs a4 K σ) : zG p l e room_1 s m #[Value.ref b] below meth c (lw_Z below #[Value.ref b] s) s.heap (zA base) base D cA 7 false code "ConstantFlowLaw" 201 cu su 660 [some (.retAddr b), some (.ref 0), some (.ref 183), some (.ref 200), some (.int a4), none, none] [] σ := by
  unfold P_law_660 at h
  refine zw_aload_n d_L_law_660 rfl rfl ?_
  obtain ⟨q3, h⟩ := h
  refine zw_callV (ci := 0) (b := 0) (As := []) (r := []) d_L_law_661 (c_C_clear h) ml_2_224 ml_2_225 ml_2_226 mw_1_1 ml_2_227 (by decide) q3.1 q3.2 hyV_C_clear (Nat.le_of_ble_eq_true rfl) (Nat.le_of_ble_eq_true rfl) ⟨by show _ ≤ 601024; omega, by show _ ≤ 7293034; omega⟩ (Nat.le_of_ble_eq_true rfl) rfl (zk_i (fun x1 σ2 h => ?_))
  refine zw_aload_n d_L_law_664 rfl rfl ?_
  obtain ⟨q6, h⟩ := h
  refine zw_callV (ci := 7) (b := 183) (As := []) (r := [.int x1]) d_L_law_665 (c_M_clear h) ml_4_234 ml_4_235 ml_4_236 mw_1_8 ml_4_237 (by decide) q6.1 q6.2 hyV_M_clear (Nat.le_of_ble_eq_true rfl) (Nat.le_of_ble_eq_true rfl) ⟨by show _ ≤ 601024; omega, by show _ ≤ 7293034; omega⟩ (Nat.le_of_ble_eq_true rfl) rfl (zk_i (fun x4 σ5 h => ?_))
  obtain ⟨ht, hf⟩ := h
  refine zw_icmp_eq (tgt := 798) d_L_law_668 rfl (fun hc => ?_) (fun hc => ?_)
  · have h := ht hc; clear ht hf
    exact hK _ _ _ (by omega) (by omega) h
  · have h := hf hc; clear ht hf
    refine zw_iconst (v := 0) d_L_law_671 rfl ?_
    exact False.elim h
def P_law_673 (L : Nat) (xs : Nat → Int32) (a4 : Int32) (K : zS → Prop) (σ : zS) : Prop := vp_in (a4 + (1 : Int32)) L ∧ P_L_run 201 0 (xs (a4 + (1 : Int32)).toNatClampNeg) 200 σ (fun x2 σ3 => vp_in (a4 + (1 : Int32)) L ∧ zk 201 183 7 ∧ P_M_run 201 183 (xs (a4 + (1 : Int32)).toNatClampNeg) σ3 (fun x5 σ6 => P_M_thrown 201 183 σ6 (fun x8 σ9 => ((x8 = x2 → ((¬ x2 = 0 → K σ9) ∧ (x2 = 0 → za 201 200 14 (0 : Int32) ∧ (((lg_cmp (zl σ9 200 (0 : Int32).toNatClampNeg) (Int32.toInt64 x5)) = 0 → K σ9) ∧ (¬ ((lg_cmp (zl σ9 200 (0 : Int32).toNatClampNeg) (Int32.toInt64 x5)) = 0) → False))))) ∧ (¬ (x8 = x2) → False)))))
set_option maxHeartbeats 2000000 in
set_option maxRecDepth 10000 in
theorem w_law_673 (hX : va_X b L xs s s.heap) (hbl : b < s.heap.size ∧ b < base) (hTh : zTh base s) (hfl : l.flags = pinnedFlags ++ [noTraceFlag]) {K : zS → Prop} {cu su : Nat} {a4 : Int32} {σ : zS} (hcu : cu + 1 ≤ 600000) (hsu : su + 6 ≤ 7200000) (hK : ∀ (cu' su' : Nat) (σ : zS), cu' ≤ cu + 1 → su' ≤ su + 6 → K σ → zG p l e room_1 s m #[Value.ref b] below meth c (lw_Z below #[Value.ref b] s) s.heap (zA base) base D cA 7 false code "ConstantFlowLaw" 201 cu' su' 798 [some (.retAddr b), some (.ref 0), some (.ref 183), some (.ref 200), some (.int a4), none, none] [] σ) (h : P_law_673 L xs a4 K σ) : zG p l e room_1 s m #[Value.ref b] below meth c (lw_Z below #[Value.ref b] s) s.heap (zA base) base D cA 7 false code "ConstantFlowLaw" 201 cu su 673 [some (.retAddr b), some (.ref 0), some (.ref 183), some (.ref 200), some (.int a4), none, none] [] σ := by
  unfold P_law_673 at h
  refine zw_aload_n d_L_law_673 rfl rfl ?_
  refine zw_aload_nq d_L_law_674 rfl rfl ?_
  refine zw_iload d_L_law_675 rfl ?_
  refine zw_iconst (v := 1) d_L_law_677 rfl ?_
  refine zw_iadd d_L_law_678 ?_
  obtain ⟨q1, h⟩ := h
  refine zw_sld d_L_law_679 hX hbl zA_no q1 ?_
  refine zw_aload_n d_L_law_680 rfl rfl ?_
  refine zw_callSW (As := [.ref 0, .int (xs (a4 + (1 : Int32)).toNatClampNeg), .ref 200]) (r := []) d_L_law_681 (c_L_run hfl h) ml_3_142 ml_3_143 ml_1_0 ml_3_144 hyS_L_run (Nat.le_of_ble_eq_true rfl) (Nat.le_of_ble_eq_true rfl) ⟨by show _ ≤ 601024; omega, by show _ ≤ 7293034; omega⟩ (Nat.le_of_ble_eq_true rfl) rfl hTh (zk_i (fun x2 σ3 h => ?_))
  refine zw_istore d_L_law_684 (Nat.le_of_ble_eq_true rfl) rfl rfl ?_
  refine zw_aload_n d_L_law_686 rfl rfl ?_
  refine zw_aload_nq d_L_law_687 rfl rfl ?_
  refine zw_iload d_L_law_688 rfl ?_
  refine zw_iconst (v := 1) d_L_law_690 rfl ?_
  refine zw_iadd d_L_law_691 ?_
  obtain ⟨q4, h⟩ := h
  refine zw_sld d_L_law_692 hX hbl zA_no q4 ?_
  obtain ⟨q7, h⟩ := h
  refine zw_callV (ci := 7) (b := 183) (As := [.int (xs (a4 + (1 : Int32)).toNatClampNeg)]) (r := []) d_L_law_693 (c_M_run h) ml_4_238 ml_4_239 ml_5_0 mw_1_8 ml_5_1 (by decide) q7.1 q7.2 hyV_M_run (Nat.le_of_ble_eq_true rfl) (Nat.le_of_ble_eq_true rfl) ⟨by show _ ≤ 601024; omega, by show _ ≤ 7293034; omega⟩ (Nat.le_of_ble_eq_true rfl) rfl (zk_i (fun x5 σ6 h => ?_))
  refine zw_istore d_L_law_696 (Nat.le_of_ble_eq_true rfl) rfl rfl ?_
  refine zw_aload_n d_L_law_698 rfl rfl ?_
  refine zw_callV (ci := 7) (b := 183) (As := []) (r := []) d_L_law_699 (c_M_thrown h) ml_4_45 ml_4_46 ml_4_47 mw_1_8 ml_4_48 (by decide) q7.1 q7.2 hyV_M_thrown (Nat.le_of_ble_eq_true rfl) (Nat.le_of_ble_eq_true rfl) ⟨by show _ ≤ 601024; omega, by show _ ≤ 7293034; omega⟩ (Nat.le_of_ble_eq_true rfl) rfl (zk_i (fun x8 σ9 h => ?_))
  refine zw_iload d_L_law_702 rfl ?_
  obtain ⟨ht, hf⟩ := h
  refine zw_icmp_eq (tgt := 709) d_L_law_704 rfl (fun hc => ?_) (fun hc => ?_)
  · have h := ht hc; clear ht hf
    refine zw_iload d_L_law_709 rfl ?_
    obtain ⟨ht, hf⟩ := h
    refine zw_if_ne (tgt := 726) d_L_law_711 rfl (fun hc => ?_) (fun hc => ?_)
    · have h := ht hc; clear ht hf
      refine zw_goto (tgt := 798) d_L_law_726 rfl ?_
      refine zw_le (ls' := [some (.retAddr b), some (.ref 0), some (.ref 183), some (.ref 200), some (.int a4), none, none]) (And.intro rfl (And.intro rfl (And.intro rfl (And.intro rfl (And.intro rfl True.intro))))) ?_
      exact hK _ _ _ (by omega) (by omega) h
    · have h := hf hc; clear ht hf
      refine zw_aload_n d_L_law_714 rfl rfl ?_
      refine zw_iconst (v := 0) d_L_law_715 rfl ?_
      obtain ⟨q10, h⟩ := h
      refine zw_lald d_L_law_716 q10.1 (zkd_eta q10.2.1) q10.2.2 ?_
      refine zw_iload d_L_law_717 rfl ?_
      refine zw_i2l d_L_law_719 ?_
      refine zw_lcmp d_L_law_720 ?_
      obtain ⟨ht, hf⟩ := h
      refine zw_if_eq (tgt := 726) d_L_law_721 rfl (fun hc => ?_) (fun hc => ?_)
      · have h := ht hc; clear ht hf
        refine zw_goto (tgt := 798) d_L_law_726 rfl ?_
        refine zw_le (ls' := [some (.retAddr b), some (.ref 0), some (.ref 183), some (.ref 200), some (.int a4), none, none]) (And.intro rfl (And.intro rfl (And.intro rfl (And.intro rfl (And.intro rfl True.intro))))) ?_
        exact hK _ _ _ (by omega) (by omega) h
      · have h := hf hc; clear ht hf
        refine zw_iconst (v := 0) d_L_law_724 rfl ?_
        exact False.elim h
  · have h := hf hc; clear ht hf
    refine zw_iconst (v := 0) d_L_law_707 rfl ?_
    exact False.elim h
def P_law_729 (L : Nat) (xs : Nat → Int32) (a4 : Int32) (K : zS → Prop) (σ : zS) : Prop := vp_in (a4 + (1 : Int32)) L ∧ P_L_value 201 0 (xs (a4 + (1 : Int32)).toNatClampNeg) 200 σ (fun x2 σ3 => vp_in (a4 + (1 : Int32)) L ∧ zk 201 183 7 ∧ P_M_value 201 183 (xs (a4 + (1 : Int32)).toNatClampNeg) σ3 (fun x5 σ6 => P_M_thrown 201 183 σ6 (fun x8 σ9 => ((x8 = x2 → ((¬ x2 = 0 → K σ9) ∧ (x2 = 0 → za 201 200 14 (0 : Int32) ∧ (((lg_cmp (zl σ9 200 (0 : Int32).toNatClampNeg) (Int32.toInt64 x5)) = 0 → K σ9) ∧ (¬ ((lg_cmp (zl σ9 200 (0 : Int32).toNatClampNeg) (Int32.toInt64 x5)) = 0) → False))))) ∧ (¬ (x8 = x2) → False)))))
set_option maxHeartbeats 2000000 in
set_option maxRecDepth 10000 in
theorem w_law_729 (hX : va_X b L xs s s.heap) (hbl : b < s.heap.size ∧ b < base) (hTh : zTh base s) (hfl : l.flags = pinnedFlags ++ [noTraceFlag]) {K : zS → Prop} {cu su : Nat} {a4 : Int32} {σ : zS} (hcu : cu + 1 ≤ 600000) (hsu : su + 6 ≤ 7200000) (hK : ∀ (cu' su' : Nat) (σ : zS), cu' ≤ cu + 1 → su' ≤ su + 6 → K σ → zG p l e room_1 s m #[Value.ref b] below meth c (lw_Z below #[Value.ref b] s) s.heap (zA base) base D cA 7 false code "ConstantFlowLaw" 201 cu' su' 798 [some (.retAddr b), some (.ref 0), some (.ref 183), some (.ref 200), some (.int a4), none, none] [] σ) (h : P_law_729 L xs a4 K σ) : zG p l e room_1 s m #[Value.ref b] below meth c (lw_Z below #[Value.ref b] s) s.heap (zA base) base D cA 7 false code "ConstantFlowLaw" 201 cu su 729 [some (.retAddr b), some (.ref 0), some (.ref 183), some (.ref 200), some (.int a4), none, none] [] σ := by
  unfold P_law_729 at h
  refine zw_aload_n d_L_law_729 rfl rfl ?_
  refine zw_aload_nq d_L_law_730 rfl rfl ?_
  refine zw_iload d_L_law_731 rfl ?_
  refine zw_iconst (v := 1) d_L_law_733 rfl ?_
  refine zw_iadd d_L_law_734 ?_
  obtain ⟨q1, h⟩ := h
  refine zw_sld d_L_law_735 hX hbl zA_no q1 ?_
  refine zw_aload_n d_L_law_736 rfl rfl ?_
  refine zw_callSW (As := [.ref 0, .int (xs (a4 + (1 : Int32)).toNatClampNeg), .ref 200]) (r := []) d_L_law_737 (c_L_value hfl h) ml_3_171 ml_3_172 ml_1_0 ml_3_173 hyS_L_value (Nat.le_of_ble_eq_true rfl) (Nat.le_of_ble_eq_true rfl) ⟨by show _ ≤ 601024; omega, by show _ ≤ 7293034; omega⟩ (Nat.le_of_ble_eq_true rfl) rfl hTh (zk_i (fun x2 σ3 h => ?_))
  refine zw_istore d_L_law_740 (Nat.le_of_ble_eq_true rfl) rfl rfl ?_
  refine zw_aload_n d_L_law_742 rfl rfl ?_
  refine zw_aload_nq d_L_law_743 rfl rfl ?_
  refine zw_iload d_L_law_744 rfl ?_
  refine zw_iconst (v := 1) d_L_law_746 rfl ?_
  refine zw_iadd d_L_law_747 ?_
  obtain ⟨q4, h⟩ := h
  refine zw_sld d_L_law_748 hX hbl zA_no q4 ?_
  obtain ⟨q7, h⟩ := h
  refine zw_callV (ci := 7) (b := 183) (As := [.int (xs (a4 + (1 : Int32)).toNatClampNeg)]) (r := []) d_L_law_749 (c_M_value h) ml_5_10 ml_5_11 ml_5_12 mw_1_8 ml_5_13 (by decide) q7.1 q7.2 hyV_M_value (Nat.le_of_ble_eq_true rfl) (Nat.le_of_ble_eq_true rfl) ⟨by show _ ≤ 601024; omega, by show _ ≤ 7293034; omega⟩ (Nat.le_of_ble_eq_true rfl) rfl (zk_i (fun x5 σ6 h => ?_))
  refine zw_istore d_L_law_752 (Nat.le_of_ble_eq_true rfl) rfl rfl ?_
  refine zw_aload_n d_L_law_754 rfl rfl ?_
  refine zw_callV (ci := 7) (b := 183) (As := []) (r := []) d_L_law_755 (c_M_thrown h) ml_4_45 ml_4_46 ml_4_47 mw_1_8 ml_4_48 (by decide) q7.1 q7.2 hyV_M_thrown (Nat.le_of_ble_eq_true rfl) (Nat.le_of_ble_eq_true rfl) ⟨by show _ ≤ 601024; omega, by show _ ≤ 7293034; omega⟩ (Nat.le_of_ble_eq_true rfl) rfl (zk_i (fun x8 σ9 h => ?_))
  refine zw_iload d_L_law_758 rfl ?_
  obtain ⟨ht, hf⟩ := h
  refine zw_icmp_eq (tgt := 765) d_L_law_760 rfl (fun hc => ?_) (fun hc => ?_)
  · have h := ht hc; clear ht hf
    refine zw_iload d_L_law_765 rfl ?_
    obtain ⟨ht, hf⟩ := h
    refine zw_if_ne (tgt := 782) d_L_law_767 rfl (fun hc => ?_) (fun hc => ?_)
    · have h := ht hc; clear ht hf
      refine zw_goto (tgt := 798) d_L_law_782 rfl ?_
      refine zw_le (ls' := [some (.retAddr b), some (.ref 0), some (.ref 183), some (.ref 200), some (.int a4), none, none]) (And.intro rfl (And.intro rfl (And.intro rfl (And.intro rfl (And.intro rfl True.intro))))) ?_
      exact hK _ _ _ (by omega) (by omega) h
    · have h := hf hc; clear ht hf
      refine zw_aload_n d_L_law_770 rfl rfl ?_
      refine zw_iconst (v := 0) d_L_law_771 rfl ?_
      obtain ⟨q10, h⟩ := h
      refine zw_lald d_L_law_772 q10.1 (zkd_eta q10.2.1) q10.2.2 ?_
      refine zw_iload d_L_law_773 rfl ?_
      refine zw_i2l d_L_law_775 ?_
      refine zw_lcmp d_L_law_776 ?_
      obtain ⟨ht, hf⟩ := h
      refine zw_if_eq (tgt := 782) d_L_law_777 rfl (fun hc => ?_) (fun hc => ?_)
      · have h := ht hc; clear ht hf
        refine zw_goto (tgt := 798) d_L_law_782 rfl ?_
        refine zw_le (ls' := [some (.retAddr b), some (.ref 0), some (.ref 183), some (.ref 200), some (.int a4), none, none]) (And.intro rfl (And.intro rfl (And.intro rfl (And.intro rfl (And.intro rfl True.intro))))) ?_
        exact hK _ _ _ (by omega) (by omega) h
      · have h := hf hc; clear ht hf
        refine zw_iconst (v := 0) d_L_law_780 rfl ?_
        exact False.elim h
  · have h := hf hc; clear ht hf
    refine zw_iconst (v := 0) d_L_law_763 rfl ?_
    exact False.elim h
def P_law_785 (L : Nat) (xs : Nat → Int32) (a4 : Int32) (K : zS → Prop) (σ : zS) : Prop := zk 201 0 0 ∧ P_C_asked 201 0 σ (fun x1 σ2 => zk 201 183 7 ∧ P_M_asked 201 183 σ2 (fun x4 σ5 => ((x1 = x4 → K σ5) ∧ (¬ (x1 = x4) → False))))
set_option maxHeartbeats 2000000 in
set_option maxRecDepth 10000 in
theorem w_law_785 (hX : va_X b L xs s s.heap) (hbl : b < s.heap.size ∧ b < base) (hTh : zTh base s) (hfl : l.flags = pinnedFlags ++ [noTraceFlag]) {K : zS → Prop} {cu su : Nat} {a4 : Int32} {σ : zS} (hcu : cu + 1 ≤ 600000) (hsu : su + 6 ≤ 7200000) (hK : ∀ (cu' su' : Nat) (σ : zS), cu' ≤ cu + 1 → su' ≤ su + 6 → K σ → zG p l e room_1 s m #[Value.ref b] below meth c (lw_Z below #[Value.ref b] s) s.heap (zA base) base D cA 7 false code "ConstantFlowLaw" 201 cu' su' 798 [some (.retAddr b), some (.ref 0), some (.ref 183), some (.ref 200), some (.int a4), none, none] [] σ) (h : P_law_785 L xs a4 K σ) : zG p l e room_1 s m #[Value.ref b] below meth c (lw_Z below #[Value.ref b] s) s.heap (zA base) base D cA 7 false code "ConstantFlowLaw" 201 cu su 785 [some (.retAddr b), some (.ref 0), some (.ref 183), some (.ref 200), some (.int a4), none, none] [] σ := by
  unfold P_law_785 at h
  refine zw_aload_n d_L_law_785 rfl rfl ?_
  obtain ⟨q3, h⟩ := h
  refine zw_callV (ci := 0) (b := 0) (As := []) (r := []) d_L_law_786 (c_C_asked h) ml_2_228 ml_2_229 ml_2_230 mw_1_1 ml_2_231 (by decide) q3.1 q3.2 hyV_C_asked (Nat.le_of_ble_eq_true rfl) (Nat.le_of_ble_eq_true rfl) ⟨by show _ ≤ 601024; omega, by show _ ≤ 7293034; omega⟩ (Nat.le_of_ble_eq_true rfl) rfl (zk_i (fun x1 σ2 h => ?_))
  refine zw_aload_n d_L_law_789 rfl rfl ?_
  obtain ⟨q6, h⟩ := h
  refine zw_callV (ci := 7) (b := 183) (As := []) (r := [.int x1]) d_L_law_790 (c_M_asked h) ml_5_14 ml_5_15 ml_5_16 mw_1_8 ml_5_17 (by decide) q6.1 q6.2 hyV_M_asked (Nat.le_of_ble_eq_true rfl) (Nat.le_of_ble_eq_true rfl) ⟨by show _ ≤ 601024; omega, by show _ ≤ 7293034; omega⟩ (Nat.le_of_ble_eq_true rfl) rfl (zk_i (fun x4 σ5 h => ?_))
  obtain ⟨ht, hf⟩ := h
  refine zw_icmp_eq (tgt := 798) d_L_law_793 rfl (fun hc => ?_) (fun hc => ?_)
  · have h := ht hc; clear ht hf
    exact hK _ _ _ (by omega) (by omega) h
  · have h := hf hc; clear ht hf
    refine zw_iconst (v := 0) d_L_law_796 rfl ?_
    exact False.elim h
def P_law_23 (L : Nat) (xs : Nat → Int32) : Nat → Int32 → zS → Prop
  | 0, _, _ => False
  | f + 1, a4, σ => ((((Int32.ofNat L) - (4 : Int32)) < a4 → True) ∧ (¬ (((Int32.ofNat L) - (4 : Int32)) < a4) → vp_in a4 L ∧ ((((xs a4.toNatClampNeg) &&& (31 : Int32)) = (0 : Int32) → P_law_120 L xs a4 (fun σ => P_law_23 L xs f (a4 + (4 : Int32)) σ) σ) ∧ (((xs a4.toNatClampNeg) &&& (31 : Int32)) = (1 : Int32) → P_law_220 L xs a4 (fun σ => P_law_23 L xs f (a4 + (4 : Int32)) σ) σ) ∧ (((xs a4.toNatClampNeg) &&& (31 : Int32)) = (2 : Int32) → P_law_233 L xs a4 (fun σ => P_law_23 L xs f (a4 + (4 : Int32)) σ) σ) ∧ (((xs a4.toNatClampNeg) &&& (31 : Int32)) = (3 : Int32) → P_law_246 L xs a4 (fun σ => P_law_23 L xs f (a4 + (4 : Int32)) σ) σ) ∧ (((xs a4.toNatClampNeg) &&& (31 : Int32)) = (4 : Int32) → P_law_259 L xs a4 (fun σ => P_law_23 L xs f (a4 + (4 : Int32)) σ) σ) ∧ (((xs a4.toNatClampNeg) &&& (31 : Int32)) = (5 : Int32) → P_law_272 L xs a4 (fun σ => P_law_23 L xs f (a4 + (4 : Int32)) σ) σ) ∧ (((xs a4.toNatClampNeg) &&& (31 : Int32)) = (6 : Int32) → P_law_335 L xs a4 (fun σ => P_law_23 L xs f (a4 + (4 : Int32)) σ) σ) ∧ (((xs a4.toNatClampNeg) &&& (31 : Int32)) = (7 : Int32) → P_law_431 L xs a4 (fun σ => P_law_23 L xs f (a4 + (4 : Int32)) σ) σ) ∧ (((xs a4.toNatClampNeg) &&& (31 : Int32)) = (8 : Int32) → P_law_527 L xs a4 (fun σ => P_law_23 L xs f (a4 + (4 : Int32)) σ) σ) ∧ (((xs a4.toNatClampNeg) &&& (31 : Int32)) = (9 : Int32) → P_law_583 L xs a4 (fun σ => P_law_23 L xs f (a4 + (4 : Int32)) σ) σ) ∧ (((xs a4.toNatClampNeg) &&& (31 : Int32)) = (10 : Int32) → P_law_596 L xs a4 (fun σ => P_law_23 L xs f (a4 + (4 : Int32)) σ) σ) ∧ (((xs a4.toNatClampNeg) &&& (31 : Int32)) = (11 : Int32) → P_law_622 L xs a4 (fun σ => P_law_23 L xs f (a4 + (4 : Int32)) σ) σ) ∧ (((xs a4.toNatClampNeg) &&& (31 : Int32)) = (12 : Int32) → P_law_635 L xs a4 (fun σ => P_law_23 L xs f (a4 + (4 : Int32)) σ) σ) ∧ (((xs a4.toNatClampNeg) &&& (31 : Int32)) = (13 : Int32) → P_law_660 L xs a4 (fun σ => P_law_23 L xs f (a4 + (4 : Int32)) σ) σ) ∧ (((xs a4.toNatClampNeg) &&& (31 : Int32)) = (14 : Int32) → P_law_673 L xs a4 (fun σ => P_law_23 L xs f (a4 + (4 : Int32)) σ) σ) ∧ (((xs a4.toNatClampNeg) &&& (31 : Int32)) = (15 : Int32) → P_law_729 L xs a4 (fun σ => P_law_23 L xs f (a4 + (4 : Int32)) σ) σ) ∧ (((xs a4.toNatClampNeg) &&& (31 : Int32)) = (16 : Int32) → P_law_785 L xs a4 (fun σ => P_law_23 L xs f (a4 + (4 : Int32)) σ) σ) ∧ (¬ ((xs a4.toNatClampNeg) &&& (31 : Int32)) = (0 : Int32) → ¬ ((xs a4.toNatClampNeg) &&& (31 : Int32)) = (1 : Int32) → ¬ ((xs a4.toNatClampNeg) &&& (31 : Int32)) = (2 : Int32) → ¬ ((xs a4.toNatClampNeg) &&& (31 : Int32)) = (3 : Int32) → ¬ ((xs a4.toNatClampNeg) &&& (31 : Int32)) = (4 : Int32) → ¬ ((xs a4.toNatClampNeg) &&& (31 : Int32)) = (5 : Int32) → ¬ ((xs a4.toNatClampNeg) &&& (31 : Int32)) = (6 : Int32) → ¬ ((xs a4.toNatClampNeg) &&& (31 : Int32)) = (7 : Int32) → ¬ ((xs a4.toNatClampNeg) &&& (31 : Int32)) = (8 : Int32) → ¬ ((xs a4.toNatClampNeg) &&& (31 : Int32)) = (9 : Int32) → ¬ ((xs a4.toNatClampNeg) &&& (31 : Int32)) = (10 : Int32) → ¬ ((xs a4.toNatClampNeg) &&& (31 : Int32)) = (11 : Int32) → ¬ ((xs a4.toNatClampNeg) &&& (31 : Int32)) = (12 : Int32) → ¬ ((xs a4.toNatClampNeg) &&& (31 : Int32)) = (13 : Int32) → ¬ ((xs a4.toNatClampNeg) &&& (31 : Int32)) = (14 : Int32) → ¬ ((xs a4.toNatClampNeg) &&& (31 : Int32)) = (15 : Int32) → ¬ ((xs a4.toNatClampNeg) &&& (31 : Int32)) = (16 : Int32) → (fun σ => P_law_23 L xs f (a4 + (4 : Int32)) σ) σ))))
set_option maxHeartbeats 4000000 in
set_option maxRecDepth 10000 in
theorem w_law_23 (hX : va_X b L xs s s.heap) (hbl : b < s.heap.size ∧ b < base) (hTh : zTh base s) (hfl : l.flags = pinnedFlags ++ [noTraceFlag]) (hr : meth.sig.returnType = ret) (hbase : s.heap.size ≤ base) : ∀ (f : Nat), f ≤ 1000 → ∀ (a4 : Int32) (σ : zS), P_law_23 L xs f a4 σ → zG p l e room_1 s m #[Value.ref b] below meth c (lw_Z below #[Value.ref b] s) s.heap (zA base) base D cA 7 false code "ConstantFlowLaw" 201 (600000 - f) (7200000 - 6 * f) 23 [some (.retAddr b), some (.ref 0), some (.ref 183), some (.ref 200), some (.int a4), none, none] [] σ := by
  intro f
  induction f with
  | zero => intro _ a4 σ h; exact False.elim h
  | succ f ih =>
    intro hf1000 a4 σ h
    unfold P_law_23 at h
    have hK : ∀ (cu' su' : Nat) (σ : zS), cu' ≤ (600000 - (f + 1)) + 1 → su' ≤ (7200000 - 6 * (f + 1)) + 6 → P_law_23 L xs f (a4 + (4 : Int32)) σ → zG p l e room_1 s m #[Value.ref b] below meth c (lw_Z below #[Value.ref b] s) s.heap (zA base) base D cA 7 false code "ConstantFlowLaw" 201 cu' su' 798 [some (.retAddr b), some (.ref 0), some (.ref 183), some (.ref 200), some (.int a4), none, none] [] σ := by
      intro cu' su' σ h1 h2 h
      refine zw_iinc (v := (a4 + (4 : Int32))) d_L_law_798 rfl rfl (Nat.le_of_ble_eq_true rfl) rfl rfl ?_
      refine zw_goto (tgt := 23) d_L_law_801 rfl ?_
      refine zw_widen (k := 600000 - f) (z := 7200000 - 6 * f) (by omega) (by omega) ?_
      exact ih (by omega) _ _ h
    refine zw_iload d_L_law_23 rfl ?_
    refine zw_aload_nq d_L_law_25 rfl rfl ?_
    refine zw_slen d_L_law_26 hX hbl zA_no ?_
    refine zw_iconst (v := 4) d_L_law_27 rfl ?_
    refine zw_isub d_L_law_28 ?_
    obtain ⟨ht, hf⟩ := h
    refine zw_icmp_gt (tgt := 804) d_L_law_29 rfl (fun hc => ?_) (fun hc => ?_)
    · have h := ht hc; clear ht hf
      exact law_end hr hbase (by omega) (by omega)
    · have h := hf hc; clear ht hf
      refine zw_aload_nq d_L_law_32 rfl rfl ?_
      refine zw_iload d_L_law_33 rfl ?_
      obtain ⟨q1, h⟩ := h
      refine zw_sld d_L_law_35 hX hbl zA_no q1 ?_
      refine zw_bipush (v := 31) d_L_law_36 rfl ?_
      refine zw_iand d_L_law_38 ?_
      obtain ⟨hs0, hs1, hs2, hs3, hs4, hs5, hs6, hs7, hs8, hs9, hs10, hs11, hs12, hs13, hs14, hs15, hs16, hsd⟩ := h
      by_cases he0 : ((xs a4.toNatClampNeg) &&& (31 : Int32)) = (0 : Int32)
      · have h := hs0 he0; clear hs0 hs1 hs2 hs3 hs4 hs5 hs6 hs7 hs8 hs9 hs10 hs11 hs12 hs13 hs14 hs15 hs16 hsd
        refine zw_tableIn (tgt := 120) d_L_law_39 (by rw [he0]; decide) (by rw [he0]; decide) (by rw [he0]; rfl) rfl ?_
        exact w_law_120 hX hbl hTh hfl (by omega) (by omega) hK h
      by_cases he1 : ((xs a4.toNatClampNeg) &&& (31 : Int32)) = (1 : Int32)
      · have h := hs1 he1; clear hs0 hs1 hs2 hs3 hs4 hs5 hs6 hs7 hs8 hs9 hs10 hs11 hs12 hs13 hs14 hs15 hs16 hsd
        refine zw_tableIn (tgt := 220) d_L_law_39 (by rw [he1]; decide) (by rw [he1]; decide) (by rw [he1]; rfl) rfl ?_
        exact w_law_220 hX hbl hTh hfl (by omega) (by omega) hK h
      by_cases he2 : ((xs a4.toNatClampNeg) &&& (31 : Int32)) = (2 : Int32)
      · have h := hs2 he2; clear hs0 hs1 hs2 hs3 hs4 hs5 hs6 hs7 hs8 hs9 hs10 hs11 hs12 hs13 hs14 hs15 hs16 hsd
        refine zw_tableIn (tgt := 233) d_L_law_39 (by rw [he2]; decide) (by rw [he2]; decide) (by rw [he2]; rfl) rfl ?_
        exact w_law_233 hX hbl hTh hfl (by omega) (by omega) hK h
      by_cases he3 : ((xs a4.toNatClampNeg) &&& (31 : Int32)) = (3 : Int32)
      · have h := hs3 he3; clear hs0 hs1 hs2 hs3 hs4 hs5 hs6 hs7 hs8 hs9 hs10 hs11 hs12 hs13 hs14 hs15 hs16 hsd
        refine zw_tableIn (tgt := 246) d_L_law_39 (by rw [he3]; decide) (by rw [he3]; decide) (by rw [he3]; rfl) rfl ?_
        exact w_law_246 hX hbl hTh hfl (by omega) (by omega) hK h
      by_cases he4 : ((xs a4.toNatClampNeg) &&& (31 : Int32)) = (4 : Int32)
      · have h := hs4 he4; clear hs0 hs1 hs2 hs3 hs4 hs5 hs6 hs7 hs8 hs9 hs10 hs11 hs12 hs13 hs14 hs15 hs16 hsd
        refine zw_tableIn (tgt := 259) d_L_law_39 (by rw [he4]; decide) (by rw [he4]; decide) (by rw [he4]; rfl) rfl ?_
        exact w_law_259 hX hbl hTh hfl (by omega) (by omega) hK h
      by_cases he5 : ((xs a4.toNatClampNeg) &&& (31 : Int32)) = (5 : Int32)
      · have h := hs5 he5; clear hs0 hs1 hs2 hs3 hs4 hs5 hs6 hs7 hs8 hs9 hs10 hs11 hs12 hs13 hs14 hs15 hs16 hsd
        refine zw_tableIn (tgt := 272) d_L_law_39 (by rw [he5]; decide) (by rw [he5]; decide) (by rw [he5]; rfl) rfl ?_
        exact w_law_272 hX hbl hTh hfl (by omega) (by omega) hK h
      by_cases he6 : ((xs a4.toNatClampNeg) &&& (31 : Int32)) = (6 : Int32)
      · have h := hs6 he6; clear hs0 hs1 hs2 hs3 hs4 hs5 hs6 hs7 hs8 hs9 hs10 hs11 hs12 hs13 hs14 hs15 hs16 hsd
        refine zw_tableIn (tgt := 335) d_L_law_39 (by rw [he6]; decide) (by rw [he6]; decide) (by rw [he6]; rfl) rfl ?_
        exact w_law_335 hX hbl hTh hfl (by omega) (by omega) hK h
      by_cases he7 : ((xs a4.toNatClampNeg) &&& (31 : Int32)) = (7 : Int32)
      · have h := hs7 he7; clear hs0 hs1 hs2 hs3 hs4 hs5 hs6 hs7 hs8 hs9 hs10 hs11 hs12 hs13 hs14 hs15 hs16 hsd
        refine zw_tableIn (tgt := 431) d_L_law_39 (by rw [he7]; decide) (by rw [he7]; decide) (by rw [he7]; rfl) rfl ?_
        exact w_law_431 hX hbl hTh hfl (by omega) (by omega) hK h
      by_cases he8 : ((xs a4.toNatClampNeg) &&& (31 : Int32)) = (8 : Int32)
      · have h := hs8 he8; clear hs0 hs1 hs2 hs3 hs4 hs5 hs6 hs7 hs8 hs9 hs10 hs11 hs12 hs13 hs14 hs15 hs16 hsd
        refine zw_tableIn (tgt := 527) d_L_law_39 (by rw [he8]; decide) (by rw [he8]; decide) (by rw [he8]; rfl) rfl ?_
        exact w_law_527 hX hbl hTh hfl (by omega) (by omega) hK h
      by_cases he9 : ((xs a4.toNatClampNeg) &&& (31 : Int32)) = (9 : Int32)
      · have h := hs9 he9; clear hs0 hs1 hs2 hs3 hs4 hs5 hs6 hs7 hs8 hs9 hs10 hs11 hs12 hs13 hs14 hs15 hs16 hsd
        refine zw_tableIn (tgt := 583) d_L_law_39 (by rw [he9]; decide) (by rw [he9]; decide) (by rw [he9]; rfl) rfl ?_
        exact w_law_583 hX hbl hTh hfl (by omega) (by omega) hK h
      by_cases he10 : ((xs a4.toNatClampNeg) &&& (31 : Int32)) = (10 : Int32)
      · have h := hs10 he10; clear hs0 hs1 hs2 hs3 hs4 hs5 hs6 hs7 hs8 hs9 hs10 hs11 hs12 hs13 hs14 hs15 hs16 hsd
        refine zw_tableIn (tgt := 596) d_L_law_39 (by rw [he10]; decide) (by rw [he10]; decide) (by rw [he10]; rfl) rfl ?_
        exact w_law_596 hX hbl hTh hfl (by omega) (by omega) hK h
      by_cases he11 : ((xs a4.toNatClampNeg) &&& (31 : Int32)) = (11 : Int32)
      · have h := hs11 he11; clear hs0 hs1 hs2 hs3 hs4 hs5 hs6 hs7 hs8 hs9 hs10 hs11 hs12 hs13 hs14 hs15 hs16 hsd
        refine zw_tableIn (tgt := 622) d_L_law_39 (by rw [he11]; decide) (by rw [he11]; decide) (by rw [he11]; rfl) rfl ?_
        exact w_law_622 hX hbl hTh hfl (by omega) (by omega) hK h
      by_cases he12 : ((xs a4.toNatClampNeg) &&& (31 : Int32)) = (12 : Int32)
      · have h := hs12 he12; clear hs0 hs1 hs2 hs3 hs4 hs5 hs6 hs7 hs8 hs9 hs10 hs11 hs12 hs13 hs14 hs15 hs16 hsd
        refine zw_tableIn (tgt := 635) d_L_law_39 (by rw [he12]; decide) (by rw [he12]; decide) (by rw [he12]; rfl) rfl ?_
        exact w_law_635 hX hbl hTh hfl (by omega) (by omega) hK h
      by_cases he13 : ((xs a4.toNatClampNeg) &&& (31 : Int32)) = (13 : Int32)
      · have h := hs13 he13; clear hs0 hs1 hs2 hs3 hs4 hs5 hs6 hs7 hs8 hs9 hs10 hs11 hs12 hs13 hs14 hs15 hs16 hsd
        refine zw_tableIn (tgt := 660) d_L_law_39 (by rw [he13]; decide) (by rw [he13]; decide) (by rw [he13]; rfl) rfl ?_
        exact w_law_660 hX hbl hTh hfl (by omega) (by omega) hK h
      by_cases he14 : ((xs a4.toNatClampNeg) &&& (31 : Int32)) = (14 : Int32)
      · have h := hs14 he14; clear hs0 hs1 hs2 hs3 hs4 hs5 hs6 hs7 hs8 hs9 hs10 hs11 hs12 hs13 hs14 hs15 hs16 hsd
        refine zw_tableIn (tgt := 673) d_L_law_39 (by rw [he14]; decide) (by rw [he14]; decide) (by rw [he14]; rfl) rfl ?_
        exact w_law_673 hX hbl hTh hfl (by omega) (by omega) hK h
      by_cases he15 : ((xs a4.toNatClampNeg) &&& (31 : Int32)) = (15 : Int32)
      · have h := hs15 he15; clear hs0 hs1 hs2 hs3 hs4 hs5 hs6 hs7 hs8 hs9 hs10 hs11 hs12 hs13 hs14 hs15 hs16 hsd
        refine zw_tableIn (tgt := 729) d_L_law_39 (by rw [he15]; decide) (by rw [he15]; decide) (by rw [he15]; rfl) rfl ?_
        exact w_law_729 hX hbl hTh hfl (by omega) (by omega) hK h
      by_cases he16 : ((xs a4.toNatClampNeg) &&& (31 : Int32)) = (16 : Int32)
      · have h := hs16 he16; clear hs0 hs1 hs2 hs3 hs4 hs5 hs6 hs7 hs8 hs9 hs10 hs11 hs12 hs13 hs14 hs15 hs16 hsd
        refine zw_tableIn (tgt := 785) d_L_law_39 (by rw [he16]; decide) (by rw [he16]; decide) (by rw [he16]; rfl) rfl ?_
        exact w_law_785 hX hbl hTh hfl (by omega) (by omega) hK h
      have h := hsd he0 he1 he2 he3 he4 he5 he6 he7 he8 he9 he10 he11 he12 he13 he14 he15 he16; clear hs0 hs1 hs2 hs3 hs4 hs5 hs6 hs7 hs8 hs9 hs10 hs11 hs12 hs13 hs14 hs15 hs16 hsd
      refine zw_tableOut (tgt := 798) d_L_law_39 (by have e0 := lv_neT he0 (a := 0) (by decide); have e1 := lv_neT he1 (a := 1) (by decide); have e2 := lv_neT he2 (a := 2) (by decide); have e3 := lv_neT he3 (a := 3) (by decide); have e4 := lv_neT he4 (a := 4) (by decide); have e5 := lv_neT he5 (a := 5) (by decide); have e6 := lv_neT he6 (a := 6) (by decide); have e7 := lv_neT he7 (a := 7) (by decide); have e8 := lv_neT he8 (a := 8) (by decide); have e9 := lv_neT he9 (a := 9) (by decide); have e10 := lv_neT he10 (a := 10) (by decide); have e11 := lv_neT he11 (a := 11) (by decide); have e12 := lv_neT he12 (a := 12) (by decide); have e13 := lv_neT he13 (a := 13) (by decide); have e14 := lv_neT he14 (a := 14) (by decide); have e15 := lv_neT he15 (a := 15) (by decide); have e16 := lv_neT he16 (a := 16) (by decide); omega) rfl ?_
      exact hK _ _ _ (by omega) (by omega) h
def P_law (L : Nat) (xs : Nat → Int32) (σ : zS) : Prop := zkd 0 = (0, 0) ∧ P_C_init 1 0 (zN σ 0) (fun σ3 => zkd 183 = (7, 0) ∧ P_M_init 184 183 (zN σ3 183) (fun σ6 => zkd 200 = (14, 1) ∧ P_law_23 L xs 1000 (0 : Int32) (zN σ6 200)))
set_option maxHeartbeats 4000000 in
set_option maxRecDepth 10000 in
theorem w_law (hX : va_X b L xs s s.heap) (hbl : b < s.heap.size ∧ b < base) (hTh : zTh base s) (hfl : l.flags = pinnedFlags ++ [noTraceFlag]) (hr : meth.sig.returnType = ret) (hbase : s.heap.size ≤ base) {σ : zS} (h : P_law L xs σ) : zG p l e room_1 s m #[Value.ref b] below meth c (lw_Z below #[Value.ref b] s) s.heap (zA base) base D cA 7 true code "ConstantFlowLaw" 0 0 0 0 [some (.retAddr b), none, none, none, none, none, none] [] σ := by
  unfold P_law at h
  obtain ⟨q1, h⟩ := h
  refine zw_new (ci := 0) d_L_law_0 ml_1_16 ml_1_17 mw_1_1 (by decide) q1 rfl (Nat.le_of_ble_eq_true rfl) (Nat.le_of_ble_eq_true rfl) ?_
  refine zw_dup d_L_law_3 rfl ?_
  refine zw_callI (b := 0) (As := []) (r := [.ref 0]) d_L_law_4 (c_C_init rfl h) ml_1_18 ml_1_19 mw_1_1 ml_1_20 rfl hyS_C_init (Nat.le_of_ble_eq_true rfl) (Nat.le_of_ble_eq_true rfl) ⟨(Nat.le_of_ble_eq_true rfl), (Nat.le_of_ble_eq_true rfl)⟩ (Nat.le_of_ble_eq_true rfl) rfl (zk_v (fun σ3 h => ?_))
  refine zw_astore_n d_L_law_7 rfl (Nat.le_of_ble_eq_true rfl) rfl rfl ?_
  obtain ⟨q4, h⟩ := h
  refine zw_new (ci := 7) d_L_law_8 ml_3_179 ml_3_180 mw_1_8 (by decide) q4 rfl (Nat.le_of_ble_eq_true rfl) (Nat.le_of_ble_eq_true rfl) ?_
  refine zw_dup d_L_law_11 rfl ?_
  refine zw_callI (b := 183) (As := []) (r := [.ref 183]) d_L_law_12 (c_M_init rfl h) ml_3_181 ml_3_182 mw_1_8 ml_3_183 rfl hyS_M_init (Nat.le_of_ble_eq_true rfl) (Nat.le_of_ble_eq_true rfl) ⟨(Nat.le_of_ble_eq_true rfl), (Nat.le_of_ble_eq_true rfl)⟩ (Nat.le_of_ble_eq_true rfl) rfl (zk_v (fun σ6 h => ?_))
  refine zw_astore_n d_L_law_15 rfl (Nat.le_of_ble_eq_true rfl) rfl rfl ?_
  refine zw_iconst (v := 1) d_L_law_16 rfl ?_
  obtain ⟨q7, h⟩ := h
  refine zw_newa (tag := 14) (len := 1) (t0 := 4) d_L_law_17 ml_5_19 rfl rfl (by decide) (by decide) (fun h => h) (fun j => by unfold zv; simp [zi_N, zl_N]; try rfl) q7 (by decide) (by decide) (by decide) rfl (Nat.le_of_ble_eq_true rfl) (Nat.le_of_ble_eq_true rfl) ?_
  refine zw_astore_n d_L_law_19 rfl (Nat.le_of_ble_eq_true rfl) rfl rfl ?_
  refine zw_iconst (v := 0) d_L_law_20 rfl ?_
  refine zw_istore d_L_law_21 (Nat.le_of_ble_eq_true rfl) rfl rfl ?_
  refine zw_weak ?_
  refine zw_widen (k := 600000 - 1000) (z := 7200000 - 6 * 1000) (by decide +kernel) (by decide +kernel) ?_
  exact w_law_23 hX hbl hTh hfl hr hbase 1000 (Nat.le_refl _) _ _ h
end
