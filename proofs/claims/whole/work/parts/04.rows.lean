/-! Walking rows over the pure heap. -/
/-- what a method's walk rests on: the machine, its code, the tables' words at its start -/
def zF (p : Program) (s : State) (m : MethodId) (args : Array Value) (meth : Method) (c : Code) (H0 : Heap) (base : Nat) (D : va_G) (cA : Nat → ClassId) (nL : Nat) (cc : ByteArray) (own : String) : Prop :=
  p.tables.exec = Jvm.exec ∧ c.code = cc ∧ c.maxLocals = nL ∧ s.vm.findClass own = some m.cls ∧ (∀ w ∈ zWD, w.before args s = true) ∧ (∀ w ∈ zNW, va_Nw w s) ∧ va_K D zcl (ztys cA) s ∧ base ≤ H0.size ∧ meth.locks = false
def zG (p : Program) (l : Launch) (e : Env) (R : Room) (s : State) (m : MethodId) (args : Array Value) (below : List Frame) (meth : Method) (c : Code) (Q : State → Prop) (H0 : Heap) (A : Nat → Prop) (base : Nat) (D : va_G) (cA : Nat → ClassId) (nL : Nat) (ex : Bool) (cc : ByteArray) (own : String) (n cu su pc : Nat) (ls : List (Option Value)) (st : List Value) (σ : zS) : Prop :=
  zF p s m args meth c H0 base D cA nL cc own → ∀ (H : Heap) (locs : List Loc) (la : Array Slot), zW D cA base n ex σ H → va_S A H0 H locs → zLs base nL ls la → W p l e R s m args below meth c H locs cu su Q (F0 m pc la (st.map (ztr base)))
theorem zgd {L : List Cond} (h : ∀ w ∈ L, w ∈ zWD) : GoodIn zWD L := fun w hw => ⟨h w hw, zgood w (h w hw)⟩
theorem zNW_warm {s U : State} (hW : s.WarmedH U.vm) (h : ∀ w ∈ zNW, va_Nw w s) : ∀ w ∈ zNW, va_Nw w U := by
  intro w hw
  have h1 := h w hw
  rcases zNW_kind w hw with ⟨a, i, b, n, d, q, rfl⟩ | ⟨a, i, x, q, rfl⟩ | ⟨C, rfl⟩
  · exact va_Nw.warmF hW h1
  · exact va_Nw.warmM hW h1
  · exact va_AO.moved hW.alike h1
section ZW
variable {p : Program} {l : Launch} {e : Env} {R : Room} {s : State} {m : MethodId} {args : Array Value} {below : List Frame} {meth : Method} {c : Code} {Q : State → Prop} {H0 : Heap} {A : Nat → Prop} {base : Nat} {D : va_G} {cA : Nat → ClassId} {nL : Nat} {ex : Bool} {cc : ByteArray} {own : String} {n cu su pc : Nat} {ls : List (Option Value)} {st r : List Value} {σ : zS}
theorem zw_iconst {a : Int} {v : Int32} (hd : decode cc pc = .ok (.iconst a, 1)) (hv : Int32.ofInt a = v) (kk : zG p l e R s m args below meth c Q H0 A base D cA nL ex cc own n cu su (pc + 1) ls (.int v :: r) σ) : zG p l e R s m args below meth c Q H0 A base D cA nL ex cc own n cu su pc ls r σ :=
  fun F H locs la hW hS hL => lv_iconst F.1 F.2.1 hd hv (kk F H locs la hW hS hL)
theorem zw_bipush {a : Int} {v : Int32} (hd : decode cc pc = .ok (.bipush a, 2)) (hv : (Int8.ofInt a).toInt32 = v) (kk : zG p l e R s m args below meth c Q H0 A base D cA nL ex cc own n cu su (pc + 2) ls (.int v :: r) σ) : zG p l e R s m args below meth c Q H0 A base D cA nL ex cc own n cu su pc ls r σ :=
  fun F H locs la hW hS hL => lv_bipush F.1 F.2.1 hd hv (kk F H locs la hW hS hL)
theorem zw_sipush {a : Int} {v : Int32} (hd : decode cc pc = .ok (.sipush a, 3)) (hv : (Int16.ofInt a).toInt32 = v) (kk : zG p l e R s m args below meth c Q H0 A base D cA nL ex cc own n cu su (pc + 3) ls (.int v :: r) σ) : zG p l e R s m args below meth c Q H0 A base D cA nL ex cc own n cu su pc ls r σ :=
  fun F H locs la hW hS hL => lv_sipush F.1 F.2.1 hd hv (kk F H locs la hW hS hL)
theorem zw_lconst {a : Fin 2} {v : Int64} (hd : decode cc pc = .ok (.lconst a, 1)) (hv : Int64.ofNat (a : Nat) = v) (kk : zG p l e R s m args below meth c Q H0 A base D cA nL ex cc own n cu su (pc + 1) ls (.long v :: r) σ) : zG p l e R s m args below meth c Q H0 A base D cA nL ex cc own n cu su pc ls r σ :=
  fun F H locs la hW hS hL => lv_lconst F.1 F.2.1 hd hv (kk F H locs la hW hS hL)
theorem zw_ldc {i : Nat} {v : Int32} (hd : decode cc pc = .ok (.ldc i, 2)) (hc : Cond.constant own i v ∈ zWD) (kk : zG p l e R s m args below meth c Q H0 A base D cA nL ex cc own n cu su (pc + 2) ls (.int v :: r) σ) : zG p l e R s m args below meth c Q H0 A base D cA nL ex cc own n cu su pc ls r σ :=
  fun F H locs la hW hS hL => lv_ldc F.1 F.2.1 F.2.2.2.1 (F.2.2.2.2.1 _ hc) hd (kk F H locs la hW hS hL)
theorem zw_ldc2 {i : Nat} {v : Int64} (hd : decode cc pc = .ok (.ldc2_w i, 3)) (hc : Cond.constantLong own i v ∈ zWD) (kk : zG p l e R s m args below meth c Q H0 A base D cA nL ex cc own n cu su (pc + 3) ls (.long v :: r) σ) : zG p l e R s m args below meth c Q H0 A base D cA nL ex cc own n cu su pc ls r σ :=
  fun F H locs la hW hS hL => lv_ldc2 F.1 F.2.1 F.2.2.2.1 (F.2.2.2.2.1 _ hc) hd (kk F H locs la hW hS hL)
theorem zw_iload_n {k : Fin 4} {i : Nat} {x : Int32} (hd : decode cc pc = .ok (.iload_n k, 1)) (hi : (k : Nat) = i) (hx : ls[i]? = some (some (.int x))) (kk : zG p l e R s m args below meth c Q H0 A base D cA nL ex cc own n cu su (pc + 1) ls (.int x :: r) σ) : zG p l e R s m args below meth c Q H0 A base D cA nL ex cc own n cu su pc ls r σ :=
  fun F H locs la hW hS hL => lv_iload_n F.1 F.2.1 hd hi (hL.at hx) (kk F H locs la hW hS hL)
theorem zw_iload {i : Nat} {x : Int32} (hd : decode cc pc = .ok (.iload i, 2)) (hx : ls[i]? = some (some (.int x))) (kk : zG p l e R s m args below meth c Q H0 A base D cA nL ex cc own n cu su (pc + 2) ls (.int x :: r) σ) : zG p l e R s m args below meth c Q H0 A base D cA nL ex cc own n cu su pc ls r σ :=
  fun F H locs la hW hS hL => lv_iload F.1 F.2.1 hd (hL.at hx) (kk F H locs la hW hS hL)
theorem zw_istore_n {k : Fin 4} {i : Nat} {x : Int32} {ls' : List (Option Value)} (hd : decode cc pc = .ok (.istore_n k, 1)) (hi : (k : Nat) = i) (hn : i < nL) (hlow : zlow ls i = true) (hls : ls.set i (some (.int x)) = ls') (kk : zG p l e R s m args below meth c Q H0 A base D cA nL ex cc own n cu su (pc + 1) ls' r σ) : zG p l e R s m args below meth c Q H0 A base D cA nL ex cc own n cu su pc ls (.int x :: r) σ :=
  fun F H locs la hW hS hL => lv_istore_n F.1 F.2.1 hd hi hL.has hn rfl (fun la' hl' => kk F H locs la' hW hS (hls ▸ zLs.put1 hlow hl'))
theorem zw_istore {i : Nat} {x : Int32} {ls' : List (Option Value)} (hd : decode cc pc = .ok (.istore i, 2)) (hn : i < nL) (hlow : zlow ls i = true) (hls : ls.set i (some (.int x)) = ls') (kk : zG p l e R s m args below meth c Q H0 A base D cA nL ex cc own n cu su (pc + 2) ls' r σ) : zG p l e R s m args below meth c Q H0 A base D cA nL ex cc own n cu su pc ls (.int x :: r) σ :=
  fun F H locs la hW hS hL => lv_istore F.1 F.2.1 hd hL.has hn rfl (fun la' hl' => kk F H locs la' hW hS (hls ▸ zLs.put1 hlow hl'))
theorem zw_lload_n {k : Fin 4} {i : Nat} {x : Int64} (hd : decode cc pc = .ok (.lload_n k, 1)) (hi : (k : Nat) = i) (hx : ls[i]? = some (some (.long x))) (kk : zG p l e R s m args below meth c Q H0 A base D cA nL ex cc own n cu su (pc + 1) ls (.long x :: r) σ) : zG p l e R s m args below meth c Q H0 A base D cA nL ex cc own n cu su pc ls r σ :=
  fun F H locs la hW hS hL => lv_lload_n F.1 F.2.1 hd hi (hL.at hx) (kk F H locs la hW hS hL)
theorem zw_lload {i : Nat} {x : Int64} (hd : decode cc pc = .ok (.lload i, 2)) (hx : ls[i]? = some (some (.long x))) (kk : zG p l e R s m args below meth c Q H0 A base D cA nL ex cc own n cu su (pc + 2) ls (.long x :: r) σ) : zG p l e R s m args below meth c Q H0 A base D cA nL ex cc own n cu su pc ls r σ :=
  fun F H locs la hW hS hL => lv_lload F.1 F.2.1 hd (hL.at hx) (kk F H locs la hW hS hL)
theorem zw_lstore_n {k : Fin 4} {i : Nat} {x : Int64} {ls' : List (Option Value)} (hd : decode cc pc = .ok (.lstore_n k, 1)) (hi : (k : Nat) = i) (hn : i + 1 < nL) (hlow : zlow ls i = true) (hls : (ls.set i (some (.long x))).set (i + 1) none = ls') (kk : zG p l e R s m args below meth c Q H0 A base D cA nL ex cc own n cu su (pc + 1) ls' r σ) : zG p l e R s m args below meth c Q H0 A base D cA nL ex cc own n cu su pc ls (.long x :: r) σ :=
  fun F H locs la hW hS hL => lv_lstore_n F.1 F.2.1 hd hi hL.has hn rfl (fun la' hl' => kk F H locs la' hW hS (hls ▸ zLs.put2 hlow hl'))
theorem zw_lstore {i : Nat} {x : Int64} {ls' : List (Option Value)} (hd : decode cc pc = .ok (.lstore i, 2)) (hn : i + 1 < nL) (hlow : zlow ls i = true) (hls : (ls.set i (some (.long x))).set (i + 1) none = ls') (kk : zG p l e R s m args below meth c Q H0 A base D cA nL ex cc own n cu su (pc + 2) ls' r σ) : zG p l e R s m args below meth c Q H0 A base D cA nL ex cc own n cu su pc ls (.long x :: r) σ :=
  fun F H locs la hW hS hL => lv_lstore F.1 F.2.1 hd hL.has hn rfl (fun la' hl' => kk F H locs la' hW hS (hls ▸ zLs.put2 hlow hl'))
theorem zw_aload_n {k : Fin 4} {i : Nat} {x : Nat} (hd : decode cc pc = .ok (.aload_n k, 1)) (hi : (k : Nat) = i) (hx : ls[i]? = some (some (.ref x))) (kk : zG p l e R s m args below meth c Q H0 A base D cA nL ex cc own n cu su (pc + 1) ls (.ref x :: r) σ) : zG p l e R s m args below meth c Q H0 A base D cA nL ex cc own n cu su pc ls r σ :=
  fun F H locs la hW hS hL => lv_aload_n F.1 F.2.1 hd hi (hL.at hx) (kk F H locs la hW hS hL)
theorem zw_aload {i : Nat} {x : Nat} (hd : decode cc pc = .ok (.aload i, 2)) (hx : ls[i]? = some (some (.ref x))) (kk : zG p l e R s m args below meth c Q H0 A base D cA nL ex cc own n cu su (pc + 2) ls (.ref x :: r) σ) : zG p l e R s m args below meth c Q H0 A base D cA nL ex cc own n cu su pc ls r σ :=
  fun F H locs la hW hS hL => lv_aload F.1 F.2.1 hd (hL.at hx) (kk F H locs la hW hS hL)
theorem zw_astore_n {k : Fin 4} {i : Nat} {x : Nat} {ls' : List (Option Value)} (hd : decode cc pc = .ok (.astore_n k, 1)) (hi : (k : Nat) = i) (hn : i < nL) (hlow : zlow ls i = true) (hls : ls.set i (some (.ref x)) = ls') (kk : zG p l e R s m args below meth c Q H0 A base D cA nL ex cc own n cu su (pc + 1) ls' r σ) : zG p l e R s m args below meth c Q H0 A base D cA nL ex cc own n cu su pc ls (.ref x :: r) σ :=
  fun F H locs la hW hS hL => lv_astore_n F.1 F.2.1 hd hi hL.has hn rfl (fun la' hl' => kk F H locs la' hW hS (hls ▸ zLs.put1 hlow hl'))
theorem zw_astore {i : Nat} {x : Nat} {ls' : List (Option Value)} (hd : decode cc pc = .ok (.astore i, 2)) (hn : i < nL) (hlow : zlow ls i = true) (hls : ls.set i (some (.ref x)) = ls') (kk : zG p l e R s m args below meth c Q H0 A base D cA nL ex cc own n cu su (pc + 2) ls' r σ) : zG p l e R s m args below meth c Q H0 A base D cA nL ex cc own n cu su pc ls (.ref x :: r) σ :=
  fun F H locs la hW hS hL => lv_astore F.1 F.2.1 hd hL.has hn rfl (fun la' hl' => kk F H locs la' hW hS (hls ▸ zLs.put1 hlow hl'))
theorem zw_iinc {i : Nat} {a : Int} {x v : Int32} {ls' : List (Option Value)} (hd : decode cc pc = .ok (.iinc i a, 3)) (hx : ls[i]? = some (some (.int x))) (hv : x + Int32.ofInt a = v) (hn : i < nL) (hlow : zlow ls i = true) (hls : ls.set i (some (.int v)) = ls') (kk : zG p l e R s m args below meth c Q H0 A base D cA nL ex cc own n cu su (pc + 3) ls' r σ) : zG p l e R s m args below meth c Q H0 A base D cA nL ex cc own n cu su pc ls r σ := by
  intro F H locs la hW hS hL
  obtain ⟨k, hk⟩ := List.getElem?_of_mem (zlist_mem (base := base) (q := (i, Value.int x)) |>.mpr ⟨_, hx, rfl⟩)
  exact lv_iinc F.1 F.2.1 hd hL.has hk hv hn rfl (fun la' hl' => kk F H locs la' hW hS (hls ▸ zLs.put1 hlow hl'))
theorem zw_iadd {x y : Int32} (hd : decode cc pc = .ok (.iadd, 1)) (kk : zG p l e R s m args below meth c Q H0 A base D cA nL ex cc own n cu su (pc + 1) ls (.int (x + y) :: r) σ) : zG p l e R s m args below meth c Q H0 A base D cA nL ex cc own n cu su pc ls (.int y :: .int x :: r) σ :=
  fun F H locs la hW hS hL => lv_iadd F.1 F.2.1 hd (kk F H locs la hW hS hL)
theorem zw_isub {x y : Int32} (hd : decode cc pc = .ok (.isub, 1)) (kk : zG p l e R s m args below meth c Q H0 A base D cA nL ex cc own n cu su (pc + 1) ls (.int (x - y) :: r) σ) : zG p l e R s m args below meth c Q H0 A base D cA nL ex cc own n cu su pc ls (.int y :: .int x :: r) σ :=
  fun F H locs la hW hS hL => lv_isub F.1 F.2.1 hd (kk F H locs la hW hS hL)
theorem zw_imul {x y : Int32} (hd : decode cc pc = .ok (.imul, 1)) (kk : zG p l e R s m args below meth c Q H0 A base D cA nL ex cc own n cu su (pc + 1) ls (.int (x * y) :: r) σ) : zG p l e R s m args below meth c Q H0 A base D cA nL ex cc own n cu su pc ls (.int y :: .int x :: r) σ :=
  fun F H locs la hW hS hL => lv_imul F.1 F.2.1 hd (kk F H locs la hW hS hL)
theorem zw_iand {x y : Int32} (hd : decode cc pc = .ok (.iand, 1)) (kk : zG p l e R s m args below meth c Q H0 A base D cA nL ex cc own n cu su (pc + 1) ls (.int (x &&& y) :: r) σ) : zG p l e R s m args below meth c Q H0 A base D cA nL ex cc own n cu su pc ls (.int y :: .int x :: r) σ :=
  fun F H locs la hW hS hL => lv_iand F.1 F.2.1 hd (kk F H locs la hW hS hL)
theorem zw_ior {x y : Int32} (hd : decode cc pc = .ok (.ior, 1)) (kk : zG p l e R s m args below meth c Q H0 A base D cA nL ex cc own n cu su (pc + 1) ls (.int (x ||| y) :: r) σ) : zG p l e R s m args below meth c Q H0 A base D cA nL ex cc own n cu su pc ls (.int y :: .int x :: r) σ :=
  fun F H locs la hW hS hL => lv_ior F.1 F.2.1 hd (kk F H locs la hW hS hL)
theorem zw_ixor {x y : Int32} (hd : decode cc pc = .ok (.ixor, 1)) (kk : zG p l e R s m args below meth c Q H0 A base D cA nL ex cc own n cu su (pc + 1) ls (.int (x ^^^ y) :: r) σ) : zG p l e R s m args below meth c Q H0 A base D cA nL ex cc own n cu su pc ls (.int y :: .int x :: r) σ :=
  fun F H locs la hW hS hL => lv_ixor F.1 F.2.1 hd (kk F H locs la hW hS hL)
theorem zw_ishl {x y : Int32} (hd : decode cc pc = .ok (.ishl, 1)) (kk : zG p l e R s m args below meth c Q H0 A base D cA nL ex cc own n cu su (pc + 1) ls (.int (x <<< (y &&& 31)) :: r) σ) : zG p l e R s m args below meth c Q H0 A base D cA nL ex cc own n cu su pc ls (.int y :: .int x :: r) σ :=
  fun F H locs la hW hS hL => lv_ishl F.1 F.2.1 hd (kk F H locs la hW hS hL)
theorem zw_ishr {x y : Int32} (hd : decode cc pc = .ok (.ishr, 1)) (kk : zG p l e R s m args below meth c Q H0 A base D cA nL ex cc own n cu su (pc + 1) ls (.int (x >>> (y &&& 31)) :: r) σ) : zG p l e R s m args below meth c Q H0 A base D cA nL ex cc own n cu su pc ls (.int y :: .int x :: r) σ :=
  fun F H locs la hW hS hL => lv_ishr F.1 F.2.1 hd (kk F H locs la hW hS hL)
theorem zw_idiv {x y : Int32} (hd : decode cc pc = .ok (.idiv, 1)) (hne : ¬ y = 0) (kk : zG p l e R s m args below meth c Q H0 A base D cA nL ex cc own n cu su (pc + 1) ls (.int (x / y) :: r) σ) : zG p l e R s m args below meth c Q H0 A base D cA nL ex cc own n cu su pc ls (.int y :: .int x :: r) σ :=
  fun F H locs la hW hS hL => lv_idiv F.1 F.2.1 hd hne (kk F H locs la hW hS hL)
theorem zw_irem {x y : Int32} (hd : decode cc pc = .ok (.irem, 1)) (hne : ¬ y = 0) (kk : zG p l e R s m args below meth c Q H0 A base D cA nL ex cc own n cu su (pc + 1) ls (.int (x - x / y * y) :: r) σ) : zG p l e R s m args below meth c Q H0 A base D cA nL ex cc own n cu su pc ls (.int y :: .int x :: r) σ :=
  fun F H locs la hW hS hL => lv_irem F.1 F.2.1 hd hne (kk F H locs la hW hS hL)
theorem zw_ineg {x : Int32} (hd : decode cc pc = .ok (.ineg, 1)) (kk : zG p l e R s m args below meth c Q H0 A base D cA nL ex cc own n cu su (pc + 1) ls (.int (-x) :: r) σ) : zG p l e R s m args below meth c Q H0 A base D cA nL ex cc own n cu su pc ls (.int x :: r) σ :=
  fun F H locs la hW hS hL => lv_ineg F.1 F.2.1 hd (kk F H locs la hW hS hL)
theorem zw_ladd {x y : Int64} (hd : decode cc pc = .ok (.ladd, 1)) (kk : zG p l e R s m args below meth c Q H0 A base D cA nL ex cc own n cu su (pc + 1) ls (.long (x + y) :: r) σ) : zG p l e R s m args below meth c Q H0 A base D cA nL ex cc own n cu su pc ls (.long y :: .long x :: r) σ :=
  fun F H locs la hW hS hL => lv_ladd F.1 F.2.1 hd (kk F H locs la hW hS hL)
theorem zw_lsub {x y : Int64} (hd : decode cc pc = .ok (.lsub, 1)) (kk : zG p l e R s m args below meth c Q H0 A base D cA nL ex cc own n cu su (pc + 1) ls (.long (x - y) :: r) σ) : zG p l e R s m args below meth c Q H0 A base D cA nL ex cc own n cu su pc ls (.long y :: .long x :: r) σ :=
  fun F H locs la hW hS hL => lv_lsub F.1 F.2.1 hd (kk F H locs la hW hS hL)
theorem zw_lmul {x y : Int64} (hd : decode cc pc = .ok (.lmul, 1)) (kk : zG p l e R s m args below meth c Q H0 A base D cA nL ex cc own n cu su (pc + 1) ls (.long (x * y) :: r) σ) : zG p l e R s m args below meth c Q H0 A base D cA nL ex cc own n cu su pc ls (.long y :: .long x :: r) σ :=
  fun F H locs la hW hS hL => lv_lmul F.1 F.2.1 hd (kk F H locs la hW hS hL)
theorem zw_land {x y : Int64} (hd : decode cc pc = .ok (.land, 1)) (kk : zG p l e R s m args below meth c Q H0 A base D cA nL ex cc own n cu su (pc + 1) ls (.long (x &&& y) :: r) σ) : zG p l e R s m args below meth c Q H0 A base D cA nL ex cc own n cu su pc ls (.long y :: .long x :: r) σ :=
  fun F H locs la hW hS hL => lv_land F.1 F.2.1 hd (kk F H locs la hW hS hL)
theorem zw_lor {x y : Int64} (hd : decode cc pc = .ok (.lor, 1)) (kk : zG p l e R s m args below meth c Q H0 A base D cA nL ex cc own n cu su (pc + 1) ls (.long (x ||| y) :: r) σ) : zG p l e R s m args below meth c Q H0 A base D cA nL ex cc own n cu su pc ls (.long y :: .long x :: r) σ :=
  fun F H locs la hW hS hL => lv_lor F.1 F.2.1 hd (kk F H locs la hW hS hL)
theorem zw_lxor {x y : Int64} (hd : decode cc pc = .ok (.lxor, 1)) (kk : zG p l e R s m args below meth c Q H0 A base D cA nL ex cc own n cu su (pc + 1) ls (.long (x ^^^ y) :: r) σ) : zG p l e R s m args below meth c Q H0 A base D cA nL ex cc own n cu su pc ls (.long y :: .long x :: r) σ :=
  fun F H locs la hW hS hL => lv_lxor F.1 F.2.1 hd (kk F H locs la hW hS hL)
theorem zw_ldiv {x y : Int64} (hd : decode cc pc = .ok (.ldiv, 1)) (hne : ¬ y = 0) (kk : zG p l e R s m args below meth c Q H0 A base D cA nL ex cc own n cu su (pc + 1) ls (.long (x / y) :: r) σ) : zG p l e R s m args below meth c Q H0 A base D cA nL ex cc own n cu su pc ls (.long y :: .long x :: r) σ :=
  fun F H locs la hW hS hL => lv_ldiv F.1 F.2.1 hd hne (kk F H locs la hW hS hL)
theorem zw_lrem {x y : Int64} (hd : decode cc pc = .ok (.lrem, 1)) (hne : ¬ y = 0) (kk : zG p l e R s m args below meth c Q H0 A base D cA nL ex cc own n cu su (pc + 1) ls (.long (x - x / y * y) :: r) σ) : zG p l e R s m args below meth c Q H0 A base D cA nL ex cc own n cu su pc ls (.long y :: .long x :: r) σ :=
  fun F H locs la hW hS hL => lv_lrem F.1 F.2.1 hd hne (kk F H locs la hW hS hL)
theorem zw_lneg {x : Int64} (hd : decode cc pc = .ok (.lneg, 1)) (kk : zG p l e R s m args below meth c Q H0 A base D cA nL ex cc own n cu su (pc + 1) ls (.long (-x) :: r) σ) : zG p l e R s m args below meth c Q H0 A base D cA nL ex cc own n cu su pc ls (.long x :: r) σ :=
  fun F H locs la hW hS hL => lv_lneg F.1 F.2.1 hd (kk F H locs la hW hS hL)
theorem zw_i2l {x : Int32} (hd : decode cc pc = .ok (.i2l, 1)) (kk : zG p l e R s m args below meth c Q H0 A base D cA nL ex cc own n cu su (pc + 1) ls (.long x.toInt64 :: r) σ) : zG p l e R s m args below meth c Q H0 A base D cA nL ex cc own n cu su pc ls (.int x :: r) σ :=
  fun F H locs la hW hS hL => lv_i2l F.1 F.2.1 hd rfl (kk F H locs la hW hS hL)
theorem zw_l2i {x : Int64} (hd : decode cc pc = .ok (.l2i, 1)) (kk : zG p l e R s m args below meth c Q H0 A base D cA nL ex cc own n cu su (pc + 1) ls (.int x.toInt32 :: r) σ) : zG p l e R s m args below meth c Q H0 A base D cA nL ex cc own n cu su pc ls (.long x :: r) σ :=
  fun F H locs la hW hS hL => lv_l2i F.1 F.2.1 hd rfl (kk F H locs la hW hS hL)
theorem zw_i2b {x : Int32} (hd : decode cc pc = .ok (.i2b, 1)) (kk : zG p l e R s m args below meth c Q H0 A base D cA nL ex cc own n cu su (pc + 1) ls (.int x.toInt8.toInt32 :: r) σ) : zG p l e R s m args below meth c Q H0 A base D cA nL ex cc own n cu su pc ls (.int x :: r) σ :=
  fun F H locs la hW hS hL => lv_i2b F.1 F.2.1 hd rfl (kk F H locs la hW hS hL)
theorem zw_lushr {x : Int64} {y : Int32} (hd : decode cc pc = .ok (.lushr, 1)) (kk : zG p l e R s m args below meth c Q H0 A base D cA nL ex cc own n cu su (pc + 1) ls (.long (x.toUInt64 >>> (y.toInt64.toUInt64 &&& Int64.toUInt64 63)).toInt64 :: r) σ) : zG p l e R s m args below meth c Q H0 A base D cA nL ex cc own n cu su pc ls (.int y :: .long x :: r) σ :=
  fun F H locs la hW hS hL => lv_lushr F.1 F.2.1 hd rfl (kk F H locs la hW hS hL)
theorem zw_lshl {x : Int64} {y : Int32} (hd : decode cc pc = .ok (.lshl, 1)) (kk : zG p l e R s m args below meth c Q H0 A base D cA nL ex cc own n cu su (pc + 1) ls (.long (x <<< (y.toInt64 &&& 63)) :: r) σ) : zG p l e R s m args below meth c Q H0 A base D cA nL ex cc own n cu su pc ls (.int y :: .long x :: r) σ :=
  fun F H locs la hW hS hL => lv_lshl F.1 F.2.1 hd rfl (kk F H locs la hW hS hL)
theorem zw_lshr {x : Int64} {y : Int32} (hd : decode cc pc = .ok (.lshr, 1)) (kk : zG p l e R s m args below meth c Q H0 A base D cA nL ex cc own n cu su (pc + 1) ls (.long (x >>> (y.toInt64 &&& 63)) :: r) σ) : zG p l e R s m args below meth c Q H0 A base D cA nL ex cc own n cu su pc ls (.int y :: .long x :: r) σ :=
  fun F H locs la hW hS hL => lv_lshr F.1 F.2.1 hd rfl (kk F H locs la hW hS hL)
theorem zw_lcmp {x y : Int64} (hd : decode cc pc = .ok (.lcmp, 1)) (kk : zG p l e R s m args below meth c Q H0 A base D cA nL ex cc own n cu su (pc + 1) ls (.int (lg_cmp x y) :: r) σ) : zG p l e R s m args below meth c Q H0 A base D cA nL ex cc own n cu su pc ls (.long y :: .long x :: r) σ :=
  fun F H locs la hW hS hL => W.lcmp F.1 F.2.1 hd (kk F H locs la hW hS hL)
theorem zw_dup {a : Value} (hd : decode cc pc = .ok (.dup, 1)) (ha : a.category = 1) (kk : zG p l e R s m args below meth c Q H0 A base D cA nL ex cc own n cu su (pc + 1) ls (a :: a :: r) σ) : zG p l e R s m args below meth c Q H0 A base D cA nL ex cc own n cu su pc ls (a :: r) σ :=
  fun F H locs la hW hS hL => lv_dup F.1 F.2.1 hd ((ztr_cat base a).trans ha) (kk F H locs la hW hS hL)
theorem zw_pop {a : Value} (hd : decode cc pc = .ok (.pop, 1)) (ha : a.category = 1) (kk : zG p l e R s m args below meth c Q H0 A base D cA nL ex cc own n cu su (pc + 1) ls r σ) : zG p l e R s m args below meth c Q H0 A base D cA nL ex cc own n cu su pc ls (a :: r) σ :=
  fun F H locs la hW hS hL => lv_pop F.1 F.2.1 hd ((ztr_cat base a).trans ha) (kk F H locs la hW hS hL)
theorem zw_dup_x1 {a b : Value} (hd : decode cc pc = .ok (.dup_x1, 1)) (ha : a.category = 1) (hb : b.category = 1) (kk : zG p l e R s m args below meth c Q H0 A base D cA nL ex cc own n cu su (pc + 1) ls (a :: b :: a :: r) σ) : zG p l e R s m args below meth c Q H0 A base D cA nL ex cc own n cu su pc ls (a :: b :: r) σ :=
  fun F H locs la hW hS hL => lv_dup_x1 F.1 F.2.1 hd ((ztr_cat base a).trans ha) ((ztr_cat base b).trans hb) (kk F H locs la hW hS hL)
theorem zw_dup2 {a b : Value} (hd : decode cc pc = .ok (.dup2, 1)) (ha : a.category = 1) (hb : b.category = 1) (kk : zG p l e R s m args below meth c Q H0 A base D cA nL ex cc own n cu su (pc + 1) ls (a :: b :: a :: b :: r) σ) : zG p l e R s m args below meth c Q H0 A base D cA nL ex cc own n cu su pc ls (a :: b :: r) σ :=
  fun F H locs la hW hS hL => lv_dup2_11 F.1 F.2.1 hd ((ztr_cat base a).trans ha) ((ztr_cat base b).trans hb) (kk F H locs la hW hS hL)
theorem zw_if_eq {x : Int32} {off : Int} {tgt : Nat} (hd : decode cc pc = .ok (.ifCond .eq off, 3)) (ht : (pc : Int) + off = (tgt : Int)) (kt : x = 0 → zG p l e R s m args below meth c Q H0 A base D cA nL ex cc own n cu su tgt ls r σ) (kf : ¬ (x = 0) → zG p l e R s m args below meth c Q H0 A base D cA nL ex cc own n cu su (pc + 3) ls r σ) : zG p l e R s m args below meth c Q H0 A base D cA nL ex cc own n cu su pc ls (.int x :: r) σ :=
  fun F H locs la hW hS hL => lv_if_eq F.1 F.2.1 hd ht (fun h => kt h F H locs la hW hS hL) (fun h => kf h F H locs la hW hS hL)
theorem zw_icmp_eq {x y : Int32} {off : Int} {tgt : Nat} (hd : decode cc pc = .ok (.if_icmp .eq off, 3)) (ht : (pc : Int) + off = (tgt : Int)) (kt : x = y → zG p l e R s m args below meth c Q H0 A base D cA nL ex cc own n cu su tgt ls r σ) (kf : ¬ (x = y) → zG p l e R s m args below meth c Q H0 A base D cA nL ex cc own n cu su (pc + 3) ls r σ) : zG p l e R s m args below meth c Q H0 A base D cA nL ex cc own n cu su pc ls (.int y :: .int x :: r) σ :=
  fun F H locs la hW hS hL => lv_icmp_eq F.1 F.2.1 hd ht (fun h => kt h F H locs la hW hS hL) (fun h => kf h F H locs la hW hS hL)
theorem zw_if_ne {x : Int32} {off : Int} {tgt : Nat} (hd : decode cc pc = .ok (.ifCond .ne off, 3)) (ht : (pc : Int) + off = (tgt : Int)) (kt : ¬ x = 0 → zG p l e R s m args below meth c Q H0 A base D cA nL ex cc own n cu su tgt ls r σ) (kf : x = 0 → zG p l e R s m args below meth c Q H0 A base D cA nL ex cc own n cu su (pc + 3) ls r σ) : zG p l e R s m args below meth c Q H0 A base D cA nL ex cc own n cu su pc ls (.int x :: r) σ :=
  fun F H locs la hW hS hL => lv_if_ne F.1 F.2.1 hd ht (fun h => kt h F H locs la hW hS hL) (fun h => kf h F H locs la hW hS hL)
theorem zw_icmp_ne {x y : Int32} {off : Int} {tgt : Nat} (hd : decode cc pc = .ok (.if_icmp .ne off, 3)) (ht : (pc : Int) + off = (tgt : Int)) (kt : ¬ x = y → zG p l e R s m args below meth c Q H0 A base D cA nL ex cc own n cu su tgt ls r σ) (kf : x = y → zG p l e R s m args below meth c Q H0 A base D cA nL ex cc own n cu su (pc + 3) ls r σ) : zG p l e R s m args below meth c Q H0 A base D cA nL ex cc own n cu su pc ls (.int y :: .int x :: r) σ :=
  fun F H locs la hW hS hL => lv_icmp_ne F.1 F.2.1 hd ht (fun h => kt h F H locs la hW hS hL) (fun h => kf h F H locs la hW hS hL)
theorem zw_if_lt {x : Int32} {off : Int} {tgt : Nat} (hd : decode cc pc = .ok (.ifCond .lt off, 3)) (ht : (pc : Int) + off = (tgt : Int)) (kt : x < 0 → zG p l e R s m args below meth c Q H0 A base D cA nL ex cc own n cu su tgt ls r σ) (kf : ¬ (x < 0) → zG p l e R s m args below meth c Q H0 A base D cA nL ex cc own n cu su (pc + 3) ls r σ) : zG p l e R s m args below meth c Q H0 A base D cA nL ex cc own n cu su pc ls (.int x :: r) σ :=
  fun F H locs la hW hS hL => lv_if_lt F.1 F.2.1 hd ht (fun h => kt h F H locs la hW hS hL) (fun h => kf h F H locs la hW hS hL)
theorem zw_icmp_lt {x y : Int32} {off : Int} {tgt : Nat} (hd : decode cc pc = .ok (.if_icmp .lt off, 3)) (ht : (pc : Int) + off = (tgt : Int)) (kt : x < y → zG p l e R s m args below meth c Q H0 A base D cA nL ex cc own n cu su tgt ls r σ) (kf : ¬ (x < y) → zG p l e R s m args below meth c Q H0 A base D cA nL ex cc own n cu su (pc + 3) ls r σ) : zG p l e R s m args below meth c Q H0 A base D cA nL ex cc own n cu su pc ls (.int y :: .int x :: r) σ :=
  fun F H locs la hW hS hL => lv_icmp_lt F.1 F.2.1 hd ht (fun h => kt h F H locs la hW hS hL) (fun h => kf h F H locs la hW hS hL)
theorem zw_if_ge {x : Int32} {off : Int} {tgt : Nat} (hd : decode cc pc = .ok (.ifCond .ge off, 3)) (ht : (pc : Int) + off = (tgt : Int)) (kt : 0 ≤ x → zG p l e R s m args below meth c Q H0 A base D cA nL ex cc own n cu su tgt ls r σ) (kf : ¬ (0 ≤ x) → zG p l e R s m args below meth c Q H0 A base D cA nL ex cc own n cu su (pc + 3) ls r σ) : zG p l e R s m args below meth c Q H0 A base D cA nL ex cc own n cu su pc ls (.int x :: r) σ :=
  fun F H locs la hW hS hL => lv_if_ge F.1 F.2.1 hd ht (fun h => kt h F H locs la hW hS hL) (fun h => kf h F H locs la hW hS hL)
theorem zw_icmp_ge {x y : Int32} {off : Int} {tgt : Nat} (hd : decode cc pc = .ok (.if_icmp .ge off, 3)) (ht : (pc : Int) + off = (tgt : Int)) (kt : y ≤ x → zG p l e R s m args below meth c Q H0 A base D cA nL ex cc own n cu su tgt ls r σ) (kf : ¬ (y ≤ x) → zG p l e R s m args below meth c Q H0 A base D cA nL ex cc own n cu su (pc + 3) ls r σ) : zG p l e R s m args below meth c Q H0 A base D cA nL ex cc own n cu su pc ls (.int y :: .int x :: r) σ :=
  fun F H locs la hW hS hL => lv_icmp_ge F.1 F.2.1 hd ht (fun h => kt h F H locs la hW hS hL) (fun h => kf h F H locs la hW hS hL)
theorem zw_if_gt {x : Int32} {off : Int} {tgt : Nat} (hd : decode cc pc = .ok (.ifCond .gt off, 3)) (ht : (pc : Int) + off = (tgt : Int)) (kt : 0 < x → zG p l e R s m args below meth c Q H0 A base D cA nL ex cc own n cu su tgt ls r σ) (kf : ¬ (0 < x) → zG p l e R s m args below meth c Q H0 A base D cA nL ex cc own n cu su (pc + 3) ls r σ) : zG p l e R s m args below meth c Q H0 A base D cA nL ex cc own n cu su pc ls (.int x :: r) σ :=
  fun F H locs la hW hS hL => lv_if_gt F.1 F.2.1 hd ht (fun h => kt h F H locs la hW hS hL) (fun h => kf h F H locs la hW hS hL)
theorem zw_icmp_gt {x y : Int32} {off : Int} {tgt : Nat} (hd : decode cc pc = .ok (.if_icmp .gt off, 3)) (ht : (pc : Int) + off = (tgt : Int)) (kt : y < x → zG p l e R s m args below meth c Q H0 A base D cA nL ex cc own n cu su tgt ls r σ) (kf : ¬ (y < x) → zG p l e R s m args below meth c Q H0 A base D cA nL ex cc own n cu su (pc + 3) ls r σ) : zG p l e R s m args below meth c Q H0 A base D cA nL ex cc own n cu su pc ls (.int y :: .int x :: r) σ :=
  fun F H locs la hW hS hL => lv_icmp_gt F.1 F.2.1 hd ht (fun h => kt h F H locs la hW hS hL) (fun h => kf h F H locs la hW hS hL)
theorem zw_if_le {x : Int32} {off : Int} {tgt : Nat} (hd : decode cc pc = .ok (.ifCond .le off, 3)) (ht : (pc : Int) + off = (tgt : Int)) (kt : x ≤ 0 → zG p l e R s m args below meth c Q H0 A base D cA nL ex cc own n cu su tgt ls r σ) (kf : ¬ (x ≤ 0) → zG p l e R s m args below meth c Q H0 A base D cA nL ex cc own n cu su (pc + 3) ls r σ) : zG p l e R s m args below meth c Q H0 A base D cA nL ex cc own n cu su pc ls (.int x :: r) σ :=
  fun F H locs la hW hS hL => lv_if_le F.1 F.2.1 hd ht (fun h => kt h F H locs la hW hS hL) (fun h => kf h F H locs la hW hS hL)
theorem zw_icmp_le {x y : Int32} {off : Int} {tgt : Nat} (hd : decode cc pc = .ok (.if_icmp .le off, 3)) (ht : (pc : Int) + off = (tgt : Int)) (kt : x ≤ y → zG p l e R s m args below meth c Q H0 A base D cA nL ex cc own n cu su tgt ls r σ) (kf : ¬ (x ≤ y) → zG p l e R s m args below meth c Q H0 A base D cA nL ex cc own n cu su (pc + 3) ls r σ) : zG p l e R s m args below meth c Q H0 A base D cA nL ex cc own n cu su pc ls (.int y :: .int x :: r) σ :=
  fun F H locs la hW hS hL => lv_icmp_le F.1 F.2.1 hd ht (fun h => kt h F H locs la hW hS hL) (fun h => kf h F H locs la hW hS hL)
theorem zw_goto {off : Int} {tgt : Nat} (hd : decode cc pc = .ok (.goto off, 3)) (ht : (pc : Int) + off = (tgt : Int)) (kk : zG p l e R s m args below meth c Q H0 A base D cA nL ex cc own n cu su tgt ls st σ) : zG p l e R s m args below meth c Q H0 A base D cA nL ex cc own n cu su pc ls st σ :=
  fun F H locs la hW hS hL => lv_goto F.1 F.2.1 hd ht (kk F H locs la hW hS hL)
theorem zw_lookup {dflt : Int} {ps : Array (Int × Int)} {len : Nat} {x : Int32} {off : Int} {tgt : Nat} (hd : decode cc pc = .ok (.lookupswitch dflt ps, len)) (hp : (ps.toList.zip (ps.toList.drop 1)).all (fun (a, next) => a.1 < next.1) = true) (ho : Op.lookupswitch.offset ps.toList dflt x.toInt = off) (ht : (pc : Int) + off = (tgt : Int)) (kk : zG p l e R s m args below meth c Q H0 A base D cA nL ex cc own n cu su tgt ls r σ) : zG p l e R s m args below meth c Q H0 A base D cA nL ex cc own n cu su pc ls (.int x :: r) σ :=
  fun F H locs la hW hS hL => lv_lookup F.1 F.2.1 hd hp ho ht (kk F H locs la hW hS hL)
theorem zw_tableIn {dflt lo hi : Int} {offs : Array Int} {len : Nat} {x : Int32} {off : Int} {tgt : Nat} (hd : decode cc pc = .ok (.tableswitch dflt lo hi offs, len)) (h1 : ¬ x.toInt < lo) (h2 : ¬ hi < x.toInt) (ho : offs[(x.toInt - lo).toNat]? = some off) (ht : (pc : Int) + off = (tgt : Int)) (kk : zG p l e R s m args below meth c Q H0 A base D cA nL ex cc own n cu su tgt ls r σ) : zG p l e R s m args below meth c Q H0 A base D cA nL ex cc own n cu su pc ls (.int x :: r) σ :=
  fun F H locs la hW hS hL => lv_tableIn F.1 F.2.1 hd h1 h2 ho ht (kk F H locs la hW hS hL)
theorem zw_tableOut {dflt lo hi : Int} {offs : Array Int} {len : Nat} {x : Int32} {tgt : Nat} (hd : decode cc pc = .ok (.tableswitch dflt lo hi offs, len)) (h : x.toInt < lo ∨ hi < x.toInt) (ht : (pc : Int) + dflt = (tgt : Int)) (kk : zG p l e R s m args below meth c Q H0 A base D cA nL ex cc own n cu su tgt ls r σ) : zG p l e R s m args below meth c Q H0 A base D cA nL ex cc own n cu su pc ls (.int x :: r) σ :=
  fun F H locs la hW hS hL => lv_tableOut F.1 F.2.1 hd h ht (kk F H locs la hW hS hL)
theorem zw_le {ls' : List (Option Value)} (h : zle ls' ls) (kk : zG p l e R s m args below meth c Q H0 A base D cA nL ex cc own n cu su pc ls' st σ) : zG p l e R s m args below meth c Q H0 A base D cA nL ex cc own n cu su pc ls st σ :=
  fun F H locs la hW hS hL => kk F H locs la hW hS (hL.le h)
theorem zw_eq {ls' : List (Option Value)} {st' : List Value} {σ' : zS} (h1 : ls = ls') (h2 : st = st') (h3 : σ = σ') (kk : zG p l e R s m args below meth c Q H0 A base D cA nL ex cc own n cu su pc ls' st' σ') : zG p l e R s m args below meth c Q H0 A base D cA nL ex cc own n cu su pc ls st σ := by
  subst h1; subst h2; subst h3; exact kk
theorem zw_gf {ci idx j k : Nat} {v : Value} (hd : decode cc pc = .ok (.getfield idx, 3)) (hl : Cond.fieldLink own idx (zCn ci) (zFT ci j).2.1 (zFT ci j).2.2.1 ∈ zWD) (hk : k < n) (hkd : (zkd k).1 = ci) (hci : ci < 8) (hj : j < znf ci) (hv : ztr base v = zv base σ k j (zsty ci j)) (kk : zG p l e R s m args below meth c Q H0 A base D cA nL ex cc own n cu su (pc + 3) ls (v :: r) σ) : zG p l e R s m args below meth c Q H0 A base D cA nL ex cc own n cu su pc ls (.ref k :: r) σ := by
  intro F H locs la hW hS hL
  have h1 := hW.1 k hk
  unfold zAt at h1
  rw [hkd, if_pos (by omega)] at h1
  have K := F.2.2.2.2.2.2.1
  refine va_get (D := D) (cl := zcl) (tys := ztys cA) (ws := [(base + k, .inr (ci, (List.range (znf ci)).map fun j => zv base σ k j (zsty ci j)))]) (ci := ci) (C := zCn ci) (T := zFT ci) (N := znf ci) F.1 F.2.1 F.2.2.2.2.1 (zin ci hci) F.2.2.2.1 K ?_ 0 rfl (zcl_at ci hci) j hj (F.2.2.2.2.1 _ hl) ?_ (v := ztr base v) ?_ hd (kk F H locs la hW hS hL)
  · intro a q hq
    have ha : a < 1 := (List.getElem?_eq_some_iff.mp hq).1
    have ha0 : a = 0 := by omega
    subst ha0
    cases hq
    exact ⟨_, zcl_at ci hci, h1.to fun j hj => by simp [vp_V, hj]⟩
  · intro x hx
    rw [zto ci hci j hj] at hx
    exact hx
  · rw [List.getElem?_map, List.getElem?_range hj]
    simp [hv]
theorem zw_gfN {ci idx j k : Nat} {host : String} {v : Value} (hd : decode cc pc = .ok (.getfield idx, 3)) (hl : Cond.fieldLinkNest own idx (zCn ci) (zFT ci j).2.1 (zFT ci j).2.2.1 host ∈ zNW) (hk : k < n) (hkd : (zkd k).1 = ci) (hci : ci < 8) (hj : j < znf ci) (hv : ztr base v = zv base σ k j (zsty ci j)) (kk : zG p l e R s m args below meth c Q H0 A base D cA nL ex cc own n cu su (pc + 3) ls (v :: r) σ) : zG p l e R s m args below meth c Q H0 A base D cA nL ex cc own n cu su pc ls (.ref k :: r) σ := by
  intro F H locs la hW hS hL
  have h1 := hW.1 k hk
  unfold zAt at h1
  rw [hkd, if_pos (by omega)] at h1
  have K := F.2.2.2.2.2.2.1
  refine va_getN (D := D) (cl := zcl) (tys := ztys cA) (ws := [(base + k, .inr (ci, (List.range (znf ci)).map fun j => zv base σ k j (zsty ci j)))]) (ci := ci) (C := zCn ci) (T := zFT ci) (N := znf ci) F.1 F.2.1 F.2.2.2.2.1 (zin ci hci) F.2.2.2.1 K ?_ 0 rfl (zcl_at ci hci) j hj (va_Nw.use rfl (F.2.2.2.2.2.1 _ hl)) ?_ (v := ztr base v) ?_ hd (kk F H locs la hW hS hL)
  · intro a q hq
    have ha : a < 1 := (List.getElem?_eq_some_iff.mp hq).1
    have ha0 : a = 0 := by omega
    subst ha0
    cases hq
    exact ⟨_, zcl_at ci hci, h1.to fun j hj => by simp [vp_V, hj]⟩
  · intro x hx
    rw [zto ci hci j hj] at hx
    exact hx
  · rw [List.getElem?_map, List.getElem?_range hj]
    simp [hv]
theorem zw_gfi {ci idx j k : Nat} (hd : decode cc pc = .ok (.getfield idx, 3)) (hl : Cond.fieldLink own idx (zCn ci) (zFT ci j).2.1 (zFT ci j).2.2.1 ∈ zWD) (hk : k < n) (hkd : (zkd k).1 = ci) (hci : ci < 8) (hj : j < znf ci) (hs : zsty ci j = 0) (kk : zG p l e R s m args below meth c Q H0 A base D cA nL ex cc own n cu su (pc + 3) ls (.int (zi σ k j) :: r) σ) : zG p l e R s m args below meth c Q H0 A base D cA nL ex cc own n cu su pc ls (.ref k :: r) σ :=
  zw_gf (v := .int (zi σ k j)) hd hl hk hkd hci hj (by rw [hs]; rfl) kk
theorem zw_gfr {ci idx j k b : Nat} (hd : decode cc pc = .ok (.getfield idx, 3)) (hl : Cond.fieldLink own idx (zCn ci) (zFT ci j).2.1 (zFT ci j).2.2.1 ∈ zWD) (hk : k < n) (hkd : (zkd k).1 = ci) (hci : ci < 8) (hj : j < znf ci) (hs : zsty ci j = 1) (hb : zr σ k j = some b) (kk : zG p l e R s m args below meth c Q H0 A base D cA nL ex cc own n cu su (pc + 3) ls (.ref b :: r) σ) : zG p l e R s m args below meth c Q H0 A base D cA nL ex cc own n cu su pc ls (.ref k :: r) σ :=
  zw_gf (v := .ref b) hd hl hk hkd hci hj (by rw [hs]; unfold zv; rw [hb]; rfl) kk
theorem zw_gfiN {ci idx j k : Nat} {host : String} (hd : decode cc pc = .ok (.getfield idx, 3)) (hl : Cond.fieldLinkNest own idx (zCn ci) (zFT ci j).2.1 (zFT ci j).2.2.1 host ∈ zNW) (hk : k < n) (hkd : (zkd k).1 = ci) (hci : ci < 8) (hj : j < znf ci) (hs : zsty ci j = 0) (kk : zG p l e R s m args below meth c Q H0 A base D cA nL ex cc own n cu su (pc + 3) ls (.int (zi σ k j) :: r) σ) : zG p l e R s m args below meth c Q H0 A base D cA nL ex cc own n cu su pc ls (.ref k :: r) σ :=
  zw_gfN (v := .int (zi σ k j)) hd hl hk hkd hci hj (by rw [hs]; rfl) kk
theorem zw_gfrN {ci idx j k b : Nat} {host : String} (hd : decode cc pc = .ok (.getfield idx, 3)) (hl : Cond.fieldLinkNest own idx (zCn ci) (zFT ci j).2.1 (zFT ci j).2.2.1 host ∈ zNW) (hk : k < n) (hkd : (zkd k).1 = ci) (hci : ci < 8) (hj : j < znf ci) (hs : zsty ci j = 1) (hb : zr σ k j = some b) (kk : zG p l e R s m args below meth c Q H0 A base D cA nL ex cc own n cu su (pc + 3) ls (.ref b :: r) σ) : zG p l e R s m args below meth c Q H0 A base D cA nL ex cc own n cu su pc ls (.ref k :: r) σ :=
  zw_gfN (v := .ref b) hd hl hk hkd hci hj (by rw [hs]; unfold zv; rw [hb]; rfl) kk
theorem zw_pf {ci idx j k : Nat} {v : Value} {σ' : zS} (hd : decode cc pc = .ok (.putfield idx, 3)) (hl : Cond.fieldLink own idx (zCn ci) (zFT ci j).2.1 (zFT ci j).2.2.1 ∈ zWD) (hk : k < n) (hkd : (zkd k).1 = ci) (hci : ci < 8) (hj : j < znf ci) (hfin : (zFT ci j).2.2.2 = false) (hn : narrow (zty ci j) (ztr base v) = ztr base v) (hfit : fits (zty ci j) (ztr base v) = true) (hoff : ∀ a, a ≠ k → ∀ b, zi σ' a b = zi σ a b ∧ zr σ' a b = zr σ a b ∧ zl σ' a b = zl σ a b) (hon : ∀ b, b < znf ci → zv base σ' k b (zsty ci b) = if b = j then ztr base v else zv base σ k b (zsty ci b)) (kk : zG p l e R s m args below meth c Q H0 (zA base) base D cA nL ex cc own n cu su (pc + 3) ls r σ') : zG p l e R s m args below meth c Q H0 (zA base) base D cA nL ex cc own n cu su pc ls (v :: .ref k :: r) σ := by
  intro F H locs la hW hS hL
  have h1 := hW.1 k hk
  unfold zAt at h1
  rw [hkd, if_pos (by omega)] at h1
  obtain ⟨cell, q1, q2, q3, q4⟩ := h1
  have K := F.2.2.2.2.2.2.1
  have hts := F.2.2.2.2.1
  have hap := va_apart (own := own) hts (zin ci hci) (zty ci) (zpar ci hci) (znm ci hci) K (zcl_at ci hci)
  obtain ⟨hSl, hfc, kC, hkC, hkind⟩ := K.1 ci _ (zcl_at ci hci)
  obtain ⟨cf, kf, fi, f, hi, hsl⟩ := hSl j hj
  have hlay := hts _ (zin ci hci _ (u_in_lay hj))
  unfold u_lay at hlay
  rw [if_neg (by rw [hfin]; decide)] at hlay
  have hst := (u_facts hfc hkC (u_lays hts (zin ci hci) hj) hi).1
  have h6 := u_store hfc hkC hkind hlay hi (zpar ci hci j hj) hn hfit
  rw [zto ci hci j hj] at hi
  refine W.putK F.1 F.2.1 (f := f) ⟨F.2.2.2.1, F.2.2.2.2.1 _ hl, ⟨_, _, _, hi⟩, hst⟩ (by rw [q2]; exact h6) q1 q3 (by rw [hsl]; exact k2_hasslot (q4 j hj)) rfl rfl hd fun H' e1 e2 e3 => ?_
  rw [hsl] at e1 ⊢
  refine kk F H' _ la (hW.set hoff e2 e3 ?_) (hS.put e2 e3 (hW.in hk)) hL
  unfold zAt
  rw [hkd, if_pos (by omega)]
  refine t_OB.to (V := updV (fun j => zv base σ k j (zsty ci j)) j (ztr base v)) ⟨_, e1, q2, q3, t_set q4 hap hj (ztr base v)⟩ (fun b hb => ?_)
  rw [hon b hb]
  rfl
theorem zw_pfi {ci idx j k : Nat} {x : Int32} (hd : decode cc pc = .ok (.putfield idx, 3)) (hl : Cond.fieldLink own idx (zCn ci) (zFT ci j).2.1 (zFT ci j).2.2.1 ∈ zWD) (hk : k < n) (hkd : (zkd k).1 = ci) (hci : ci < 8) (hj : j < znf ci) (hs : zsty ci j = 0) (hfin : (zFT ci j).2.2.2 = false) (hn : narrow (zty ci j) (.int x) = .int x) (hfit : fits (zty ci j) (.int x) = true) (kk : zG p l e R s m args below meth c Q H0 (zA base) base D cA nL ex cc own n cu su (pc + 3) ls r (zI σ k j x)) : zG p l e R s m args below meth c Q H0 (zA base) base D cA nL ex cc own n cu su pc ls (.int x :: .ref k :: r) σ :=
  zw_pf (v := .int x) (σ' := zI σ k j x) hd hl hk hkd hci hj hfin hn hfit zI_off (fun b _ => by
    by_cases e : b = j
    · subst e
      rw [if_pos rfl, hs]; unfold zv; simp [zi_I, ztr]
    · rw [if_neg e]
      unfold zv; simp [zi_I, zr_I, zl_I, e]) kk
theorem zw_pfr {ci idx j k b : Nat} (hd : decode cc pc = .ok (.putfield idx, 3)) (hl : Cond.fieldLink own idx (zCn ci) (zFT ci j).2.1 (zFT ci j).2.2.1 ∈ zWD) (hk : k < n) (hkd : (zkd k).1 = ci) (hci : ci < 8) (hj : j < znf ci) (hs : zsty ci j = 1) (hfin : (zFT ci j).2.2.2 = false) (hn : ∀ q : Nat, narrow (zty ci j) (.ref q) = .ref q) (hfit : ∀ q : Nat, fits (zty ci j) (.ref q) = true) (kk : zG p l e R s m args below meth c Q H0 (zA base) base D cA nL ex cc own n cu su (pc + 3) ls r (zR σ k j (some b))) : zG p l e R s m args below meth c Q H0 (zA base) base D cA nL ex cc own n cu su pc ls (.ref b :: .ref k :: r) σ :=
  zw_pf (v := .ref b) (σ' := zR σ k j (some b)) hd hl hk hkd hci hj hfin (hn _) (hfit _) zR_off (fun a _ => by
    by_cases e : a = j
    · subst e
      rw [if_pos rfl, hs]; unfold zv; simp [zr_R, ztr, va_rf]
    · rw [if_neg e]
      unfold zv; simp [zi_R, zr_R, zl_R, e]) kk
theorem zw_pfN {ci idx j k : Nat} {host : String} {v : Value} {σ' : zS} (hd : decode cc pc = .ok (.putfield idx, 3)) (hl : Cond.fieldLinkNest own idx (zCn ci) (zFT ci j).2.1 (zFT ci j).2.2.1 host ∈ zNW) (hk : k < n) (hkd : (zkd k).1 = ci) (hci : ci < 8) (hj : j < znf ci) (hfin : (zFT ci j).2.2.2 = false) (hn : narrow (zty ci j) (ztr base v) = ztr base v) (hfit : fits (zty ci j) (ztr base v) = true) (hoff : ∀ a, a ≠ k → ∀ b, zi σ' a b = zi σ a b ∧ zr σ' a b = zr σ a b ∧ zl σ' a b = zl σ a b) (hon : ∀ b, b < znf ci → zv base σ' k b (zsty ci b) = if b = j then ztr base v else zv base σ k b (zsty ci b)) (kk : zG p l e R s m args below meth c Q H0 (zA base) base D cA nL ex cc own n cu su (pc + 3) ls r σ') : zG p l e R s m args below meth c Q H0 (zA base) base D cA nL ex cc own n cu su pc ls (v :: .ref k :: r) σ := by
  intro F H locs la hW hS hL
  have h1 := hW.1 k hk
  unfold zAt at h1
  rw [hkd, if_pos (by omega)] at h1
  obtain ⟨cell, q1, q2, q3, q4⟩ := h1
  have K := F.2.2.2.2.2.2.1
  have hts := F.2.2.2.2.1
  have hap := va_apart (own := own) hts (zin ci hci) (zty ci) (zpar ci hci) (znm ci hci) K (zcl_at ci hci)
  obtain ⟨hSl, hfc, kC, hkC, hkind⟩ := K.1 ci _ (zcl_at ci hci)
  obtain ⟨cf, kf, fi, f, hi, hsl⟩ := hSl j hj
  have hlay := hts _ (zin ci hci _ (u_in_lay hj))
  unfold u_lay at hlay
  rw [if_neg (by rw [hfin]; decide)] at hlay
  have hst := (u_facts hfc hkC (u_lays hts (zin ci hci) hj) hi).1
  have h6 := u_store hfc hkC hkind hlay hi (zpar ci hci j hj) hn hfit
  rw [zto ci hci j hj] at hi
  refine va_WputK F.1 F.2.1 (f := f) F.2.2.2.1 (va_Nw.use rfl (F.2.2.2.2.2.1 _ hl)) hi hst (by rw [q2]; exact h6) q1 q3 (by rw [hsl]; exact k2_hasslot (q4 j hj)) rfl rfl hd fun H' e1 e2 e3 => ?_
  rw [hsl] at e1 ⊢
  refine kk F H' _ la (hW.set hoff e2 e3 ?_) (hS.put e2 e3 (hW.in hk)) hL
  unfold zAt
  rw [hkd, if_pos (by omega)]
  refine t_OB.to (V := updV (fun j => zv base σ k j (zsty ci j)) j (ztr base v)) ⟨_, e1, q2, q3, t_set q4 hap hj (ztr base v)⟩ (fun b hb => ?_)
  rw [hon b hb]
  rfl
theorem zw_pfiN {ci idx j k : Nat} {host : String} {x : Int32} (hd : decode cc pc = .ok (.putfield idx, 3)) (hl : Cond.fieldLinkNest own idx (zCn ci) (zFT ci j).2.1 (zFT ci j).2.2.1 host ∈ zNW) (hk : k < n) (hkd : (zkd k).1 = ci) (hci : ci < 8) (hj : j < znf ci) (hs : zsty ci j = 0) (hfin : (zFT ci j).2.2.2 = false) (hn : narrow (zty ci j) (.int x) = .int x) (hfit : fits (zty ci j) (.int x) = true) (kk : zG p l e R s m args below meth c Q H0 (zA base) base D cA nL ex cc own n cu su (pc + 3) ls r (zI σ k j x)) : zG p l e R s m args below meth c Q H0 (zA base) base D cA nL ex cc own n cu su pc ls (.int x :: .ref k :: r) σ :=
  zw_pfN (v := .int x) (σ' := zI σ k j x) hd hl hk hkd hci hj hfin hn hfit zI_off (fun b _ => by
    by_cases e : b = j
    · subst e
      rw [if_pos rfl, hs]; unfold zv; simp [zi_I, ztr]
    · rw [if_neg e]
      unfold zv; simp [zi_I, zr_I, zl_I, e]) kk
theorem zw_pfrN {ci idx j k b : Nat} {host : String} (hd : decode cc pc = .ok (.putfield idx, 3)) (hl : Cond.fieldLinkNest own idx (zCn ci) (zFT ci j).2.1 (zFT ci j).2.2.1 host ∈ zNW) (hk : k < n) (hkd : (zkd k).1 = ci) (hci : ci < 8) (hj : j < znf ci) (hs : zsty ci j = 1) (hfin : (zFT ci j).2.2.2 = false) (hn : ∀ q : Nat, narrow (zty ci j) (.ref q) = .ref q) (hfit : ∀ q : Nat, fits (zty ci j) (.ref q) = true) (kk : zG p l e R s m args below meth c Q H0 (zA base) base D cA nL ex cc own n cu su (pc + 3) ls r (zR σ k j (some b))) : zG p l e R s m args below meth c Q H0 (zA base) base D cA nL ex cc own n cu su pc ls (.ref b :: .ref k :: r) σ :=
  zw_pfN (v := .ref b) (σ' := zR σ k j (some b)) hd hl hk hkd hci hj hfin (hn _) (hfit _) zR_off (fun a _ => by
    by_cases e : a = j
    · subst e
      rw [if_pos rfl, hs]; unfold zv; simp [zr_R, ztr, va_rf]
    · rw [if_neg e]
      unfold zv; simp [zi_R, zr_R, zl_R, e]) kk
theorem zw_pfF {ci idx j k : Nat} {v : Value} {σ' : zS} (hd : decode cc pc = .ok (.putfield idx, 3)) (hl : Cond.fieldLink own idx (zCn ci) (zFT ci j).2.1 (zFT ci j).2.2.1 ∈ zWD) (hin : meth.name = "<init>") (hown2 : zCn ci = own) (hk : k < n) (hkd : (zkd k).1 = ci) (hci : ci < 8) (hj : j < znf ci) (hfin : (zFT ci j).2.2.2 = true) (hn : narrow (zty ci j) (ztr base v) = ztr base v) (hfit : fits (zty ci j) (ztr base v) = true) (hoff : ∀ a, a ≠ k → ∀ b, zi σ' a b = zi σ a b ∧ zr σ' a b = zr σ a b ∧ zl σ' a b = zl σ a b) (hon : ∀ b, b < znf ci → zv base σ' k b (zsty ci b) = if b = j then ztr base v else zv base σ k b (zsty ci b)) (kk : zG p l e R s m args below meth c Q H0 (zA base) base D cA nL ex cc own n cu su (pc + 3) ls r σ') : zG p l e R s m args below meth c Q H0 (zA base) base D cA nL ex cc own n cu su pc ls (v :: .ref k :: r) σ := by
  intro F H locs la hW hS hL
  have h1 := hW.1 k hk
  unfold zAt at h1
  rw [hkd, if_pos (by omega)] at h1
  obtain ⟨cell, q1, q2, q3, q4⟩ := h1
  have K := F.2.2.2.2.2.2.1
  have hts := F.2.2.2.2.1
  have hap := va_apart (own := own) hts (zin ci hci) (zty ci) (zpar ci hci) (znm ci hci) K (zcl_at ci hci)
  obtain ⟨hSl, hfc, kC, hkC, hkind⟩ := K.1 ci _ (zcl_at ci hci)
  obtain ⟨cf, kf, fi, f, hi, hsl⟩ := hSl j hj
  have hlay := hts _ (zin ci hci _ (u_in_lay hj))
  unfold u_lay at hlay
  rw [if_pos hfin] at hlay
  have hst := (u_facts hfc hkC (u_lays hts (zin ci hci) hj) hi).1
  have hcf : m.cls = cf := by
    obtain ⟨_, _, c', _, _, _, -, -, hf', -, -, -, hown3, -⟩ := Cond.laysFinal_spec hlay
    have e1 : c' = cf := by have := hi.symm.trans hf'; simp at this; exact this.1.symm
    rw [zto ci hci j hj, hown2] at hown3
    rw [← e1]; exact Option.some.inj (F.2.2.2.1.symm.trans hown3)
  have h6 := u_fits hfc hkC hkind (Or.inr hlay) hi (zpar ci hci j hj) hn hfit
  rw [zto ci hci j hj] at hi
  refine W.putFinK F.1 F.2.1 F.2.2.2.1 (F.2.2.2.2.1 _ hl) hi hst hcf hin (by rw [q2]; exact h6) q1 q3 (by rw [hsl]; exact k2_hasslot (q4 j hj)) rfl rfl hd fun H' e1 e2 e3 => ?_
  rw [hsl] at e1 ⊢
  refine kk F H' _ la (hW.set hoff e2 e3 ?_) (hS.put e2 e3 (hW.in hk)) hL
  unfold zAt
  rw [hkd, if_pos (by omega)]
  refine t_OB.to (V := updV (fun j => zv base σ k j (zsty ci j)) j (ztr base v)) ⟨_, e1, q2, q3, t_set q4 hap hj (ztr base v)⟩ (fun b hb => ?_)
  rw [hon b hb]
  rfl
theorem zw_pfiF {ci idx j k : Nat} {x : Int32} (hd : decode cc pc = .ok (.putfield idx, 3)) (hl : Cond.fieldLink own idx (zCn ci) (zFT ci j).2.1 (zFT ci j).2.2.1 ∈ zWD) (hin : meth.name = "<init>") (hown2 : zCn ci = own) (hk : k < n) (hkd : (zkd k).1 = ci) (hci : ci < 8) (hj : j < znf ci) (hs : zsty ci j = 0) (hfin : (zFT ci j).2.2.2 = true) (hn : narrow (zty ci j) (.int x) = .int x) (hfit : fits (zty ci j) (.int x) = true) (kk : zG p l e R s m args below meth c Q H0 (zA base) base D cA nL ex cc own n cu su (pc + 3) ls r (zI σ k j x)) : zG p l e R s m args below meth c Q H0 (zA base) base D cA nL ex cc own n cu su pc ls (.int x :: .ref k :: r) σ :=
  zw_pfF (v := .int x) (σ' := zI σ k j x) hd hl hin hown2 hk hkd hci hj hfin hn hfit zI_off (fun b _ => by
    by_cases e : b = j
    · subst e
      rw [if_pos rfl, hs]; unfold zv; simp [zi_I, ztr]
    · rw [if_neg e]
      unfold zv; simp [zi_I, zr_I, zl_I, e]) kk
theorem zw_pfrF {ci idx j k b : Nat} (hd : decode cc pc = .ok (.putfield idx, 3)) (hl : Cond.fieldLink own idx (zCn ci) (zFT ci j).2.1 (zFT ci j).2.2.1 ∈ zWD) (hin : meth.name = "<init>") (hown2 : zCn ci = own) (hk : k < n) (hkd : (zkd k).1 = ci) (hci : ci < 8) (hj : j < znf ci) (hs : zsty ci j = 1) (hfin : (zFT ci j).2.2.2 = true) (hn : ∀ q : Nat, narrow (zty ci j) (.ref q) = .ref q) (hfit : ∀ q : Nat, fits (zty ci j) (.ref q) = true) (kk : zG p l e R s m args below meth c Q H0 (zA base) base D cA nL ex cc own n cu su (pc + 3) ls r (zR σ k j (some b))) : zG p l e R s m args below meth c Q H0 (zA base) base D cA nL ex cc own n cu su pc ls (.ref b :: .ref k :: r) σ :=
  zw_pfF (v := .ref b) (σ' := zR σ k j (some b)) hd hl hin hown2 hk hkd hci hj hfin (hn _) (hfit _) zR_off (fun a _ => by
    by_cases e : a = j
    · subst e
      rw [if_pos rfl, hs]; unfold zv; simp [zr_R, ztr, va_rf]
    · rw [if_neg e]
      unfold zv; simp [zi_R, zr_R, zl_R, e]) kk
theorem zw_iald {k len : Nat} {i : Int32} (hd : decode cc pc = .ok (.iaload, 1)) (hk : k < n) (hkd : zkd k = (10, len)) (hin : vp_in i len) (kk : zG p l e R s m args below meth c Q H0 A base D cA nL ex cc own n cu su (pc + 1) ls (.int (zi σ k i.toNatClampNeg) :: r) σ) : zG p l e R s m args below meth c Q H0 A base D cA nL ex cc own n cu su pc ls (.int i :: .ref k :: r) σ := by
  intro F H locs la hW hS hL
  have h1 := hW.1 k hk
  unfold zAt at h1
  rw [hkd, if_neg (show ¬ 10 < 10 by decide)] at h1
  have hlt : i.toNatClampNeg < len := Nat.not_le.mp fun q => hin (Or.inr q)
  have ht := (F.2.2.2.2.2.2.1.2 0 _ rfl).1
  exact W.iald (v := .int (zi σ k i.toNatClampNeg)) F.1 F.2.1 h1 (ht len _) (fun q => by cases q) (by rw [arrV_size]; exact hin) (by rw [arrV_read _ _ hlt]; rfl) rfl rfl hd (kk F H locs la hW hS hL)
theorem zw_zald {k len : Nat} {i : Int32} (hd : decode cc pc = .ok (.baload, 1)) (hk : k < n) (hkd : zkd k = (11, len)) (hin : vp_in i len) (kk : zG p l e R s m args below meth c Q H0 A base D cA nL ex cc own n cu su (pc + 1) ls (.int (zi σ k i.toNatClampNeg) :: r) σ) : zG p l e R s m args below meth c Q H0 A base D cA nL ex cc own n cu su pc ls (.int i :: .ref k :: r) σ := by
  intro F H locs la hW hS hL
  have h1 := hW.1 k hk
  unfold zAt at h1
  rw [hkd, if_neg (show ¬ 11 < 10 by decide)] at h1
  have hlt : i.toNatClampNeg < len := Nat.not_le.mp fun q => hin (Or.inr q)
  have ht := (F.2.2.2.2.2.2.1.2 1 _ rfl).1
  exact W.zald (v := .int (zi σ k i.toNatClampNeg)) F.1 F.2.1 h1 (ht len _) (fun q => by cases q) (by rw [arrV_size]; exact hin) (by rw [arrV_read _ _ hlt]; rfl) rfl rfl hd (kk F H locs la hW hS hL)
theorem zw_bald {k len : Nat} {i : Int32} (hd : decode cc pc = .ok (.baload, 1)) (hk : k < n) (hkd : zkd k = (12, len)) (hin : vp_in i len) (kk : zG p l e R s m args below meth c Q H0 A base D cA nL ex cc own n cu su (pc + 1) ls (.int (zi σ k i.toNatClampNeg) :: r) σ) : zG p l e R s m args below meth c Q H0 A base D cA nL ex cc own n cu su pc ls (.int i :: .ref k :: r) σ := by
  intro F H locs la hW hS hL
  have h1 := hW.1 k hk
  unfold zAt at h1
  rw [hkd, if_neg (show ¬ 12 < 10 by decide)] at h1
  have hlt : i.toNatClampNeg < len := Nat.not_le.mp fun q => hin (Or.inr q)
  have ht := (F.2.2.2.2.2.2.1.2 2 _ rfl).1
  exact W.bald (v := .int (zi σ k i.toNatClampNeg)) F.1 F.2.1 h1 (ht len _) (fun q => by cases q) (by rw [arrV_size]; exact hin) (by rw [arrV_read _ _ hlt]; rfl) rfl rfl hd (kk F H locs la hW hS hL)
theorem zw_lald {k len : Nat} {i : Int32} (hd : decode cc pc = .ok (.laload, 1)) (hk : k < n) (hkd : zkd k = (14, len)) (hin : vp_in i len) (kk : zG p l e R s m args below meth c Q H0 A base D cA nL ex cc own n cu su (pc + 1) ls (.long (zl σ k i.toNatClampNeg) :: r) σ) : zG p l e R s m args below meth c Q H0 A base D cA nL ex cc own n cu su pc ls (.int i :: .ref k :: r) σ := by
  intro F H locs la hW hS hL
  have h1 := hW.1 k hk
  unfold zAt at h1
  rw [hkd, if_neg (show ¬ 14 < 10 by decide)] at h1
  have hlt : i.toNatClampNeg < len := Nat.not_le.mp fun q => hin (Or.inr q)
  have ht := (F.2.2.2.2.2.2.1.2 4 _ rfl).1
  exact W.lald (v := .long (zl σ k i.toNatClampNeg)) F.1 F.2.1 h1 (ht len _) (fun q => by cases q) (by rw [arrV_size]; exact hin) (by rw [arrV_read _ _ hlt]; rfl) rfl rfl hd (kk F H locs la hW hS hL)
theorem zw_aald {k len b : Nat} {i : Int32} (hd : decode cc pc = .ok (.aaload, 1)) (hk : k < n) (hkd : zkd k = (13, len)) (hin : vp_in i len) (hb : zr σ k i.toNatClampNeg = some b) (kk : zG p l e R s m args below meth c Q H0 A base D cA nL ex cc own n cu su (pc + 1) ls (.ref b :: r) σ) : zG p l e R s m args below meth c Q H0 A base D cA nL ex cc own n cu su pc ls (.int i :: .ref k :: r) σ := by
  intro F H locs la hW hS hL
  have h1 := hW.1 k hk
  unfold zAt at h1
  rw [hkd, if_neg (show ¬ 13 < 10 by decide)] at h1
  have hlt : i.toNatClampNeg < len := Nat.not_le.mp fun q => hin (Or.inr q)
  have ht := (F.2.2.2.2.2.2.1.2 3 _ rfl).1
  refine W.aald (v := .ref (base + b)) F.1 F.2.1 h1 (ht len _) rfl (fun q => by cases q) (by rw [arrV_size]; exact hin) ?_ rfl rfl hd (kk F H locs la hW hS hL)
  rw [arrV_read _ _ hlt]
  show some (zv base σ k i.toNatClampNeg 1) = _
  unfold zv
  rw [hb]; rfl
theorem zw_iast {k len : Nat} {i : Int32} {x : Int32} (hd : decode cc pc = .ok (.iastore, 1)) (hk : k < n) (hkd : zkd k = (10, len)) (hin : vp_in i len) (kk : zG p l e R s m args below meth c Q H0 (zA base) base D cA nL ex cc own n cu su (pc + 1) ls r (zI σ k i.toNatClampNeg x)) : zG p l e R s m args below meth c Q H0 (zA base) base D cA nL ex cc own n cu su pc ls (.int x :: .int i :: .ref k :: r) σ := by
  intro F H locs la hW hS hL
  have h1 := hW.1 k hk
  unfold zAt at h1
  rw [hkd, if_neg (show ¬ 10 < 10 by decide)] at h1
  have ht := (F.2.2.2.2.2.2.1.2 0 _ rfl).1
  refine W.iast F.1 F.2.1 h1 (ht len _) (fun q => by cases q) (by rw [arrV_size]; exact hin) rfl rfl hd fun H' e1 e2 e3 => ?_
  refine kk F H' _ la (hW.set zI_off e2 e3 ?_) (hS.put e2 e3 (hW.in hk)) hL
  unfold zAt
  rw [hkd, if_neg (show ¬ 10 < 10 by decide), e1, arrV_store]
  congr 2
  funext q
  by_cases hq : q = i.toNatClampNeg
  · subst hq
    show updV _ _ _ _ = zv base _ k _ 0
    unfold zv
    simp [updV, zi_I, zl_L, vp_nar]
    try rfl
  · show updV _ _ _ _ = zv base _ k _ 0
    unfold zv
    simp [updV, hq, zi_I, zr_I, zl_I, zi_L, zr_L, zl_L, show zsty 10 0 = 0 from rfl]
    try rfl
theorem zw_zast {k len : Nat} {i : Int32} {x : Int32} (hd : decode cc pc = .ok (.bastore, 1)) (hk : k < n) (hkd : zkd k = (11, len)) (hin : vp_in i len) (kk : zG p l e R s m args below meth c Q H0 (zA base) base D cA nL ex cc own n cu su (pc + 1) ls r (zI σ k i.toNatClampNeg (vp_nar .boolean x))) : zG p l e R s m args below meth c Q H0 (zA base) base D cA nL ex cc own n cu su pc ls (.int x :: .int i :: .ref k :: r) σ := by
  intro F H locs la hW hS hL
  have h1 := hW.1 k hk
  unfold zAt at h1
  rw [hkd, if_neg (show ¬ 11 < 10 by decide)] at h1
  have ht := (F.2.2.2.2.2.2.1.2 1 _ rfl).1
  refine W.zast F.1 F.2.1 h1 (ht len _) (fun q => by cases q) (by rw [arrV_size]; exact hin) rfl rfl hd fun H' e1 e2 e3 => ?_
  refine kk F H' _ la (hW.set zI_off e2 e3 ?_) (hS.put e2 e3 (hW.in hk)) hL
  unfold zAt
  rw [hkd, if_neg (show ¬ 11 < 10 by decide), e1, arrV_store]
  congr 2
  funext q
  by_cases hq : q = i.toNatClampNeg
  · subst hq
    show updV _ _ _ _ = zv base _ k _ 0
    unfold zv
    simp [updV, zi_I, zl_L, vp_nar]
    try rfl
  · show updV _ _ _ _ = zv base _ k _ 0
    unfold zv
    simp [updV, hq, zi_I, zr_I, zl_I, zi_L, zr_L, zl_L, show zsty 11 0 = 0 from rfl]
    try rfl
theorem zw_bast {k len : Nat} {i : Int32} {x : Int32} (hd : decode cc pc = .ok (.bastore, 1)) (hk : k < n) (hkd : zkd k = (12, len)) (hin : vp_in i len) (kk : zG p l e R s m args below meth c Q H0 (zA base) base D cA nL ex cc own n cu su (pc + 1) ls r (zI σ k i.toNatClampNeg (vp_nar .byte x))) : zG p l e R s m args below meth c Q H0 (zA base) base D cA nL ex cc own n cu su pc ls (.int x :: .int i :: .ref k :: r) σ := by
  intro F H locs la hW hS hL
  have h1 := hW.1 k hk
  unfold zAt at h1
  rw [hkd, if_neg (show ¬ 12 < 10 by decide)] at h1
  have ht := (F.2.2.2.2.2.2.1.2 2 _ rfl).1
  refine W.bast F.1 F.2.1 h1 (ht len _) (fun q => by cases q) (by rw [arrV_size]; exact hin) rfl rfl hd fun H' e1 e2 e3 => ?_
  refine kk F H' _ la (hW.set zI_off e2 e3 ?_) (hS.put e2 e3 (hW.in hk)) hL
  unfold zAt
  rw [hkd, if_neg (show ¬ 12 < 10 by decide), e1, arrV_store]
  congr 2
  funext q
  by_cases hq : q = i.toNatClampNeg
  · subst hq
    show updV _ _ _ _ = zv base _ k _ 0
    unfold zv
    simp [updV, zi_I, zl_L, vp_nar]
    try rfl
  · show updV _ _ _ _ = zv base _ k _ 0
    unfold zv
    simp [updV, hq, zi_I, zr_I, zl_I, zi_L, zr_L, zl_L, show zsty 12 0 = 0 from rfl]
    try rfl
theorem zw_last {k len : Nat} {i : Int32} {x : Int64} (hd : decode cc pc = .ok (.lastore, 1)) (hk : k < n) (hkd : zkd k = (14, len)) (hin : vp_in i len) (kk : zG p l e R s m args below meth c Q H0 (zA base) base D cA nL ex cc own n cu su (pc + 1) ls r (zL σ k i.toNatClampNeg x)) : zG p l e R s m args below meth c Q H0 (zA base) base D cA nL ex cc own n cu su pc ls (.long x :: .int i :: .ref k :: r) σ := by
  intro F H locs la hW hS hL
  have h1 := hW.1 k hk
  unfold zAt at h1
  rw [hkd, if_neg (show ¬ 14 < 10 by decide)] at h1
  have ht := (F.2.2.2.2.2.2.1.2 4 _ rfl).1
  refine W.last F.1 F.2.1 h1 (ht len _) (fun q => by cases q) (by rw [arrV_size]; exact hin) rfl rfl hd fun H' e1 e2 e3 => ?_
  refine kk F H' _ la (hW.set zL_off e2 e3 ?_) (hS.put e2 e3 (hW.in hk)) hL
  unfold zAt
  rw [hkd, if_neg (show ¬ 14 < 10 by decide), e1, arrV_store]
  congr 2
  funext q
  by_cases hq : q = i.toNatClampNeg
  · subst hq
    show updV _ _ _ _ = zv base _ k _ 2
    unfold zv
    simp [updV, zi_I, zl_L, vp_nar]
    try rfl
  · show updV _ _ _ _ = zv base _ k _ 2
    unfold zv
    simp [updV, hq, zi_I, zr_I, zl_I, zi_L, zr_L, zl_L, show zsty 14 0 = 2 from rfl]
    try rfl
theorem zw_aast {k len b : Nat} {i : Int32} (hd : decode cc pc = .ok (.aastore, 1)) (hk : k < n) (hkd : zkd k = (13, len)) (hin : vp_in i len) (hb : b < n) (hkb : (zkd b).1 = 4) (kk : zG p l e R s m args below meth c Q H0 (zA base) base D cA nL ex cc own n cu su (pc + 1) ls r (zR σ k i.toNatClampNeg (some b))) : zG p l e R s m args below meth c Q H0 (zA base) base D cA nL ex cc own n cu su pc ls (.ref b :: .int i :: .ref k :: r) σ := by
  intro F H locs la hW hS hL
  have h1 := hW.1 k hk
  have h2 := hW.1 b hb
  unfold zAt at h1 h2
  rw [hkd, if_neg (show ¬ 13 < 10 by decide)] at h1
  rw [hkb, if_pos (show 4 < 10 by decide)] at h2
  have hlt : i.toNatClampNeg < len := Nat.not_le.mp fun q => hin (Or.inr q)
  have h0 : ¬ i < 0 := fun q => hin (Or.inl q)
  obtain ⟨cellV, g1, g2, g3, -⟩ := h2
  have K := F.2.2.2.2.2.2.1
  have hcls := (K.1 4 _ (zcl_at 4 (by decide))).2
  obtain ⟨kA, comp, k1, k2, k3, -⟩ := (K.2 3 _ rfl).2
  have hcomp : comp = D.1 4 := Option.some.inj (k3.symm.trans hcls.1)
  subst hcomp
  obtain ⟨kC, hkC, -⟩ := hcls.2
  refine W.aast F.1 F.2.1 h1 (fun q h => by cases h) (fun h => by cases h) k1 k2 rfl hkC ⟨h0, by rw [arrV_size]; exact hlt⟩ g1 (fun q h => by rw [g3] at h; cases h) (by rw [g2]; exact hkC) (by rw [g2]; exact va_assign hcls) rfl rfl hd fun H' e1 e2 e3 => ?_
  refine kk F H' _ la (hW.set zR_off e2 e3 ?_) (hS.put e2 e3 (hW.in hk)) hL
  unfold zAt
  rw [hkd, if_neg (show ¬ 13 < 10 by decide), e1, arrV_store]
  congr 2
  funext q
  by_cases hq : q = i.toNatClampNeg
  · subst hq
    show updV _ _ _ _ = zv base _ k _ 1
    unfold zv
    simp [updV, zr_R, va_rf]
  · show updV _ _ _ _ = zv base _ k _ 1
    unfold zv
    simp [updV, hq, zr_R, show zsty 13 0 = 1 from rfl]
    try rfl
theorem zw_alen {k len tag t0 : Nat} {ty : FieldType} {v : Int32} (hd : decode cc pc = .ok (.arraylength, 1)) (hk : k < n) (hkd : zkd k = (tag, len)) (htag : ¬ tag < 10) (ht0 : (ztys cA)[t0]? = some (cA tag, ty)) (hv : Int32.ofNat len = v) (kk : zG p l e R s m args below meth c Q H0 A base D cA nL ex cc own n cu su (pc + 1) ls (.int v :: r) σ) : zG p l e R s m args below meth c Q H0 A base D cA nL ex cc own n cu su pc ls (.ref k :: r) σ := by
  intro F H locs la hW hS hL
  have h1 := hW.1 k hk
  unfold zAt at h1
  rw [hkd, if_neg htag] at h1
  have ht := (F.2.2.2.2.2.2.1.2 t0 _ ht0).1
  exact W.alen F.1 F.2.1 h1 (ht len _) (by rw [arrV_size]; exact hv) rfl rfl hd (kk F H locs la hW hS hL)
theorem zW.grow {σ : zS} {H H' : Heap} (hW : zW D cA base n true σ H) (hn2 : n < 201) (hz : H'.size = H.size + 1) (ho : ∀ q : Nat, q < H.size → H'[q]? = H[q]?) (hn : zAt D cA base (zN σ n) n H') : zW D cA base (n + 1) true (zN σ n) H' := by
  refine ⟨fun k hk => ?_, fun _ => by rw [hz, hW.2.1 rfl]; omega, by omega⟩
  by_cases e : k = n
  · subst e; exact hn
  · have h := hW.1 k (by omega)
    exact h.kept (ho _ h.lt) (zN_off k e)
theorem zS_push {H H' : Heap} {locs : List Loc} (hS : va_S A H0 H locs) (hz : H'.size = H.size + 1) (ho : ∀ q : Nat, q < H.size → H'[q]? = H[q]?) : va_S A H0 H' locs :=
  ⟨Nat.le_trans hS.1 (by omega), fun x h1 h2 => (ho x (Nat.lt_of_lt_of_le h1 hS.1)).trans (hS.2.1 x h1 h2), hS.2.2⟩
theorem zw_new {ci idx : Nat} (hd : decode cc pc = .ok (.new idx, 3)) (hl : Cond.classLink own idx (zCn ci) ∈ zWD) (hi : Cond.instantiable (zCn ci) (znf ci) ∈ zWD) (hini : Cond.initialized (zCn ci) ∈ zWD) (hci : ci < 8) (hkd : zkd n = (ci, 0)) (hex : ex = true) (hc : cu + 1 ≤ R.cells) (hs : su + znf ci ≤ R.slots) (kk : zG p l e R s m args below meth c Q H0 A base D cA nL ex cc own (n + 1) (cu + 1) (su + znf ci) (pc + 3) ls (.ref n :: r) (zN σ n)) : zG p l e R s m args below meth c Q H0 A base D cA nL ex cc own n cu su pc ls r σ := by
  intro F H locs la hW hS hL
  subst hex
  have K := F.2.2.2.2.2.2.1
  have hts := F.2.2.2.2.1
  have hKn := K.1 ci _ (zcl_at ci hci)
  have hz := hW.2.1 rfl
  refine W.newcK F.1 F.2.1 F.2.2.2.1 (hts _ hl) (hts _ hi) (hts _ hini) rfl hd hc hs hKn.2.1 hz fun H' kC hkC e1 z1 o1 => ?_
  refine kk F H' locs la (hW.grow (zkd_lt (by rw [hkd]; show _ < 90; omega)) (by rw [z1, hz]) (fun q hq => o1 q (by rw [← hz]; exact hq)) ?_) (zS_push hS (by rw [z1, hz]) (fun q hq => o1 q (by rw [← hz]; exact hq))) hL
  unfold zAt
  rw [hkd, if_pos (show ci < 10 by omega)]
  refine (u_born (zty ci) hts (zin ci hci) hKn hkC e1 (zpar ci hci)).to fun j hj => ?_
  rw [zdef ci hci j hj]
  unfold zv
  simp only [zi_N, zr_N, zl_N, if_true]
  rcases zst2 ci hci j hj with h | h <;> rw [h] <;> rfl
theorem zw_newa {at0 : ArrayType} {tag len t0 : Nat} {ty : FieldType} {x : Int32} (hd : decode cc pc = .ok (.newarray at0, 2)) (hw : Cond.arrayClass (newarray.typeOf at0) ∈ zWD) (hty : newarray.typeOf at0 = ty) (ht0 : (ztys cA)[t0]? = some (cA tag, ty)) (htag : ¬ tag < 10) (htag2 : tag < 90) (hra : va_RA s (cA tag) ty → s.vm.findClass ("[" ++ ty.toString) = some (cA tag)) (hdf : ∀ j : Nat, defaultValue ty = zv base (zN σ n) n j (zsty tag 0)) (hkd : zkd n = (tag, len)) (hn0 : ¬ x < 0) (hn : x.toNatClampNeg = len) (hb : len * componentBytes ty ≤ 536870912) (hex : ex = true) (hc : cu + 1 ≤ R.cells) (hs : su + len ≤ R.slots) (kk : zG p l e R s m args below meth c Q H0 A base D cA nL ex cc own (n + 1) (cu + 1) (su + len) (pc + 2) ls (.ref n :: r) (zN σ n)) : zG p l e R s m args below meth c Q H0 A base D cA nL ex cc own n cu su pc ls (.int x :: r) σ := by
  intro F H locs la hW hS hL
  subst hex
  subst hty
  have K := F.2.2.2.2.2.2.1
  have hts := F.2.2.2.2.1
  have hz := hW.2.1 rfl
  refine va_newaK F.1 F.2.1 (hts _ hw) rfl hd rfl hn0 hn hb hc hs hz fun H' cA' e1 z1 o1 hAr hNm => ?_
  have hcA : cA' = cA tag := Option.some.inj (hNm.symm.trans (hra (K.2 t0 _ ht0).2))
  subst hcA
  refine kk F H' locs la (hW.grow (zkd_lt (by rw [hkd]; show _ < 90; omega)) (by rw [z1, hz]) (fun q hq => o1 q (by rw [← hz]; exact hq)) ?_) (zS_push hS (by rw [z1, hz]) (fun q hq => o1 q (by rw [← hz]; exact hq))) hL
  unfold zAt
  rw [hkd, if_neg htag, e1]
  congr 2
  funext j
  exact hdf j
theorem zw_newq {idx len : Nat} {x : Int32} (hd : decode cc pc = .ok (.anewarray idx, 3)) (hl : Cond.classLink own idx (zCn 4) ∈ zWD) (hov : Cond.arrayOver (.object (zCn 4)) ∈ zNW) (hkd : zkd n = (13, len)) (hn0 : ¬ x < 0) (hn : x.toNatClampNeg = len) (hb : len * 4 ≤ 536870912) (hex : ex = true) (hc : cu + 1 ≤ R.cells) (hs : su + len ≤ R.slots) (kk : zG p l e R s m args below meth c Q H0 A base D cA nL ex cc own (n + 1) (cu + 1) (su + len) (pc + 3) ls (.ref n :: r) (zN σ n)) : zG p l e R s m args below meth c Q H0 A base D cA nL ex cc own n cu su pc ls (.int x :: r) σ := by
  intro F H locs la hW hS hL
  subst hex
  subst hn
  have K := F.2.2.2.2.2.2.1
  have hts := F.2.2.2.2.1
  have hz := hW.2.1 rfl
  refine W.anew F.1 F.2.1 F.2.2.2.1 (hts _ hl) (va_AO.use (F.2.2.2.2.2.1 _ hov)) rfl hd rfl hn0 hb hc hs fun cA' kA comp f1 f2 f3 f4 => ?_
  have hcA : cA' = cA 13 := by
    obtain ⟨_, _, -, -, -, h⟩ := (K.2 3 _ rfl).2
    exact Option.some.inj (f1.symm.trans h)
  subst hcA
  generalize hH1 : H.push ({ cls := cA 13, slots := Array.replicate x.toNatClampNeg .null, vm := .none } : Cell) = H1
  have z1 : H1.size = H.size + 1 := by rw [← hH1, Array.size_push]
  have e1 : H1[H.size]? = some (arrV (cA 13) x.toNatClampNeg (fun _ => .null)) := by rw [← hH1, Array.getElem?_push_size, ← arrV_new]
  have o1 : ∀ q : Nat, q < H.size → H1[q]? = H[q]? := fun q hq => by rw [← hH1, Array.getElem?_push, if_neg (Nat.ne_of_lt hq)]
  rw [hz]
  refine kk F H1 locs la (hW.grow (zkd_lt (by rw [hkd]; show _ < 90; omega)) z1 o1 ?_) (zS_push hS z1 o1) hL
  unfold zAt
  rw [hkd, if_neg (show ¬ 13 < 10 by decide), ← hz, e1]
  congr 2
  funext j
  show _ = zv base _ n j 1
  unfold zv
  simp [zr_N, va_rf]
theorem zw_oinit {idx k : Nat} (hd : decode cc pc = .ok (.invokespecial idx, 3)) (hl : Cond.methodLink own idx objectInit ∈ zWD) (hi : Cond.instanceMethod objectInit ∈ zWD) (hc : Cond.code objectInit ⟨#[0xb1]⟩ 1 none ∈ zWD) (hf : 1 ≤ R.frames) (hr : (r.map fun v => v.category).sum + 12 ≤ R.locals) (kk : zG p l e R s m args below meth c Q H0 A base D cA nL ex cc own n cu su (pc + 3) ls r σ) : zG p l e R s m args below meth c Q H0 A base D cA nL ex cc own n cu su pc ls (.ref k :: r) σ := by
  intro F H locs la hW hS hL
  have hts := F.2.2.2.2.1
  refine W.objInit F.1 F.2.1 F.2.2.2.1 (hts _ hl) (hts _ hi) (hts _ hc) rfl (hL.1.trans F.2.2.1.symm) rfl hd hf ?_ (kk F H locs la hW hS hL)
  show 2 * 0 + _ + 12 ≤ _
  rw [ztr_sum]; omega
theorem zw_mmin {idx : Nat} {x y : Int64} (hd : decode cc pc = .ok (.invokestatic idx, 3)) (hl : Cond.methodLink own idx Lib.MathLoose.min_long.x ∈ zWD) (hst : Cond.static Lib.MathLoose.min_long.x ∈ zWD) (hi : Cond.initialized "java/lang/Math" ∈ zWD) (hc : Cond.code Lib.MathLoose.min_long.x Lib.MathLoose.min_long.code 4 (some .long) ∈ zWD) (hf : 1 ≤ R.frames) (hr : (r.map fun v => v.category).sum + 15 ≤ R.locals) (hcu : cu ≤ R.cells) (hsu : su ≤ R.slots) (kk : zG p l e R s m args below meth c Q H0 A base D cA nL ex cc own n cu su (pc + 3) ls (.long (if y < x then y else x) :: r) σ) : zG p l e R s m args below meth c Q H0 A base D cA nL ex cc own n cu su pc ls (.long y :: .long x :: r) σ := by
  intro F H locs la hW hS hL
  have hts := F.2.2.2.2.1
  exact va_mmin_long F.1 F.2.1 (F.2.2.1.trans hL.1.symm) F.2.2.2.1 (hts _ hl) (hts _ hst) (hts _ hi) (hts _ hc) hf (by rw [ztr_sum]; exact hr) hcu hsu hd (kk F H locs la hW hS hL)
theorem zw_mabs {idx : Nat} {x : Int64} (hd : decode cc pc = .ok (.invokestatic idx, 3)) (hl : Cond.methodLink own idx Lib.MathLoose.abs_long.x ∈ zWD) (hst : Cond.static Lib.MathLoose.abs_long.x ∈ zWD) (hi : Cond.initialized "java/lang/Math" ∈ zWD) (hc : Cond.code Lib.MathLoose.abs_long.x Lib.MathLoose.abs_long.code 2 (some .long) ∈ zWD) (hf : 1 ≤ R.frames) (hr : (r.map fun v => v.category).sum + 13 ≤ R.locals) (hcu : cu ≤ R.cells) (hsu : su ≤ R.slots) (kk : zG p l e R s m args below meth c Q H0 A base D cA nL ex cc own n cu su (pc + 3) ls (.long (if 0 < x then x else -x) :: r) σ) : zG p l e R s m args below meth c Q H0 A base D cA nL ex cc own n cu su pc ls (.long x :: r) σ := by
  intro F H locs la hW hS hL
  have hts := F.2.2.2.2.1
  exact va_mabs_long F.1 F.2.1 (F.2.2.1.trans hL.1.symm) F.2.2.2.1 (hts _ hl) (hts _ hst) (hts _ hi) (hts _ hc) hf (by rw [ztr_sum]; exact hr) hcu hsu hd (kk F H locs la hW hS hL)
end ZW
/-! Contracts over the pure heap. -/
def zKK (D : va_G) (cA : Nat → ClassId) (U : State) : Prop := (∀ w ∈ zNW, va_Nw w U) ∧ va_K D zcl (ztys cA) U
def zPc (D : va_G) (cA : Nat → ClassId) (base n : Nat) (ex : Bool) (av : List Value) (σ : zS) : Array Value → State → Prop := fun v U => v = (av.map (ztr base)).toArray ∧ zKK D cA U ∧ zW D cA base n ex σ U.heap ∧ base ≤ U.heap.size
def zQc (A : Nat → Prop) (D : va_G) (cA : Nat → ClassId) (base n : Nat) (ex : Bool) (Qp : Option Value → zS → Prop) : Array Value → State → Outcome → State → Prop := fun _ st oc t => (∃ (rv : Option Value) (σ' : zS), oc = .returned (rv.map (ztr base)) ∧ Qp rv σ' ∧ zW D cA base n ex σ' t.heap) ∧ va_F A st t
def zrm (d mc ms : Nat) : Room := { frames := d, cells := mc, slots := ms, locals := 40 * d }
/-- y's contract: from n cells with σ it comes to n' cells with Qp; it makes mc cells of ms slots -/
def zM (l : Launch) (y : MethodName) (yc : ByteArray) (yl : Nat) (yr : Option FieldType) (d mc ms : Nat) (A : Nat → Prop) (D : va_G) (cA : Nat → ClassId) (base n n' : Nat) (ex : Bool) (av : List Value) (σ : zS) (Qp : Option Value → zS → Prop) : Prop :=
  Met l y (Cond.code y yc yl yr :: zWD) (zrm d mc ms) (zPc D cA base n ex av σ) (zQc A D cA base n' ex Qp) mc ms A
def zqi (Q : Int32 → zS → Prop) : Option Value → zS → Prop := fun rv σ => ∃ x, rv = some (.int x) ∧ Q x σ
def zql (Q : Int64 → zS → Prop) : Option Value → zS → Prop := fun rv σ => ∃ x, rv = some (.long x) ∧ Q x σ
def zqr (Q : Nat → zS → Prop) : Option Value → zS → Prop := fun rv σ => ∃ x, rv = some (.ref x) ∧ Q x σ
def zqv (Q : zS → Prop) : Option Value → zS → Prop := fun rv σ => rv = none ∧ Q σ
theorem zPc_blind (D : va_G) (cA : Nat → ClassId) (base n : Nat) (ex : Bool) (av : List Value) (σ : zS) : FrameBlind (zPc D cA base n ex av σ) := by
  intro a U g mk h
  obtain ⟨h1, h2, h3, h4⟩ := h
  exact ⟨h1, ⟨fun w hw => zNW_same (u := U) (U := U.calling g mk a) rfl w hw (h2.1 w hw), va_K.moved (u := U) (U := U.calling g mk a) (Vm.Alike.refl U.vm) h2.2⟩, h3, h4⟩
section ZC
variable {p : Program} {l : Launch} {e : Env} {R : Room} {s : State} {m : MethodId} {args : Array Value} {below : List Frame} {meth : Method} {c : Code} {Q : State → Prop} {H0 : Heap} {A : Nat → Prop} {base : Nat} {D : va_G} {cA : Nat → ClassId} {nL : Nat} {ex : Bool} {cc : ByteArray} {own : String} {n cu su pc : Nat} {ls : List (Option Value)} {st r : List Value} {σ : zS}
theorem zF_pre {H : Heap} {locs : List Loc} (F : zF p s m args meth c H0 base D cA nL cc own) (hW : zW D cA base n ex σ H) (hS : va_S A H0 H locs) (av : List Value) : ∀ U : State, U.heap = H → s.WarmedH U.vm → zPc D cA base n ex av σ (av.map (ztr base)).toArray U := by
  intro U hU hw
  refine ⟨rfl, ⟨zNW_warm hw F.2.2.2.2.2.1, va_K.moved hw.alike F.2.2.2.2.2.2.1⟩, by rw [hU]; exact hW, ?_⟩
  rw [hU]
  exact Nat.le_trans F.2.2.2.2.2.2.2.1 hS.1
theorem zw_run {n' mc ms : Nat} {Qp : Option Value → zS → Prop} {a0 : Array Value}
    (hr : ∀ (H : Heap) (locs : List Loc) (la : Array Slot), zF p s m args meth c H0 base D cA nL cc own → zW D cA base n ex σ H → va_S A H0 H locs → zLs base nL ls la → va_Run p l e R s m args below meth c H locs cu su mc ms (F0 m pc la (st.map (ztr base))) (r.map (ztr base)) (zQc A D cA base n' ex Qp a0) A)
    (kk : ∀ (rv : Option Value) (σ' : zS), Qp rv σ' → zG p l e R s m args below meth c Q H0 A base D cA nL ex cc own n' (cu + mc) (su + ms) (pc + 3) ls (rv.toList ++ r) σ') : zG p l e R s m args below meth c Q H0 A base D cA nL ex cc own n cu su pc ls st σ := by
  intro F H locs la hW hS hL T hT X
  obtain ⟨v, st₀, t, T', L, h0, X', hL', e1, e2, ⟨⟨rv, σ', hv, hp, hb⟩, hz, hk⟩, go⟩ := hr H locs la F hW hS hL T hT X
  cases hv
  rw [h0] at hz hk
  obtain ⟨t2, a1, b1⟩ := kk rv σ' hp F T'.heap (locs ++ L) la (by rw [e1]; exact hb)
    ⟨Nat.le_trans hS.1 (by rw [e1]; exact hz), fun q h1 h2 => by rw [e1, hk q (Nat.lt_of_lt_of_le h1 hS.1) h2]; exact hS.2.1 q h1 h2, fun q hq => by
      rcases List.mem_append.mp hq with h | h
      · exact hS.2.2 q h
      · exact hL' q h⟩ hL T' rfl X'
  refine ⟨t2, go t2 ?_, b1⟩
  have es : (rv.toList ++ r).map (ztr base) = (rv.map (ztr base)).toList ++ r.map (ztr base) := by cases rv <;> simp
  rw [es] at a1
  exact a1
theorem zfit {yl d mc ms : Nat} (h1 : d + 1 ≤ R.frames) (h2 : 8 + (yl + 11) + 40 * d ≤ R.locals) : (zrm d mc ms).frames + 1 ≤ R.frames ∧ 8 + (yl + 11) + (zrm d mc ms).locals ≤ R.locals := ⟨h1, h2⟩
theorem zw_callV {ci : Nat} {idx b d mc ms yl n' : Nat} {y : MethodName} {yc : ByteArray} {yr : Option FieldType} {Qp : Option Value → zS → Prop} {As : List Value} (hd : decode cc pc = .ok (.invokevirtual idx, 3)) (hM : zM l y yc yl yr d mc ms A D cA base n n' ex (.ref b :: As) σ Qp) (h1 : Cond.methodLink own idx y ∈ zWD) (h2 : Cond.instanceMethod y ∈ zWD) (h3 : Cond.selects (zCn ci) y y ∈ zWD) (h4 : Cond.initialized (zCn ci) ∈ zWD) (h5 : Cond.code y yc yl yr ∈ zWD) (hci : ci < 8) (hb : b < n) (hkb : (zkd b).1 = ci)
    (hy : y.cls = zCn ci ∧ y.cls ≠ "java/lang/invoke/MethodHandle" ∧ y.cls ≠ "java/lang/invoke/VarHandle" ∧ (parseMethodDescriptor y.desc).map (fun d => d.parameters.length) = some As.length) (hR1 : d + 1 ≤ R.frames) (hR2 : 8 + (yl + 11) + 40 * d ≤ R.locals) (hf : cu + mc ≤ R.cells ∧ su + ms ≤ R.slots) (hst : (r.map fun v => v.category).sum ≤ 8) (hs : st = As.reverse ++ .ref b :: r)
    (kk : ∀ (rv : Option Value) (σ' : zS), Qp rv σ' → zG p l e R s m args below meth c Q H0 A base D cA nL ex cc own n' (cu + mc) (su + ms) (pc + 3) ls (rv.toList ++ r) σ') : zG p l e R s m args below meth c Q H0 A base D cA nL ex cc own n cu su pc ls st σ := by
  subst hs
  refine zw_run (a0 := ((Value.ref b :: As).map (ztr base)).toArray) (fun H locs la F hW hS hL => ?_) kk
  have hx := hW.1 b hb
  unfold zAt at hx
  rw [hkb, if_pos (by omega)] at hx
  obtain ⟨cell, q1, q2, q3, -⟩ := hx
  have K := F.2.2.2.2.2.2.1
  have hcw := cwV (R := R) (own := own) (index := idx) (C := zCn ci) (bytes := yc) (maxL := yl) (ret := yr) (rm := zrm d mc ms) (mc := mc) (ms := ms) As.length F.2.2.2.2.1 (zgd (L := wsV own idx (zCn ci) y (Cond.code y yc yl yr :: zWD)) (by
    intro w hw
    simp only [wsV, List.cons_append, List.nil_append, List.mem_cons] at hw
    rcases hw with rfl | rfl | rfl | rfl | rfl | hw
    · exact h1
    · exact h2
    · exact h3
    · exact h4
    · exact h5
    · exact hw)) rfl rfl rfl hy (zfit hR1 hR2)
  have hrun := va_runV (As := As.map (ztr base)) (rest := r.map (ztr base)) (b := base + b) (H := H) (locs := locs) (below := below) (e := e) (p := p) (cells := cu) (slots := su) (meth := meth) (g := F0 m pc la ((As.reverse ++ .ref b :: r).map (ztr base))) ⟨F.1, F.2.1, F.2.2.1, F.2.2.2.1, F.2.2.2.2.1⟩ hM hcw
    ⟨zPc_blind _ _ _ _ _ _ _, ⟨cell, q1, by rw [q3]; rfl, by rw [q2]; exact (K.1 ci _ (zcl_at ci hci)).2.1⟩, zF_pre F hW hS _⟩ rfl (by simp) hL.1 (by simp [ztr]) (by rw [ztr_sum]; show 2 * 0 + _ ≤ 8; omega) hd hf
  exact hrun
theorem zw_callVN {ci : Nat} {host : String} {idx b d mc ms yl n' : Nat} {y : MethodName} {yc : ByteArray} {yr : Option FieldType} {Qp : Option Value → zS → Prop} {As : List Value} (hd : decode cc pc = .ok (.invokevirtual idx, 3)) (hM : zM l y yc yl yr d mc ms A D cA base n n' ex (.ref b :: As) σ Qp) (h1 : Cond.methodLinkNest own idx y host ∈ zNW) (h2 : Cond.instanceMethod y ∈ zWD) (h3 : Cond.selects (zCn ci) y y ∈ zWD) (h4 : Cond.initialized (zCn ci) ∈ zWD) (h5 : Cond.code y yc yl yr ∈ zWD) (hci : ci < 8) (hb : b < n) (hkb : (zkd b).1 = ci)
    (hy : y.cls = zCn ci ∧ y.cls ≠ "java/lang/invoke/MethodHandle" ∧ y.cls ≠ "java/lang/invoke/VarHandle" ∧ (parseMethodDescriptor y.desc).map (fun d => d.parameters.length) = some As.length) (hR1 : d + 1 ≤ R.frames) (hR2 : 8 + (yl + 11) + 40 * d ≤ R.locals) (hf : cu + mc ≤ R.cells ∧ su + ms ≤ R.slots) (hst : (r.map fun v => v.category).sum ≤ 8) (hs : st = As.reverse ++ .ref b :: r)
    (kk : ∀ (rv : Option Value) (σ' : zS), Qp rv σ' → zG p l e R s m args below meth c Q H0 A base D cA nL ex cc own n' (cu + mc) (su + ms) (pc + 3) ls (rv.toList ++ r) σ') : zG p l e R s m args below meth c Q H0 A base D cA nL ex cc own n cu su pc ls st σ := by
  subst hs
  refine zw_run (a0 := ((Value.ref b :: As).map (ztr base)).toArray) (fun H locs la F hW hS hL => ?_) kk
  have hx := hW.1 b hb
  unfold zAt at hx
  rw [hkb, if_pos (by omega)] at hx
  obtain ⟨cell, q1, q2, q3, -⟩ := hx
  have K := F.2.2.2.2.2.2.1
  have hG : GoodIn zWD (Cond.code y yc yl yr :: zWD) := zgd (by
    intro w hw
    rcases List.mem_cons.mp hw with rfl | hw
    · exact h5
    · exact hw)
  have hcw := va_cnB (R := R) (own := own) (index := idx) (host := host) (bytes := yc) (maxL := yl) (ret := yr) (rm := zrm d mc ms) (mc := mc) (ms := ms) As.length F.2.2.2.2.1 hG rfl rfl rfl (F.2.2.2.2.2.1 _ h1) (by rw [hy.1]; exact F.2.2.2.2.1 _ h4) hy.2 (zfit hR1 hR2)
  have hrun := va_runVN (C := zCn ci) (As := As.map (ztr base)) (rest := r.map (ztr base)) (b := base + b) (H := H) (locs := locs) (below := below) (e := e) (p := p) (cells := cu) (slots := su) (meth := meth) (g := F0 m pc la ((As.reverse ++ .ref b :: r).map (ztr base))) ⟨F.1, F.2.1, F.2.2.1, F.2.2.2.1, F.2.2.2.2.1⟩ hM ⟨hcw, F.2.2.2.2.1 _ h2, F.2.2.2.2.1 _ h3⟩
    ⟨zPc_blind _ _ _ _ _ _ _, ⟨cell, q1, by rw [q3]; rfl, by rw [q2]; exact (K.1 ci _ (zcl_at ci hci)).2.1⟩, zF_pre F hW hS _⟩ rfl (by simp) hL.1 (by simp [ztr]) (by rw [ztr_sum]; show 2 * 0 + _ ≤ 8; omega) hd hf
  exact hrun
theorem zw_callS {idx d mc ms yl n' : Nat} {y : MethodName} {yc : ByteArray} {yr : Option FieldType} {Qp : Option Value → zS → Prop} {As : List Value} (hd : decode cc pc = .ok (.invokestatic idx, 3)) (hM : zM l y yc yl yr d mc ms A D cA base n n' ex As σ Qp) (h1 : Cond.methodLink own idx y ∈ zWD) (h2 : Cond.static y ∈ zWD) (h4 : Cond.initialized y.cls ∈ zWD) (h5 : Cond.code y yc yl yr ∈ zWD)
    (hy : y.cls ≠ "java/lang/invoke/MethodHandle" ∧ y.cls ≠ "java/lang/invoke/VarHandle" ∧ (parseMethodDescriptor y.desc).map (fun d => d.parameters.length) = some As.length) (hR1 : d + 1 ≤ R.frames) (hR2 : 8 + (yl + 11) + 40 * d ≤ R.locals) (hf : cu + mc ≤ R.cells ∧ su + ms ≤ R.slots) (hst : (r.map fun v => v.category).sum ≤ 8) (hs : st = As.reverse ++ r)
    (kk : ∀ (rv : Option Value) (σ' : zS), Qp rv σ' → zG p l e R s m args below meth c Q H0 A base D cA nL ex cc own n' (cu + mc) (su + ms) (pc + 3) ls (rv.toList ++ r) σ') : zG p l e R s m args below meth c Q H0 A base D cA nL ex cc own n cu su pc ls st σ := by
  subst hs
  refine zw_run (a0 := (As.map (ztr base)).toArray) (fun H locs la F hW hS hL => ?_) kk
  have hG : GoodIn zWD (Cond.code y yc yl yr :: zWD) := zgd (by
    intro w hw
    rcases List.mem_cons.mp hw with rfl | hw
    · exact h5
    · exact hw)
  have hcw := callB_of (R := R) (own := own) (index := idx) (bytes := yc) (maxL := yl) (ret := yr) (rm := zrm d mc ms) (mc := mc) (ms := ms) As.length F.2.2.2.2.1 hG rfl rfl rfl (F.2.2.2.2.1 _ h4) (F.2.2.2.2.1 _ h1) hy (zfit hR1 hR2)
  have hrun := va_runS (As := As.map (ztr base)) (rest := r.map (ztr base)) (H := H) (locs := locs) (below := below) (e := e) (p := p) (cells := cu) (slots := su) (meth := meth) (g := F0 m pc la ((As.reverse ++ r).map (ztr base))) ⟨F.1, F.2.1, F.2.2.1, F.2.2.2.1, F.2.2.2.2.1⟩ hM ⟨hcw, F.2.2.2.2.1 _ h2⟩
    ⟨zPc_blind _ _ _ _ _ _ _, zF_pre F hW hS _⟩ rfl (by simp) hL.1 (by simp [ztr]) (by rw [ztr_sum]; show 2 * 0 + _ ≤ 8; omega) hd hf
  exact hrun
theorem zw_callSN {host : String} {idx d mc ms yl n' : Nat} {y : MethodName} {yc : ByteArray} {yr : Option FieldType} {Qp : Option Value → zS → Prop} {As : List Value} (hd : decode cc pc = .ok (.invokestatic idx, 3)) (hM : zM l y yc yl yr d mc ms A D cA base n n' ex As σ Qp) (h1 : Cond.methodLinkNest own idx y host ∈ zNW) (h2 : Cond.static y ∈ zWD) (h4 : Cond.initialized y.cls ∈ zWD) (h5 : Cond.code y yc yl yr ∈ zWD)
    (hy : y.cls ≠ "java/lang/invoke/MethodHandle" ∧ y.cls ≠ "java/lang/invoke/VarHandle" ∧ (parseMethodDescriptor y.desc).map (fun d => d.parameters.length) = some As.length) (hR1 : d + 1 ≤ R.frames) (hR2 : 8 + (yl + 11) + 40 * d ≤ R.locals) (hf : cu + mc ≤ R.cells ∧ su + ms ≤ R.slots) (hst : (r.map fun v => v.category).sum ≤ 8) (hs : st = As.reverse ++ r)
    (kk : ∀ (rv : Option Value) (σ' : zS), Qp rv σ' → zG p l e R s m args below meth c Q H0 A base D cA nL ex cc own n' (cu + mc) (su + ms) (pc + 3) ls (rv.toList ++ r) σ') : zG p l e R s m args below meth c Q H0 A base D cA nL ex cc own n cu su pc ls st σ := by
  subst hs
  refine zw_run (a0 := (As.map (ztr base)).toArray) (fun H locs la F hW hS hL => ?_) kk
  have hG : GoodIn zWD (Cond.code y yc yl yr :: zWD) := zgd (by
    intro w hw
    rcases List.mem_cons.mp hw with rfl | hw
    · exact h5
    · exact hw)
  have hcw := va_cnB (R := R) (own := own) (index := idx) (host := host) (bytes := yc) (maxL := yl) (ret := yr) (rm := zrm d mc ms) (mc := mc) (ms := ms) As.length F.2.2.2.2.1 hG rfl rfl rfl (F.2.2.2.2.2.1 _ h1) (F.2.2.2.2.1 _ h4) hy (zfit hR1 hR2)
  have hrun := va_runSN (As := As.map (ztr base)) (rest := r.map (ztr base)) (H := H) (locs := locs) (below := below) (e := e) (p := p) (cells := cu) (slots := su) (meth := meth) (g := F0 m pc la ((As.reverse ++ r).map (ztr base))) ⟨F.1, F.2.1, F.2.2.1, F.2.2.2.1, F.2.2.2.2.1⟩ hM ⟨hcw, F.2.2.2.2.1 _ h2, trivial⟩
    ⟨zPc_blind _ _ _ _ _ _ _, zF_pre F hW hS _⟩ rfl (by simp) hL.1 (by simp [ztr]) (by rw [ztr_sum]; show 2 * 0 + _ ≤ 8; omega) hd hf
  exact hrun
theorem zw_callI {idx b d mc ms yl n' : Nat} {y : MethodName} {yc : ByteArray} {Qp : Option Value → zS → Prop} {As : List Value} (hd : decode cc pc = .ok (.invokespecial idx, 3)) (hM : zM l y yc yl none d mc ms A D cA base n n' ex (.ref b :: As) σ Qp) (h1 : Cond.methodLink own idx y ∈ zWD) (h2 : Cond.instanceMethod y ∈ zWD) (h4 : Cond.initialized y.cls ∈ zWD) (h5 : Cond.code y yc yl none ∈ zWD) (hyi : y.name = "<init>")
    (hy : y.cls ≠ "java/lang/invoke/MethodHandle" ∧ y.cls ≠ "java/lang/invoke/VarHandle" ∧ (parseMethodDescriptor y.desc).map (fun d => d.parameters.length) = some As.length) (hR1 : d + 1 ≤ R.frames) (hR2 : 8 + (yl + 11) + 40 * d ≤ R.locals) (hf : cu + mc ≤ R.cells ∧ su + ms ≤ R.slots) (hst : (r.map fun v => v.category).sum ≤ 8) (hs : st = As.reverse ++ .ref b :: r)
    (kk : ∀ (rv : Option Value) (σ' : zS), Qp rv σ' → zG p l e R s m args below meth c Q H0 A base D cA nL ex cc own n' (cu + mc) (su + ms) (pc + 3) ls (rv.toList ++ r) σ') : zG p l e R s m args below meth c Q H0 A base D cA nL ex cc own n cu su pc ls st σ := by
  subst hs
  refine zw_run (a0 := ((Value.ref b :: As).map (ztr base)).toArray) (fun H locs la F hW hS hL => ?_) kk
  have hG : GoodIn zWD (Cond.code y yc yl none :: zWD) := zgd (by
    intro w hw
    rcases List.mem_cons.mp hw with rfl | hw
    · exact h5
    · exact hw)
  have hcw := cwI (R := R) (own := own) (index := idx) (bytes := yc) (maxL := yl) (rm := zrm d mc ms) (mc := mc) (ms := ms) As.length F.2.2.2.2.1 hG rfl rfl rfl (F.2.2.2.2.1 _ h4) (F.2.2.2.2.1 _ h1) (F.2.2.2.2.1 _ h2) hyi hy (zfit hR1 hR2)
  have hrun := va_runI (As := As.map (ztr base)) (rest := r.map (ztr base)) (b := base + b) (H := H) (locs := locs) (below := below) (e := e) (p := p) (cells := cu) (slots := su) (meth := meth) (g := F0 m pc la ((As.reverse ++ .ref b :: r).map (ztr base))) ⟨F.1, F.2.1, F.2.2.1, F.2.2.2.1, F.2.2.2.2.1⟩ hM hcw
    ⟨zPc_blind _ _ _ _ _ _ _, zF_pre F hW hS _⟩ rfl (by simp) hL.1 (by simp [ztr]) (by rw [ztr_sum]; show 2 * 0 + _ ≤ 8; omega) hd hf
  exact hrun
theorem zw_callIN {host : String} {idx b d mc ms yl n' : Nat} {y : MethodName} {yc : ByteArray} {Qp : Option Value → zS → Prop} {As : List Value} (hd : decode cc pc = .ok (.invokespecial idx, 3)) (hM : zM l y yc yl none d mc ms A D cA base n n' ex (.ref b :: As) σ Qp) (h1 : Cond.methodLinkNest own idx y host ∈ zNW) (h2 : Cond.instanceMethod y ∈ zWD) (h4 : Cond.initialized y.cls ∈ zWD) (h5 : Cond.code y yc yl none ∈ zWD) (hyi : y.name = "<init>")
    (hy : y.cls ≠ "java/lang/invoke/MethodHandle" ∧ y.cls ≠ "java/lang/invoke/VarHandle" ∧ (parseMethodDescriptor y.desc).map (fun d => d.parameters.length) = some As.length) (hR1 : d + 1 ≤ R.frames) (hR2 : 8 + (yl + 11) + 40 * d ≤ R.locals) (hf : cu + mc ≤ R.cells ∧ su + ms ≤ R.slots) (hst : (r.map fun v => v.category).sum ≤ 8) (hs : st = As.reverse ++ .ref b :: r)
    (kk : ∀ (rv : Option Value) (σ' : zS), Qp rv σ' → zG p l e R s m args below meth c Q H0 A base D cA nL ex cc own n' (cu + mc) (su + ms) (pc + 3) ls (rv.toList ++ r) σ') : zG p l e R s m args below meth c Q H0 A base D cA nL ex cc own n cu su pc ls st σ := by
  subst hs
  refine zw_run (a0 := ((Value.ref b :: As).map (ztr base)).toArray) (fun H locs la F hW hS hL => ?_) kk
  have hG : GoodIn zWD (Cond.code y yc yl none :: zWD) := zgd (by
    intro w hw
    rcases List.mem_cons.mp hw with rfl | hw
    · exact h5
    · exact hw)
  have hcw := va_cnB (R := R) (own := own) (index := idx) (host := host) (bytes := yc) (maxL := yl) (ret := none) (rm := zrm d mc ms) (mc := mc) (ms := ms) As.length F.2.2.2.2.1 hG rfl rfl rfl (F.2.2.2.2.2.1 _ h1) (F.2.2.2.2.1 _ h4) hy (zfit hR1 hR2)
  have hrun := va_runIN (As := As.map (ztr base)) (rest := r.map (ztr base)) (b := base + b) (H := H) (locs := locs) (below := below) (e := e) (p := p) (cells := cu) (slots := su) (meth := meth) (g := F0 m pc la ((As.reverse ++ .ref b :: r).map (ztr base))) ⟨F.1, F.2.1, F.2.2.1, F.2.2.2.1, F.2.2.2.2.1⟩ hM ⟨hcw, hyi, F.2.2.2.2.1 _ h2⟩
    ⟨zPc_blind _ _ _ _ _ _ _, zF_pre F hW hS _⟩ rfl (by simp) hL.1 (by simp [ztr]) (by rw [ztr_sum]; show 2 * 0 + _ ≤ 8; omega) hd hf
  exact hrun
theorem zk_i {n' mc ms : Nat} {Qy : Int32 → zS → Prop} (kk : ∀ (x : Int32) (σ' : zS), Qy x σ' → zG p l e R s m args below meth c Q H0 A base D cA nL ex cc own n' (cu + mc) (su + ms) (pc + 3) ls (.int x :: r) σ') : ∀ (rv : Option Value) (σ' : zS), zqi Qy rv σ' → zG p l e R s m args below meth c Q H0 A base D cA nL ex cc own n' (cu + mc) (su + ms) (pc + 3) ls (rv.toList ++ r) σ' := by
  rintro rv σ' ⟨x, rfl, h⟩
  exact kk x σ' h
theorem zk_l {n' mc ms : Nat} {Qy : Int64 → zS → Prop} (kk : ∀ (x : Int64) (σ' : zS), Qy x σ' → zG p l e R s m args below meth c Q H0 A base D cA nL ex cc own n' (cu + mc) (su + ms) (pc + 3) ls (.long x :: r) σ') : ∀ (rv : Option Value) (σ' : zS), zql Qy rv σ' → zG p l e R s m args below meth c Q H0 A base D cA nL ex cc own n' (cu + mc) (su + ms) (pc + 3) ls (rv.toList ++ r) σ' := by
  rintro rv σ' ⟨x, rfl, h⟩
  exact kk x σ' h
theorem zk_r {n' mc ms : Nat} {Qy : Nat → zS → Prop} (kk : ∀ (x : Nat) (σ' : zS), Qy x σ' → zG p l e R s m args below meth c Q H0 A base D cA nL ex cc own n' (cu + mc) (su + ms) (pc + 3) ls (.ref x :: r) σ') : ∀ (rv : Option Value) (σ' : zS), zqr Qy rv σ' → zG p l e R s m args below meth c Q H0 A base D cA nL ex cc own n' (cu + mc) (su + ms) (pc + 3) ls (rv.toList ++ r) σ' := by
  rintro rv σ' ⟨x, rfl, h⟩
  exact kk x σ' h
theorem zk_v {n' mc ms : Nat} {Qy : zS → Prop} (kk : ∀ (σ' : zS), Qy σ' → zG p l e R s m args below meth c Q H0 A base D cA nL ex cc own n' (cu + mc) (su + ms) (pc + 3) ls r σ') : ∀ (rv : Option Value) (σ' : zS), zqv Qy rv σ' → zG p l e R s m args below meth c Q H0 A base D cA nL ex cc own n' (cu + mc) (su + ms) (pc + 3) ls (rv.toList ++ r) σ' := by
  rintro rv σ' ⟨rfl, h⟩
  exact kk σ' h
theorem zw_iret {x : Int32} {Qy : Int32 → zS → Prop} (hd : decode cc pc = .ok (.ireturn, 1)) (hr : meth.sig.returnType = some .int) (hq : Qy x σ) : zG p l e R s m args below meth c (MQ below (zQc A D cA base n ex (zqi Qy)) args s cu su A) s.heap A base D cA nL ex cc own n cu su pc ls ([.int x]) σ :=
  fun F H locs la hW hS hL => W.iret F.1 F.2.1 hr (fun t ht _ => ⟨⟨some (.int x), σ, rfl, ⟨x, rfl, hq⟩, by rw [ht]; exact hW⟩, hS.F ht⟩) hS.2.2 hd F.2.2.2.2.2.2.2.2
theorem zw_zret {x : Int32} {Qy : Int32 → zS → Prop} (hd : decode cc pc = .ok (.ireturn, 1)) (hr : meth.sig.returnType = some .boolean) (hx : x = 0 ∨ x = 1) (hq : Qy x σ) : zG p l e R s m args below meth c (MQ below (zQc A D cA base n ex (zqi Qy)) args s cu su A) s.heap A base D cA nL ex cc own n cu su pc ls ([.int x]) σ :=
  fun F H locs la hW hS hL => W.zret F.1 F.2.1 hr (by rcases hx with rfl | rfl <;> rfl) (fun t ht _ => ⟨⟨some (.int x), σ, rfl, ⟨x, rfl, hq⟩, by rw [ht]; exact hW⟩, hS.F ht⟩) hS.2.2 hd F.2.2.2.2.2.2.2.2
theorem zw_lret {x : Int64} {Qy : Int64 → zS → Prop} (hd : decode cc pc = .ok (.lreturn, 1)) (hr : meth.sig.returnType = some .long) (hq : Qy x σ) : zG p l e R s m args below meth c (MQ below (zQc A D cA base n ex (zql Qy)) args s cu su A) s.heap A base D cA nL ex cc own n cu su pc ls ([.long x]) σ :=
  fun F H locs la hW hS hL => W.lret F.1 F.2.1 hr (fun t ht _ => ⟨⟨some (.long x), σ, rfl, ⟨x, rfl, hq⟩, by rw [ht]; exact hW⟩, hS.F ht⟩) hS.2.2 hd F.2.2.2.2.2.2.2.2
theorem zw_aret {x : Nat} {C : String} {Qy : Nat → zS → Prop} (hd : decode cc pc = .ok (.areturn, 1)) (hr : meth.sig.returnType = some (.object C)) (hq : Qy x σ) : zG p l e R s m args below meth c (MQ below (zQc A D cA base n ex (zqr Qy)) args s cu su A) s.heap A base D cA nL ex cc own n cu su pc ls ([.ref x]) σ :=
  fun F H locs la hW hS hL => W.aret F.1 F.2.1 hr (Or.inl ⟨C, rfl⟩) (Or.inr ⟨_, rfl⟩) (fun t ht _ => ⟨⟨some (.ref x), σ, rfl, ⟨x, rfl, hq⟩, by rw [ht]; exact hW⟩, hS.F ht⟩) hS.2.2 hd F.2.2.2.2.2.2.2.2
theorem zw_vret {Qy : zS → Prop} (hd : decode cc pc = .ok (.return_, 1)) (hr : meth.sig.returnType = none) (hq : Qy σ) : zG p l e R s m args below meth c (MQ below (zQc A D cA base n ex (zqv Qy)) args s cu su A) s.heap A base D cA nL ex cc own n cu su pc ls ([]) σ :=
  fun F H locs la hW hS hL => W.vret F.1 F.2.1 hr (fun t ht _ => ⟨⟨none, σ, rfl, ⟨rfl, hq⟩, by rw [ht]; exact hW⟩, hS.F ht⟩) hS.2.2 hd F.2.2.2.2.2.2.2.2
end ZC
theorem zMet {l : Launch} {y : MethodName} {yc : ByteArray} {yl : Nat} {yr : Option FieldType} {d mc ms : Nat} {A : Nat → Prop} {D : va_G} {cA : Nat → ClassId} {base n n' : Nat} {ex : Bool} {av : List Value} {σ : zS} {Qp : Option Value → zS → Prop} {ls : List (Option Value)} (hy : plainName y.cls = true) (hls : zar av ++ List.replicate (yl - (zar av).length) none = ls) (hlen : (zar av).length ≤ yl)
    (body : ∀ (p : Program) (e : Env) (s : State) (m : MethodId) (args : Array Value) (below : List Frame) (meth : Method) (c : Code), meth.sig.returnType = yr → meth.name = y.name → zG p l e (zrm d mc ms) s m args below meth c (MQ below (zQc A D cA base n' ex Qp) args s mc ms A) s.heap A base D cA yl ex yc y.cls n 0 0 0 ls [] σ) :
    zM l y yc yl yr d mc ms A D cA base n n' ex av σ Qp := by
  refine Met.ofW (cc := yc) (maxL := yl) (ret := yr) hy rfl ?_
  intro p e s m args below meth c s₁ B hml hv
  obtain ⟨rfl, hKK, hW, hb0⟩ := hv
  have hts : ∀ w ∈ zWD, w.before (av.map (ztr base)).toArray s = true := fun w hw => atoms_spec (ws := Cond.code y yc yl yr :: zWD) B.pre w (List.mem_cons_of_mem _ hw)
  have hown : s.vm.findClass y.cls = some m.cls := findClass_of_methodNamed B.named
  have hl := lv_entry (av.map (ztr base)) (n := yl) (by rw [zar_len]; exact hlen)
  rw [lg_entry_eq]
  refine body p e s m _ below meth c B.returns (name_of_methodNamed B.named B.method).1 ⟨B.exec, B.bytes, hml, hown, hts, hKK.1, hKK.2, hb0, B.notSynchronized⟩ s.heap [] _ hW va_S.rf ⟨hl.1, hl.2.1, fun i v hi => ?_⟩
  refine hl.2.2 (i, ztr base v) ?_
  rw [← hls] at hi
  by_cases hlt : i < (zar av).length
  · rw [List.getElem?_append_left hlt] at hi
    have := zar_mem base av 0 i v hi
    rwa [Nat.zero_add] at this
  · rw [List.getElem?_append_right (by omega)] at hi
    have := List.eq_of_mem_replicate (List.mem_of_getElem? hi)
    cases this
