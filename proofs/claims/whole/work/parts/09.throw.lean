/-! Exceptions: made, thrown, caught. -/
def zSt (nm ds : String) (base : Nat) (U : State) (H : Heap) : Prop := ∃ (c : ClassId) (k : Class) (i : Nat) (f : Field) (a : Nat) (cell : Cell) (v : Value), U.vm.findClass Bundle.tN = some c ∧ U.fieldFound? Bundle.tN nm ds = some (c, k, i, f) ∧ f.isStatic = true ∧ k.statics = some a ∧ a < base ∧ H[a]? = some cell ∧ cell.vm.isStatics = true ∧ cell.cls = c ∧ f.slot < cell.slots.size ∧ k.staticTypes[f.slot]? = some f.type ∧ cell.slots[f.slot]? = some v ∧ (v = .null ∨ ∃ q, v = .ref q)
theorem zSt.moved {nm ds : String} {base : Nat} {u U : State} {H : Heap} (hvm : u.vm.Alike U.vm) (h : zSt nm ds base u H) : zSt nm ds base U H := by
  obtain ⟨c, k, i, f, a, cell, v, h1, h2, h3, h4, h5, h6, h7, h8, h9, h10, h11, h12⟩ := h
  obtain ⟨k', hi', he⟩ := State.fieldFound?_setVm hvm h2
  exact ⟨c, k', i, f, a, cell, v, by rw [hvm.findClass]; exact h1, hi', h3, by rw [he]; exact h4, h5, h6, h7, h8, h9, by rw [he]; exact h10, h11, h12⟩
theorem zSt.kept {nm ds : String} {base : Nat} {U : State} {H H1 : Heap} (h : zSt nm ds base U H) (hq : ∀ q : Nat, q < base → H1[q]? = H[q]?) : zSt nm ds base U H1 := by
  obtain ⟨c, k, i, f, a, cell, v, h1, h2, h3, h4, h5, h6, h7⟩ := h
  exact ⟨c, k, i, f, a, cell, v, h1, h2, h3, h4, h5, by rw [hq a h5]; exact h6, h7⟩
theorem zSt.lays {nm ds : String} {base : Nat} {U : State} (h : zSt nm ds base U U.heap) (A : Array Value) : (Cond.laysStatic Bundle.tN nm ds).before A U = true := by
  obtain ⟨c, k, i, f, a, cell, v, h1, h2, h3, h4, h5, h6, h7, h8, h9, h10, h11, h12⟩ := h
  simp [Cond.before, Cond.holds, Cond.value, h1, h2, h3, h4, h6, h7, h8, h9, h10]
theorem zSt.isRef {nm ds : String} {base : Nat} {U : State} (h : zSt nm ds base U U.heap) (A : Array Value) : (Cond.isRef (.static Bundle.tN nm ds)).before A U = true := by
  obtain ⟨c, k, i, f, a, cell, v, h1, h2, h3, h4, h5, h6, h7, h8, h9, h10, h11, h12⟩ := h
  have he : (Term.static Bundle.tN nm ds).eval A U none [] U = some v := by
    simp [Term.eval, State.fieldNamed?, h2, h3, h4, h6, h7, h11]
  rcases h12 with rfl | ⟨q, rfl⟩
  · simp [Cond.before, Cond.holds, Cond.value, he]
  · simp [Cond.before, Cond.holds, Cond.value, he]
theorem zSt.of {nm ds : String} {U : State} {A : Array Value} (hl : (Cond.laysStatic Bundle.tN nm ds).before A U = true) (hr : (Cond.isRef (.static Bundle.tN nm ds)).before A U = true) : zSt nm ds U.heap.size U U.heap := by
  obtain ⟨c, k, i, f, a, cell, h1, h2, h3, h4, h6, h7, h8, h9, h10⟩ := Cond.laysStatic_spec hl
  have hlt : a < U.heap.size := (Array.getElem?_eq_some_iff.mp h6).1
  have hs : ∃ v, cell.slots[f.slot]? = some v := ⟨_, Array.getElem?_eq_getElem h9⟩
  obtain ⟨v, hv⟩ := hs
  refine ⟨c, k, i, f, a, cell, v, h1, h2, h3, h4, hlt, h6, h7, h8, h9, h10, hv, ?_⟩
  have he : (Term.static Bundle.tN nm ds).eval A U none [] U = some v := by
    simp [Term.eval, State.fieldNamed?, h2, h3, h4, h6, h7, hv]
  simp only [Cond.before, Cond.holds, Cond.value, he] at hr
  cases v with
  | null => exact Or.inl rfl
  | ref q => exact Or.inr ⟨q, rfl⟩
  | _ => simp at hr
def zisC : Cond → Bool
  | .declares _ => true
  | .castable _ _ => true
  | _ => false
/-- what a throw rests on beside the tables' words -/
def zTh (base : Nat) (U : State) : Prop := zSt "UNASSIGNED_STACK" Bundle.steD base U U.heap ∧ zSt "SUPPRESSED_SENTINEL" Bundle.listD base U U.heap ∧ (∀ (k : Nat) (tx : String), Cond.stringRef "ConstantFlow" k tx ∈ tables_1 → ∃ a, vk_R "ConstantFlow" k tx a U) ∧ (∀ w, w ∈ tables_1 → zisC w = true → va_Nw w U) ∧ va_Nc "java/lang/IllegalStateException" "java/lang/IndexOutOfBoundsException" U
theorem zisC_kind {w : Cond} (h : zisC w = true) : (∃ x, w = .declares x) ∨ ∃ a b, w = .castable a b := by
  unfold zisC at h
  split at h
  · exact Or.inl ⟨_, rfl⟩
  · exact Or.inr ⟨_, _, rfl⟩
  · cases h
theorem zTh.to {base : Nat} {s U : State} (hW : s.WarmedH U.vm) (hH : ∀ q : Nat, q < base → U.heap[q]? = s.heap[q]?) (h : zTh base s) : zTh base U := by
  refine ⟨(h.1.moved hW.alike).kept hH, (h.2.1.moved hW.alike).kept hH, fun k tx hk => ?_, fun w hw hc => ?_, h.2.2.2.2.moved hW.alike⟩
  · obtain ⟨a, ha⟩ := h.2.2.1 k tx hk
    exact ⟨a, ha.warm hW⟩
  · have h1 := h.2.2.2.1 w hw hc
    rcases zisC_kind hc with ⟨x, rfl⟩ | ⟨x, y, rfl⟩
    · exact va_Nw.warmD hW h1
    · exact va_Nw.warmC hW h1
theorem zTh.same {base : Nat} {u U : State} (hv : U.vm = u.vm) (hH : U.heap = u.heap) (h : zTh base u) : zTh base U := by
  have hal : u.vm.Alike U.vm := by rw [hv]; exact Vm.Alike.refl u.vm
  refine ⟨?_, ?_, fun k tx hk => ?_, fun w hw hc => ?_, h.2.2.2.2.moved hal⟩
  · rw [hH]; exact h.1.moved hal
  · rw [hH]; exact h.2.1.moved hal
  · obtain ⟨a, ha⟩ := h.2.2.1 k tx hk
    exact ⟨a, ha.same hv⟩
  · have h1 := h.2.2.2.1 w hw hc
    rcases zisC_kind hc with ⟨x, rfl⟩ | ⟨x, y, rfl⟩
    · exact va_Nw.same rfl hv.symm h1
    · exact va_Nw.same rfl hv.symm h1
/-- the end of a method that throws -/
def zTQ (below : List Frame) (s : State) (D : va_G) (cA : Nat → ClassId) (base n mc ms : Nat) (Tp : String → zS → Prop) : State → Prop := fun t => ∃ (x : Nat) (ce : Cell) (X : String) (σ : zS), t.status = .running ∧ Ended t below (.threw x) ∧ s.WarmedH t.vm ∧ s.sameButNew ({ t with vm := s.vm } : State) [] mc ms ∧ base ≤ x ∧ zW D cA base n false σ t.heap ∧ va_F (fun _ => False) s t ∧ t.heap[x]? = some ce ∧ ce.vm = .none ∧ s.vm.findClass X = some ce.cls ∧ Tp X σ
section ZT
variable {p : Program} {l : Launch} {e : Env} {R : Room} {s : State} {m : MethodId} {args : Array Value} {below : List Frame} {meth : Method} {c : Code} {base : Nat} {D : va_G} {cA : Nat → ClassId} {nL : Nat} {cc : ByteArray} {own : String} {n pc : Nat} {ls : List (Option Value)} {σ : zS}
theorem zw_throw {idx k ic : Nat} {X tx : String} {names : List String} {Tp : String → zS → Prop} (hfl : l.flags = pinnedFlags ++ [noTraceFlag]) (hnoh : c.exceptionTable.isEmpty = true)
    (d1 : decode cc pc = .ok (.new idx, 3)) (d2 : decode cc (pc + 3) = .ok (.dup, 1)) (d3 : decode cc (pc + 4) = .ok (.ldc k, 2)) (d4 : decode cc (pc + 6) = .ok (.invokespecial ic, 3)) (d5 : decode cc (pc + 9) = .ok (.athrow, 1))
    (w1 : Cond.classLink own idx X ∈ zWD) (w2 : Cond.instantiable X 6 ∈ zWD) (w3 : Cond.initialized X ∈ zWD) (hstr : ∃ a, vk_R own k tx a s) (hat : (∀ w ∈ zWD, w.before args s = true) → ∀ a ∈ Bundle.ownAtoms own ic X names, a.before args s = true) (hX : Bundle.fit X = true) (hN : ∀ y ∈ names, Bundle.fit y = true)
    (hRf : names.length + 3 < R.frames) (hRl : 13 * (names.length + 1) + 44 ≤ R.locals) (hRc : 1 ≤ R.cells) (hRs : 6 ≤ R.slots) (hTp : Tp X σ) :
    zG p l e R s m args below meth c (zTQ below s D cA base n 1 6 Tp) s.heap (fun _ => False) base D cA nL false cc own n 0 0 pc ls [] σ := by
  intro F H locs la hW hS hL
  have hts := F.2.2.2.2.1
  obtain ⟨sa, hsa⟩ := hstr
  obtain ⟨cX, kX, hfc, hkX, -⟩ := Cond.instantiable_spec (hts _ w2)
  have hlocs : locs = [] := by
    cases locs with
    | nil => rfl
    | cons x r => exact False.elim (hS.2.2 x List.mem_cons_self)
  subst hlocs
  refine W.newcK (n := 6) F.1 F.2.1 F.2.2.2.1 (hts _ w1) (hts _ w2) (hts _ w3) rfl d1 (by omega) (by omega) hfc rfl fun H' kC hkC e1 z1 o1 => ?_
  refine lv_dup F.1 F.2.1 d2 rfl ?_
  refine va_ldcS F.1 F.2.1 F.2.2.2.1 hsa d3 ?_
  intro T hT X0
  have hnew : s.heap.size ≤ H.size := hS.1
  have hsz : H.size ≤ s.heap.size := by
    have h1 := X0.same.2.2.1
    have h2 : T.heap.size = H.size + 1 := by rw [hT, z1]
    have h3 : T.heap.size ≤ s.heap.size + (0 + 1) := h1
    omega
  obtain ⟨U, st, hrun, hend, hWm, hsame, ce, hce, hoc⟩ := X0.ctorThrowS F.1 (Launch.traces_off hfl X0.admits) F.2.2.2.1 hX hN (hat hts) (fun x hx => by cases hx) hfc hkC (a := H.size) (by rw [hT]; exact e1) hnew (msg := .ref sa) rfl (g := F0 m (pc + 6) la [.ref sa, .ref H.size, .ref H.size]) rfl (hL.1.trans F.2.2.1.symm) rfl rfl (rest := []) rfl (by rw [F.2.1]; exact d4) (by rw [F.2.1]; exact d5) (fun x hx => by
      rw [Array.isEmpty_iff] at hnoh
      rw [hnoh] at hx
      cases hx) hRf (by show 2 * 0 + _ + _ ≤ _; simp [Value.category]; omega) F.2.2.2.2.2.2.2.2
  have hsameq : ∀ q : Nat, q < s.heap.size → U.heap[q]? = s.heap[q]? := by
    intro q hq
    have hg : s.heap[q]? = some s.heap[q] := Array.getElem?_eq_getElem hq
    obtain ⟨c', g1, g2, g3, g4⟩ := hsame.2.2.2.2.2 q _ hg
    have g1' : U.heap[q]? = some c' := g1
    rw [g1', hg]
    congr 1
    have hsl : c'.slots = (s.heap[q]).slots := by
      apply Array.ext_getElem?
      intro i
      exact g4 i (by simp)
    rw [g2, hsl]
  have hUs : s.heap.size ≤ U.heap.size := hsame.2.1
  refine ⟨U, st, H.size, ce, X, σ, hrun, hend, hWm, hsame, ?_, ?_, ⟨hUs, fun q hq _ => hsameq q hq⟩, hce, hoc.vm, hoc.cls, hTp⟩
  · exact Nat.le_trans F.2.2.2.2.2.2.2.1 hnew
  · refine ⟨fun a ha => ?_, ⟨fun h => absurd h (by decide), hW.2.2⟩⟩
    have h1 := hW.1 a ha
    have h2 := h1.lt
    refine h1.kept ?_ (fun j => ⟨rfl, rfl, rfl⟩)
    rw [hsameq _ (by omega), hS.2.1 _ (by omega) (fun h => h)]
end ZT
/-- y's contract where it throws -/
def zMT (l : Launch) (y : MethodName) (yc : ByteArray) (yl : Nat) (yr : Option FieldType) (d : Nat) (D : va_G) (cA : Nat → ClassId) (base n : Nat) (av : List Value) (σ : zS) (Tp : String → zS → Prop) : Prop :=
  MetFree l y (headSpec (Cond.code y yc yl yr :: zWD) (zrm d 1 6)) (fun v U => zPc D cA base n false av σ v U ∧ zTh base U) (fun _ _ _ _ _ => True)
    (fun _ st o t => ∃ (x : Nat) (ce : Cell) (X : String) (σ' : zS), o = .threw x ∧ st.WarmedH t.vm ∧ st.sameButNew ({ t with vm := st.vm } : State) [] 1 6 ∧ base ≤ x ∧ zW D cA base n false σ' t.heap ∧ va_F (fun _ => False) st t ∧ t.heap[x]? = some ce ∧ ce.vm = .none ∧ st.vm.findClass X = some ce.cls ∧ Tp X σ')
theorem zMetT {l : Launch} {y : MethodName} {yc : ByteArray} {yl : Nat} {yr : Option FieldType} {d : Nat} {D : va_G} {cA : Nat → ClassId} {base n : Nat} {av : List Value} {σ : zS} {Tp : String → zS → Prop} {ls : List (Option Value)} (hy : plainName y.cls = true) (hls : zar av ++ List.replicate (yl - (zar av).length) none = ls) (hlen : (zar av).length ≤ yl)
    (body : ∀ (p : Program) (e : Env) (s : State) (m : MethodId) (args : Array Value) (below : List Frame) (meth : Method) (c : Code), c.exceptionTable.isEmpty = true → zTh base s → zG p l e (zrm d 1 6) s m args below meth c (zTQ below s D cA base n 1 6 Tp) s.heap (fun _ => False) base D cA yl false yc y.cls n 0 0 0 ls [] σ) :
    zMT l y yc yl yr d D cA base n av σ Tp := by
  refine MetFree.of_bodyS (code := yc) (maxLocals := yl) (ret := yr) hy ?_ ?_
  · intro args s m h hn
    obtain ⟨meth, c, h1, h2, h3, h4, h5, h6, -, -⟩ := Cond.code_spec hn (atoms_spec (ws := Cond.code y yc yl yr :: zWD) h _ List.mem_cons_self)
    exact ⟨meth, c, h1, h2, h3, h4, h5, h6⟩
  · intro p e s m args below meth c s₁ B hml hP _
    obtain ⟨⟨rfl, hKK, hW, hb0⟩, hTh⟩ := hP
    have hts0 : ∀ w ∈ (Cond.code y yc yl yr :: zWD), w.before (av.map (ztr base)).toArray s = true := atoms_spec (ws := Cond.code y yc yl yr :: zWD) B.pre
    have hown : s.vm.findClass y.cls = some m.cls := findClass_of_methodNamed B.named
    have hl := lv_entry (av.map (ztr base)) (n := yl) (by rw [zar_len]; exact hlen)
    have hh0 : s₁.heap = s.heap := by rw [B.state]; rfl
    have key := body p e s m _ below meth c (B.noHandlers (hts0 _ List.mem_cons_self)) hTh ⟨B.exec, B.bytes, hml, hown, fun w hw => hts0 w (List.mem_cons_of_mem _ hw), hKK.1, hKK.2, hb0, B.notSynchronized⟩ s.heap [] hW va_S.rf (la := ((lg_sl (av.map (ztr base)) ++ List.replicate (yl - (lg_sl (av.map (ztr base))).length) Slot.unset).toArray)) ⟨hl.1, hl.2.1, fun i v hi => by
      refine hl.2.2 (i, ztr base v) ?_
      rw [← hls] at hi
      by_cases hlt : i < (zar av).length
      · rw [List.getElem?_append_left hlt] at hi
        have := zar_mem base av 0 i v hi
        rwa [Nat.zero_add] at this
      · rw [List.getElem?_append_right (by omega)] at hi
        have := List.eq_of_mem_replicate (List.mem_of_getElem? hi)
        cases this⟩
    rw [show List.map (ztr base) ([] : List Value) = [] from rfl, ← lg_entry_eq] at key
    obtain ⟨t, a1, x, ce, X, σ', b1, b2, b3⟩ := key s₁ hh0 (Stand.of_body B)
    exact ⟨t, .threw x, a1, b1, b2, x, ce, X, σ', rfl, b3⟩
section ZT2
variable {p : Program} {l : Launch} {e : Env} {R : Room} {s : State} {m : MethodId} {args : Array Value} {below : List Frame} {meth : Method} {c : Code} {T : State} {locs : List Loc} {cells slots : Nat}
theorem zrunT (X : Stand p l e R s m args below meth c T locs cells slots) {y : MethodName} {yc : ByteArray} {yl : Nat} {yr : Option FieldType} {d : Nat} {D : va_G} {cA : Nat → ClassId} {base n : Nat} {av : List Value} {σ : zS} {Tp : String → zS → Prop} (hM : zMT l y yc yl yr d D cA base n av σ Tp)
    {g : JFrame} {ig : Instr} {len : Nat} {mk : MethodId} (hg : g.method = m) (hsize : g.locals.size = c.maxLocals) (hdg : decode c.code g.pc = .ok (ig, len)) (hW8 : 2 * g.monitorRoom + (g.stack.map fun v => v.category).sum ≤ 8) (hn : T.methodNamed? y = some mk)
    (hpre : ∀ w ∈ Cond.code y yc yl yr :: zWD, w.before (av.map (ztr base)).toArray T = true) (hini : (Cond.initialized y.cls).before (av.map (ztr base)).toArray T = true) (hfr : d + 1 ≤ R.frames) (hlo : 8 + (yl + 11) + 40 * d ≤ R.locals) (hc1 : cells + 1 ≤ R.cells) (hs6 : slots + 6 ≤ R.slots)
    (hP : zPc D cA base n false av σ (av.map (ztr base)).toArray T ∧ zTh base T) :
    ∃ (x : Nat) (ce : Cell) (Xn : String) (σ' : zS) (T' : State), Stand p l e R s m args below meth c T' locs (cells + 1) (slots + 6) ∧ T.WarmedH T'.vm ∧ base ≤ x ∧ zW D cA base n false σ' T'.heap ∧ (∀ q : Nat, q < T.heap.size → T'.heap[q]? = T.heap[q]?) ∧ T.heap.size ≤ T'.heap.size ∧ T'.heap[x]? = some ce ∧ ce.vm = .none ∧ T.vm.findClass Xn = some ce.cls ∧ Tp Xn σ' ∧
      Steps p.tables e below (doInvoke e (T.setTop g) [] mk (av.map (ztr base)).toArray).1 ((T'.setTop g).pushFrame (.throwing x)) := by
  obtain ⟨methY, cY, hmY, hcY, -, hlY, -, -, -, -⟩ := Cond.code_spec hn (hpre _ List.mem_cons_self)
  obtain ⟨kY, hkY, -⟩ := className_of_methodNamed hn
  have hinitY : kY.init = .initialized := Cond.initialized_spec (findClass_of_methodNamed hn) hkY hini
  have h : At T g.method c below := by rw [hg]; exact X.here
  have happ : (headSpec (Cond.code y yc yl yr :: zWD) (zrm d 1 6)).appliesLoose y e.platform (T.calling g mk (av.map (ztr base)).toArray) = true :=
    Spec.appliesLoose_calling (g := g) h hdg hn hkY hinitY (X.room_calling (g := g) (R' := zrm d 1 6) hsize hmY hcY hfr (by rw [hlY]; show _ + _ + 40 * d ≤ _; omega) hc1 hs6) (atoms_intro hpre)
  obtain ⟨mid, hmid⟩ := h.above
  have hfr2 : (T.setTop g).frames = (.java g :: mid) ++ below := by rw [State.frames_setTop' g h.top, hmid]; rfl
  obtain ⟨o, s₂, hsteps, -, hend, x, ce, Xn, σ', rfl, hWm, hsame, hbx, hW', hF', hce, hvm, hcls, hTp⟩ := Steps.callFree hM p X.admits X.cas X.clock (acts := []) hfr2 happ ⟨zPc_blind _ _ _ _ _ _ _ _ _ g mk hP.1, zTh.same (u := T) (U := T.calling g mk (av.map (ztr base)).toArray) rfl rfl hP.2⟩ trivial
  rw [State.frames_setTop' g h.top, X.tail] at hend
  obtain ⟨T', X', hW2, -, ht⟩ := X.outOfThrown hg hend hWm hsame
  have hheap : s₂.heap = T'.heap := by rw [ht]; exact Stand.throwing_heap T' g x
  refine ⟨x, ce, Xn, σ', T', by simpa using X', hW2, hbx, by rw [← hheap]; exact hW', fun q hq => ?_, ?_, by rw [← hheap]; exact hce, hvm, hcls, hTp, by rw [← ht]; exact hsteps⟩
  · rw [← hheap]; exact hF'.2 q hq (fun h => h)
  · rw [← hheap]; exact hF'.1
/-- the search for a handler where the catch type may be unresolved yet -/
theorem zgo {Q : Handler → Pre} {E : CtlPost} {dd : Bool} {acts : List Action} {u : State} {f : JFrame} {a : Addr} {x : ExceptionTableEntry} {t : List ExceptionTableEntry} {k : ClassId} {cell : Cell} (hx : covers x f.pc = true) (h0 : x.catchType ≠ 0)
    (hl : u.vm.ClassLinks e.platform f.method.cls x.catchType k) (hcell : u.heap[a]? = some cell) (hob : cell.vm = .none) (hk : ∃ q, u.vm.classes[cell.cls]? = some q) (hc : ∃ q, u.vm.classes[k]? = some q) (b : Bool) (hfit : u.vm.assignable cell.cls k = b) :
    wp (findHandler.go f a (x :: t)) Q E e dd acts u ↔ (if b = true then Q (.found x.handlerPc) dd acts (u.setVm (u.vm.noted f.method.cls x.catchType (.cls k))) else wp (findHandler.go f a t) Q E e dd acts (u.setVm (u.vm.noted f.method.cls x.catchType (.cls k)))) := by
  simp only [covers] at hx
  obtain ⟨ha, ht⟩ := (resolveClass_links e.toSetting hl).op (op := VmOp.resolveClass f.method.cls x.catchType) rfl
  have hal : u.vm.Alike (u.vm.noted f.method.cls x.catchType (.cls k)) := (Vm.Alike.refl u.vm).noted _ _ _
  obtain ⟨q1, hq1⟩ := hk
  obtain ⟨q2, hq2⟩ := hc
  obtain ⟨q1', hq1', -⟩ := hal.2.2 _ _ hq1
  obtain ⟨q2', hq2', -⟩ := hal.2.2 _ _ hq2
  have hfit' : (u.vm.noted f.method.cls x.catchType (.cls k)).assignable cell.cls k = b := by rw [hal.assignable]; exact hfit
  have hob' : ∀ z, cell.vm ≠ .statics z := fun z h => by rw [hob] at h; cases h
  cases b <;> simp [findHandler.go, hx, h0, ha, ht, hcell, hob', hq1', hq2', hfit', VmOp.dirties, VmOp.acts]
def zFd (e : Env) (u : State) (f : JFrame) (a : Addr) (pc : Nat) (vm' : Vm) : Prop := ∀ (Q : Handler → Pre) (E : CtlPost) (d : Bool) (acts : List Action), wp (findHandler f a) Q E e d acts u ↔ Q (.found pc) d acts (u.setVm vm')
theorem zcatch (X : Stand p l e R s m args below meth c T locs cells slots) {g : JFrame} (hg : g.method = m) {a : Addr} {pc : Nat} {vm' : Vm} (hf : zFd e ((T.setTop g).pushFrame (.throwing a)) g a pc vm') {target : State}
    (hrest : Steps p.tables e below ((T.setVm vm').setTop { g with pc := pc, stack := [.ref a] }) target) : Steps p.tables e below ((T.setTop g).pushFrame (.throwing a)) target := by
  have h : At T g.method c below := by rw [hg]; exact X.here
  obtain ⟨hgo, hw⟩ := h.throwing a
  refine Steps.head hgo hw ?_
  have key : (stepThrowing e ((T.setTop g).pushFrame (.throwing a)) a (.java g :: T.frames.tail)).Is ((((T.setTop g).pushFrame (.throwing a)).setVm vm').setFrames (.java { g with pc := pc, stack := [.ref a] } :: T.frames.tail)) [] := by
    simp only [stepThrowing, searchFrame, vmDo]
    generalize hr : Sem.go _ e false [] _ = res
    obtain ⟨as, rfl, ha⟩ := Sem.eq_ok_of hr (a := Handler.found pc) (s' := ((T.setTop g).pushFrame (.throwing a)).setVm vm') (acts' := []) (by simp [hf _ _ _ _])
    exact ⟨rfl, ha⟩
  rw [stepThread_throwing (frames_entered h.top _), key.1]
  obtain ⟨g₀, hg0⟩ := Option.isSome_iff_exists.mp h.top
  obtain ⟨r, hr⟩ := State.topJava?_eq_some.mp hg0
  have e1 : ∀ F G : List Frame, ((T.setFrames F).setVm vm').setFrames G = (T.setVm vm').setFrames G := fun F G => by
    rw [show (T.setFrames F).setVm vm' = (T.setVm vm').setFrames F from rfl, State.setFrames_setFrames]
  have hr' : (T.setVm vm').frames = .java g₀ :: r := hr
  rw [State.setTop_of_frames _ hr'] at hrest
  rw [State.setTop_of_frames _ hr, State.pushFrame, State.setFrames_setFrames, e1, hr, List.tail_cons]
  exact hrest
end ZT2
section ZT3
variable {p : Program} {l : Launch} {e : Env} {R : Room} {s : State} {m : MethodId} {args : Array Value} {below : List Frame} {meth : Method} {c : Code} {Q : State → Prop} {base : Nat} {D : va_G} {cA : Nat → ClassId} {nL : Nat} {cc : ByteArray} {own : String} {n cu su pc : Nat} {ls : List (Option Value)} {st r : List Value} {σ : zS}
theorem zw_callT0 {ci idx b d yl : Nat} {y : MethodName} {yc : ByteArray} {yr : Option FieldType} {Tp : String → zS → Prop} {As : List Value} (hd : decode cc pc = .ok (.invokevirtual idx, 3)) (hM : zMT l y yc yl yr d D cA base n (.ref b :: As) σ Tp) (h1 : Cond.methodLink own idx y ∈ zWD) (h2 : Cond.instanceMethod y ∈ zWD) (h3 : Cond.selects (zCn ci) y y ∈ zWD) (h4 : Cond.initialized (zCn ci) ∈ zWD) (h5 : Cond.code y yc yl yr ∈ zWD) (hci : ci < 8) (hb : b < n) (hkb : (zkd b).1 = ci)
    (hy : y.cls = zCn ci ∧ y.cls ≠ "java/lang/invoke/MethodHandle" ∧ y.cls ≠ "java/lang/invoke/VarHandle" ∧ (parseMethodDescriptor y.desc).map (fun d => d.parameters.length) = some As.length) (hR1 : d + 1 ≤ R.frames) (hR2 : 8 + (yl + 11) + 40 * d ≤ R.locals) (hf : cu + 1 ≤ R.cells ∧ su + 6 ≤ R.slots) (hst : (r.map fun v => v.category).sum ≤ 8) (hs : st = As.reverse ++ .ref b :: r) (hTh : zTh base s)
    (kk : ∀ (X : String) (σ' : zS) (x : Nat) (ce : Cell) (T' : State) (locs : List Loc) (la : Array Slot), zF p s m args meth c s.heap base D cA nL cc own → Tp X σ' → Stand p l e R s m args below meth c T' locs (cu + 1) (su + 6) → zW D cA base n false σ' T'.heap → va_S (zA base) s.heap T'.heap locs → zLs base nL ls la → base ≤ x → T'.heap[x]? = some ce → ce.vm = .none → s.vm.findClass X = some ce.cls → ∃ t, Steps p.tables e below ((T'.setTop (F0 m pc la (r.map (ztr base)))).pushFrame (.throwing x)) t ∧ Q t) :
    zG p l e R s m args below meth c Q s.heap (zA base) base D cA nL false cc own n cu su pc ls st σ := by
  subst hs
  intro F H locs la hW hS hL T hT X
  have hts := F.2.2.2.2.1
  have hx := hW.1 b hb
  unfold zAt at hx
  rw [hkb, if_pos (by omega)] at hx
  obtain ⟨cellB, q1, q2, q3, -⟩ := hx
  have hcls : s.vm.findClass (zCn ci) = some cellB.cls := by rw [q2]; exact (F.2.2.2.2.2.2.1.1 ci _ (zcl_at ci hci)).2.1
  obtain ⟨mk, methM, hnamed, hmethM, hstM, habM⟩ := Cond.instanceMethod_spec (hts _ h2)
  obtain ⟨methM', cM, hmethM', -, -, -, -, -, -, hsigM⟩ := Cond.code_spec hnamed (hts _ h5)
  cases hmethM.symm.trans hmethM'
  obtain ⟨c2, r2, m2, g1, g2, g3, g4, kP, hkP, hkPi⟩ := Cond.selects_spec (hts _ h3)
  cases hcls.symm.trans g1
  cases (State.methodFound?_of_named hnamed ⟨hy.2.1, hy.2.2.1⟩).symm.trans g2
  cases hnamed.symm.trans g3
  have hselP : selectMethod e.platform s.vm cellB.cls mk = .method mk := by rw [Launch.admits_selectMethod X.admits]; exact g4
  have hlen : ∀ sig, parseMethodDescriptor y.desc = some sig → (As.map (ztr base)).length = sig.parameters.length := by
    intro sig h
    have h2 := hy.2.2.2
    rw [h] at h2
    rw [List.length_map]
    exact (Option.some.inj h2).symm
  obtain ⟨vm₁, X₁, hstep₁⟩ := X.invokevirtual F.1 F.2.2.2.1 (hts _ h1) hnamed hmethM hstM hkP hkPi ⟨hy.2.1, hy.2.2.1⟩ (a := base + b) (cell := cellB) (by rw [hT]; exact q1)
    (fun z h => by rw [q3] at h; cases h) hselP hmethM habM hkP hkPi (g := F0 m pc la ((As.reverse ++ .ref b :: r).map (ztr base))) rfl (argsL := As.map (ztr base)) (rest := r.map (ztr base)) (hlen _ hsigM) (by simp [ztr]) (by rw [F.2.1]; exact hd)
  have hwU : ∀ w ∈ zWD, ∀ a' : Array Value, w.before a' (T.setVm vm₁) = true := fun w hw a' => word_at X₁.warmed (zgood w hw) (hts w hw)
  obtain ⟨x, ce, Xn, σ', T', X', hWm, hbx, hW', hk1, hk2, hce, hvm, hclx, hTp, hsteps⟩ := zrunT X₁ hM (g := { (F0 m pc la ((As.reverse ++ .ref b :: r).map (ztr base))) with stack := r.map (ztr base) }) (ig := .invokevirtual idx) (len := 3) (mk := mk) rfl (hL.1.trans F.2.2.1.symm) (by rw [F.2.1]; exact hd) (by rw [ztr_sum]; show 2 * 0 + _ ≤ 8; omega) (X₁.named hnamed)
    (fun w hw => by
      rcases List.mem_cons.mp hw with rfl | hw
      · exact hwU _ h5 _
      · exact hwU w hw _) (by rw [hy.1]; exact hwU _ h4 _) hR1 hR2 hf.1 hf.2
    ⟨zF_pre F hW hS _ (T.setVm vm₁) hT X₁.warmed, hTh.to X₁.warmed (fun q hq => by
      show T.heap[q]? = _
      rw [hT]
      exact hS.2.1 q (Nat.lt_of_lt_of_le hq F.2.2.2.2.2.2.2.1) (fun h => by have := h.1; omega))⟩
  obtain ⟨t, a1, b1⟩ := kk Xn σ' x ce T' locs la F hTp X' hW' ⟨Nat.le_trans hS.1 (by rw [← hT]; exact hk2), fun q h1 h2 => by
      rw [hk1 q (by show q < T.heap.size; rw [hT]; exact Nat.lt_of_lt_of_le h1 hS.1)]
      show T.heap[q]? = _
      rw [hT]; exact hS.2.1 q h1 h2, hS.2.2⟩ hL hbx hce hvm (by
      have h9 : (T.setVm vm₁).vm.findClass Xn = some ce.cls := hclx
      rw [← h9]
      exact (X₁.warmed.alike.findClass _ _).symm)
  exact ⟨t, hstep₁ _ fun acts => by rw [doInvoke_state]; exact hsteps.trans a1, b1⟩
/-- the exception is caught by the first entry, which names its own class -/
theorem zcaught {X : String} {σ' : zS} {x : Nat} {ce : Cell} {T' : State} {locs : List Loc} {la : Array Slot} {en : ExceptionTableEntry} {et : List ExceptionTableEntry} (F : zF p s m args meth c s.heap base D cA nL cc own) (X' : Stand p l e R s m args below meth c T' locs cu su) (hW : zW D cA base n false σ' T'.heap) (hS : va_S (zA base) s.heap T'.heap locs) (hL : zLs base nL ls la) (hbx : base ≤ x) (hce : T'.heap[x]? = some ce) (hvm : ce.vm = .none) (hcl : s.vm.findClass X = some ce.cls)
    (hex : c.exceptionTable.toList = en :: et) (hcov : covers en pc = true) (h0 : en.catchType ≠ 0) (hlk : Cond.classLink own en.catchType X ∈ zWD) (hcast : va_Nw (.castable X X) s)
    (kk : ∀ z : Nat, zG p l e R s m args below meth c Q s.heap (zA base) base D cA nL false cc own n cu su en.handlerPc ls [.ref z] σ') : ∃ t, Steps p.tables e below ((T'.setTop (F0 m pc la (r.map (ztr base)))).pushFrame (.throwing x)) t ∧ Q t := by
  have hts := F.2.2.2.2.1
  have hpl : e.platform.magicAccessors = ({} : Platform).magicAccessors := by rw [X'.admits.platform]
  obtain ⟨k, hk, hlinks⟩ := Cond.classLink_spec F.2.2.2.1 (hts _ hlk) e.platform hpl
  cases hcl.symm.trans hk
  obtain ⟨c3, c4, hc3, hc4, hasg⟩ := Cond.castable_spec (va_Nw.use (A := args) rfl hcast)
  cases hcl.symm.trans hc3
  cases hcl.symm.trans hc4
  obtain ⟨-, hwarm, -⟩ := State.classEntry (e := e) X'.warmed hlinks
  have hlinks' := X'.warmed.classLinks hlinks
  obtain ⟨kC, hkC⟩ := Vm.classAt_of_findClass hcl
  obtain ⟨kC', hkC', -⟩ := X'.warmed.alike.2.2 _ _ hkC
  obtain ⟨t, a1, b1⟩ := kk (x - base) F T'.heap locs la hW hS hL (T'.setVm (T'.vm.noted m.cls en.catchType (.cls ce.cls))) rfl (X'.noted hwarm)
  refine ⟨t, zcatch X' (pc := en.handlerPc) (vm' := T'.vm.noted m.cls en.catchType (.cls ce.cls)) rfl ?_ ?_, b1⟩
  · intro Q1 E1 d1 acts1
    have hv : ((T'.setTop (F0 m pc la (r.map (ztr base)))).pushFrame (.throwing x)).vm = T'.vm := Stand.throwing_vm _ _ _
    have hh : ((T'.setTop (F0 m pc la (r.map (ztr base)))).pushFrame (.throwing x)).heap = T'.heap := Stand.throwing_heap _ _ _
    rw [Jvm.W.findHandler_eq (by rw [hv]; exact X'.method') X'.code, hex, zgo (k := ce.cls) (cell := ce) hcov h0 (by rw [hv]; exact hlinks') (by rw [hh]; exact hce) hvm ⟨kC', by rw [hv]; exact hkC'⟩ ⟨kC', by rw [hv]; exact hkC'⟩ true (by rw [hv, X'.warmed.alike.assignable]; exact hasg), if_pos rfl, hv]
  · have es : ([Value.ref (x - base)] : List Value).map (ztr base) = [.ref x] := by
      show [Value.ref (base + (x - base))] = _
      rw [Nat.add_sub_cancel' hbx]
    rw [es] at a1
    exact a1
/-- the exception passes the first entry and is caught by the second, which names its own class -/
theorem zcaught2 {X Y : String} {σ' : zS} {x : Nat} {ce : Cell} {T' : State} {locs : List Loc} {la : Array Slot} {en en2 : ExceptionTableEntry} {et : List ExceptionTableEntry} (F : zF p s m args meth c s.heap base D cA nL cc own) (X' : Stand p l e R s m args below meth c T' locs cu su) (hW : zW D cA base n false σ' T'.heap) (hS : va_S (zA base) s.heap T'.heap locs) (hL : zLs base nL ls la) (hbx : base ≤ x) (hce : T'.heap[x]? = some ce) (hvm : ce.vm = .none) (hcl : s.vm.findClass X = some ce.cls)
    (hex : c.exceptionTable.toList = en :: en2 :: et) (hcov : covers en pc = true) (h0 : en.catchType ≠ 0) (hlk : Cond.classLink own en.catchType Y ∈ zWD) (hno : va_Nc X Y s) (hcov2 : covers en2 pc = true) (h02 : en2.catchType ≠ 0) (hlk2 : Cond.classLink own en2.catchType X ∈ zWD) (hcast : va_Nw (.castable X X) s)
    (kk : ∀ z : Nat, zG p l e R s m args below meth c Q s.heap (zA base) base D cA nL false cc own n cu su en2.handlerPc ls [.ref z] σ') : ∃ t, Steps p.tables e below ((T'.setTop (F0 m pc la (r.map (ztr base)))).pushFrame (.throwing x)) t ∧ Q t := by
  have hts := F.2.2.2.2.1
  have hpl : e.platform.magicAccessors = ({} : Platform).magicAccessors := by rw [X'.admits.platform]
  obtain ⟨k1, hk1, hlinks1⟩ := Cond.classLink_spec F.2.2.2.1 (hts _ hlk) e.platform hpl
  obtain ⟨k, hk, hlinks⟩ := Cond.classLink_spec F.2.2.2.1 (hts _ hlk2) e.platform hpl
  cases hcl.symm.trans hk
  obtain ⟨c3, c4, hc3, hc4, hasg⟩ := Cond.castable_spec (va_Nw.use (A := args) rfl hcast)
  cases hcl.symm.trans hc3
  cases hcl.symm.trans hc4
  obtain ⟨c5, c6, hc5, hc6, hnas⟩ := hno
  cases hcl.symm.trans hc5
  cases hk1.symm.trans hc6
  obtain ⟨-, hwarm1, -⟩ := State.classEntry (e := e) X'.warmed hlinks1
  have hlinks1' := X'.warmed.classLinks hlinks1
  have X1 := X'.noted hwarm1
  obtain ⟨-, hwarm, -⟩ := State.classEntry (e := e) X1.warmed hlinks
  have hlinks' := X1.warmed.classLinks hlinks
  obtain ⟨kC, hkC⟩ := Vm.classAt_of_findClass hcl
  obtain ⟨kC', hkC', -⟩ := X'.warmed.alike.2.2 _ _ hkC
  obtain ⟨kD, hkD⟩ := Vm.classAt_of_findClass hk1
  obtain ⟨kD', hkD', -⟩ := X'.warmed.alike.2.2 _ _ hkD
  obtain ⟨kE', hkE', -⟩ := X1.warmed.alike.2.2 _ _ hkC
  obtain ⟨t, a1, b1⟩ := kk (x - base) F T'.heap locs la hW hS hL (T'.setVm ((T'.vm.noted m.cls en.catchType (.cls k1)).noted m.cls en2.catchType (.cls ce.cls))) rfl (X'.noted hwarm)
  refine ⟨t, zcatch X' (pc := en2.handlerPc) (vm' := (T'.vm.noted m.cls en.catchType (.cls k1)).noted m.cls en2.catchType (.cls ce.cls)) rfl ?_ ?_, b1⟩
  · intro Q1 E1 d1 acts1
    have hv : ((T'.setTop (F0 m pc la (r.map (ztr base)))).pushFrame (.throwing x)).vm = T'.vm := Stand.throwing_vm _ _ _
    have hh : ((T'.setTop (F0 m pc la (r.map (ztr base)))).pushFrame (.throwing x)).heap = T'.heap := Stand.throwing_heap _ _ _
    rw [Jvm.W.findHandler_eq (by rw [hv]; exact X'.method') X'.code, hex]
    refine (zgo (k := k1) (cell := ce) hcov h0 (by rw [hv]; exact hlinks1') (by rw [hh]; exact hce) hvm ⟨kC', by rw [hv]; exact hkC'⟩ ⟨kD', by rw [hv]; exact hkD'⟩ false (by rw [hv, X'.warmed.alike.assignable]; exact hnas)).trans ?_
    rw [if_neg (by decide), hv]
    refine (zgo (e := e) (f := F0 m pc la (r.map (ztr base))) (u := ((T'.setTop (F0 m pc la (r.map (ztr base)))).pushFrame (.throwing x)).setVm (T'.vm.noted m.cls en.catchType (.cls k1))) (k := ce.cls) (cell := ce) hcov2 h02 hlinks' (by
      show ((T'.setTop (F0 m pc la (r.map (ztr base)))).pushFrame (.throwing x)).heap[x]? = _
      rw [hh]; exact hce) hvm ⟨kE', hkE'⟩ ⟨kE', hkE'⟩ true (by
      show (T'.setVm (T'.vm.noted m.cls en.catchType (.cls k1))).vm.assignable _ _ = _
      rw [X1.warmed.alike.assignable]; exact hasg)).trans ?_
    rw [if_pos rfl]
    rfl
  · have es : ([Value.ref (x - base)] : List Value).map (ztr base) = [.ref x] := by
      show [Value.ref (base + (x - base))] = _
      rw [Nat.add_sub_cancel' hbx]
    rw [es] at a1
    exact a1
end ZT3
